theorem dX0_init_0 : decode cX0_init 0 = .ok (.aload_n 0, 1) := by decide +kernel
theorem dX0_init_1 : decode cX0_init 1 = .ok (.invokespecial 3, 3) := by decide +kernel
theorem dX0_init_4 : decode cX0_init 4 = .ok (.aload_n 0, 1) := by decide +kernel
theorem dX0_init_5 : decode cX0_init 5 = .ok (.bipush 80, 2) := by decide +kernel
theorem dX0_init_7 : decode cX0_init 7 = .ok (.newarray .int, 2) := by decide +kernel
theorem dX0_init_9 : decode cX0_init 9 = .ok (.putfield 9, 3) := by decide +kernel
theorem dX0_init_12 : decode cX0_init 12 = .ok (.aload_n 0, 1) := by decide +kernel
theorem dX0_init_13 : decode cX0_init 13 = .ok (.bipush 80, 2) := by decide +kernel
theorem dX0_init_15 : decode cX0_init 15 = .ok (.newarray .int, 2) := by decide +kernel
theorem dX0_init_17 : decode cX0_init 17 = .ok (.putfield 15, 3) := by decide +kernel
theorem dX0_init_20 : decode cX0_init 20 = .ok (.aload_n 0, 1) := by decide +kernel
theorem dX0_init_21 : decode cX0_init 21 = .ok (.bipush 80, 2) := by decide +kernel
theorem dX0_init_23 : decode cX0_init 23 = .ok (.newarray .int, 2) := by decide +kernel
theorem dX0_init_25 : decode cX0_init 25 = .ok (.putfield 18, 3) := by decide +kernel
theorem dX0_init_28 : decode cX0_init 28 = .ok (.aload_n 0, 1) := by decide +kernel
theorem dX0_init_29 : decode cX0_init 29 = .ok (.bipush 80, 2) := by decide +kernel
theorem dX0_init_31 : decode cX0_init 31 = .ok (.newarray .int, 2) := by decide +kernel
theorem dX0_init_33 : decode cX0_init 33 = .ok (.putfield 21, 3) := by decide +kernel
theorem dX0_init_36 : decode cX0_init 36 = .ok (.aload_n 0, 1) := by decide +kernel
theorem dX0_init_37 : decode cX0_init 37 = .ok (.sipush 320, 3) := by decide +kernel
theorem dX0_init_40 : decode cX0_init 40 = .ok (.newarray .int, 2) := by decide +kernel
theorem dX0_init_42 : decode cX0_init 42 = .ok (.putfield 24, 3) := by decide +kernel
theorem dX0_init_45 : decode cX0_init 45 = .ok (.aload_n 0, 1) := by decide +kernel
theorem dX0_init_46 : decode cX0_init 46 = .ok (.bipush 80, 2) := by decide +kernel
theorem dX0_init_48 : decode cX0_init 48 = .ok (.newarray .int, 2) := by decide +kernel
theorem dX0_init_50 : decode cX0_init 50 = .ok (.putfield 27, 3) := by decide +kernel
theorem dX0_init_53 : decode cX0_init 53 = .ok (.aload_n 0, 1) := by decide +kernel
theorem dX0_init_54 : decode cX0_init 54 = .ok (.bipush 80, 2) := by decide +kernel
theorem dX0_init_56 : decode cX0_init 56 = .ok (.newarray .boolean, 2) := by decide +kernel
theorem dX0_init_58 : decode cX0_init 58 = .ok (.putfield 30, 3) := by decide +kernel
theorem dX0_init_61 : decode cX0_init 61 = .ok (.aload_n 0, 1) := by decide +kernel
theorem dX0_init_62 : decode cX0_init 62 = .ok (.bipush 80, 2) := by decide +kernel
theorem dX0_init_64 : decode cX0_init 64 = .ok (.newarray .boolean, 2) := by decide +kernel
theorem dX0_init_66 : decode cX0_init 66 = .ok (.putfield 34, 3) := by decide +kernel
theorem dX0_init_69 : decode cX0_init 69 = .ok (.aload_n 0, 1) := by decide +kernel
theorem dX0_init_70 : decode cX0_init 70 = .ok (.new 37, 3) := by decide +kernel
theorem dX0_init_73 : decode cX0_init 73 = .ok (.dup, 1) := by decide +kernel
theorem dX0_init_74 : decode cX0_init 74 = .ok (.invokespecial 39, 3) := by decide +kernel
theorem dX0_init_77 : decode cX0_init 77 = .ok (.putfield 40, 3) := by decide +kernel
theorem dX0_init_80 : decode cX0_init 80 = .ok (.aload_n 0, 1) := by decide +kernel
theorem dX0_init_81 : decode cX0_init 81 = .ok (.new 37, 3) := by decide +kernel
theorem dX0_init_84 : decode cX0_init 84 = .ok (.dup, 1) := by decide +kernel
theorem dX0_init_85 : decode cX0_init 85 = .ok (.invokespecial 39, 3) := by decide +kernel
theorem dX0_init_88 : decode cX0_init 88 = .ok (.putfield 44, 3) := by decide +kernel
theorem dX0_init_91 : decode cX0_init 91 = .ok (.aload_n 0, 1) := by decide +kernel
theorem dX0_init_92 : decode cX0_init 92 = .ok (.iconst 0, 1) := by decide +kernel
theorem dX0_init_93 : decode cX0_init 93 = .ok (.putfield 47, 3) := by decide +kernel
theorem dX0_init_96 : decode cX0_init 96 = .ok (.return_, 1) := by decide +kernel
theorem dX0_isFull_0 : decode cX0_isFull 0 = .ok (.aload_n 0, 1) := by decide +kernel
theorem dX0_isFull_1 : decode cX0_isFull 1 = .ok (.getfield 47, 3) := by decide +kernel
theorem dX0_isFull_4 : decode cX0_isFull 4 = .ok (.bipush 80, 2) := by decide +kernel
theorem dX0_isFull_6 : decode cX0_isFull 6 = .ok (.if_icmp .lt 7, 3) := by decide +kernel
theorem dX0_isFull_9 : decode cX0_isFull 9 = .ok (.iconst 1, 1) := by decide +kernel
theorem dX0_isFull_10 : decode cX0_isFull 10 = .ok (.goto 4, 3) := by decide +kernel
theorem dX0_isFull_13 : decode cX0_isFull 13 = .ok (.iconst 0, 1) := by decide +kernel
theorem dX0_isFull_14 : decode cX0_isFull 14 = .ok (.ireturn, 1) := by decide +kernel
set_option maxRecDepth 20000 in
theorem ggX0_append_X3_markWith : GoodIn wsX0_append wsX3_markWith := goodIn_r _ [16, 17, 18, 19, 20, 21, 15, 22, 23, 44, 45, 46] (by decide +kernel) (by decide +kernel)
set_option maxRecDepth 20000 in
theorem gX0_append_X3_markWith : GoodIn wsX0_append (wsV RX0 51 RX3 yX3_markWith wsX3_markWith) := goodIn_app (goodIn_of _ (by decide +kernel)) ggX0_append_X3_markWith
set_option maxRecDepth 20000 in
theorem ggX0_append_X4_fill : GoodIn wsX0_append wsX4_fill := goodIn_r _ [28, 29, 30, 31, 32, 47, 48, 44, 45, 46] (by decide +kernel) (by decide +kernel)
set_option maxRecDepth 20000 in
theorem gX0_append_X4_fill : GoodIn wsX0_append (wsV RX0 59 RX4 yX4_fill wsX4_fill) := goodIn_app (goodIn_of _ (by decide +kernel)) ggX0_append_X4_fill
theorem dX0_append_0 : decode cX0_append 0 = .ok (.aload_n 0, 1) := by decide +kernel
theorem dX0_append_1 : decode cX0_append 1 = .ok (.getfield 47, 3) := by decide +kernel
theorem dX0_append_4 : decode cX0_append 4 = .ok (.istore 4, 2) := by decide +kernel
theorem dX0_append_6 : decode cX0_append 6 = .ok (.aload_n 0, 1) := by decide +kernel
theorem dX0_append_7 : decode cX0_append 7 = .ok (.getfield 9, 3) := by decide +kernel
theorem dX0_append_10 : decode cX0_append 10 = .ok (.iload 4, 2) := by decide +kernel
theorem dX0_append_12 : decode cX0_append 12 = .ok (.iload_n 3, 1) := by decide +kernel
theorem dX0_append_13 : decode cX0_append 13 = .ok (.iastore, 1) := by decide +kernel
theorem dX0_append_14 : decode cX0_append 14 = .ok (.aload_n 0, 1) := by decide +kernel
theorem dX0_append_15 : decode cX0_append 15 = .ok (.getfield 15, 3) := by decide +kernel
theorem dX0_append_18 : decode cX0_append 18 = .ok (.iload 4, 2) := by decide +kernel
theorem dX0_append_20 : decode cX0_append 20 = .ok (.iload_n 2, 1) := by decide +kernel
theorem dX0_append_21 : decode cX0_append 21 = .ok (.iastore, 1) := by decide +kernel
theorem dX0_append_22 : decode cX0_append 22 = .ok (.aload_n 0, 1) := by decide +kernel
theorem dX0_append_23 : decode cX0_append 23 = .ok (.getfield 18, 3) := by decide +kernel
theorem dX0_append_26 : decode cX0_append 26 = .ok (.iload 4, 2) := by decide +kernel
theorem dX0_append_28 : decode cX0_append 28 = .ok (.aload_n 1, 1) := by decide +kernel
theorem dX0_append_29 : decode cX0_append 29 = .ok (.iload_n 3, 1) := by decide +kernel
theorem dX0_append_30 : decode cX0_append 30 = .ok (.iload_n 2, 1) := by decide +kernel
theorem dX0_append_31 : decode cX0_append 31 = .ok (.invokevirtual 51, 3) := by decide +kernel
theorem dX0_append_34 : decode cX0_append 34 = .ok (.iastore, 1) := by decide +kernel
theorem dX0_append_35 : decode cX0_append 35 = .ok (.aload_n 0, 1) := by decide +kernel
theorem dX0_append_36 : decode cX0_append 36 = .ok (.getfield 21, 3) := by decide +kernel
theorem dX0_append_39 : decode cX0_append 39 = .ok (.iload 4, 2) := by decide +kernel
theorem dX0_append_41 : decode cX0_append 41 = .ok (.aload_n 1, 1) := by decide +kernel
theorem dX0_append_42 : decode cX0_append 42 = .ok (.getfield 57, 3) := by decide +kernel
theorem dX0_append_45 : decode cX0_append 45 = .ok (.iastore, 1) := by decide +kernel
theorem dX0_append_46 : decode cX0_append 46 = .ok (.iconst 0, 1) := by decide +kernel
theorem dX0_append_47 : decode cX0_append 47 = .ok (.istore 5, 2) := by decide +kernel
theorem dX0_append_49 : decode cX0_append 49 = .ok (.iload 5, 2) := by decide +kernel
theorem dX0_append_51 : decode cX0_append 51 = .ok (.aload_n 1, 1) := by decide +kernel
theorem dX0_append_52 : decode cX0_append 52 = .ok (.getfield 57, 3) := by decide +kernel
theorem dX0_append_55 : decode cX0_append 55 = .ok (.if_icmp .ge 28, 3) := by decide +kernel
theorem dX0_append_58 : decode cX0_append 58 = .ok (.aload_n 0, 1) := by decide +kernel
theorem dX0_append_59 : decode cX0_append 59 = .ok (.getfield 24, 3) := by decide +kernel
theorem dX0_append_62 : decode cX0_append 62 = .ok (.iload 4, 2) := by decide +kernel
theorem dX0_append_64 : decode cX0_append 64 = .ok (.iconst 4, 1) := by decide +kernel
theorem dX0_append_65 : decode cX0_append 65 = .ok (.imul, 1) := by decide +kernel
theorem dX0_append_66 : decode cX0_append 66 = .ok (.iload 5, 2) := by decide +kernel
theorem dX0_append_68 : decode cX0_append 68 = .ok (.iadd, 1) := by decide +kernel
theorem dX0_append_69 : decode cX0_append 69 = .ok (.aload_n 1, 1) := by decide +kernel
theorem dX0_append_70 : decode cX0_append 70 = .ok (.getfield 58, 3) := by decide +kernel
theorem dX0_append_73 : decode cX0_append 73 = .ok (.iload 5, 2) := by decide +kernel
theorem dX0_append_75 : decode cX0_append 75 = .ok (.iaload, 1) := by decide +kernel
theorem dX0_append_76 : decode cX0_append 76 = .ok (.iastore, 1) := by decide +kernel
theorem dX0_append_77 : decode cX0_append 77 = .ok (.iinc 5 1, 3) := by decide +kernel
theorem dX0_append_80 : decode cX0_append 80 = .ok (.goto (-31), 3) := by decide +kernel
theorem dX0_append_83 : decode cX0_append 83 = .ok (.aload_n 0, 1) := by decide +kernel
theorem dX0_append_84 : decode cX0_append 84 = .ok (.getfield 27, 3) := by decide +kernel
theorem dX0_append_87 : decode cX0_append 87 = .ok (.iload 4, 2) := by decide +kernel
theorem dX0_append_89 : decode cX0_append 89 = .ok (.iconst (-1), 1) := by decide +kernel
theorem dX0_append_90 : decode cX0_append 90 = .ok (.iastore, 1) := by decide +kernel
theorem dX0_append_91 : decode cX0_append 91 = .ok (.aload_n 0, 1) := by decide +kernel
theorem dX0_append_92 : decode cX0_append 92 = .ok (.getfield 40, 3) := by decide +kernel
theorem dX0_append_95 : decode cX0_append 95 = .ok (.iload 4, 2) := by decide +kernel
theorem dX0_append_97 : decode cX0_append 97 = .ok (.aload_n 1, 1) := by decide +kernel
theorem dX0_append_98 : decode cX0_append 98 = .ok (.invokevirtual 59, 3) := by decide +kernel
theorem dX0_append_101 : decode cX0_append 101 = .ok (.aload_n 0, 1) := by decide +kernel
theorem dX0_append_102 : decode cX0_append 102 = .ok (.getfield 44, 3) := by decide +kernel
theorem dX0_append_105 : decode cX0_append 105 = .ok (.iload 4, 2) := by decide +kernel
theorem dX0_append_107 : decode cX0_append 107 = .ok (.aload_n 1, 1) := by decide +kernel
theorem dX0_append_108 : decode cX0_append 108 = .ok (.invokevirtual 59, 3) := by decide +kernel
theorem dX0_append_111 : decode cX0_append 111 = .ok (.aload_n 0, 1) := by decide +kernel
theorem dX0_append_112 : decode cX0_append 112 = .ok (.dup, 1) := by decide +kernel
theorem dX0_append_113 : decode cX0_append 113 = .ok (.getfield 47, 3) := by decide +kernel
theorem dX0_append_116 : decode cX0_append 116 = .ok (.iconst 1, 1) := by decide +kernel
theorem dX0_append_117 : decode cX0_append 117 = .ok (.iadd, 1) := by decide +kernel
theorem dX0_append_118 : decode cX0_append 118 = .ok (.putfield 47, 3) := by decide +kernel
theorem dX0_append_121 : decode cX0_append 121 = .ok (.iload 4, 2) := by decide +kernel
theorem dX0_append_123 : decode cX0_append 123 = .ok (.ireturn, 1) := by decide +kernel
set_option maxRecDepth 20000 in
theorem ggX0_isReversible_X0_isTrueOn : GoodIn wsX0_isReversible wsX0_isTrueOn := goodIn_r _ [8, 9, 10, 11, 12, 13, 14, 15, 16, 17, 18, 19, 20, 21, 22, 23, 24, 25, 26, 27, 28, 29, 30, 31, 32, 33] (by decide +kernel) (by decide +kernel)
set_option maxRecDepth 20000 in
theorem gX0_isReversible_X0_isTrueOn : GoodIn wsX0_isReversible (wsV RX0 63 RX0 yX0_isTrueOn wsX0_isTrueOn) := goodIn_app (goodIn_of _ (by decide +kernel)) ggX0_isReversible_X0_isTrueOn
theorem dX0_isReversible_0 : decode cX0_isReversible 0 = .ok (.aload_n 0, 1) := by decide +kernel
theorem dX0_isReversible_1 : decode cX0_isReversible 1 = .ok (.aload_n 0, 1) := by decide +kernel
theorem dX0_isReversible_2 : decode cX0_isReversible 2 = .ok (.getfield 44, 3) := by decide +kernel
theorem dX0_isReversible_5 : decode cX0_isReversible 5 = .ok (.iload_n 1, 1) := by decide +kernel
theorem dX0_isReversible_6 : decode cX0_isReversible 6 = .ok (.invokevirtual 63, 3) := by decide +kernel
theorem dX0_isReversible_9 : decode cX0_isReversible 9 = .ok (.ifCond .eq 25, 3) := by decide +kernel
theorem dX0_isReversible_12 : decode cX0_isReversible 12 = .ok (.aload_n 0, 1) := by decide +kernel
theorem dX0_isReversible_13 : decode cX0_isReversible 13 = .ok (.getfield 27, 3) := by decide +kernel
theorem dX0_isReversible_16 : decode cX0_isReversible 16 = .ok (.iload_n 1, 1) := by decide +kernel
theorem dX0_isReversible_17 : decode cX0_isReversible 17 = .ok (.iaload, 1) := by decide +kernel
theorem dX0_isReversible_18 : decode cX0_isReversible 18 = .ok (.ifCond .ge 16, 3) := by decide +kernel
theorem dX0_isReversible_21 : decode cX0_isReversible 21 = .ok (.aload_n 0, 1) := by decide +kernel
theorem dX0_isReversible_22 : decode cX0_isReversible 22 = .ok (.getfield 30, 3) := by decide +kernel
theorem dX0_isReversible_25 : decode cX0_isReversible 25 = .ok (.iload_n 1, 1) := by decide +kernel
theorem dX0_isReversible_26 : decode cX0_isReversible 26 = .ok (.baload, 1) := by decide +kernel
theorem dX0_isReversible_27 : decode cX0_isReversible 27 = .ok (.ifCond .ne 7, 3) := by decide +kernel
theorem dX0_isReversible_30 : decode cX0_isReversible 30 = .ok (.iconst 1, 1) := by decide +kernel
theorem dX0_isReversible_31 : decode cX0_isReversible 31 = .ok (.goto 4, 3) := by decide +kernel
theorem dX0_isReversible_34 : decode cX0_isReversible 34 = .ok (.iconst 0, 1) := by decide +kernel
theorem dX0_isReversible_35 : decode cX0_isReversible 35 = .ok (.ireturn, 1) := by decide +kernel
set_option maxRecDepth 20000 in
theorem ggX0_appendReversal_X3_clear : GoodIn wsX0_appendReversal wsX3_clear := goodIn_r _ [11, 12, 62, 63, 64] (by decide +kernel) (by decide +kernel)
set_option maxRecDepth 20000 in
theorem gX0_appendReversal_X3_clear : GoodIn wsX0_appendReversal (wsV RX0 67 RX3 yX3_clear wsX3_clear) := goodIn_app (goodIn_of _ (by decide +kernel)) ggX0_appendReversal_X3_clear
set_option maxRecDepth 20000 in
theorem ggX0_appendReversal_X4_amountOf : GoodIn wsX0_appendReversal wsX4_amountOf := goodIn_r _ [17, 18, 65, 66] (by decide +kernel) (by decide +kernel)
set_option maxRecDepth 20000 in
theorem gX0_appendReversal_X4_amountOf : GoodIn wsX0_appendReversal (wsV RX0 71 RX4 yX4_amountOf wsX4_amountOf) := goodIn_app (goodIn_of _ (by decide +kernel)) ggX0_appendReversal_X4_amountOf
set_option maxRecDepth 20000 in
theorem ggX0_appendReversal_X3_add : GoodIn wsX0_appendReversal wsX3_add := goodIn_r _ [22, 23, 12, 24, 62, 63, 64] (by decide +kernel) (by decide +kernel)
set_option maxRecDepth 20000 in
theorem gX0_appendReversal_X3_add : GoodIn wsX0_appendReversal (wsV RX0 74 RX3 yX3_add wsX3_add) := goodIn_app (goodIn_of _ (by decide +kernel)) ggX0_appendReversal_X3_add
set_option maxRecDepth 20000 in
theorem ggX0_appendReversal_X0_append : GoodIn wsX0_appendReversal wsX0_append := goodIn_r _ [29, 30, 31, 4, 32, 1, 33, 2, 34, 6, 3, 35, 36, 37, 38, 10, 39, 12, 23, 24, 40, 41, 42, 43, 44, 45, 46, 16, 47, 48, 49, 18, 50, 51, 52, 53, 54, 55, 56, 57, 58, 59, 60, 61, 62, 63, 64, 65, 66] (by decide +kernel) (by decide +kernel)
set_option maxRecDepth 20000 in
theorem gX0_appendReversal_X0_append : GoodIn wsX0_appendReversal (wsV RX0 77 RX0 yX0_append wsX0_append) := goodIn_app (goodIn_of _ (by decide +kernel)) ggX0_appendReversal_X0_append
theorem dX0_appendReversal_0 : decode cX0_appendReversal 0 = .ok (.aload_n 2, 1) := by decide +kernel
theorem dX0_appendReversal_1 : decode cX0_appendReversal 1 = .ok (.invokevirtual 67, 3) := by decide +kernel
theorem dX0_appendReversal_4 : decode cX0_appendReversal 4 = .ok (.pop, 1) := by decide +kernel
theorem dX0_appendReversal_5 : decode cX0_appendReversal 5 = .ok (.iconst 0, 1) := by decide +kernel
theorem dX0_appendReversal_6 : decode cX0_appendReversal 6 = .ok (.istore 4, 2) := by decide +kernel
theorem dX0_appendReversal_8 : decode cX0_appendReversal 8 = .ok (.iload 4, 2) := by decide +kernel
theorem dX0_appendReversal_10 : decode cX0_appendReversal 10 = .ok (.aload_n 0, 1) := by decide +kernel
theorem dX0_appendReversal_11 : decode cX0_appendReversal 11 = .ok (.getfield 21, 3) := by decide +kernel
theorem dX0_appendReversal_14 : decode cX0_appendReversal 14 = .ok (.iload_n 1, 1) := by decide +kernel
theorem dX0_appendReversal_15 : decode cX0_appendReversal 15 = .ok (.iaload, 1) := by decide +kernel
theorem dX0_appendReversal_16 : decode cX0_appendReversal 16 = .ok (.if_icmp .ge 36, 3) := by decide +kernel
theorem dX0_appendReversal_19 : decode cX0_appendReversal 19 = .ok (.aload_n 2, 1) := by decide +kernel
theorem dX0_appendReversal_20 : decode cX0_appendReversal 20 = .ok (.aload_n 0, 1) := by decide +kernel
theorem dX0_appendReversal_21 : decode cX0_appendReversal 21 = .ok (.getfield 24, 3) := by decide +kernel
theorem dX0_appendReversal_24 : decode cX0_appendReversal 24 = .ok (.iload_n 1, 1) := by decide +kernel
theorem dX0_appendReversal_25 : decode cX0_appendReversal 25 = .ok (.iconst 4, 1) := by decide +kernel
theorem dX0_appendReversal_26 : decode cX0_appendReversal 26 = .ok (.imul, 1) := by decide +kernel
theorem dX0_appendReversal_27 : decode cX0_appendReversal 27 = .ok (.iload 4, 2) := by decide +kernel
theorem dX0_appendReversal_29 : decode cX0_appendReversal 29 = .ok (.iadd, 1) := by decide +kernel
theorem dX0_appendReversal_30 : decode cX0_appendReversal 30 = .ok (.iaload, 1) := by decide +kernel
theorem dX0_appendReversal_31 : decode cX0_appendReversal 31 = .ok (.aload_n 0, 1) := by decide +kernel
theorem dX0_appendReversal_32 : decode cX0_appendReversal 32 = .ok (.getfield 40, 3) := by decide +kernel
theorem dX0_appendReversal_35 : decode cX0_appendReversal 35 = .ok (.iload_n 1, 1) := by decide +kernel
theorem dX0_appendReversal_36 : decode cX0_appendReversal 36 = .ok (.iload 4, 2) := by decide +kernel
theorem dX0_appendReversal_38 : decode cX0_appendReversal 38 = .ok (.invokevirtual 71, 3) := by decide +kernel
theorem dX0_appendReversal_41 : decode cX0_appendReversal 41 = .ok (.ineg, 1) := by decide +kernel
theorem dX0_appendReversal_42 : decode cX0_appendReversal 42 = .ok (.invokevirtual 74, 3) := by decide +kernel
theorem dX0_appendReversal_45 : decode cX0_appendReversal 45 = .ok (.pop, 1) := by decide +kernel
theorem dX0_appendReversal_46 : decode cX0_appendReversal 46 = .ok (.iinc 4 1, 3) := by decide +kernel
theorem dX0_appendReversal_49 : decode cX0_appendReversal 49 = .ok (.goto (-41), 3) := by decide +kernel
theorem dX0_appendReversal_52 : decode cX0_appendReversal 52 = .ok (.aload_n 0, 1) := by decide +kernel
theorem dX0_appendReversal_53 : decode cX0_appendReversal 53 = .ok (.aload_n 2, 1) := by decide +kernel
theorem dX0_appendReversal_54 : decode cX0_appendReversal 54 = .ok (.aload_n 0, 1) := by decide +kernel
theorem dX0_appendReversal_55 : decode cX0_appendReversal 55 = .ok (.getfield 15, 3) := by decide +kernel
theorem dX0_appendReversal_58 : decode cX0_appendReversal 58 = .ok (.iload_n 1, 1) := by decide +kernel
theorem dX0_appendReversal_59 : decode cX0_appendReversal 59 = .ok (.iaload, 1) := by decide +kernel
theorem dX0_appendReversal_60 : decode cX0_appendReversal 60 = .ok (.iload_n 3, 1) := by decide +kernel
theorem dX0_appendReversal_61 : decode cX0_appendReversal 61 = .ok (.invokevirtual 77, 3) := by decide +kernel
theorem dX0_appendReversal_64 : decode cX0_appendReversal 64 = .ok (.istore 4, 2) := by decide +kernel
theorem dX0_appendReversal_66 : decode cX0_appendReversal 66 = .ok (.aload_n 0, 1) := by decide +kernel
theorem dX0_appendReversal_67 : decode cX0_appendReversal 67 = .ok (.getfield 30, 3) := by decide +kernel
theorem dX0_appendReversal_70 : decode cX0_appendReversal 70 = .ok (.iload 4, 2) := by decide +kernel
theorem dX0_appendReversal_72 : decode cX0_appendReversal 72 = .ok (.iconst 1, 1) := by decide +kernel
theorem dX0_appendReversal_73 : decode cX0_appendReversal 73 = .ok (.bastore, 1) := by decide +kernel
theorem dX0_appendReversal_74 : decode cX0_appendReversal 74 = .ok (.aload_n 0, 1) := by decide +kernel
theorem dX0_appendReversal_75 : decode cX0_appendReversal 75 = .ok (.getfield 27, 3) := by decide +kernel
theorem dX0_appendReversal_78 : decode cX0_appendReversal 78 = .ok (.iload_n 1, 1) := by decide +kernel
theorem dX0_appendReversal_79 : decode cX0_appendReversal 79 = .ok (.iload 4, 2) := by decide +kernel
theorem dX0_appendReversal_81 : decode cX0_appendReversal 81 = .ok (.iastore, 1) := by decide +kernel
theorem dX0_appendReversal_82 : decode cX0_appendReversal 82 = .ok (.iload 4, 2) := by decide +kernel
theorem dX0_appendReversal_84 : decode cX0_appendReversal 84 = .ok (.ireturn, 1) := by decide +kernel
set_option maxRecDepth 20000 in
theorem ggX0_markStruck_X4_blank : GoodIn wsX0_markStruck wsX4_blank := goodIn_r _ [7, 8, 9, 21, 22] (by decide +kernel) (by decide +kernel)
set_option maxRecDepth 20000 in
theorem gX0_markStruck_X4_blank : GoodIn wsX0_markStruck (wsV RX0 81 RX4 yX4_blank wsX4_blank) := goodIn_app (goodIn_of _ (by decide +kernel)) ggX0_markStruck_X4_blank
theorem dX0_markStruck_0 : decode cX0_markStruck 0 = .ok (.aload_n 0, 1) := by decide +kernel
theorem dX0_markStruck_1 : decode cX0_markStruck 1 = .ok (.getfield 34, 3) := by decide +kernel
theorem dX0_markStruck_4 : decode cX0_markStruck 4 = .ok (.iload_n 1, 1) := by decide +kernel
theorem dX0_markStruck_5 : decode cX0_markStruck 5 = .ok (.iconst 1, 1) := by decide +kernel
theorem dX0_markStruck_6 : decode cX0_markStruck 6 = .ok (.bastore, 1) := by decide +kernel
theorem dX0_markStruck_7 : decode cX0_markStruck 7 = .ok (.aload_n 0, 1) := by decide +kernel
theorem dX0_markStruck_8 : decode cX0_markStruck 8 = .ok (.getfield 44, 3) := by decide +kernel
theorem dX0_markStruck_11 : decode cX0_markStruck 11 = .ok (.iload_n 1, 1) := by decide +kernel
theorem dX0_markStruck_12 : decode cX0_markStruck 12 = .ok (.invokevirtual 81, 3) := by decide +kernel
theorem dX0_markStruck_15 : decode cX0_markStruck 15 = .ok (.pop, 1) := by decide +kernel
theorem dX0_markStruck_16 : decode cX0_markStruck 16 = .ok (.return_, 1) := by decide +kernel
set_option maxRecDepth 20000 in
theorem ggX0_stateOf_X4_isFilled : GoodIn wsX0_stateOf wsX4_isFilled := goodIn_r _ [7, 8, 20, 21] (by decide +kernel) (by decide +kernel)
set_option maxRecDepth 20000 in
theorem gX0_stateOf_X4_isFilled : GoodIn wsX0_stateOf (wsV RX0 85 RX4 yX4_isFilled wsX4_isFilled) := goodIn_app (goodIn_of _ (by decide +kernel)) ggX0_stateOf_X4_isFilled
theorem dX0_stateOf_0 : decode cX0_stateOf 0 = .ok (.aload_n 0, 1) := by decide +kernel
theorem dX0_stateOf_1 : decode cX0_stateOf 1 = .ok (.getfield 34, 3) := by decide +kernel
theorem dX0_stateOf_4 : decode cX0_stateOf 4 = .ok (.iload_n 1, 1) := by decide +kernel
theorem dX0_stateOf_5 : decode cX0_stateOf 5 = .ok (.baload, 1) := by decide +kernel
theorem dX0_stateOf_6 : decode cX0_stateOf 6 = .ok (.ifCond .eq 5, 3) := by decide +kernel
theorem dX0_stateOf_9 : decode cX0_stateOf 9 = .ok (.iconst 2, 1) := by decide +kernel
theorem dX0_stateOf_10 : decode cX0_stateOf 10 = .ok (.ireturn, 1) := by decide +kernel
theorem dX0_stateOf_11 : decode cX0_stateOf 11 = .ok (.aload_n 0, 1) := by decide +kernel
theorem dX0_stateOf_12 : decode cX0_stateOf 12 = .ok (.getfield 44, 3) := by decide +kernel
theorem dX0_stateOf_15 : decode cX0_stateOf 15 = .ok (.iload_n 1, 1) := by decide +kernel
theorem dX0_stateOf_16 : decode cX0_stateOf 16 = .ok (.invokevirtual 85, 3) := by decide +kernel
theorem dX0_stateOf_19 : decode cX0_stateOf 19 = .ok (.ifCond .eq 7, 3) := by decide +kernel
theorem dX0_stateOf_22 : decode cX0_stateOf 22 = .ok (.iconst 0, 1) := by decide +kernel
theorem dX0_stateOf_23 : decode cX0_stateOf 23 = .ok (.goto 4, 3) := by decide +kernel
theorem dX0_stateOf_26 : decode cX0_stateOf 26 = .ok (.iconst 1, 1) := by decide +kernel
theorem dX0_stateOf_27 : decode cX0_stateOf 27 = .ok (.ireturn, 1) := by decide +kernel
set_option maxRecDepth 20000 in
theorem ggX0_isTrueOn_X4_isLike : GoodIn wsX0_isTrueOn wsX4_isLike := goodIn_r _ [6, 7, 8, 9, 10, 5, 11, 12, 24, 25] (by decide +kernel) (by decide +kernel)
set_option maxRecDepth 20000 in
theorem gX0_isTrueOn_X4_isLike : GoodIn wsX0_isTrueOn (wsV RX0 88 RX4 yX4_isLike wsX4_isLike) := goodIn_app (goodIn_of _ (by decide +kernel)) ggX0_isTrueOn_X4_isLike
theorem dX0_isTrueOn_0 : decode cX0_isTrueOn 0 = .ok (.aload_n 1, 1) := by decide +kernel
theorem dX0_isTrueOn_1 : decode cX0_isTrueOn 1 = .ok (.aload_n 0, 1) := by decide +kernel
theorem dX0_isTrueOn_2 : decode cX0_isTrueOn 2 = .ok (.getfield 40, 3) := by decide +kernel
theorem dX0_isTrueOn_5 : decode cX0_isTrueOn 5 = .ok (.iload_n 2, 1) := by decide +kernel
theorem dX0_isTrueOn_6 : decode cX0_isTrueOn 6 = .ok (.invokevirtual 88, 3) := by decide +kernel
theorem dX0_isTrueOn_9 : decode cX0_isTrueOn 9 = .ok (.ireturn, 1) := by decide +kernel
theorem dX0_hasLegFor_0 : decode cX0_hasLegFor 0 = .ok (.iconst 0, 1) := by decide +kernel
theorem dX0_hasLegFor_1 : decode cX0_hasLegFor 1 = .ok (.istore_n 3, 1) := by decide +kernel
theorem dX0_hasLegFor_2 : decode cX0_hasLegFor 2 = .ok (.iload_n 3, 1) := by decide +kernel
theorem dX0_hasLegFor_3 : decode cX0_hasLegFor 3 = .ok (.aload_n 0, 1) := by decide +kernel
theorem dX0_hasLegFor_4 : decode cX0_hasLegFor 4 = .ok (.getfield 21, 3) := by decide +kernel
theorem dX0_hasLegFor_7 : decode cX0_hasLegFor 7 = .ok (.iload_n 1, 1) := by decide +kernel
theorem dX0_hasLegFor_8 : decode cX0_hasLegFor 8 = .ok (.iaload, 1) := by decide +kernel
theorem dX0_hasLegFor_9 : decode cX0_hasLegFor 9 = .ok (.if_icmp .ge 25, 3) := by decide +kernel
theorem dX0_hasLegFor_12 : decode cX0_hasLegFor 12 = .ok (.aload_n 0, 1) := by decide +kernel
theorem dX0_hasLegFor_13 : decode cX0_hasLegFor 13 = .ok (.getfield 24, 3) := by decide +kernel
theorem dX0_hasLegFor_16 : decode cX0_hasLegFor 16 = .ok (.iload_n 1, 1) := by decide +kernel
theorem dX0_hasLegFor_17 : decode cX0_hasLegFor 17 = .ok (.iconst 4, 1) := by decide +kernel
theorem dX0_hasLegFor_18 : decode cX0_hasLegFor 18 = .ok (.imul, 1) := by decide +kernel
theorem dX0_hasLegFor_19 : decode cX0_hasLegFor 19 = .ok (.iload_n 3, 1) := by decide +kernel
theorem dX0_hasLegFor_20 : decode cX0_hasLegFor 20 = .ok (.iadd, 1) := by decide +kernel
theorem dX0_hasLegFor_21 : decode cX0_hasLegFor 21 = .ok (.iaload, 1) := by decide +kernel
theorem dX0_hasLegFor_22 : decode cX0_hasLegFor 22 = .ok (.iload_n 2, 1) := by decide +kernel
theorem dX0_hasLegFor_23 : decode cX0_hasLegFor 23 = .ok (.if_icmp .ne 5, 3) := by decide +kernel
theorem dX0_hasLegFor_26 : decode cX0_hasLegFor 26 = .ok (.iconst 1, 1) := by decide +kernel
theorem dX0_hasLegFor_27 : decode cX0_hasLegFor 27 = .ok (.ireturn, 1) := by decide +kernel
theorem dX0_hasLegFor_28 : decode cX0_hasLegFor 28 = .ok (.iinc 3 1, 3) := by decide +kernel
theorem dX0_hasLegFor_31 : decode cX0_hasLegFor 31 = .ok (.goto (-29), 3) := by decide +kernel
theorem dX0_hasLegFor_34 : decode cX0_hasLegFor 34 = .ok (.iconst 0, 1) := by decide +kernel
theorem dX0_hasLegFor_35 : decode cX0_hasLegFor 35 = .ok (.ireturn, 1) := by decide +kernel
set_option maxRecDepth 20000 in
theorem ggX0_sumOn_X4_amountOf : GoodIn wsX0_sumOn wsX4_amountOf := goodIn_r _ [7, 8, 20, 21] (by decide +kernel) (by decide +kernel)
set_option maxRecDepth 20000 in
theorem gX0_sumOn_X4_amountOf : GoodIn wsX0_sumOn (wsV RX0 71 RX4 yX4_amountOf wsX4_amountOf) := goodIn_app (goodIn_of _ (by decide +kernel)) ggX0_sumOn_X4_amountOf
theorem dX0_sumOn_0 : decode cX0_sumOn 0 = .ok (.iconst 0, 1) := by decide +kernel
theorem dX0_sumOn_1 : decode cX0_sumOn 1 = .ok (.istore 4, 2) := by decide +kernel
theorem dX0_sumOn_3 : decode cX0_sumOn 3 = .ok (.iconst 0, 1) := by decide +kernel
theorem dX0_sumOn_4 : decode cX0_sumOn 4 = .ok (.istore 5, 2) := by decide +kernel
theorem dX0_sumOn_6 : decode cX0_sumOn 6 = .ok (.iload 5, 2) := by decide +kernel
theorem dX0_sumOn_8 : decode cX0_sumOn 8 = .ok (.aload_n 0, 1) := by decide +kernel
theorem dX0_sumOn_9 : decode cX0_sumOn 9 = .ok (.getfield 21, 3) := by decide +kernel
theorem dX0_sumOn_12 : decode cX0_sumOn 12 = .ok (.iload_n 2, 1) := by decide +kernel
theorem dX0_sumOn_13 : decode cX0_sumOn 13 = .ok (.iaload, 1) := by decide +kernel
theorem dX0_sumOn_14 : decode cX0_sumOn 14 = .ok (.if_icmp .ge 36, 3) := by decide +kernel
theorem dX0_sumOn_17 : decode cX0_sumOn 17 = .ok (.aload_n 0, 1) := by decide +kernel
theorem dX0_sumOn_18 : decode cX0_sumOn 18 = .ok (.getfield 24, 3) := by decide +kernel
theorem dX0_sumOn_21 : decode cX0_sumOn 21 = .ok (.iload_n 2, 1) := by decide +kernel
theorem dX0_sumOn_22 : decode cX0_sumOn 22 = .ok (.iconst 4, 1) := by decide +kernel
theorem dX0_sumOn_23 : decode cX0_sumOn 23 = .ok (.imul, 1) := by decide +kernel
theorem dX0_sumOn_24 : decode cX0_sumOn 24 = .ok (.iload 5, 2) := by decide +kernel
theorem dX0_sumOn_26 : decode cX0_sumOn 26 = .ok (.iadd, 1) := by decide +kernel
theorem dX0_sumOn_27 : decode cX0_sumOn 27 = .ok (.iaload, 1) := by decide +kernel
theorem dX0_sumOn_28 : decode cX0_sumOn 28 = .ok (.iload_n 3, 1) := by decide +kernel
theorem dX0_sumOn_29 : decode cX0_sumOn 29 = .ok (.if_icmp .ne 15, 3) := by decide +kernel
theorem dX0_sumOn_32 : decode cX0_sumOn 32 = .ok (.iload 4, 2) := by decide +kernel
theorem dX0_sumOn_34 : decode cX0_sumOn 34 = .ok (.aload_n 1, 1) := by decide +kernel
theorem dX0_sumOn_35 : decode cX0_sumOn 35 = .ok (.iload_n 2, 1) := by decide +kernel
theorem dX0_sumOn_36 : decode cX0_sumOn 36 = .ok (.iload 5, 2) := by decide +kernel
theorem dX0_sumOn_38 : decode cX0_sumOn 38 = .ok (.invokevirtual 71, 3) := by decide +kernel
theorem dX0_sumOn_41 : decode cX0_sumOn 41 = .ok (.iadd, 1) := by decide +kernel
theorem dX0_sumOn_42 : decode cX0_sumOn 42 = .ok (.istore 4, 2) := by decide +kernel
theorem dX0_sumOn_44 : decode cX0_sumOn 44 = .ok (.iinc 5 1, 3) := by decide +kernel
theorem dX0_sumOn_47 : decode cX0_sumOn 47 = .ok (.goto (-41), 3) := by decide +kernel
theorem dX0_sumOn_50 : decode cX0_sumOn 50 = .ok (.iload 4, 2) := by decide +kernel
theorem dX0_sumOn_52 : decode cX0_sumOn 52 = .ok (.ireturn, 1) := by decide +kernel
theorem dX0_countUpTo_0 : decode cX0_countUpTo 0 = .ok (.iconst 0, 1) := by decide +kernel
theorem dX0_countUpTo_1 : decode cX0_countUpTo 1 = .ok (.istore_n 2, 1) := by decide +kernel
theorem dX0_countUpTo_2 : decode cX0_countUpTo 2 = .ok (.iload_n 2, 1) := by decide +kernel
theorem dX0_countUpTo_3 : decode cX0_countUpTo 3 = .ok (.aload_n 0, 1) := by decide +kernel
theorem dX0_countUpTo_4 : decode cX0_countUpTo 4 = .ok (.getfield 47, 3) := by decide +kernel
theorem dX0_countUpTo_7 : decode cX0_countUpTo 7 = .ok (.if_icmp .ge 19, 3) := by decide +kernel
theorem dX0_countUpTo_10 : decode cX0_countUpTo 10 = .ok (.aload_n 0, 1) := by decide +kernel
theorem dX0_countUpTo_11 : decode cX0_countUpTo 11 = .ok (.getfield 9, 3) := by decide +kernel
theorem dX0_countUpTo_14 : decode cX0_countUpTo 14 = .ok (.iload_n 2, 1) := by decide +kernel
theorem dX0_countUpTo_15 : decode cX0_countUpTo 15 = .ok (.iaload, 1) := by decide +kernel
theorem dX0_countUpTo_16 : decode cX0_countUpTo 16 = .ok (.iload_n 1, 1) := by decide +kernel
theorem dX0_countUpTo_17 : decode cX0_countUpTo 17 = .ok (.if_icmp .gt 9, 3) := by decide +kernel
theorem dX0_countUpTo_20 : decode cX0_countUpTo 20 = .ok (.iinc 2 1, 3) := by decide +kernel
theorem dX0_countUpTo_23 : decode cX0_countUpTo 23 = .ok (.goto (-21), 3) := by decide +kernel
theorem dX0_countUpTo_26 : decode cX0_countUpTo 26 = .ok (.iload_n 2, 1) := by decide +kernel
theorem dX0_countUpTo_27 : decode cX0_countUpTo 27 = .ok (.ireturn, 1) := by decide +kernel
set_option maxRecDepth 20000 in
theorem ggX0_countBurnt_X0_stateOf : GoodIn wsX0_countBurnt wsX0_stateOf := goodIn_r _ [6, 7, 8, 9, 10, 11, 12, 13, 14, 15, 16, 17, 18, 19, 20, 21, 22, 23, 24, 25, 26, 27] (by decide +kernel) (by decide +kernel)
set_option maxRecDepth 20000 in
theorem gX0_countBurnt_X0_stateOf : GoodIn wsX0_countBurnt (wsV RX0 91 RX0 yX0_stateOf wsX0_stateOf) := goodIn_app (goodIn_of _ (by decide +kernel)) ggX0_countBurnt_X0_stateOf
theorem dX0_countBurnt_0 : decode cX0_countBurnt 0 = .ok (.iconst 0, 1) := by decide +kernel
theorem dX0_countBurnt_1 : decode cX0_countBurnt 1 = .ok (.istore_n 1, 1) := by decide +kernel
theorem dX0_countBurnt_2 : decode cX0_countBurnt 2 = .ok (.iconst 0, 1) := by decide +kernel
theorem dX0_countBurnt_3 : decode cX0_countBurnt 3 = .ok (.istore_n 2, 1) := by decide +kernel
theorem dX0_countBurnt_4 : decode cX0_countBurnt 4 = .ok (.iload_n 2, 1) := by decide +kernel
theorem dX0_countBurnt_5 : decode cX0_countBurnt 5 = .ok (.aload_n 0, 1) := by decide +kernel
theorem dX0_countBurnt_6 : decode cX0_countBurnt 6 = .ok (.getfield 47, 3) := by decide +kernel
theorem dX0_countBurnt_9 : decode cX0_countBurnt 9 = .ok (.if_icmp .ge 21, 3) := by decide +kernel
theorem dX0_countBurnt_12 : decode cX0_countBurnt 12 = .ok (.aload_n 0, 1) := by decide +kernel
theorem dX0_countBurnt_13 : decode cX0_countBurnt 13 = .ok (.iload_n 2, 1) := by decide +kernel
theorem dX0_countBurnt_14 : decode cX0_countBurnt 14 = .ok (.invokevirtual 91, 3) := by decide +kernel
theorem dX0_countBurnt_17 : decode cX0_countBurnt 17 = .ok (.iconst 1, 1) := by decide +kernel
theorem dX0_countBurnt_18 : decode cX0_countBurnt 18 = .ok (.if_icmp .ne 6, 3) := by decide +kernel
theorem dX0_countBurnt_21 : decode cX0_countBurnt 21 = .ok (.iinc 1 1, 3) := by decide +kernel
theorem dX0_countBurnt_24 : decode cX0_countBurnt 24 = .ok (.iinc 2 1, 3) := by decide +kernel
theorem dX0_countBurnt_27 : decode cX0_countBurnt 27 = .ok (.goto (-23), 3) := by decide +kernel
theorem dX0_countBurnt_30 : decode cX0_countBurnt 30 = .ok (.iload_n 1, 1) := by decide +kernel
theorem dX0_countBurnt_31 : decode cX0_countBurnt 31 = .ok (.ireturn, 1) := by decide +kernel
set_option maxRecDepth 20000 in
theorem ggX1_init_X4_init : GoodIn wsX1_init wsX4_init := goodIn_r _ [13, 14, 2, 3, 15, 16, 17, 18, 19, 20] (by decide +kernel) (by decide +kernel)
set_option maxRecDepth 20000 in
theorem gX1_init_X4_init_n9 : GoodIn wsX1_init (wsX4_init) := ggX1_init_X4_init
theorem dX1_init_0 : decode cX1_init 0 = .ok (.aload_n 0, 1) := by decide +kernel
theorem dX1_init_1 : decode cX1_init 1 = .ok (.invokespecial 1, 3) := by decide +kernel
theorem dX1_init_4 : decode cX1_init 4 = .ok (.aload_n 0, 1) := by decide +kernel
theorem dX1_init_5 : decode cX1_init 5 = .ok (.new 7, 3) := by decide +kernel
theorem dX1_init_8 : decode cX1_init 8 = .ok (.dup, 1) := by decide +kernel
theorem dX1_init_9 : decode cX1_init 9 = .ok (.invokespecial 9, 3) := by decide +kernel
theorem dX1_init_12 : decode cX1_init 12 = .ok (.putfield 10, 3) := by decide +kernel
theorem dX1_init_15 : decode cX1_init 15 = .ok (.aload_n 0, 1) := by decide +kernel
theorem dX1_init_16 : decode cX1_init 16 = .ok (.iconst 1, 1) := by decide +kernel
theorem dX1_init_17 : decode cX1_init 17 = .ok (.putfield 16, 3) := by decide +kernel
theorem dX1_init_20 : decode cX1_init 20 = .ok (.aload_n 0, 1) := by decide +kernel
theorem dX1_init_21 : decode cX1_init 21 = .ok (.aload_n 1, 1) := by decide +kernel
theorem dX1_init_22 : decode cX1_init 22 = .ok (.putfield 20, 3) := by decide +kernel
theorem dX1_init_25 : decode cX1_init 25 = .ok (.aload_n 0, 1) := by decide +kernel
theorem dX1_init_26 : decode cX1_init 26 = .ok (.iload_n 2, 1) := by decide +kernel
theorem dX1_init_27 : decode cX1_init 27 = .ok (.putfield 24, 3) := by decide +kernel
theorem dX1_init_30 : decode cX1_init 30 = .ok (.aload_n 0, 1) := by decide +kernel
theorem dX1_init_31 : decode cX1_init 31 = .ok (.iload_n 3, 1) := by decide +kernel
theorem dX1_init_32 : decode cX1_init 32 = .ok (.putfield 28, 3) := by decide +kernel
theorem dX1_init_35 : decode cX1_init 35 = .ok (.return_, 1) := by decide +kernel
theorem dX1_isChainInVault_0 : decode cX1_isChainInVault 0 = .ok (.aload_n 0, 1) := by decide +kernel
theorem dX1_isChainInVault_1 : decode cX1_isChainInVault 1 = .ok (.astore_n 1, 1) := by decide +kernel
theorem dX1_isChainInVault_2 : decode cX1_isChainInVault 2 = .ok (.aload_n 1, 1) := by decide +kernel
theorem dX1_isChainInVault_3 : decode cX1_isChainInVault 3 = .ok (.ifnull 20, 3) := by decide +kernel
theorem dX1_isChainInVault_6 : decode cX1_isChainInVault 6 = .ok (.aload_n 1, 1) := by decide +kernel
theorem dX1_isChainInVault_7 : decode cX1_isChainInVault 7 = .ok (.getfield 16, 3) := by decide +kernel
theorem dX1_isChainInVault_10 : decode cX1_isChainInVault 10 = .ok (.ifCond .ne 5, 3) := by decide +kernel
theorem dX1_isChainInVault_13 : decode cX1_isChainInVault 13 = .ok (.iconst 0, 1) := by decide +kernel
theorem dX1_isChainInVault_14 : decode cX1_isChainInVault 14 = .ok (.ireturn, 1) := by decide +kernel
theorem dX1_isChainInVault_15 : decode cX1_isChainInVault 15 = .ok (.aload_n 1, 1) := by decide +kernel
theorem dX1_isChainInVault_16 : decode cX1_isChainInVault 16 = .ok (.getfield 20, 3) := by decide +kernel
theorem dX1_isChainInVault_19 : decode cX1_isChainInVault 19 = .ok (.astore_n 1, 1) := by decide +kernel
theorem dX1_isChainInVault_20 : decode cX1_isChainInVault 20 = .ok (.goto (-18), 3) := by decide +kernel
theorem dX1_isChainInVault_23 : decode cX1_isChainInVault 23 = .ok (.iconst 1, 1) := by decide +kernel
theorem dX1_isChainInVault_24 : decode cX1_isChainInVault 24 = .ok (.ireturn, 1) := by decide +kernel
set_option maxRecDepth 20000 in
theorem ggX1_blankStruck_X4_blank : GoodIn wsX1_blankStruck wsX4_blank := goodIn_r _ [9, 10, 11, 28, 29] (by decide +kernel) (by decide +kernel)
set_option maxRecDepth 20000 in
theorem gX1_blankStruck_X4_blank : GoodIn wsX1_blankStruck (wsV RX1 37 RX4 yX4_blank wsX4_blank) := goodIn_app (goodIn_of _ (by decide +kernel)) ggX1_blankStruck_X4_blank
theorem dX1_blankStruck_0 : decode cX1_blankStruck 0 = .ok (.iconst 0, 1) := by decide +kernel
theorem dX1_blankStruck_1 : decode cX1_blankStruck 1 = .ok (.istore_n 2, 1) := by decide +kernel
theorem dX1_blankStruck_2 : decode cX1_blankStruck 2 = .ok (.aload_n 0, 1) := by decide +kernel
theorem dX1_blankStruck_3 : decode cX1_blankStruck 3 = .ok (.getfield 24, 3) := by decide +kernel
theorem dX1_blankStruck_6 : decode cX1_blankStruck 6 = .ok (.istore_n 3, 1) := by decide +kernel
theorem dX1_blankStruck_7 : decode cX1_blankStruck 7 = .ok (.iload_n 3, 1) := by decide +kernel
theorem dX1_blankStruck_8 : decode cX1_blankStruck 8 = .ok (.aload_n 0, 1) := by decide +kernel
theorem dX1_blankStruck_9 : decode cX1_blankStruck 9 = .ok (.getfield 28, 3) := by decide +kernel
theorem dX1_blankStruck_12 : decode cX1_blankStruck 12 = .ok (.if_icmp .ge 32, 3) := by decide +kernel
theorem dX1_blankStruck_15 : decode cX1_blankStruck 15 = .ok (.aload_n 1, 1) := by decide +kernel
theorem dX1_blankStruck_16 : decode cX1_blankStruck 16 = .ok (.getfield 31, 3) := by decide +kernel
theorem dX1_blankStruck_19 : decode cX1_blankStruck 19 = .ok (.iload_n 3, 1) := by decide +kernel
theorem dX1_blankStruck_20 : decode cX1_blankStruck 20 = .ok (.baload, 1) := by decide +kernel
theorem dX1_blankStruck_21 : decode cX1_blankStruck 21 = .ok (.ifCond .eq 17, 3) := by decide +kernel
theorem dX1_blankStruck_24 : decode cX1_blankStruck 24 = .ok (.aload_n 0, 1) := by decide +kernel
theorem dX1_blankStruck_25 : decode cX1_blankStruck 25 = .ok (.getfield 10, 3) := by decide +kernel
theorem dX1_blankStruck_28 : decode cX1_blankStruck 28 = .ok (.iload_n 3, 1) := by decide +kernel
theorem dX1_blankStruck_29 : decode cX1_blankStruck 29 = .ok (.invokevirtual 37, 3) := by decide +kernel
theorem dX1_blankStruck_32 : decode cX1_blankStruck 32 = .ok (.ifCond .eq 6, 3) := by decide +kernel
theorem dX1_blankStruck_35 : decode cX1_blankStruck 35 = .ok (.iinc 2 1, 3) := by decide +kernel
theorem dX1_blankStruck_38 : decode cX1_blankStruck 38 = .ok (.iinc 3 1, 3) := by decide +kernel
theorem dX1_blankStruck_41 : decode cX1_blankStruck 41 = .ok (.goto (-34), 3) := by decide +kernel
theorem dX1_blankStruck_44 : decode cX1_blankStruck 44 = .ok (.iload_n 2, 1) := by decide +kernel
theorem dX1_blankStruck_45 : decode cX1_blankStruck 45 = .ok (.ireturn, 1) := by decide +kernel
set_option maxRecDepth 20000 in
theorem ggX1_giveBack_X0_isTrueOn : GoodIn wsX1_giveBack wsX0_isTrueOn := goodIn_r _ [10, 11, 12, 13, 14, 15, 16, 17, 18, 19, 20, 21, 22, 32, 33, 34, 35, 36, 37, 38, 39, 40, 41, 42, 43, 44] (by decide +kernel) (by decide +kernel)
set_option maxRecDepth 20000 in
theorem gX1_giveBack_X0_isTrueOn : GoodIn wsX1_giveBack (wsV RX1 44 RX0 yX0_isTrueOn wsX0_isTrueOn) := goodIn_app (goodIn_of _ (by decide +kernel)) ggX1_giveBack_X0_isTrueOn
set_option maxRecDepth 20000 in
theorem ggX1_giveBack_X4_take : GoodIn wsX1_giveBack wsX4_take := goodIn_r _ [26, 17, 22, 43, 44] (by decide +kernel) (by decide +kernel)
set_option maxRecDepth 20000 in
theorem gX1_giveBack_X4_take : GoodIn wsX1_giveBack (wsV RX1 48 RX4 yX4_take wsX4_take) := goodIn_app (goodIn_of _ (by decide +kernel)) ggX1_giveBack_X4_take
theorem dX1_giveBack_0 : decode cX1_giveBack 0 = .ok (.iconst 0, 1) := by decide +kernel
theorem dX1_giveBack_1 : decode cX1_giveBack 1 = .ok (.istore_n 2, 1) := by decide +kernel
theorem dX1_giveBack_2 : decode cX1_giveBack 2 = .ok (.aload_n 0, 1) := by decide +kernel
theorem dX1_giveBack_3 : decode cX1_giveBack 3 = .ok (.getfield 24, 3) := by decide +kernel
theorem dX1_giveBack_6 : decode cX1_giveBack 6 = .ok (.istore_n 3, 1) := by decide +kernel
theorem dX1_giveBack_7 : decode cX1_giveBack 7 = .ok (.iload_n 3, 1) := by decide +kernel
theorem dX1_giveBack_8 : decode cX1_giveBack 8 = .ok (.aload_n 0, 1) := by decide +kernel
theorem dX1_giveBack_9 : decode cX1_giveBack 9 = .ok (.getfield 28, 3) := by decide +kernel
theorem dX1_giveBack_12 : decode cX1_giveBack 12 = .ok (.if_icmp .ge 69, 3) := by decide +kernel
theorem dX1_giveBack_15 : decode cX1_giveBack 15 = .ok (.aload_n 1, 1) := by decide +kernel
theorem dX1_giveBack_16 : decode cX1_giveBack 16 = .ok (.getfield 31, 3) := by decide +kernel
theorem dX1_giveBack_19 : decode cX1_giveBack 19 = .ok (.iload_n 3, 1) := by decide +kernel
theorem dX1_giveBack_20 : decode cX1_giveBack 20 = .ok (.baload, 1) := by decide +kernel
theorem dX1_giveBack_21 : decode cX1_giveBack 21 = .ok (.ifCond .ne 19, 3) := by decide +kernel
theorem dX1_giveBack_24 : decode cX1_giveBack 24 = .ok (.aload_n 1, 1) := by decide +kernel
theorem dX1_giveBack_25 : decode cX1_giveBack 25 = .ok (.aload_n 1, 1) := by decide +kernel
theorem dX1_giveBack_26 : decode cX1_giveBack 26 = .ok (.getfield 41, 3) := by decide +kernel
theorem dX1_giveBack_29 : decode cX1_giveBack 29 = .ok (.iload_n 3, 1) := by decide +kernel
theorem dX1_giveBack_30 : decode cX1_giveBack 30 = .ok (.invokevirtual 44, 3) := by decide +kernel
theorem dX1_giveBack_33 : decode cX1_giveBack 33 = .ok (.ifCond .ne 7, 3) := by decide +kernel
theorem dX1_giveBack_36 : decode cX1_giveBack 36 = .ok (.iconst 1, 1) := by decide +kernel
theorem dX1_giveBack_37 : decode cX1_giveBack 37 = .ok (.goto 4, 3) := by decide +kernel
theorem dX1_giveBack_40 : decode cX1_giveBack 40 = .ok (.iconst 0, 1) := by decide +kernel
theorem dX1_giveBack_41 : decode cX1_giveBack 41 = .ok (.istore 4, 2) := by decide +kernel
theorem dX1_giveBack_43 : decode cX1_giveBack 43 = .ok (.iload 4, 2) := by decide +kernel
theorem dX1_giveBack_45 : decode cX1_giveBack 45 = .ok (.ifCond .eq 30, 3) := by decide +kernel
theorem dX1_giveBack_48 : decode cX1_giveBack 48 = .ok (.aload_n 1, 1) := by decide +kernel
theorem dX1_giveBack_49 : decode cX1_giveBack 49 = .ok (.aload_n 0, 1) := by decide +kernel
theorem dX1_giveBack_50 : decode cX1_giveBack 50 = .ok (.getfield 10, 3) := by decide +kernel
theorem dX1_giveBack_53 : decode cX1_giveBack 53 = .ok (.iload_n 3, 1) := by decide +kernel
theorem dX1_giveBack_54 : decode cX1_giveBack 54 = .ok (.invokevirtual 44, 3) := by decide +kernel
theorem dX1_giveBack_57 : decode cX1_giveBack 57 = .ok (.ifCond .eq 18, 3) := by decide +kernel
theorem dX1_giveBack_60 : decode cX1_giveBack 60 = .ok (.aload_n 1, 1) := by decide +kernel
theorem dX1_giveBack_61 : decode cX1_giveBack 61 = .ok (.getfield 41, 3) := by decide +kernel
theorem dX1_giveBack_64 : decode cX1_giveBack 64 = .ok (.aload_n 0, 1) := by decide +kernel
theorem dX1_giveBack_65 : decode cX1_giveBack 65 = .ok (.getfield 10, 3) := by decide +kernel
theorem dX1_giveBack_68 : decode cX1_giveBack 68 = .ok (.iload_n 3, 1) := by decide +kernel
theorem dX1_giveBack_69 : decode cX1_giveBack 69 = .ok (.invokevirtual 48, 3) := by decide +kernel
theorem dX1_giveBack_72 : decode cX1_giveBack 72 = .ok (.iinc 2 1, 3) := by decide +kernel
theorem dX1_giveBack_75 : decode cX1_giveBack 75 = .ok (.iinc 3 1, 3) := by decide +kernel
theorem dX1_giveBack_78 : decode cX1_giveBack 78 = .ok (.goto (-71), 3) := by decide +kernel
theorem dX1_giveBack_81 : decode cX1_giveBack 81 = .ok (.iload_n 2, 1) := by decide +kernel
theorem dX1_giveBack_82 : decode cX1_giveBack 82 = .ok (.ireturn, 1) := by decide +kernel
theorem dX2_init_0 : decode cX2_init 0 = .ok (.aload_n 0, 1) := by decide +kernel
theorem dX2_init_1 : decode cX2_init 1 = .ok (.invokespecial 3, 3) := by decide +kernel
theorem dX2_init_4 : decode cX2_init 4 = .ok (.aload_n 0, 1) := by decide +kernel
theorem dX2_init_5 : decode cX2_init 5 = .ok (.bipush 8, 2) := by decide +kernel
theorem dX2_init_7 : decode cX2_init 7 = .ok (.newarray .boolean, 2) := by decide +kernel
theorem dX2_init_9 : decode cX2_init 9 = .ok (.putfield 9, 3) := by decide +kernel
theorem dX2_init_12 : decode cX2_init 12 = .ok (.aload_n 0, 1) := by decide +kernel
theorem dX2_init_13 : decode cX2_init 13 = .ok (.iconst 0, 1) := by decide +kernel
theorem dX2_init_14 : decode cX2_init 14 = .ok (.putfield 15, 3) := by decide +kernel
theorem dX2_init_17 : decode cX2_init 17 = .ok (.aload_n 0, 1) := by decide +kernel
theorem dX2_init_18 : decode cX2_init 18 = .ok (.bipush 30, 2) := by decide +kernel
theorem dX2_init_20 : decode cX2_init 20 = .ok (.newarray .int, 2) := by decide +kernel
theorem dX2_init_22 : decode cX2_init 22 = .ok (.putfield 19, 3) := by decide +kernel
theorem dX2_init_25 : decode cX2_init 25 = .ok (.aload_n 0, 1) := by decide +kernel
theorem dX2_init_26 : decode cX2_init 26 = .ok (.bipush 30, 2) := by decide +kernel
theorem dX2_init_28 : decode cX2_init 28 = .ok (.newarray .int, 2) := by decide +kernel
theorem dX2_init_30 : decode cX2_init 30 = .ok (.putfield 23, 3) := by decide +kernel
theorem dX2_init_33 : decode cX2_init 33 = .ok (.aload_n 0, 1) := by decide +kernel
theorem dX2_init_34 : decode cX2_init 34 = .ok (.bipush 30, 2) := by decide +kernel
theorem dX2_init_36 : decode cX2_init 36 = .ok (.newarray .int, 2) := by decide +kernel
theorem dX2_init_38 : decode cX2_init 38 = .ok (.putfield 26, 3) := by decide +kernel
theorem dX2_init_41 : decode cX2_init 41 = .ok (.aload_n 0, 1) := by decide +kernel
theorem dX2_init_42 : decode cX2_init 42 = .ok (.bipush 30, 2) := by decide +kernel
theorem dX2_init_44 : decode cX2_init 44 = .ok (.newarray .int, 2) := by decide +kernel
theorem dX2_init_46 : decode cX2_init 46 = .ok (.putfield 29, 3) := by decide +kernel
theorem dX2_init_49 : decode cX2_init 49 = .ok (.aload_n 0, 1) := by decide +kernel
theorem dX2_init_50 : decode cX2_init 50 = .ok (.iconst 0, 1) := by decide +kernel
theorem dX2_init_51 : decode cX2_init 51 = .ok (.putfield 32, 3) := by decide +kernel
theorem dX2_init_54 : decode cX2_init 54 = .ok (.return_, 1) := by decide +kernel
theorem dX2_isFull_0 : decode cX2_isFull 0 = .ok (.aload_n 0, 1) := by decide +kernel
theorem dX2_isFull_1 : decode cX2_isFull 1 = .ok (.getfield 15, 3) := by decide +kernel
theorem dX2_isFull_4 : decode cX2_isFull 4 = .ok (.bipush 8, 2) := by decide +kernel
theorem dX2_isFull_6 : decode cX2_isFull 6 = .ok (.if_icmp .lt 7, 3) := by decide +kernel
theorem dX2_isFull_9 : decode cX2_isFull 9 = .ok (.iconst 1, 1) := by decide +kernel
theorem dX2_isFull_10 : decode cX2_isFull 10 = .ok (.goto 4, 3) := by decide +kernel
theorem dX2_isFull_13 : decode cX2_isFull 13 = .ok (.iconst 0, 1) := by decide +kernel
theorem dX2_isFull_14 : decode cX2_isFull 14 = .ok (.ireturn, 1) := by decide +kernel
theorem dX2_openNext_0 : decode cX2_openNext 0 = .ok (.aload_n 0, 1) := by decide +kernel
theorem dX2_openNext_1 : decode cX2_openNext 1 = .ok (.getfield 9, 3) := by decide +kernel
theorem dX2_openNext_4 : decode cX2_openNext 4 = .ok (.aload_n 0, 1) := by decide +kernel
theorem dX2_openNext_5 : decode cX2_openNext 5 = .ok (.getfield 15, 3) := by decide +kernel
theorem dX2_openNext_8 : decode cX2_openNext 8 = .ok (.iconst 1, 1) := by decide +kernel
theorem dX2_openNext_9 : decode cX2_openNext 9 = .ok (.bastore, 1) := by decide +kernel
theorem dX2_openNext_10 : decode cX2_openNext 10 = .ok (.aload_n 0, 1) := by decide +kernel
theorem dX2_openNext_11 : decode cX2_openNext 11 = .ok (.dup, 1) := by decide +kernel
theorem dX2_openNext_12 : decode cX2_openNext 12 = .ok (.getfield 15, 3) := by decide +kernel
theorem dX2_openNext_15 : decode cX2_openNext 15 = .ok (.iconst 1, 1) := by decide +kernel
theorem dX2_openNext_16 : decode cX2_openNext 16 = .ok (.iadd, 1) := by decide +kernel
theorem dX2_openNext_17 : decode cX2_openNext 17 = .ok (.putfield 15, 3) := by decide +kernel
theorem dX2_openNext_20 : decode cX2_openNext 20 = .ok (.aload_n 0, 1) := by decide +kernel
theorem dX2_openNext_21 : decode cX2_openNext 21 = .ok (.getfield 15, 3) := by decide +kernel
theorem dX2_openNext_24 : decode cX2_openNext 24 = .ok (.iconst 1, 1) := by decide +kernel
theorem dX2_openNext_25 : decode cX2_openNext 25 = .ok (.isub, 1) := by decide +kernel
theorem dX2_openNext_26 : decode cX2_openNext 26 = .ok (.ireturn, 1) := by decide +kernel
theorem dX2_hasAllHolds_0 : decode cX2_hasAllHolds 0 = .ok (.aload_n 0, 1) := by decide +kernel
theorem dX2_hasAllHolds_1 : decode cX2_hasAllHolds 1 = .ok (.getfield 32, 3) := by decide +kernel
theorem dX2_hasAllHolds_4 : decode cX2_hasAllHolds 4 = .ok (.bipush 30, 2) := by decide +kernel
theorem dX2_hasAllHolds_6 : decode cX2_hasAllHolds 6 = .ok (.if_icmp .lt 7, 3) := by decide +kernel
theorem dX2_hasAllHolds_9 : decode cX2_hasAllHolds 9 = .ok (.iconst 1, 1) := by decide +kernel
theorem dX2_hasAllHolds_10 : decode cX2_hasAllHolds 10 = .ok (.goto 4, 3) := by decide +kernel
theorem dX2_hasAllHolds_13 : decode cX2_hasAllHolds 13 = .ok (.iconst 0, 1) := by decide +kernel
theorem dX2_hasAllHolds_14 : decode cX2_hasAllHolds 14 = .ok (.ireturn, 1) := by decide +kernel
theorem dX2_addHold_0 : decode cX2_addHold 0 = .ok (.aload_n 0, 1) := by decide +kernel
theorem dX2_addHold_1 : decode cX2_addHold 1 = .ok (.getfield 19, 3) := by decide +kernel
theorem dX2_addHold_4 : decode cX2_addHold 4 = .ok (.aload_n 0, 1) := by decide +kernel
theorem dX2_addHold_5 : decode cX2_addHold 5 = .ok (.getfield 32, 3) := by decide +kernel
theorem dX2_addHold_8 : decode cX2_addHold 8 = .ok (.iload_n 1, 1) := by decide +kernel
theorem dX2_addHold_9 : decode cX2_addHold 9 = .ok (.iastore, 1) := by decide +kernel
theorem dX2_addHold_10 : decode cX2_addHold 10 = .ok (.aload_n 0, 1) := by decide +kernel
theorem dX2_addHold_11 : decode cX2_addHold 11 = .ok (.getfield 23, 3) := by decide +kernel
theorem dX2_addHold_14 : decode cX2_addHold 14 = .ok (.aload_n 0, 1) := by decide +kernel
theorem dX2_addHold_15 : decode cX2_addHold 15 = .ok (.getfield 32, 3) := by decide +kernel
theorem dX2_addHold_18 : decode cX2_addHold 18 = .ok (.iload_n 2, 1) := by decide +kernel
theorem dX2_addHold_19 : decode cX2_addHold 19 = .ok (.iastore, 1) := by decide +kernel
theorem dX2_addHold_20 : decode cX2_addHold 20 = .ok (.aload_n 0, 1) := by decide +kernel
theorem dX2_addHold_21 : decode cX2_addHold 21 = .ok (.getfield 26, 3) := by decide +kernel
theorem dX2_addHold_24 : decode cX2_addHold 24 = .ok (.aload_n 0, 1) := by decide +kernel
theorem dX2_addHold_25 : decode cX2_addHold 25 = .ok (.getfield 32, 3) := by decide +kernel
theorem dX2_addHold_28 : decode cX2_addHold 28 = .ok (.iload_n 3, 1) := by decide +kernel
theorem dX2_addHold_29 : decode cX2_addHold 29 = .ok (.iastore, 1) := by decide +kernel
theorem dX2_addHold_30 : decode cX2_addHold 30 = .ok (.aload_n 0, 1) := by decide +kernel
theorem dX2_addHold_31 : decode cX2_addHold 31 = .ok (.getfield 29, 3) := by decide +kernel
theorem dX2_addHold_34 : decode cX2_addHold 34 = .ok (.aload_n 0, 1) := by decide +kernel
theorem dX2_addHold_35 : decode cX2_addHold 35 = .ok (.getfield 32, 3) := by decide +kernel
theorem dX2_addHold_38 : decode cX2_addHold 38 = .ok (.iload 4, 2) := by decide +kernel
theorem dX2_addHold_40 : decode cX2_addHold 40 = .ok (.iastore, 1) := by decide +kernel
theorem dX2_addHold_41 : decode cX2_addHold 41 = .ok (.aload_n 0, 1) := by decide +kernel
theorem dX2_addHold_42 : decode cX2_addHold 42 = .ok (.dup, 1) := by decide +kernel
theorem dX2_addHold_43 : decode cX2_addHold 43 = .ok (.getfield 32, 3) := by decide +kernel
theorem dX2_addHold_46 : decode cX2_addHold 46 = .ok (.iconst 1, 1) := by decide +kernel
theorem dX2_addHold_47 : decode cX2_addHold 47 = .ok (.iadd, 1) := by decide +kernel
theorem dX2_addHold_48 : decode cX2_addHold 48 = .ok (.putfield 32, 3) := by decide +kernel
theorem dX2_addHold_51 : decode cX2_addHold 51 = .ok (.return_, 1) := by decide +kernel
set_option maxRecDepth 20000 in
theorem ggX2_holdersOf_X0_hasLegFor : GoodIn wsX2_holdersOf wsX0_hasLegFor := goodIn_r _ [12, 13, 14, 15, 16, 17, 18, 19, 20, 21, 22, 23, 24, 25] (by decide +kernel) (by decide +kernel)
set_option maxRecDepth 20000 in
theorem gX2_holdersOf_X0_hasLegFor : GoodIn wsX2_holdersOf (wsV RX2 40 RX0 yX0_hasLegFor wsX0_hasLegFor) := goodIn_app (goodIn_of _ (by decide +kernel)) ggX2_holdersOf_X0_hasLegFor
theorem dX2_holdersOf_0 : decode cX2_holdersOf 0 = .ok (.iconst 0, 1) := by decide +kernel
theorem dX2_holdersOf_1 : decode cX2_holdersOf 1 = .ok (.istore_n 3, 1) := by decide +kernel
theorem dX2_holdersOf_2 : decode cX2_holdersOf 2 = .ok (.aload_n 1, 1) := by decide +kernel
theorem dX2_holdersOf_3 : decode cX2_holdersOf 3 = .ok (.getfield 35, 3) := by decide +kernel
theorem dX2_holdersOf_6 : decode cX2_holdersOf 6 = .ok (.iload_n 2, 1) := by decide +kernel
theorem dX2_holdersOf_7 : decode cX2_holdersOf 7 = .ok (.iaload, 1) := by decide +kernel
theorem dX2_holdersOf_8 : decode cX2_holdersOf 8 = .ok (.istore 4, 2) := by decide +kernel
theorem dX2_holdersOf_10 : decode cX2_holdersOf 10 = .ok (.iconst 0, 1) := by decide +kernel
theorem dX2_holdersOf_11 : decode cX2_holdersOf 11 = .ok (.istore 5, 2) := by decide +kernel
theorem dX2_holdersOf_13 : decode cX2_holdersOf 13 = .ok (.iload 5, 2) := by decide +kernel
theorem dX2_holdersOf_15 : decode cX2_holdersOf 15 = .ok (.aload_n 0, 1) := by decide +kernel
theorem dX2_holdersOf_16 : decode cX2_holdersOf 16 = .ok (.getfield 32, 3) := by decide +kernel
theorem dX2_holdersOf_19 : decode cX2_holdersOf 19 = .ok (.if_icmp .ge 87, 3) := by decide +kernel
theorem dX2_holdersOf_22 : decode cX2_holdersOf 22 = .ok (.aload_n 0, 1) := by decide +kernel
theorem dX2_holdersOf_23 : decode cX2_holdersOf 23 = .ok (.getfield 26, 3) := by decide +kernel
theorem dX2_holdersOf_26 : decode cX2_holdersOf 26 = .ok (.iload 5, 2) := by decide +kernel
theorem dX2_holdersOf_28 : decode cX2_holdersOf 28 = .ok (.iaload, 1) := by decide +kernel
theorem dX2_holdersOf_29 : decode cX2_holdersOf 29 = .ok (.iload 4, 2) := by decide +kernel
theorem dX2_holdersOf_31 : decode cX2_holdersOf 31 = .ok (.if_icmp .gt 19, 3) := by decide +kernel
theorem dX2_holdersOf_34 : decode cX2_holdersOf 34 = .ok (.iload 4, 2) := by decide +kernel
theorem dX2_holdersOf_36 : decode cX2_holdersOf 36 = .ok (.aload_n 0, 1) := by decide +kernel
theorem dX2_holdersOf_37 : decode cX2_holdersOf 37 = .ok (.getfield 29, 3) := by decide +kernel
theorem dX2_holdersOf_40 : decode cX2_holdersOf 40 = .ok (.iload 5, 2) := by decide +kernel
theorem dX2_holdersOf_42 : decode cX2_holdersOf 42 = .ok (.iaload, 1) := by decide +kernel
theorem dX2_holdersOf_43 : decode cX2_holdersOf 43 = .ok (.if_icmp .gt 7, 3) := by decide +kernel
theorem dX2_holdersOf_46 : decode cX2_holdersOf 46 = .ok (.iconst 1, 1) := by decide +kernel
theorem dX2_holdersOf_47 : decode cX2_holdersOf 47 = .ok (.goto 4, 3) := by decide +kernel
theorem dX2_holdersOf_50 : decode cX2_holdersOf 50 = .ok (.iconst 0, 1) := by decide +kernel
theorem dX2_holdersOf_51 : decode cX2_holdersOf 51 = .ok (.istore 6, 2) := by decide +kernel
theorem dX2_holdersOf_53 : decode cX2_holdersOf 53 = .ok (.aload_n 0, 1) := by decide +kernel
theorem dX2_holdersOf_54 : decode cX2_holdersOf 54 = .ok (.getfield 9, 3) := by decide +kernel
theorem dX2_holdersOf_57 : decode cX2_holdersOf 57 = .ok (.aload_n 0, 1) := by decide +kernel
theorem dX2_holdersOf_58 : decode cX2_holdersOf 58 = .ok (.getfield 19, 3) := by decide +kernel
theorem dX2_holdersOf_61 : decode cX2_holdersOf 61 = .ok (.iload 5, 2) := by decide +kernel
theorem dX2_holdersOf_63 : decode cX2_holdersOf 63 = .ok (.iaload, 1) := by decide +kernel
theorem dX2_holdersOf_64 : decode cX2_holdersOf 64 = .ok (.baload, 1) := by decide +kernel
theorem dX2_holdersOf_65 : decode cX2_holdersOf 65 = .ok (.ifCond .eq 35, 3) := by decide +kernel
theorem dX2_holdersOf_68 : decode cX2_holdersOf 68 = .ok (.iload 6, 2) := by decide +kernel
theorem dX2_holdersOf_70 : decode cX2_holdersOf 70 = .ok (.ifCond .eq 30, 3) := by decide +kernel
theorem dX2_holdersOf_73 : decode cX2_holdersOf 73 = .ok (.aload_n 1, 1) := by decide +kernel
theorem dX2_holdersOf_74 : decode cX2_holdersOf 74 = .ok (.iload_n 2, 1) := by decide +kernel
theorem dX2_holdersOf_75 : decode cX2_holdersOf 75 = .ok (.aload_n 0, 1) := by decide +kernel
theorem dX2_holdersOf_76 : decode cX2_holdersOf 76 = .ok (.getfield 23, 3) := by decide +kernel
theorem dX2_holdersOf_79 : decode cX2_holdersOf 79 = .ok (.iload 5, 2) := by decide +kernel
theorem dX2_holdersOf_81 : decode cX2_holdersOf 81 = .ok (.iaload, 1) := by decide +kernel
theorem dX2_holdersOf_82 : decode cX2_holdersOf 82 = .ok (.invokevirtual 40, 3) := by decide +kernel
theorem dX2_holdersOf_85 : decode cX2_holdersOf 85 = .ok (.ifCond .eq 15, 3) := by decide +kernel
theorem dX2_holdersOf_88 : decode cX2_holdersOf 88 = .ok (.iload_n 3, 1) := by decide +kernel
theorem dX2_holdersOf_89 : decode cX2_holdersOf 89 = .ok (.iconst 1, 1) := by decide +kernel
theorem dX2_holdersOf_90 : decode cX2_holdersOf 90 = .ok (.aload_n 0, 1) := by decide +kernel
theorem dX2_holdersOf_91 : decode cX2_holdersOf 91 = .ok (.getfield 19, 3) := by decide +kernel
theorem dX2_holdersOf_94 : decode cX2_holdersOf 94 = .ok (.iload 5, 2) := by decide +kernel
theorem dX2_holdersOf_96 : decode cX2_holdersOf 96 = .ok (.iaload, 1) := by decide +kernel
theorem dX2_holdersOf_97 : decode cX2_holdersOf 97 = .ok (.ishl, 1) := by decide +kernel
theorem dX2_holdersOf_98 : decode cX2_holdersOf 98 = .ok (.ior, 1) := by decide +kernel
theorem dX2_holdersOf_99 : decode cX2_holdersOf 99 = .ok (.istore_n 3, 1) := by decide +kernel
theorem dX2_holdersOf_100 : decode cX2_holdersOf 100 = .ok (.iinc 5 1, 3) := by decide +kernel
theorem dX2_holdersOf_103 : decode cX2_holdersOf 103 = .ok (.goto (-90), 3) := by decide +kernel
theorem dX2_holdersOf_106 : decode cX2_holdersOf 106 = .ok (.iload_n 3, 1) := by decide +kernel
theorem dX2_holdersOf_107 : decode cX2_holdersOf 107 = .ok (.ireturn, 1) := by decide +kernel
set_option maxRecDepth 20000 in
theorem ggX2_countHeld_X2_holdersOf : GoodIn wsX2_countHeld wsX2_holdersOf := goodIn_r _ [6, 7, 8, 9, 10, 11, 12, 13, 14, 15, 16, 17, 18, 19, 20, 21, 22, 23, 24, 25, 26, 27, 28, 29, 30, 31, 32, 33, 34, 35, 36, 37, 38] (by decide +kernel) (by decide +kernel)
set_option maxRecDepth 20000 in
theorem gX2_countHeld_X2_holdersOf : GoodIn wsX2_countHeld (wsV RX2 47 RX2 yX2_holdersOf wsX2_holdersOf) := goodIn_app (goodIn_of _ (by decide +kernel)) ggX2_countHeld_X2_holdersOf
theorem dX2_countHeld_0 : decode cX2_countHeld 0 = .ok (.iconst 0, 1) := by decide +kernel
theorem dX2_countHeld_1 : decode cX2_countHeld 1 = .ok (.istore_n 3, 1) := by decide +kernel
theorem dX2_countHeld_2 : decode cX2_countHeld 2 = .ok (.iconst 0, 1) := by decide +kernel
theorem dX2_countHeld_3 : decode cX2_countHeld 3 = .ok (.istore 4, 2) := by decide +kernel
theorem dX2_countHeld_5 : decode cX2_countHeld 5 = .ok (.iload 4, 2) := by decide +kernel
theorem dX2_countHeld_7 : decode cX2_countHeld 7 = .ok (.aload_n 2, 1) := by decide +kernel
theorem dX2_countHeld_8 : decode cX2_countHeld 8 = .ok (.getfield 44, 3) := by decide +kernel
theorem dX2_countHeld_11 : decode cX2_countHeld 11 = .ok (.if_icmp .ge 26, 3) := by decide +kernel
theorem dX2_countHeld_14 : decode cX2_countHeld 14 = .ok (.aload_n 0, 1) := by decide +kernel
theorem dX2_countHeld_15 : decode cX2_countHeld 15 = .ok (.aload_n 2, 1) := by decide +kernel
theorem dX2_countHeld_16 : decode cX2_countHeld 16 = .ok (.iload 4, 2) := by decide +kernel
theorem dX2_countHeld_18 : decode cX2_countHeld 18 = .ok (.invokevirtual 47, 3) := by decide +kernel
theorem dX2_countHeld_21 : decode cX2_countHeld 21 = .ok (.iconst 1, 1) := by decide +kernel
theorem dX2_countHeld_22 : decode cX2_countHeld 22 = .ok (.iload_n 1, 1) := by decide +kernel
theorem dX2_countHeld_23 : decode cX2_countHeld 23 = .ok (.ishl, 1) := by decide +kernel
theorem dX2_countHeld_24 : decode cX2_countHeld 24 = .ok (.iand, 1) := by decide +kernel
theorem dX2_countHeld_25 : decode cX2_countHeld 25 = .ok (.ifCond .eq 6, 3) := by decide +kernel
theorem dX2_countHeld_28 : decode cX2_countHeld 28 = .ok (.iinc 3 1, 3) := by decide +kernel
theorem dX2_countHeld_31 : decode cX2_countHeld 31 = .ok (.iinc 4 1, 3) := by decide +kernel
theorem dX2_countHeld_34 : decode cX2_countHeld 34 = .ok (.goto (-29), 3) := by decide +kernel
theorem dX2_countHeld_37 : decode cX2_countHeld 37 = .ok (.iload_n 3, 1) := by decide +kernel
theorem dX2_countHeld_38 : decode cX2_countHeld 38 = .ok (.ireturn, 1) := by decide +kernel
set_option maxRecDepth 20000 in
theorem ggX2_countHeldAlone_X2_holdersOf : GoodIn wsX2_countHeldAlone wsX2_holdersOf := goodIn_r _ [6, 7, 8, 9, 10, 11, 12, 13, 14, 15, 16, 17, 18, 19, 20, 21, 22, 23, 24, 25, 26, 27, 28, 29, 30, 31, 32, 33, 34, 35, 36, 37, 38] (by decide +kernel) (by decide +kernel)
set_option maxRecDepth 20000 in
theorem gX2_countHeldAlone_X2_holdersOf : GoodIn wsX2_countHeldAlone (wsV RX2 47 RX2 yX2_holdersOf wsX2_holdersOf) := goodIn_app (goodIn_of _ (by decide +kernel)) ggX2_countHeldAlone_X2_holdersOf
theorem dX2_countHeldAlone_0 : decode cX2_countHeldAlone 0 = .ok (.iconst 0, 1) := by decide +kernel
theorem dX2_countHeldAlone_1 : decode cX2_countHeldAlone 1 = .ok (.istore_n 3, 1) := by decide +kernel
theorem dX2_countHeldAlone_2 : decode cX2_countHeldAlone 2 = .ok (.iconst 0, 1) := by decide +kernel
theorem dX2_countHeldAlone_3 : decode cX2_countHeldAlone 3 = .ok (.istore 4, 2) := by decide +kernel
theorem dX2_countHeldAlone_5 : decode cX2_countHeldAlone 5 = .ok (.iload 4, 2) := by decide +kernel
theorem dX2_countHeldAlone_7 : decode cX2_countHeldAlone 7 = .ok (.aload_n 2, 1) := by decide +kernel
theorem dX2_countHeldAlone_8 : decode cX2_countHeldAlone 8 = .ok (.getfield 44, 3) := by decide +kernel
theorem dX2_countHeldAlone_11 : decode cX2_countHeldAlone 11 = .ok (.if_icmp .ge 25, 3) := by decide +kernel
theorem dX2_countHeldAlone_14 : decode cX2_countHeldAlone 14 = .ok (.aload_n 0, 1) := by decide +kernel
theorem dX2_countHeldAlone_15 : decode cX2_countHeldAlone 15 = .ok (.aload_n 2, 1) := by decide +kernel
theorem dX2_countHeldAlone_16 : decode cX2_countHeldAlone 16 = .ok (.iload 4, 2) := by decide +kernel
theorem dX2_countHeldAlone_18 : decode cX2_countHeldAlone 18 = .ok (.invokevirtual 47, 3) := by decide +kernel
theorem dX2_countHeldAlone_21 : decode cX2_countHeldAlone 21 = .ok (.iconst 1, 1) := by decide +kernel
theorem dX2_countHeldAlone_22 : decode cX2_countHeldAlone 22 = .ok (.iload_n 1, 1) := by decide +kernel
theorem dX2_countHeldAlone_23 : decode cX2_countHeldAlone 23 = .ok (.ishl, 1) := by decide +kernel
theorem dX2_countHeldAlone_24 : decode cX2_countHeldAlone 24 = .ok (.if_icmp .ne 6, 3) := by decide +kernel
theorem dX2_countHeldAlone_27 : decode cX2_countHeldAlone 27 = .ok (.iinc 3 1, 3) := by decide +kernel
theorem dX2_countHeldAlone_30 : decode cX2_countHeldAlone 30 = .ok (.iinc 4 1, 3) := by decide +kernel
theorem dX2_countHeldAlone_33 : decode cX2_countHeldAlone 33 = .ok (.goto (-28), 3) := by decide +kernel
theorem dX2_countHeldAlone_36 : decode cX2_countHeldAlone 36 = .ok (.iload_n 3, 1) := by decide +kernel
theorem dX2_countHeldAlone_37 : decode cX2_countHeldAlone 37 = .ok (.ireturn, 1) := by decide +kernel
set_option maxRecDepth 20000 in
theorem ggX2_holdsAnyIn_X4_isFilled : GoodIn wsX2_holdsAnyIn wsX4_isFilled := goodIn_r _ [8, 9, 34, 35] (by decide +kernel) (by decide +kernel)
set_option maxRecDepth 20000 in
theorem gX2_holdsAnyIn_X4_isFilled : GoodIn wsX2_holdsAnyIn (wsV RX2 63 RX4 yX4_isFilled wsX4_isFilled) := goodIn_app (goodIn_of _ (by decide +kernel)) ggX2_holdsAnyIn_X4_isFilled
set_option maxRecDepth 20000 in
theorem ggX2_holdsAnyIn_X2_holdersOf : GoodIn wsX2_holdsAnyIn wsX2_holdersOf := goodIn_r _ [14, 15, 16, 17, 18, 19, 20, 21, 22, 23, 24, 25, 26, 27, 28, 36, 37, 38, 39, 40, 41, 42, 43, 44, 45, 46, 47, 48, 49, 50, 51, 52, 53] (by decide +kernel) (by decide +kernel)
set_option maxRecDepth 20000 in
theorem gX2_holdsAnyIn_X2_holdersOf : GoodIn wsX2_holdsAnyIn (wsV RX2 47 RX2 yX2_holdersOf wsX2_holdersOf) := goodIn_app (goodIn_of _ (by decide +kernel)) ggX2_holdsAnyIn_X2_holdersOf
theorem dX2_holdsAnyIn_0 : decode cX2_holdsAnyIn 0 = .ok (.aload_n 1, 1) := by decide +kernel
theorem dX2_holdsAnyIn_1 : decode cX2_holdsAnyIn 1 = .ok (.getfield 51, 3) := by decide +kernel
theorem dX2_holdsAnyIn_4 : decode cX2_holdsAnyIn 4 = .ok (.istore_n 3, 1) := by decide +kernel
theorem dX2_holdsAnyIn_5 : decode cX2_holdsAnyIn 5 = .ok (.iload_n 3, 1) := by decide +kernel
theorem dX2_holdsAnyIn_6 : decode cX2_holdsAnyIn 6 = .ok (.aload_n 1, 1) := by decide +kernel
theorem dX2_holdsAnyIn_7 : decode cX2_holdsAnyIn 7 = .ok (.getfield 56, 3) := by decide +kernel
theorem dX2_holdsAnyIn_10 : decode cX2_holdsAnyIn 10 = .ok (.if_icmp .ge 31, 3) := by decide +kernel
theorem dX2_holdsAnyIn_13 : decode cX2_holdsAnyIn 13 = .ok (.aload_n 1, 1) := by decide +kernel
theorem dX2_holdsAnyIn_14 : decode cX2_holdsAnyIn 14 = .ok (.getfield 59, 3) := by decide +kernel
theorem dX2_holdsAnyIn_17 : decode cX2_holdsAnyIn 17 = .ok (.iload_n 3, 1) := by decide +kernel
theorem dX2_holdsAnyIn_18 : decode cX2_holdsAnyIn 18 = .ok (.invokevirtual 63, 3) := by decide +kernel
theorem dX2_holdsAnyIn_21 : decode cX2_holdsAnyIn 21 = .ok (.ifCond .eq 14, 3) := by decide +kernel
theorem dX2_holdsAnyIn_24 : decode cX2_holdsAnyIn 24 = .ok (.aload_n 0, 1) := by decide +kernel
theorem dX2_holdsAnyIn_25 : decode cX2_holdsAnyIn 25 = .ok (.aload_n 2, 1) := by decide +kernel
theorem dX2_holdsAnyIn_26 : decode cX2_holdsAnyIn 26 = .ok (.iload_n 3, 1) := by decide +kernel
theorem dX2_holdsAnyIn_27 : decode cX2_holdsAnyIn 27 = .ok (.invokevirtual 47, 3) := by decide +kernel
theorem dX2_holdsAnyIn_30 : decode cX2_holdsAnyIn 30 = .ok (.ifCond .eq 5, 3) := by decide +kernel
theorem dX2_holdsAnyIn_33 : decode cX2_holdsAnyIn 33 = .ok (.iconst 1, 1) := by decide +kernel
theorem dX2_holdsAnyIn_34 : decode cX2_holdsAnyIn 34 = .ok (.ireturn, 1) := by decide +kernel
theorem dX2_holdsAnyIn_35 : decode cX2_holdsAnyIn 35 = .ok (.iinc 3 1, 3) := by decide +kernel
theorem dX2_holdsAnyIn_38 : decode cX2_holdsAnyIn 38 = .ok (.goto (-33), 3) := by decide +kernel
theorem dX2_holdsAnyIn_41 : decode cX2_holdsAnyIn 41 = .ok (.iconst 0, 1) := by decide +kernel
theorem dX2_holdsAnyIn_42 : decode cX2_holdsAnyIn 42 = .ok (.ireturn, 1) := by decide +kernel
set_option maxRecDepth 20000 in
theorem ggX2_maySentence_X2_holdersOf : GoodIn wsX2_maySentence wsX2_holdersOf := goodIn_r _ [7, 8, 9, 10, 11, 1, 12, 13, 14, 15, 16, 17, 18, 19, 20, 44, 45, 46, 47, 48, 49, 50, 51, 52, 53, 54, 37, 38, 39, 40, 41, 42, 43] (by decide +kernel) (by decide +kernel)
set_option maxRecDepth 20000 in
theorem gX2_maySentence_X2_holdersOf : GoodIn wsX2_maySentence (wsV RX2 47 RX2 yX2_holdersOf wsX2_holdersOf) := goodIn_app (goodIn_of _ (by decide +kernel)) ggX2_maySentence_X2_holdersOf
set_option maxRecDepth 20000 in
theorem ggX2_maySentence_X0_isTrueOn : GoodIn wsX2_maySentence wsX0_isTrueOn := goodIn_r _ [24, 25, 26, 27, 28, 29, 30, 31, 32, 33, 34, 35, 36, 44, 45, 46, 47, 48, 49, 50, 51, 52, 53, 54, 55, 56] (by decide +kernel) (by decide +kernel)
set_option maxRecDepth 20000 in
theorem gX2_maySentence_X0_isTrueOn : GoodIn wsX2_maySentence (wsV RX2 72 RX0 yX0_isTrueOn wsX0_isTrueOn) := goodIn_app (goodIn_of _ (by decide +kernel)) ggX2_maySentence_X0_isTrueOn
theorem dX2_maySentence_0 : decode cX2_maySentence 0 = .ok (.aload_n 0, 1) := by decide +kernel
theorem dX2_maySentence_1 : decode cX2_maySentence 1 = .ok (.aload_n 2, 1) := by decide +kernel
theorem dX2_maySentence_2 : decode cX2_maySentence 2 = .ok (.iload_n 3, 1) := by decide +kernel
theorem dX2_maySentence_3 : decode cX2_maySentence 3 = .ok (.invokevirtual 47, 3) := by decide +kernel
theorem dX2_maySentence_6 : decode cX2_maySentence 6 = .ok (.iconst 1, 1) := by decide +kernel
theorem dX2_maySentence_7 : decode cX2_maySentence 7 = .ok (.iload_n 1, 1) := by decide +kernel
theorem dX2_maySentence_8 : decode cX2_maySentence 8 = .ok (.ishl, 1) := by decide +kernel
theorem dX2_maySentence_9 : decode cX2_maySentence 9 = .ok (.iconst (-1), 1) := by decide +kernel
theorem dX2_maySentence_10 : decode cX2_maySentence 10 = .ok (.ixor, 1) := by decide +kernel
theorem dX2_maySentence_11 : decode cX2_maySentence 11 = .ok (.iand, 1) := by decide +kernel
theorem dX2_maySentence_12 : decode cX2_maySentence 12 = .ok (.ifCond .eq 7, 3) := by decide +kernel
theorem dX2_maySentence_15 : decode cX2_maySentence 15 = .ok (.iconst 1, 1) := by decide +kernel
theorem dX2_maySentence_16 : decode cX2_maySentence 16 = .ok (.goto 4, 3) := by decide +kernel
theorem dX2_maySentence_19 : decode cX2_maySentence 19 = .ok (.iconst 0, 1) := by decide +kernel
theorem dX2_maySentence_20 : decode cX2_maySentence 20 = .ok (.istore 4, 2) := by decide +kernel
theorem dX2_maySentence_22 : decode cX2_maySentence 22 = .ok (.aload_n 0, 1) := by decide +kernel
theorem dX2_maySentence_23 : decode cX2_maySentence 23 = .ok (.getfield 9, 3) := by decide +kernel
theorem dX2_maySentence_26 : decode cX2_maySentence 26 = .ok (.iload_n 1, 1) := by decide +kernel
theorem dX2_maySentence_27 : decode cX2_maySentence 27 = .ok (.baload, 1) := by decide +kernel
theorem dX2_maySentence_28 : decode cX2_maySentence 28 = .ok (.ifCond .eq 24, 3) := by decide +kernel
theorem dX2_maySentence_31 : decode cX2_maySentence 31 = .ok (.aload_n 2, 1) := by decide +kernel
theorem dX2_maySentence_32 : decode cX2_maySentence 32 = .ok (.aload_n 2, 1) := by decide +kernel
theorem dX2_maySentence_33 : decode cX2_maySentence 33 = .ok (.getfield 69, 3) := by decide +kernel
theorem dX2_maySentence_36 : decode cX2_maySentence 36 = .ok (.iload_n 3, 1) := by decide +kernel
theorem dX2_maySentence_37 : decode cX2_maySentence 37 = .ok (.invokevirtual 72, 3) := by decide +kernel
theorem dX2_maySentence_40 : decode cX2_maySentence 40 = .ok (.ifCond .eq 12, 3) := by decide +kernel
theorem dX2_maySentence_43 : decode cX2_maySentence 43 = .ok (.iload 4, 2) := by decide +kernel
theorem dX2_maySentence_45 : decode cX2_maySentence 45 = .ok (.ifCond .ne 7, 3) := by decide +kernel
theorem dX2_maySentence_48 : decode cX2_maySentence 48 = .ok (.iconst 1, 1) := by decide +kernel
theorem dX2_maySentence_49 : decode cX2_maySentence 49 = .ok (.goto 4, 3) := by decide +kernel
theorem dX2_maySentence_52 : decode cX2_maySentence 52 = .ok (.iconst 0, 1) := by decide +kernel
theorem dX2_maySentence_53 : decode cX2_maySentence 53 = .ok (.ireturn, 1) := by decide +kernel
theorem dX3_init_0 : decode cX3_init 0 = .ok (.aload_n 0, 1) := by decide +kernel
theorem dX3_init_1 : decode cX3_init 1 = .ok (.invokespecial 3, 3) := by decide +kernel
theorem dX3_init_4 : decode cX3_init 4 = .ok (.aload_n 0, 1) := by decide +kernel
theorem dX3_init_5 : decode cX3_init 5 = .ok (.iconst 4, 1) := by decide +kernel
theorem dX3_init_6 : decode cX3_init 6 = .ok (.newarray .int, 2) := by decide +kernel
theorem dX3_init_8 : decode cX3_init 8 = .ok (.putfield 9, 3) := by decide +kernel
theorem dX3_init_11 : decode cX3_init 11 = .ok (.aload_n 0, 1) := by decide +kernel
theorem dX3_init_12 : decode cX3_init 12 = .ok (.iconst 4, 1) := by decide +kernel
theorem dX3_init_13 : decode cX3_init 13 = .ok (.newarray .int, 2) := by decide +kernel
theorem dX3_init_15 : decode cX3_init 15 = .ok (.putfield 15, 3) := by decide +kernel
theorem dX3_init_18 : decode cX3_init 18 = .ok (.aload_n 0, 1) := by decide +kernel
theorem dX3_init_19 : decode cX3_init 19 = .ok (.iconst 0, 1) := by decide +kernel
theorem dX3_init_20 : decode cX3_init 20 = .ok (.putfield 18, 3) := by decide +kernel
theorem dX3_init_23 : decode cX3_init 23 = .ok (.return_, 1) := by decide +kernel
theorem dX3_isFull_0 : decode cX3_isFull 0 = .ok (.aload_n 0, 1) := by decide +kernel
theorem dX3_isFull_1 : decode cX3_isFull 1 = .ok (.getfield 18, 3) := by decide +kernel
theorem dX3_isFull_4 : decode cX3_isFull 4 = .ok (.iconst 4, 1) := by decide +kernel
theorem dX3_isFull_5 : decode cX3_isFull 5 = .ok (.if_icmp .lt 7, 3) := by decide +kernel
theorem dX3_isFull_8 : decode cX3_isFull 8 = .ok (.iconst 1, 1) := by decide +kernel
theorem dX3_isFull_9 : decode cX3_isFull 9 = .ok (.goto 4, 3) := by decide +kernel
theorem dX3_isFull_12 : decode cX3_isFull 12 = .ok (.iconst 0, 1) := by decide +kernel
theorem dX3_isFull_13 : decode cX3_isFull 13 = .ok (.ireturn, 1) := by decide +kernel
theorem dX3_add_0 : decode cX3_add 0 = .ok (.aload_n 0, 1) := by decide +kernel
theorem dX3_add_1 : decode cX3_add 1 = .ok (.getfield 9, 3) := by decide +kernel
theorem dX3_add_4 : decode cX3_add 4 = .ok (.aload_n 0, 1) := by decide +kernel
theorem dX3_add_5 : decode cX3_add 5 = .ok (.getfield 18, 3) := by decide +kernel
theorem dX3_add_8 : decode cX3_add 8 = .ok (.iload_n 1, 1) := by decide +kernel
theorem dX3_add_9 : decode cX3_add 9 = .ok (.iastore, 1) := by decide +kernel
theorem dX3_add_10 : decode cX3_add 10 = .ok (.aload_n 0, 1) := by decide +kernel
theorem dX3_add_11 : decode cX3_add 11 = .ok (.getfield 15, 3) := by decide +kernel
theorem dX3_add_14 : decode cX3_add 14 = .ok (.aload_n 0, 1) := by decide +kernel
theorem dX3_add_15 : decode cX3_add 15 = .ok (.getfield 18, 3) := by decide +kernel
theorem dX3_add_18 : decode cX3_add 18 = .ok (.iload_n 2, 1) := by decide +kernel
theorem dX3_add_19 : decode cX3_add 19 = .ok (.iastore, 1) := by decide +kernel
theorem dX3_add_20 : decode cX3_add 20 = .ok (.aload_n 0, 1) := by decide +kernel
theorem dX3_add_21 : decode cX3_add 21 = .ok (.dup, 1) := by decide +kernel
theorem dX3_add_22 : decode cX3_add 22 = .ok (.getfield 18, 3) := by decide +kernel
theorem dX3_add_25 : decode cX3_add 25 = .ok (.iconst 1, 1) := by decide +kernel
theorem dX3_add_26 : decode cX3_add 26 = .ok (.iadd, 1) := by decide +kernel
theorem dX3_add_27 : decode cX3_add 27 = .ok (.putfield 18, 3) := by decide +kernel
theorem dX3_add_30 : decode cX3_add 30 = .ok (.aload_n 0, 1) := by decide +kernel
theorem dX3_add_31 : decode cX3_add 31 = .ok (.getfield 18, 3) := by decide +kernel
theorem dX3_add_34 : decode cX3_add 34 = .ok (.ireturn, 1) := by decide +kernel
theorem dX3_clear_0 : decode cX3_clear 0 = .ok (.aload_n 0, 1) := by decide +kernel
theorem dX3_clear_1 : decode cX3_clear 1 = .ok (.getfield 18, 3) := by decide +kernel
theorem dX3_clear_4 : decode cX3_clear 4 = .ok (.istore_n 1, 1) := by decide +kernel
theorem dX3_clear_5 : decode cX3_clear 5 = .ok (.aload_n 0, 1) := by decide +kernel
theorem dX3_clear_6 : decode cX3_clear 6 = .ok (.iconst 0, 1) := by decide +kernel
theorem dX3_clear_7 : decode cX3_clear 7 = .ok (.putfield 18, 3) := by decide +kernel
theorem dX3_clear_10 : decode cX3_clear 10 = .ok (.iload_n 1, 1) := by decide +kernel
theorem dX3_clear_11 : decode cX3_clear 11 = .ok (.ireturn, 1) := by decide +kernel
theorem dX3_isBalanced_0 : decode cX3_isBalanced 0 = .ok (.iconst 0, 1) := by decide +kernel
theorem dX3_isBalanced_1 : decode cX3_isBalanced 1 = .ok (.istore_n 1, 1) := by decide +kernel
theorem dX3_isBalanced_2 : decode cX3_isBalanced 2 = .ok (.iconst 0, 1) := by decide +kernel
theorem dX3_isBalanced_3 : decode cX3_isBalanced 3 = .ok (.istore_n 2, 1) := by decide +kernel
theorem dX3_isBalanced_4 : decode cX3_isBalanced 4 = .ok (.iload_n 2, 1) := by decide +kernel
theorem dX3_isBalanced_5 : decode cX3_isBalanced 5 = .ok (.aload_n 0, 1) := by decide +kernel
theorem dX3_isBalanced_6 : decode cX3_isBalanced 6 = .ok (.getfield 18, 3) := by decide +kernel
theorem dX3_isBalanced_9 : decode cX3_isBalanced 9 = .ok (.if_icmp .ge 18, 3) := by decide +kernel
theorem dX3_isBalanced_12 : decode cX3_isBalanced 12 = .ok (.iload_n 1, 1) := by decide +kernel
theorem dX3_isBalanced_13 : decode cX3_isBalanced 13 = .ok (.aload_n 0, 1) := by decide +kernel
theorem dX3_isBalanced_14 : decode cX3_isBalanced 14 = .ok (.getfield 15, 3) := by decide +kernel
theorem dX3_isBalanced_17 : decode cX3_isBalanced 17 = .ok (.iload_n 2, 1) := by decide +kernel
theorem dX3_isBalanced_18 : decode cX3_isBalanced 18 = .ok (.iaload, 1) := by decide +kernel
theorem dX3_isBalanced_19 : decode cX3_isBalanced 19 = .ok (.iadd, 1) := by decide +kernel
theorem dX3_isBalanced_20 : decode cX3_isBalanced 20 = .ok (.istore_n 1, 1) := by decide +kernel
theorem dX3_isBalanced_21 : decode cX3_isBalanced 21 = .ok (.iinc 2 1, 3) := by decide +kernel
theorem dX3_isBalanced_24 : decode cX3_isBalanced 24 = .ok (.goto (-20), 3) := by decide +kernel
theorem dX3_isBalanced_27 : decode cX3_isBalanced 27 = .ok (.aload_n 0, 1) := by decide +kernel
theorem dX3_isBalanced_28 : decode cX3_isBalanced 28 = .ok (.getfield 18, 3) := by decide +kernel
theorem dX3_isBalanced_31 : decode cX3_isBalanced 31 = .ok (.iconst 2, 1) := by decide +kernel
theorem dX3_isBalanced_32 : decode cX3_isBalanced 32 = .ok (.if_icmp .lt 11, 3) := by decide +kernel
theorem dX3_isBalanced_35 : decode cX3_isBalanced 35 = .ok (.iload_n 1, 1) := by decide +kernel
theorem dX3_isBalanced_36 : decode cX3_isBalanced 36 = .ok (.ifCond .ne 7, 3) := by decide +kernel
theorem dX3_isBalanced_39 : decode cX3_isBalanced 39 = .ok (.iconst 1, 1) := by decide +kernel
theorem dX3_isBalanced_40 : decode cX3_isBalanced 40 = .ok (.goto 4, 3) := by decide +kernel
theorem dX3_isBalanced_43 : decode cX3_isBalanced 43 = .ok (.iconst 0, 1) := by decide +kernel
theorem dX3_isBalanced_44 : decode cX3_isBalanced 44 = .ok (.ireturn, 1) := by decide +kernel
set_option maxRecDepth 20000 in
theorem ggX3_markWith_X3_nextMark : GoodIn wsX3_markWith wsX3_nextMark := goodIn_r _ [7, 8] (by decide +kernel) (by decide +kernel)
set_option maxRecDepth 20000 in
theorem gX3_markWith_X3_nextMark : GoodIn wsX3_markWith (va_wsS RX3 22 yX3_nextMark wsX3_nextMark) := goodIn_app (goodIn_of _ (by decide +kernel)) ggX3_markWith_X3_nextMark
theorem dX3_markWith_0 : decode cX3_markWith 0 = .ok (.iconst 1, 1) := by decide +kernel
theorem dX3_markWith_1 : decode cX3_markWith 1 = .ok (.iload_n 1, 1) := by decide +kernel
theorem dX3_markWith_2 : decode cX3_markWith 2 = .ok (.invokestatic 22, 3) := by decide +kernel
theorem dX3_markWith_5 : decode cX3_markWith 5 = .ok (.iload_n 2, 1) := by decide +kernel
theorem dX3_markWith_6 : decode cX3_markWith 6 = .ok (.invokestatic 22, 3) := by decide +kernel
theorem dX3_markWith_9 : decode cX3_markWith 9 = .ok (.istore_n 3, 1) := by decide +kernel
theorem dX3_markWith_10 : decode cX3_markWith 10 = .ok (.iconst 0, 1) := by decide +kernel
theorem dX3_markWith_11 : decode cX3_markWith 11 = .ok (.istore 4, 2) := by decide +kernel
theorem dX3_markWith_13 : decode cX3_markWith 13 = .ok (.iload 4, 2) := by decide +kernel
theorem dX3_markWith_15 : decode cX3_markWith 15 = .ok (.aload_n 0, 1) := by decide +kernel
theorem dX3_markWith_16 : decode cX3_markWith 16 = .ok (.getfield 18, 3) := by decide +kernel
theorem dX3_markWith_19 : decode cX3_markWith 19 = .ok (.if_icmp .ge 37, 3) := by decide +kernel
theorem dX3_markWith_22 : decode cX3_markWith 22 = .ok (.iload_n 3, 1) := by decide +kernel
theorem dX3_markWith_23 : decode cX3_markWith 23 = .ok (.aload_n 0, 1) := by decide +kernel
theorem dX3_markWith_24 : decode cX3_markWith 24 = .ok (.getfield 9, 3) := by decide +kernel
theorem dX3_markWith_27 : decode cX3_markWith 27 = .ok (.iload 4, 2) := by decide +kernel
theorem dX3_markWith_29 : decode cX3_markWith 29 = .ok (.iaload, 1) := by decide +kernel
theorem dX3_markWith_30 : decode cX3_markWith 30 = .ok (.invokestatic 22, 3) := by decide +kernel
theorem dX3_markWith_33 : decode cX3_markWith 33 = .ok (.istore_n 3, 1) := by decide +kernel
theorem dX3_markWith_34 : decode cX3_markWith 34 = .ok (.iload_n 3, 1) := by decide +kernel
theorem dX3_markWith_35 : decode cX3_markWith 35 = .ok (.aload_n 0, 1) := by decide +kernel
theorem dX3_markWith_36 : decode cX3_markWith 36 = .ok (.getfield 15, 3) := by decide +kernel
theorem dX3_markWith_39 : decode cX3_markWith 39 = .ok (.iload 4, 2) := by decide +kernel
theorem dX3_markWith_41 : decode cX3_markWith 41 = .ok (.iaload, 1) := by decide +kernel
theorem dX3_markWith_42 : decode cX3_markWith 42 = .ok (.sipush 10000, 3) := by decide +kernel
theorem dX3_markWith_45 : decode cX3_markWith 45 = .ok (.iadd, 1) := by decide +kernel
theorem dX3_markWith_46 : decode cX3_markWith 46 = .ok (.invokestatic 22, 3) := by decide +kernel
theorem dX3_markWith_49 : decode cX3_markWith 49 = .ok (.istore_n 3, 1) := by decide +kernel
theorem dX3_markWith_50 : decode cX3_markWith 50 = .ok (.iinc 4 1, 3) := by decide +kernel
theorem dX3_markWith_53 : decode cX3_markWith 53 = .ok (.goto (-40), 3) := by decide +kernel
theorem dX3_markWith_56 : decode cX3_markWith 56 = .ok (.iload_n 3, 1) := by decide +kernel
theorem dX3_markWith_57 : decode cX3_markWith 57 = .ok (.ireturn, 1) := by decide +kernel
theorem dX3_nextMark_0 : decode cX3_nextMark 0 = .ok (.sipush 131, 3) := by decide +kernel
theorem dX3_nextMark_3 : decode cX3_nextMark 3 = .ok (.iload_n 0, 1) := by decide +kernel
theorem dX3_nextMark_4 : decode cX3_nextMark 4 = .ok (.imul, 1) := by decide +kernel
theorem dX3_nextMark_5 : decode cX3_nextMark 5 = .ok (.bipush 17, 2) := by decide +kernel
theorem dX3_nextMark_7 : decode cX3_nextMark 7 = .ok (.iload_n 1, 1) := by decide +kernel
theorem dX3_nextMark_8 : decode cX3_nextMark 8 = .ok (.imul, 1) := by decide +kernel
theorem dX3_nextMark_9 : decode cX3_nextMark 9 = .ok (.iadd, 1) := by decide +kernel
theorem dX3_nextMark_10 : decode cX3_nextMark 10 = .ok (.bipush 7, 2) := by decide +kernel
theorem dX3_nextMark_12 : decode cX3_nextMark 12 = .ok (.iadd, 1) := by decide +kernel
theorem dX3_nextMark_13 : decode cX3_nextMark 13 = .ok (.ldc 26, 2) := by decide +kernel
theorem dX3_nextMark_15 : decode cX3_nextMark 15 = .ok (.irem, 1) := by decide +kernel
theorem dX3_nextMark_16 : decode cX3_nextMark 16 = .ok (.ireturn, 1) := by decide +kernel
theorem dX4_init_0 : decode cX4_init 0 = .ok (.aload_n 0, 1) := by decide +kernel
theorem dX4_init_1 : decode cX4_init 1 = .ok (.invokespecial 3, 3) := by decide +kernel
theorem dX4_init_4 : decode cX4_init 4 = .ok (.aload_n 0, 1) := by decide +kernel
theorem dX4_init_5 : decode cX4_init 5 = .ok (.bipush 80, 2) := by decide +kernel
theorem dX4_init_7 : decode cX4_init 7 = .ok (.newarray .boolean, 2) := by decide +kernel
theorem dX4_init_9 : decode cX4_init 9 = .ok (.putfield 9, 3) := by decide +kernel
theorem dX4_init_12 : decode cX4_init 12 = .ok (.aload_n 0, 1) := by decide +kernel
theorem dX4_init_13 : decode cX4_init 13 = .ok (.sipush 320, 3) := by decide +kernel
theorem dX4_init_16 : decode cX4_init 16 = .ok (.newarray .int, 2) := by decide +kernel
theorem dX4_init_18 : decode cX4_init 18 = .ok (.putfield 15, 3) := by decide +kernel
theorem dX4_init_21 : decode cX4_init 21 = .ok (.return_, 1) := by decide +kernel
theorem dX4_isFilled_0 : decode cX4_isFilled 0 = .ok (.aload_n 0, 1) := by decide +kernel
theorem dX4_isFilled_1 : decode cX4_isFilled 1 = .ok (.getfield 9, 3) := by decide +kernel
theorem dX4_isFilled_4 : decode cX4_isFilled 4 = .ok (.iload_n 1, 1) := by decide +kernel
theorem dX4_isFilled_5 : decode cX4_isFilled 5 = .ok (.baload, 1) := by decide +kernel
theorem dX4_isFilled_6 : decode cX4_isFilled 6 = .ok (.ireturn, 1) := by decide +kernel
theorem dX4_amountOf_0 : decode cX4_amountOf 0 = .ok (.aload_n 0, 1) := by decide +kernel
theorem dX4_amountOf_1 : decode cX4_amountOf 1 = .ok (.getfield 15, 3) := by decide +kernel
theorem dX4_amountOf_4 : decode cX4_amountOf 4 = .ok (.iload_n 1, 1) := by decide +kernel
theorem dX4_amountOf_5 : decode cX4_amountOf 5 = .ok (.iconst 4, 1) := by decide +kernel
theorem dX4_amountOf_6 : decode cX4_amountOf 6 = .ok (.imul, 1) := by decide +kernel
theorem dX4_amountOf_7 : decode cX4_amountOf 7 = .ok (.iload_n 2, 1) := by decide +kernel
theorem dX4_amountOf_8 : decode cX4_amountOf 8 = .ok (.iadd, 1) := by decide +kernel
theorem dX4_amountOf_9 : decode cX4_amountOf 9 = .ok (.iaload, 1) := by decide +kernel
theorem dX4_amountOf_10 : decode cX4_amountOf 10 = .ok (.ireturn, 1) := by decide +kernel
theorem dX4_fill_0 : decode cX4_fill 0 = .ok (.aload_n 0, 1) := by decide +kernel
theorem dX4_fill_1 : decode cX4_fill 1 = .ok (.getfield 9, 3) := by decide +kernel
theorem dX4_fill_4 : decode cX4_fill 4 = .ok (.iload_n 1, 1) := by decide +kernel
theorem dX4_fill_5 : decode cX4_fill 5 = .ok (.iconst 1, 1) := by decide +kernel
theorem dX4_fill_6 : decode cX4_fill 6 = .ok (.bastore, 1) := by decide +kernel
theorem dX4_fill_7 : decode cX4_fill 7 = .ok (.iconst 0, 1) := by decide +kernel
theorem dX4_fill_8 : decode cX4_fill 8 = .ok (.istore_n 3, 1) := by decide +kernel
theorem dX4_fill_9 : decode cX4_fill 9 = .ok (.iload_n 3, 1) := by decide +kernel
theorem dX4_fill_10 : decode cX4_fill 10 = .ok (.aload_n 2, 1) := by decide +kernel
theorem dX4_fill_11 : decode cX4_fill 11 = .ok (.getfield 19, 3) := by decide +kernel
theorem dX4_fill_14 : decode cX4_fill 14 = .ok (.if_icmp .ge 25, 3) := by decide +kernel
theorem dX4_fill_17 : decode cX4_fill 17 = .ok (.aload_n 0, 1) := by decide +kernel
theorem dX4_fill_18 : decode cX4_fill 18 = .ok (.getfield 15, 3) := by decide +kernel
theorem dX4_fill_21 : decode cX4_fill 21 = .ok (.iload_n 1, 1) := by decide +kernel
theorem dX4_fill_22 : decode cX4_fill 22 = .ok (.iconst 4, 1) := by decide +kernel
theorem dX4_fill_23 : decode cX4_fill 23 = .ok (.imul, 1) := by decide +kernel
theorem dX4_fill_24 : decode cX4_fill 24 = .ok (.iload_n 3, 1) := by decide +kernel
theorem dX4_fill_25 : decode cX4_fill 25 = .ok (.iadd, 1) := by decide +kernel
theorem dX4_fill_26 : decode cX4_fill 26 = .ok (.aload_n 2, 1) := by decide +kernel
theorem dX4_fill_27 : decode cX4_fill 27 = .ok (.getfield 25, 3) := by decide +kernel
theorem dX4_fill_30 : decode cX4_fill 30 = .ok (.iload_n 3, 1) := by decide +kernel
theorem dX4_fill_31 : decode cX4_fill 31 = .ok (.iaload, 1) := by decide +kernel
theorem dX4_fill_32 : decode cX4_fill 32 = .ok (.iastore, 1) := by decide +kernel
theorem dX4_fill_33 : decode cX4_fill 33 = .ok (.iinc 3 1, 3) := by decide +kernel
theorem dX4_fill_36 : decode cX4_fill 36 = .ok (.goto (-27), 3) := by decide +kernel
theorem dX4_fill_39 : decode cX4_fill 39 = .ok (.return_, 1) := by decide +kernel
theorem dX4_replace_0 : decode cX4_replace 0 = .ok (.aload_n 0, 1) := by decide +kernel
theorem dX4_replace_1 : decode cX4_replace 1 = .ok (.getfield 15, 3) := by decide +kernel
theorem dX4_replace_4 : decode cX4_replace 4 = .ok (.iload_n 1, 1) := by decide +kernel
theorem dX4_replace_5 : decode cX4_replace 5 = .ok (.iconst 4, 1) := by decide +kernel
theorem dX4_replace_6 : decode cX4_replace 6 = .ok (.imul, 1) := by decide +kernel
theorem dX4_replace_7 : decode cX4_replace 7 = .ok (.iload_n 2, 1) := by decide +kernel
theorem dX4_replace_8 : decode cX4_replace 8 = .ok (.iadd, 1) := by decide +kernel
theorem dX4_replace_9 : decode cX4_replace 9 = .ok (.iaload, 1) := by decide +kernel
theorem dX4_replace_10 : decode cX4_replace 10 = .ok (.istore 4, 2) := by decide +kernel
theorem dX4_replace_12 : decode cX4_replace 12 = .ok (.aload_n 0, 1) := by decide +kernel
theorem dX4_replace_13 : decode cX4_replace 13 = .ok (.getfield 15, 3) := by decide +kernel
theorem dX4_replace_16 : decode cX4_replace 16 = .ok (.iload_n 1, 1) := by decide +kernel
theorem dX4_replace_17 : decode cX4_replace 17 = .ok (.iconst 4, 1) := by decide +kernel
theorem dX4_replace_18 : decode cX4_replace 18 = .ok (.imul, 1) := by decide +kernel
theorem dX4_replace_19 : decode cX4_replace 19 = .ok (.iload_n 2, 1) := by decide +kernel
theorem dX4_replace_20 : decode cX4_replace 20 = .ok (.iadd, 1) := by decide +kernel
theorem dX4_replace_21 : decode cX4_replace 21 = .ok (.iload_n 3, 1) := by decide +kernel
theorem dX4_replace_22 : decode cX4_replace 22 = .ok (.iastore, 1) := by decide +kernel
theorem dX4_replace_23 : decode cX4_replace 23 = .ok (.iload 4, 2) := by decide +kernel
theorem dX4_replace_25 : decode cX4_replace 25 = .ok (.ireturn, 1) := by decide +kernel
theorem dX4_take_0 : decode cX4_take 0 = .ok (.aload_n 0, 1) := by decide +kernel
theorem dX4_take_1 : decode cX4_take 1 = .ok (.getfield 9, 3) := by decide +kernel
theorem dX4_take_4 : decode cX4_take 4 = .ok (.iload_n 2, 1) := by decide +kernel
theorem dX4_take_5 : decode cX4_take 5 = .ok (.aload_n 1, 1) := by decide +kernel
theorem dX4_take_6 : decode cX4_take 6 = .ok (.getfield 9, 3) := by decide +kernel
theorem dX4_take_9 : decode cX4_take 9 = .ok (.iload_n 2, 1) := by decide +kernel
theorem dX4_take_10 : decode cX4_take 10 = .ok (.baload, 1) := by decide +kernel
theorem dX4_take_11 : decode cX4_take 11 = .ok (.bastore, 1) := by decide +kernel
theorem dX4_take_12 : decode cX4_take 12 = .ok (.iconst 0, 1) := by decide +kernel
theorem dX4_take_13 : decode cX4_take 13 = .ok (.istore_n 3, 1) := by decide +kernel
theorem dX4_take_14 : decode cX4_take 14 = .ok (.iload_n 3, 1) := by decide +kernel
theorem dX4_take_15 : decode cX4_take 15 = .ok (.iconst 4, 1) := by decide +kernel
theorem dX4_take_16 : decode cX4_take 16 = .ok (.if_icmp .ge 29, 3) := by decide +kernel
theorem dX4_take_19 : decode cX4_take 19 = .ok (.aload_n 0, 1) := by decide +kernel
theorem dX4_take_20 : decode cX4_take 20 = .ok (.getfield 15, 3) := by decide +kernel
theorem dX4_take_23 : decode cX4_take 23 = .ok (.iload_n 2, 1) := by decide +kernel
theorem dX4_take_24 : decode cX4_take 24 = .ok (.iconst 4, 1) := by decide +kernel
theorem dX4_take_25 : decode cX4_take 25 = .ok (.imul, 1) := by decide +kernel
theorem dX4_take_26 : decode cX4_take 26 = .ok (.iload_n 3, 1) := by decide +kernel
theorem dX4_take_27 : decode cX4_take 27 = .ok (.iadd, 1) := by decide +kernel
theorem dX4_take_28 : decode cX4_take 28 = .ok (.aload_n 1, 1) := by decide +kernel
theorem dX4_take_29 : decode cX4_take 29 = .ok (.getfield 15, 3) := by decide +kernel
theorem dX4_take_32 : decode cX4_take 32 = .ok (.iload_n 2, 1) := by decide +kernel
theorem dX4_take_33 : decode cX4_take 33 = .ok (.iconst 4, 1) := by decide +kernel
theorem dX4_take_34 : decode cX4_take 34 = .ok (.imul, 1) := by decide +kernel
theorem dX4_take_35 : decode cX4_take 35 = .ok (.iload_n 3, 1) := by decide +kernel
theorem dX4_take_36 : decode cX4_take 36 = .ok (.iadd, 1) := by decide +kernel
theorem dX4_take_37 : decode cX4_take 37 = .ok (.iaload, 1) := by decide +kernel
theorem dX4_take_38 : decode cX4_take 38 = .ok (.iastore, 1) := by decide +kernel
theorem dX4_take_39 : decode cX4_take 39 = .ok (.iinc 3 1, 3) := by decide +kernel
theorem dX4_take_42 : decode cX4_take 42 = .ok (.goto (-28), 3) := by decide +kernel
theorem dX4_take_45 : decode cX4_take 45 = .ok (.return_, 1) := by decide +kernel
theorem dX4_blank_0 : decode cX4_blank 0 = .ok (.aload_n 0, 1) := by decide +kernel
theorem dX4_blank_1 : decode cX4_blank 1 = .ok (.getfield 9, 3) := by decide +kernel
theorem dX4_blank_4 : decode cX4_blank 4 = .ok (.iload_n 1, 1) := by decide +kernel
theorem dX4_blank_5 : decode cX4_blank 5 = .ok (.baload, 1) := by decide +kernel
theorem dX4_blank_6 : decode cX4_blank 6 = .ok (.istore_n 2, 1) := by decide +kernel
theorem dX4_blank_7 : decode cX4_blank 7 = .ok (.aload_n 0, 1) := by decide +kernel
theorem dX4_blank_8 : decode cX4_blank 8 = .ok (.getfield 9, 3) := by decide +kernel
theorem dX4_blank_11 : decode cX4_blank 11 = .ok (.iload_n 1, 1) := by decide +kernel
theorem dX4_blank_12 : decode cX4_blank 12 = .ok (.iconst 0, 1) := by decide +kernel
theorem dX4_blank_13 : decode cX4_blank 13 = .ok (.bastore, 1) := by decide +kernel
theorem dX4_blank_14 : decode cX4_blank 14 = .ok (.iconst 0, 1) := by decide +kernel
theorem dX4_blank_15 : decode cX4_blank 15 = .ok (.istore_n 3, 1) := by decide +kernel
theorem dX4_blank_16 : decode cX4_blank 16 = .ok (.iload_n 3, 1) := by decide +kernel
theorem dX4_blank_17 : decode cX4_blank 17 = .ok (.iconst 4, 1) := by decide +kernel
theorem dX4_blank_18 : decode cX4_blank 18 = .ok (.if_icmp .ge 20, 3) := by decide +kernel
theorem dX4_blank_21 : decode cX4_blank 21 = .ok (.aload_n 0, 1) := by decide +kernel
theorem dX4_blank_22 : decode cX4_blank 22 = .ok (.getfield 15, 3) := by decide +kernel
theorem dX4_blank_25 : decode cX4_blank 25 = .ok (.iload_n 1, 1) := by decide +kernel
theorem dX4_blank_26 : decode cX4_blank 26 = .ok (.iconst 4, 1) := by decide +kernel
theorem dX4_blank_27 : decode cX4_blank 27 = .ok (.imul, 1) := by decide +kernel
theorem dX4_blank_28 : decode cX4_blank 28 = .ok (.iload_n 3, 1) := by decide +kernel
theorem dX4_blank_29 : decode cX4_blank 29 = .ok (.iadd, 1) := by decide +kernel
theorem dX4_blank_30 : decode cX4_blank 30 = .ok (.iconst 0, 1) := by decide +kernel
theorem dX4_blank_31 : decode cX4_blank 31 = .ok (.iastore, 1) := by decide +kernel
theorem dX4_blank_32 : decode cX4_blank 32 = .ok (.iinc 3 1, 3) := by decide +kernel
theorem dX4_blank_35 : decode cX4_blank 35 = .ok (.goto (-19), 3) := by decide +kernel
theorem dX4_blank_38 : decode cX4_blank 38 = .ok (.iload_n 2, 1) := by decide +kernel
theorem dX4_blank_39 : decode cX4_blank 39 = .ok (.ireturn, 1) := by decide +kernel
set_option maxRecDepth 20000 in
theorem ggX4_isLike_X4_amountOf : GoodIn wsX4_isLike wsX4_amountOf := goodIn_r _ [6, 7, 8, 9] (by decide +kernel) (by decide +kernel)
set_option maxRecDepth 20000 in
theorem gX4_isLike_X4_amountOf : GoodIn wsX4_isLike (wsV RX4 26 RX4 yX4_amountOf wsX4_amountOf) := goodIn_app (goodIn_of _ (by decide +kernel)) ggX4_isLike_X4_amountOf
theorem dX4_isLike_0 : decode cX4_isLike 0 = .ok (.aload_n 0, 1) := by decide +kernel
theorem dX4_isLike_1 : decode cX4_isLike 1 = .ok (.getfield 9, 3) := by decide +kernel
theorem dX4_isLike_4 : decode cX4_isLike 4 = .ok (.iload_n 2, 1) := by decide +kernel
theorem dX4_isLike_5 : decode cX4_isLike 5 = .ok (.baload, 1) := by decide +kernel
theorem dX4_isLike_6 : decode cX4_isLike 6 = .ok (.aload_n 1, 1) := by decide +kernel
theorem dX4_isLike_7 : decode cX4_isLike 7 = .ok (.getfield 9, 3) := by decide +kernel
theorem dX4_isLike_10 : decode cX4_isLike 10 = .ok (.iload_n 2, 1) := by decide +kernel
theorem dX4_isLike_11 : decode cX4_isLike 11 = .ok (.baload, 1) := by decide +kernel
theorem dX4_isLike_12 : decode cX4_isLike 12 = .ok (.if_icmp .eq 5, 3) := by decide +kernel
theorem dX4_isLike_15 : decode cX4_isLike 15 = .ok (.iconst 0, 1) := by decide +kernel
theorem dX4_isLike_16 : decode cX4_isLike 16 = .ok (.ireturn, 1) := by decide +kernel
theorem dX4_isLike_17 : decode cX4_isLike 17 = .ok (.iconst 0, 1) := by decide +kernel
theorem dX4_isLike_18 : decode cX4_isLike 18 = .ok (.istore_n 3, 1) := by decide +kernel
theorem dX4_isLike_19 : decode cX4_isLike 19 = .ok (.iload_n 3, 1) := by decide +kernel
theorem dX4_isLike_20 : decode cX4_isLike 20 = .ok (.iconst 4, 1) := by decide +kernel
theorem dX4_isLike_21 : decode cX4_isLike 21 = .ok (.if_icmp .ge 26, 3) := by decide +kernel
theorem dX4_isLike_24 : decode cX4_isLike 24 = .ok (.aload_n 0, 1) := by decide +kernel
theorem dX4_isLike_25 : decode cX4_isLike 25 = .ok (.iload_n 2, 1) := by decide +kernel
theorem dX4_isLike_26 : decode cX4_isLike 26 = .ok (.iload_n 3, 1) := by decide +kernel
theorem dX4_isLike_27 : decode cX4_isLike 27 = .ok (.invokevirtual 26, 3) := by decide +kernel
theorem dX4_isLike_30 : decode cX4_isLike 30 = .ok (.aload_n 1, 1) := by decide +kernel
theorem dX4_isLike_31 : decode cX4_isLike 31 = .ok (.iload_n 2, 1) := by decide +kernel
theorem dX4_isLike_32 : decode cX4_isLike 32 = .ok (.iload_n 3, 1) := by decide +kernel
theorem dX4_isLike_33 : decode cX4_isLike 33 = .ok (.invokevirtual 26, 3) := by decide +kernel
theorem dX4_isLike_36 : decode cX4_isLike 36 = .ok (.if_icmp .eq 5, 3) := by decide +kernel
theorem dX4_isLike_39 : decode cX4_isLike 39 = .ok (.iconst 0, 1) := by decide +kernel
theorem dX4_isLike_40 : decode cX4_isLike 40 = .ok (.ireturn, 1) := by decide +kernel
theorem dX4_isLike_41 : decode cX4_isLike 41 = .ok (.iinc 3 1, 3) := by decide +kernel
theorem dX4_isLike_44 : decode cX4_isLike 44 = .ok (.goto (-25), 3) := by decide +kernel
theorem dX4_isLike_47 : decode cX4_isLike 47 = .ok (.iconst 1, 1) := by decide +kernel
theorem dX4_isLike_48 : decode cX4_isLike 48 = .ok (.ireturn, 1) := by decide +kernel
theorem dX5_init_0 : decode cX5_init 0 = .ok (.aload_n 0, 1) := by decide +kernel
theorem dX5_init_1 : decode cX5_init 1 = .ok (.invokespecial 3, 3) := by decide +kernel
theorem dX5_init_4 : decode cX5_init 4 = .ok (.aload_n 0, 1) := by decide +kernel
theorem dX5_init_5 : decode cX5_init 5 = .ok (.bipush 16, 2) := by decide +kernel
theorem dX5_init_7 : decode cX5_init 7 = .ok (.anewarray 9, 3) := by decide +kernel
theorem dX5_init_10 : decode cX5_init 10 = .ok (.putfield 11, 3) := by decide +kernel
theorem dX5_init_13 : decode cX5_init 13 = .ok (.aload_n 0, 1) := by decide +kernel
theorem dX5_init_14 : decode cX5_init 14 = .ok (.iconst 0, 1) := by decide +kernel
theorem dX5_init_15 : decode cX5_init 15 = .ok (.putfield 17, 3) := by decide +kernel
theorem dX5_init_18 : decode cX5_init 18 = .ok (.return_, 1) := by decide +kernel
theorem dX5_isFull_0 : decode cX5_isFull 0 = .ok (.aload_n 0, 1) := by decide +kernel
theorem dX5_isFull_1 : decode cX5_isFull 1 = .ok (.getfield 17, 3) := by decide +kernel
theorem dX5_isFull_4 : decode cX5_isFull 4 = .ok (.bipush 16, 2) := by decide +kernel
theorem dX5_isFull_6 : decode cX5_isFull 6 = .ok (.if_icmp .lt 7, 3) := by decide +kernel
theorem dX5_isFull_9 : decode cX5_isFull 9 = .ok (.iconst 1, 1) := by decide +kernel
theorem dX5_isFull_10 : decode cX5_isFull 10 = .ok (.goto 4, 3) := by decide +kernel
theorem dX5_isFull_13 : decode cX5_isFull 13 = .ok (.iconst 0, 1) := by decide +kernel
theorem dX5_isFull_14 : decode cX5_isFull 14 = .ok (.ireturn, 1) := by decide +kernel
theorem dX5_find_0 : decode cX5_find 0 = .ok (.iload_n 1, 1) := by decide +kernel
theorem dX5_find_1 : decode cX5_find 1 = .ok (.ifCond .lt 20, 3) := by decide +kernel
theorem dX5_find_4 : decode cX5_find 4 = .ok (.iload_n 1, 1) := by decide +kernel
theorem dX5_find_5 : decode cX5_find 5 = .ok (.aload_n 0, 1) := by decide +kernel
theorem dX5_find_6 : decode cX5_find 6 = .ok (.getfield 17, 3) := by decide +kernel
theorem dX5_find_9 : decode cX5_find 9 = .ok (.if_icmp .ge 12, 3) := by decide +kernel
theorem dX5_find_12 : decode cX5_find 12 = .ok (.aload_n 0, 1) := by decide +kernel
theorem dX5_find_13 : decode cX5_find 13 = .ok (.getfield 11, 3) := by decide +kernel
theorem dX5_find_16 : decode cX5_find 16 = .ok (.iload_n 1, 1) := by decide +kernel
theorem dX5_find_17 : decode cX5_find 17 = .ok (.aaload, 1) := by decide +kernel
theorem dX5_find_18 : decode cX5_find 18 = .ok (.goto 4, 3) := by decide +kernel
theorem dX5_find_21 : decode cX5_find 21 = .ok (.aconst_null, 1) := by decide +kernel
theorem dX5_find_22 : decode cX5_find 22 = .ok (.areturn, 1) := by decide +kernel
set_option maxRecDepth 20000 in
theorem ggX5_make_X1_init : GoodIn wsX5_make wsX1_init := goodIn_r _ [13, 14, 15, 16, 17, 18, 19, 20, 21, 22, 23, 24, 25, 26, 27, 28, 29, 30, 31, 54, 55, 36, 37, 38, 39, 40] (by decide +kernel) (by decide +kernel)
set_option maxRecDepth 20000 in
theorem gX5_make_X1_init : GoodIn wsX5_make (wsX1_init) := ggX5_make_X1_init
set_option maxRecDepth 20000 in
theorem ggX5_make_X4_take : GoodIn wsX5_make wsX4_take := goodIn_r _ [35, 29, 31, 54, 55] (by decide +kernel) (by decide +kernel)
set_option maxRecDepth 20000 in
theorem gX5_make_X4_take : GoodIn wsX5_make (wsV RX5 42 RX4 yX4_take wsX4_take) := goodIn_app (goodIn_of _ (by decide +kernel)) ggX5_make_X4_take
theorem dX5_make_0 : decode cX5_make 0 = .ok (.new 9, 3) := by decide +kernel
theorem dX5_make_3 : decode cX5_make 3 = .ok (.dup, 1) := by decide +kernel
theorem dX5_make_4 : decode cX5_make 4 = .ok (.aload_n 1, 1) := by decide +kernel
theorem dX5_make_5 : decode cX5_make 5 = .ok (.aload_n 1, 1) := by decide +kernel
theorem dX5_make_6 : decode cX5_make 6 = .ok (.ifnonnull 7, 3) := by decide +kernel
theorem dX5_make_9 : decode cX5_make 9 = .ok (.iconst 0, 1) := by decide +kernel
theorem dX5_make_10 : decode cX5_make 10 = .ok (.goto 7, 3) := by decide +kernel
theorem dX5_make_13 : decode cX5_make 13 = .ok (.aload_n 1, 1) := by decide +kernel
theorem dX5_make_14 : decode cX5_make 14 = .ok (.getfield 21, 3) := by decide +kernel
theorem dX5_make_17 : decode cX5_make 17 = .ok (.aload_n 2, 1) := by decide +kernel
theorem dX5_make_18 : decode cX5_make 18 = .ok (.getfield 24, 3) := by decide +kernel
theorem dX5_make_21 : decode cX5_make 21 = .ok (.invokespecial 29, 3) := by decide +kernel
theorem dX5_make_24 : decode cX5_make 24 = .ok (.astore_n 3, 1) := by decide +kernel
theorem dX5_make_25 : decode cX5_make 25 = .ok (.aload_n 3, 1) := by decide +kernel
theorem dX5_make_26 : decode cX5_make 26 = .ok (.getfield 32, 3) := by decide +kernel
theorem dX5_make_29 : decode cX5_make 29 = .ok (.istore 4, 2) := by decide +kernel
theorem dX5_make_31 : decode cX5_make 31 = .ok (.iload 4, 2) := by decide +kernel
theorem dX5_make_33 : decode cX5_make 33 = .ok (.aload_n 3, 1) := by decide +kernel
theorem dX5_make_34 : decode cX5_make 34 = .ok (.getfield 21, 3) := by decide +kernel
theorem dX5_make_37 : decode cX5_make 37 = .ok (.if_icmp .ge 22, 3) := by decide +kernel
theorem dX5_make_40 : decode cX5_make 40 = .ok (.aload_n 3, 1) := by decide +kernel
theorem dX5_make_41 : decode cX5_make 41 = .ok (.getfield 35, 3) := by decide +kernel
theorem dX5_make_44 : decode cX5_make 44 = .ok (.aload_n 2, 1) := by decide +kernel
theorem dX5_make_45 : decode cX5_make 45 = .ok (.getfield 39, 3) := by decide +kernel
theorem dX5_make_48 : decode cX5_make 48 = .ok (.iload 4, 2) := by decide +kernel
theorem dX5_make_50 : decode cX5_make 50 = .ok (.invokevirtual 42, 3) := by decide +kernel
theorem dX5_make_53 : decode cX5_make 53 = .ok (.iinc 4 1, 3) := by decide +kernel
theorem dX5_make_56 : decode cX5_make 56 = .ok (.goto (-25), 3) := by decide +kernel
theorem dX5_make_59 : decode cX5_make 59 = .ok (.aload_n 0, 1) := by decide +kernel
theorem dX5_make_60 : decode cX5_make 60 = .ok (.getfield 11, 3) := by decide +kernel
theorem dX5_make_63 : decode cX5_make 63 = .ok (.aload_n 0, 1) := by decide +kernel
theorem dX5_make_64 : decode cX5_make 64 = .ok (.getfield 17, 3) := by decide +kernel
theorem dX5_make_67 : decode cX5_make 67 = .ok (.aload_n 3, 1) := by decide +kernel
theorem dX5_make_68 : decode cX5_make 68 = .ok (.aastore, 1) := by decide +kernel
theorem dX5_make_69 : decode cX5_make 69 = .ok (.aload_n 0, 1) := by decide +kernel
theorem dX5_make_70 : decode cX5_make 70 = .ok (.dup, 1) := by decide +kernel
theorem dX5_make_71 : decode cX5_make 71 = .ok (.getfield 17, 3) := by decide +kernel
theorem dX5_make_74 : decode cX5_make 74 = .ok (.iconst 1, 1) := by decide +kernel
theorem dX5_make_75 : decode cX5_make 75 = .ok (.iadd, 1) := by decide +kernel
theorem dX5_make_76 : decode cX5_make 76 = .ok (.putfield 17, 3) := by decide +kernel
theorem dX5_make_79 : decode cX5_make 79 = .ok (.aload_n 0, 1) := by decide +kernel
theorem dX5_make_80 : decode cX5_make 80 = .ok (.getfield 17, 3) := by decide +kernel
theorem dX5_make_83 : decode cX5_make 83 = .ok (.iconst 1, 1) := by decide +kernel
theorem dX5_make_84 : decode cX5_make 84 = .ok (.isub, 1) := by decide +kernel
theorem dX5_make_85 : decode cX5_make 85 = .ok (.ireturn, 1) := by decide +kernel
theorem dX5_remove_0 : decode cX5_remove 0 = .ok (.aload_n 0, 1) := by decide +kernel
theorem dX5_remove_1 : decode cX5_remove 1 = .ok (.getfield 11, 3) := by decide +kernel
theorem dX5_remove_4 : decode cX5_remove 4 = .ok (.iload_n 1, 1) := by decide +kernel
theorem dX5_remove_5 : decode cX5_remove 5 = .ok (.aconst_null, 1) := by decide +kernel
theorem dX5_remove_6 : decode cX5_remove 6 = .ok (.aastore, 1) := by decide +kernel
theorem dX5_remove_7 : decode cX5_remove 7 = .ok (.return_, 1) := by decide +kernel
theorem dX5_countThere_0 : decode cX5_countThere 0 = .ok (.iconst 0, 1) := by decide +kernel
theorem dX5_countThere_1 : decode cX5_countThere 1 = .ok (.istore_n 1, 1) := by decide +kernel
theorem dX5_countThere_2 : decode cX5_countThere 2 = .ok (.iconst 0, 1) := by decide +kernel
theorem dX5_countThere_3 : decode cX5_countThere 3 = .ok (.istore_n 2, 1) := by decide +kernel
theorem dX5_countThere_4 : decode cX5_countThere 4 = .ok (.iload_n 2, 1) := by decide +kernel
theorem dX5_countThere_5 : decode cX5_countThere 5 = .ok (.aload_n 0, 1) := by decide +kernel
theorem dX5_countThere_6 : decode cX5_countThere 6 = .ok (.getfield 17, 3) := by decide +kernel
theorem dX5_countThere_9 : decode cX5_countThere 9 = .ok (.if_icmp .ge 21, 3) := by decide +kernel
theorem dX5_countThere_12 : decode cX5_countThere 12 = .ok (.aload_n 0, 1) := by decide +kernel
theorem dX5_countThere_13 : decode cX5_countThere 13 = .ok (.getfield 11, 3) := by decide +kernel
theorem dX5_countThere_16 : decode cX5_countThere 16 = .ok (.iload_n 2, 1) := by decide +kernel
theorem dX5_countThere_17 : decode cX5_countThere 17 = .ok (.aaload, 1) := by decide +kernel
theorem dX5_countThere_18 : decode cX5_countThere 18 = .ok (.ifnull 6, 3) := by decide +kernel
theorem dX5_countThere_21 : decode cX5_countThere 21 = .ok (.iinc 1 1, 3) := by decide +kernel
theorem dX5_countThere_24 : decode cX5_countThere 24 = .ok (.iinc 2 1, 3) := by decide +kernel
theorem dX5_countThere_27 : decode cX5_countThere 27 = .ok (.goto (-23), 3) := by decide +kernel
theorem dX5_countThere_30 : decode cX5_countThere 30 = .ok (.iload_n 1, 1) := by decide +kernel
theorem dX5_countThere_31 : decode cX5_countThere 31 = .ok (.ireturn, 1) := by decide +kernel
theorem dX5_isBase_0 : decode cX5_isBase 0 = .ok (.iconst 0, 1) := by decide +kernel
theorem dX5_isBase_1 : decode cX5_isBase 1 = .ok (.istore_n 2, 1) := by decide +kernel
theorem dX5_isBase_2 : decode cX5_isBase 2 = .ok (.iload_n 2, 1) := by decide +kernel
theorem dX5_isBase_3 : decode cX5_isBase 3 = .ok (.aload_n 0, 1) := by decide +kernel
theorem dX5_isBase_4 : decode cX5_isBase 4 = .ok (.getfield 17, 3) := by decide +kernel
theorem dX5_isBase_7 : decode cX5_isBase 7 = .ok (.if_icmp .ge 30, 3) := by decide +kernel
theorem dX5_isBase_10 : decode cX5_isBase 10 = .ok (.aload_n 0, 1) := by decide +kernel
theorem dX5_isBase_11 : decode cX5_isBase 11 = .ok (.getfield 11, 3) := by decide +kernel
theorem dX5_isBase_14 : decode cX5_isBase 14 = .ok (.iload_n 2, 1) := by decide +kernel
theorem dX5_isBase_15 : decode cX5_isBase 15 = .ok (.aaload, 1) := by decide +kernel
theorem dX5_isBase_16 : decode cX5_isBase 16 = .ok (.astore_n 3, 1) := by decide +kernel
theorem dX5_isBase_17 : decode cX5_isBase 17 = .ok (.aload_n 3, 1) := by decide +kernel
theorem dX5_isBase_18 : decode cX5_isBase 18 = .ok (.ifnull 13, 3) := by decide +kernel
theorem dX5_isBase_21 : decode cX5_isBase 21 = .ok (.aload_n 3, 1) := by decide +kernel
theorem dX5_isBase_22 : decode cX5_isBase 22 = .ok (.getfield 48, 3) := by decide +kernel
theorem dX5_isBase_25 : decode cX5_isBase 25 = .ok (.aload_n 1, 1) := by decide +kernel
theorem dX5_isBase_26 : decode cX5_isBase 26 = .ok (.if_acmp .ne 5, 3) := by decide +kernel
theorem dX5_isBase_29 : decode cX5_isBase 29 = .ok (.iconst 1, 1) := by decide +kernel
theorem dX5_isBase_30 : decode cX5_isBase 30 = .ok (.ireturn, 1) := by decide +kernel
theorem dX5_isBase_31 : decode cX5_isBase 31 = .ok (.iinc 2 1, 3) := by decide +kernel
theorem dX5_isBase_34 : decode cX5_isBase 34 = .ok (.goto (-32), 3) := by decide +kernel
theorem dX5_isBase_37 : decode cX5_isBase 37 = .ok (.iconst 0, 1) := by decide +kernel
theorem dX5_isBase_38 : decode cX5_isBase 38 = .ok (.ireturn, 1) := by decide +kernel
set_option maxRecDepth 20000 in
theorem ggX5_countFilled_X4_isFilled : GoodIn wsX5_countFilled wsX4_isFilled := goodIn_r _ [8, 9, 17, 18] (by decide +kernel) (by decide +kernel)
set_option maxRecDepth 20000 in
theorem gX5_countFilled_X4_isFilled : GoodIn wsX5_countFilled (wsV RX5 52 RX4 yX4_isFilled wsX4_isFilled) := goodIn_app (goodIn_of _ (by decide +kernel)) ggX5_countFilled_X4_isFilled
theorem dX5_countFilled_0 : decode cX5_countFilled 0 = .ok (.iconst 0, 1) := by decide +kernel
theorem dX5_countFilled_1 : decode cX5_countFilled 1 = .ok (.istore_n 2, 1) := by decide +kernel
theorem dX5_countFilled_2 : decode cX5_countFilled 2 = .ok (.iconst 0, 1) := by decide +kernel
theorem dX5_countFilled_3 : decode cX5_countFilled 3 = .ok (.istore_n 3, 1) := by decide +kernel
theorem dX5_countFilled_4 : decode cX5_countFilled 4 = .ok (.iload_n 3, 1) := by decide +kernel
theorem dX5_countFilled_5 : decode cX5_countFilled 5 = .ok (.aload_n 0, 1) := by decide +kernel
theorem dX5_countFilled_6 : decode cX5_countFilled 6 = .ok (.getfield 17, 3) := by decide +kernel
theorem dX5_countFilled_9 : decode cX5_countFilled 9 = .ok (.if_icmp .ge 37, 3) := by decide +kernel
theorem dX5_countFilled_12 : decode cX5_countFilled 12 = .ok (.aload_n 0, 1) := by decide +kernel
theorem dX5_countFilled_13 : decode cX5_countFilled 13 = .ok (.getfield 11, 3) := by decide +kernel
theorem dX5_countFilled_16 : decode cX5_countFilled 16 = .ok (.iload_n 3, 1) := by decide +kernel
theorem dX5_countFilled_17 : decode cX5_countFilled 17 = .ok (.aaload, 1) := by decide +kernel
theorem dX5_countFilled_18 : decode cX5_countFilled 18 = .ok (.astore 4, 2) := by decide +kernel
theorem dX5_countFilled_20 : decode cX5_countFilled 20 = .ok (.aload 4, 2) := by decide +kernel
theorem dX5_countFilled_22 : decode cX5_countFilled 22 = .ok (.ifnull 18, 3) := by decide +kernel
theorem dX5_countFilled_25 : decode cX5_countFilled 25 = .ok (.aload 4, 2) := by decide +kernel
theorem dX5_countFilled_27 : decode cX5_countFilled 27 = .ok (.getfield 35, 3) := by decide +kernel
theorem dX5_countFilled_30 : decode cX5_countFilled 30 = .ok (.iload_n 1, 1) := by decide +kernel
theorem dX5_countFilled_31 : decode cX5_countFilled 31 = .ok (.invokevirtual 52, 3) := by decide +kernel
theorem dX5_countFilled_34 : decode cX5_countFilled 34 = .ok (.ifCond .eq 6, 3) := by decide +kernel
theorem dX5_countFilled_37 : decode cX5_countFilled 37 = .ok (.iinc 2 1, 3) := by decide +kernel
theorem dX5_countFilled_40 : decode cX5_countFilled 40 = .ok (.iinc 3 1, 3) := by decide +kernel
theorem dX5_countFilled_43 : decode cX5_countFilled 43 = .ok (.goto (-39), 3) := by decide +kernel
theorem dX5_countFilled_46 : decode cX5_countFilled 46 = .ok (.iload_n 2, 1) := by decide +kernel
theorem dX5_countFilled_47 : decode cX5_countFilled 47 = .ok (.ireturn, 1) := by decide +kernel
set_option maxRecDepth 20000 in
theorem ggX5_blankInVault_X4_blank : GoodIn wsX5_blankInVault wsX4_blank := goodIn_r _ [9, 10, 11, 28, 29] (by decide +kernel) (by decide +kernel)
set_option maxRecDepth 20000 in
theorem gX5_blankInVault_X4_blank : GoodIn wsX5_blankInVault (wsV RX5 60 RX4 yX4_blank wsX4_blank) := goodIn_app (goodIn_of _ (by decide +kernel)) ggX5_blankInVault_X4_blank
set_option maxRecDepth 20000 in
theorem ggX5_blankInVault_X5_countFilled : GoodIn wsX5_blankInVault wsX5_countFilled := goodIn_r _ [16, 1, 2, 4, 17, 18, 19, 8, 20, 10, 21, 22, 23, 24, 25, 26, 27, 28, 29] (by decide +kernel) (by decide +kernel)
set_option maxRecDepth 20000 in
theorem gX5_blankInVault_X5_countFilled : GoodIn wsX5_blankInVault (wsV RX5 63 RX5 yX5_countFilled wsX5_countFilled) := goodIn_app (goodIn_of _ (by decide +kernel)) ggX5_blankInVault_X5_countFilled
theorem dX5_blankInVault_0 : decode cX5_blankInVault 0 = .ok (.iconst 0, 1) := by decide +kernel
theorem dX5_blankInVault_1 : decode cX5_blankInVault 1 = .ok (.istore_n 2, 1) := by decide +kernel
theorem dX5_blankInVault_2 : decode cX5_blankInVault 2 = .ok (.iload_n 2, 1) := by decide +kernel
theorem dX5_blankInVault_3 : decode cX5_blankInVault 3 = .ok (.aload_n 0, 1) := by decide +kernel
theorem dX5_blankInVault_4 : decode cX5_blankInVault 4 = .ok (.getfield 17, 3) := by decide +kernel
theorem dX5_blankInVault_7 : decode cX5_blankInVault 7 = .ok (.if_icmp .ge 36, 3) := by decide +kernel
theorem dX5_blankInVault_10 : decode cX5_blankInVault 10 = .ok (.aload_n 0, 1) := by decide +kernel
theorem dX5_blankInVault_11 : decode cX5_blankInVault 11 = .ok (.getfield 11, 3) := by decide +kernel
theorem dX5_blankInVault_14 : decode cX5_blankInVault 14 = .ok (.iload_n 2, 1) := by decide +kernel
theorem dX5_blankInVault_15 : decode cX5_blankInVault 15 = .ok (.aaload, 1) := by decide +kernel
theorem dX5_blankInVault_16 : decode cX5_blankInVault 16 = .ok (.astore_n 3, 1) := by decide +kernel
theorem dX5_blankInVault_17 : decode cX5_blankInVault 17 = .ok (.aload_n 3, 1) := by decide +kernel
theorem dX5_blankInVault_18 : decode cX5_blankInVault 18 = .ok (.ifnull 19, 3) := by decide +kernel
theorem dX5_blankInVault_21 : decode cX5_blankInVault 21 = .ok (.aload_n 3, 1) := by decide +kernel
theorem dX5_blankInVault_22 : decode cX5_blankInVault 22 = .ok (.getfield 56, 3) := by decide +kernel
theorem dX5_blankInVault_25 : decode cX5_blankInVault 25 = .ok (.ifCond .eq 12, 3) := by decide +kernel
theorem dX5_blankInVault_28 : decode cX5_blankInVault 28 = .ok (.aload_n 3, 1) := by decide +kernel
theorem dX5_blankInVault_29 : decode cX5_blankInVault 29 = .ok (.getfield 35, 3) := by decide +kernel
theorem dX5_blankInVault_32 : decode cX5_blankInVault 32 = .ok (.iload_n 1, 1) := by decide +kernel
theorem dX5_blankInVault_33 : decode cX5_blankInVault 33 = .ok (.invokevirtual 60, 3) := by decide +kernel
theorem dX5_blankInVault_36 : decode cX5_blankInVault 36 = .ok (.pop, 1) := by decide +kernel
theorem dX5_blankInVault_37 : decode cX5_blankInVault 37 = .ok (.iinc 2 1, 3) := by decide +kernel
theorem dX5_blankInVault_40 : decode cX5_blankInVault 40 = .ok (.goto (-38), 3) := by decide +kernel
theorem dX5_blankInVault_43 : decode cX5_blankInVault 43 = .ok (.aload_n 0, 1) := by decide +kernel
theorem dX5_blankInVault_44 : decode cX5_blankInVault 44 = .ok (.iload_n 1, 1) := by decide +kernel
theorem dX5_blankInVault_45 : decode cX5_blankInVault 45 = .ok (.invokevirtual 63, 3) := by decide +kernel
theorem dX5_blankInVault_48 : decode cX5_blankInVault 48 = .ok (.ireturn, 1) := by decide +kernel
set_option maxRecDepth 20000 in
theorem ggX5_hasTrue_X0_isTrueOn : GoodIn wsX5_hasTrue wsX0_isTrueOn := goodIn_r _ [9, 10, 11, 12, 13, 14, 15, 16, 17, 18, 19, 20, 21, 29, 30, 31, 32, 33, 34, 35, 36, 37, 38, 39, 40, 41] (by decide +kernel) (by decide +kernel)
set_option maxRecDepth 20000 in
theorem gX5_hasTrue_X0_isTrueOn : GoodIn wsX5_hasTrue (wsV RX5 67 RX0 yX0_isTrueOn wsX0_isTrueOn) := goodIn_app (goodIn_of _ (by decide +kernel)) ggX5_hasTrue_X0_isTrueOn
theorem dX5_hasTrue_0 : decode cX5_hasTrue 0 = .ok (.iconst 0, 1) := by decide +kernel
theorem dX5_hasTrue_1 : decode cX5_hasTrue 1 = .ok (.istore 4, 2) := by decide +kernel
theorem dX5_hasTrue_3 : decode cX5_hasTrue 3 = .ok (.iload 4, 2) := by decide +kernel
theorem dX5_hasTrue_5 : decode cX5_hasTrue 5 = .ok (.aload_n 0, 1) := by decide +kernel
theorem dX5_hasTrue_6 : decode cX5_hasTrue 6 = .ok (.getfield 17, 3) := by decide +kernel
theorem dX5_hasTrue_9 : decode cX5_hasTrue 9 = .ok (.if_icmp .ge 50, 3) := by decide +kernel
theorem dX5_hasTrue_12 : decode cX5_hasTrue 12 = .ok (.aload_n 0, 1) := by decide +kernel
theorem dX5_hasTrue_13 : decode cX5_hasTrue 13 = .ok (.getfield 11, 3) := by decide +kernel
theorem dX5_hasTrue_16 : decode cX5_hasTrue 16 = .ok (.iload 4, 2) := by decide +kernel
theorem dX5_hasTrue_18 : decode cX5_hasTrue 18 = .ok (.aaload, 1) := by decide +kernel
theorem dX5_hasTrue_19 : decode cX5_hasTrue 19 = .ok (.astore 5, 2) := by decide +kernel
theorem dX5_hasTrue_21 : decode cX5_hasTrue 21 = .ok (.aload 5, 2) := by decide +kernel
theorem dX5_hasTrue_23 : decode cX5_hasTrue 23 = .ok (.ifnull 30, 3) := by decide +kernel
theorem dX5_hasTrue_26 : decode cX5_hasTrue 26 = .ok (.aload 5, 2) := by decide +kernel
theorem dX5_hasTrue_28 : decode cX5_hasTrue 28 = .ok (.getfield 56, 3) := by decide +kernel
theorem dX5_hasTrue_31 : decode cX5_hasTrue 31 = .ok (.ifCond .ne 7, 3) := by decide +kernel
theorem dX5_hasTrue_34 : decode cX5_hasTrue 34 = .ok (.iload_n 3, 1) := by decide +kernel
theorem dX5_hasTrue_35 : decode cX5_hasTrue 35 = .ok (.ifCond .eq 18, 3) := by decide +kernel
theorem dX5_hasTrue_38 : decode cX5_hasTrue 38 = .ok (.aload_n 1, 1) := by decide +kernel
theorem dX5_hasTrue_39 : decode cX5_hasTrue 39 = .ok (.aload 5, 2) := by decide +kernel
theorem dX5_hasTrue_41 : decode cX5_hasTrue 41 = .ok (.getfield 35, 3) := by decide +kernel
theorem dX5_hasTrue_44 : decode cX5_hasTrue 44 = .ok (.iload_n 2, 1) := by decide +kernel
theorem dX5_hasTrue_45 : decode cX5_hasTrue 45 = .ok (.invokevirtual 67, 3) := by decide +kernel
theorem dX5_hasTrue_48 : decode cX5_hasTrue 48 = .ok (.ifCond .eq 5, 3) := by decide +kernel
theorem dX5_hasTrue_51 : decode cX5_hasTrue 51 = .ok (.iconst 1, 1) := by decide +kernel
theorem dX5_hasTrue_52 : decode cX5_hasTrue 52 = .ok (.ireturn, 1) := by decide +kernel
theorem dX5_hasTrue_53 : decode cX5_hasTrue 53 = .ok (.iinc 4 1, 3) := by decide +kernel
theorem dX5_hasTrue_56 : decode cX5_hasTrue 56 = .ok (.goto (-53), 3) := by decide +kernel
theorem dX5_hasTrue_59 : decode cX5_hasTrue 59 = .ok (.iconst 0, 1) := by decide +kernel
theorem dX5_hasTrue_60 : decode cX5_hasTrue 60 = .ok (.ireturn, 1) := by decide +kernel
set_option maxRecDepth 20000 in
theorem ggX6_init_X3_init : GoodIn wsX6_init wsX3_init := goodIn_r _ [23, 24, 2, 3, 25, 26, 27, 28, 68, 69, 70] (by decide +kernel) (by decide +kernel)
set_option maxRecDepth 20000 in
theorem gX6_init_X3_init_n9 : GoodIn wsX6_init (wsX3_init) := ggX6_init_X3_init
set_option maxRecDepth 20000 in
theorem ggX6_init_X0_init : GoodIn wsX6_init wsX0_init := goodIn_r _ [30, 31, 2, 3, 25, 32, 33, 34, 35, 36, 37, 38, 39, 40, 41, 42, 43, 44, 45, 46, 47, 48, 49, 50, 51, 77, 78, 79, 80, 81, 82, 83, 84, 85, 86, 87, 97, 98] (by decide +kernel) (by decide +kernel)
set_option maxRecDepth 20000 in
theorem gX6_init_X0_init_n21 : GoodIn wsX6_init (wsX0_init) := ggX6_init_X0_init
set_option maxRecDepth 20000 in
theorem ggX6_init_X5_init : GoodIn wsX6_init wsX5_init := goodIn_r _ [53, 54, 2, 3, 55, 56, 57, 88, 89] (by decide +kernel) (by decide +kernel)
set_option maxRecDepth 20000 in
theorem gX6_init_X5_init_n28 : GoodIn wsX6_init (wsX5_init) := ggX6_init_X5_init
set_option maxRecDepth 20000 in
theorem ggX6_init_X2_init : GoodIn wsX6_init wsX2_init := goodIn_r _ [59, 60, 2, 3, 38, 61, 62, 25, 63, 64, 65, 66, 67, 90, 91, 92, 93, 94, 95, 96] (by decide +kernel) (by decide +kernel)
set_option maxRecDepth 20000 in
theorem gX6_init_X2_init_n35 : GoodIn wsX6_init (wsX2_init) := ggX6_init_X2_init
theorem dX6_init_0 : decode cX6_init 0 = .ok (.aload_n 0, 1) := by decide +kernel
theorem dX6_init_1 : decode cX6_init 1 = .ok (.invokespecial 1, 3) := by decide +kernel
theorem dX6_init_4 : decode cX6_init 4 = .ok (.aload_n 0, 1) := by decide +kernel
theorem dX6_init_5 : decode cX6_init 5 = .ok (.new 7, 3) := by decide +kernel
theorem dX6_init_8 : decode cX6_init 8 = .ok (.dup, 1) := by decide +kernel
theorem dX6_init_9 : decode cX6_init 9 = .ok (.invokespecial 9, 3) := by decide +kernel
theorem dX6_init_12 : decode cX6_init 12 = .ok (.putfield 10, 3) := by decide +kernel
theorem dX6_init_15 : decode cX6_init 15 = .ok (.aload_n 0, 1) := by decide +kernel
theorem dX6_init_16 : decode cX6_init 16 = .ok (.new 7, 3) := by decide +kernel
theorem dX6_init_19 : decode cX6_init 19 = .ok (.dup, 1) := by decide +kernel
theorem dX6_init_20 : decode cX6_init 20 = .ok (.invokespecial 9, 3) := by decide +kernel
theorem dX6_init_23 : decode cX6_init 23 = .ok (.putfield 16, 3) := by decide +kernel
theorem dX6_init_26 : decode cX6_init 26 = .ok (.aload_n 0, 1) := by decide +kernel
theorem dX6_init_27 : decode cX6_init 27 = .ok (.new 19, 3) := by decide +kernel
theorem dX6_init_30 : decode cX6_init 30 = .ok (.dup, 1) := by decide +kernel
theorem dX6_init_31 : decode cX6_init 31 = .ok (.invokespecial 21, 3) := by decide +kernel
theorem dX6_init_34 : decode cX6_init 34 = .ok (.putfield 22, 3) := by decide +kernel
theorem dX6_init_37 : decode cX6_init 37 = .ok (.aload_n 0, 1) := by decide +kernel
theorem dX6_init_38 : decode cX6_init 38 = .ok (.new 26, 3) := by decide +kernel
theorem dX6_init_41 : decode cX6_init 41 = .ok (.dup, 1) := by decide +kernel
theorem dX6_init_42 : decode cX6_init 42 = .ok (.invokespecial 28, 3) := by decide +kernel
theorem dX6_init_45 : decode cX6_init 45 = .ok (.putfield 29, 3) := by decide +kernel
theorem dX6_init_48 : decode cX6_init 48 = .ok (.aload_n 0, 1) := by decide +kernel
theorem dX6_init_49 : decode cX6_init 49 = .ok (.new 33, 3) := by decide +kernel
theorem dX6_init_52 : decode cX6_init 52 = .ok (.dup, 1) := by decide +kernel
theorem dX6_init_53 : decode cX6_init 53 = .ok (.invokespecial 35, 3) := by decide +kernel
theorem dX6_init_56 : decode cX6_init 56 = .ok (.putfield 36, 3) := by decide +kernel
theorem dX6_init_59 : decode cX6_init 59 = .ok (.aload_n 0, 1) := by decide +kernel
theorem dX6_init_60 : decode cX6_init 60 = .ok (.iconst 0, 1) := by decide +kernel
theorem dX6_init_61 : decode cX6_init 61 = .ok (.putfield 40, 3) := by decide +kernel
theorem dX6_init_64 : decode cX6_init 64 = .ok (.return_, 1) := by decide +kernel
set_option maxRecDepth 20000 in
theorem ggX6_leg_X6_needAccount : GoodIn wsX6_leg wsX6_needAccount := goodIn_ca (goodIn_r _ [9, 10, 11] (by decide +kernel) (by decide +kernel)) (goodIn_sub (fun _ h => List.mem_cons_of_mem _ (List.mem_append_right _ h)) (by decide +kernel))
set_option maxRecDepth 20000 in
theorem gX6_leg_X6_needAccount : GoodIn wsX6_leg (va_wsS RX6 44 yX6_needAccount wsX6_needAccount) := goodIn_app (goodIn_of _ (by decide +kernel)) ggX6_leg_X6_needAccount
set_option maxRecDepth 20000 in
theorem ggX6_leg_X6_needAmount : GoodIn wsX6_leg wsX6_needAmount := goodIn_ca (goodIn_r _ [14, 1, 2] (by decide +kernel) (by decide +kernel)) (goodIn_sub (fun _ h => List.mem_cons_of_mem _ (List.mem_append_left _ (List.mem_append_left _ (List.mem_append_right _ h)))) (by decide +kernel))
set_option maxRecDepth 20000 in
theorem gX6_leg_X6_needAmount : GoodIn wsX6_leg (va_wsS RX6 48 yX6_needAmount wsX6_needAmount) := goodIn_app (goodIn_of _ (by decide +kernel)) ggX6_leg_X6_needAmount
set_option maxRecDepth 20000 in
theorem ggX6_leg_X3_isFull : GoodIn wsX6_leg wsX3_isFull := goodIn_r _ [19, 20, 33, 34, 35] (by decide +kernel) (by decide +kernel)
set_option maxRecDepth 20000 in
theorem gX6_leg_X3_isFull : GoodIn wsX6_leg (wsV RX6 58 RX3 yX3_isFull wsX3_isFull) := goodIn_app (goodIn_of _ (by decide +kernel)) ggX6_leg_X3_isFull
set_option maxRecDepth 20000 in
theorem ggX6_leg_X3_add : GoodIn wsX6_leg wsX3_add := goodIn_r _ [24, 25, 20, 26, 33, 34, 35] (by decide +kernel) (by decide +kernel)
set_option maxRecDepth 20000 in
theorem gX6_leg_X3_add : GoodIn wsX6_leg (wsV RX6 67 RX3 yX3_add wsX3_add) := goodIn_app (goodIn_of _ (by decide +kernel)) ggX6_leg_X3_add
theorem dX6_leg_0 : decode cX6_leg 0 = .ok (.iload_n 1, 1) := by decide +kernel
theorem dX6_leg_1 : decode cX6_leg 1 = .ok (.invokestatic 44, 3) := by decide +kernel
theorem dX6_leg_4 : decode cX6_leg 4 = .ok (.iload_n 2, 1) := by decide +kernel
theorem dX6_leg_5 : decode cX6_leg 5 = .ok (.invokestatic 48, 3) := by decide +kernel
theorem dX6_leg_8 : decode cX6_leg 8 = .ok (.iload_n 2, 1) := by decide +kernel
theorem dX6_leg_9 : decode cX6_leg 9 = .ok (.ifCond .ne 13, 3) := by decide +kernel
theorem dX6_leg_12 : decode cX6_leg 12 = .ok (.new 51, 3) := by decide +kernel
theorem dX6_leg_15 : decode cX6_leg 15 = .ok (.dup, 1) := by decide +kernel
theorem dX6_leg_16 : decode cX6_leg 16 = .ok (.ldc 53, 2) := by decide +kernel
theorem dX6_leg_18 : decode cX6_leg 18 = .ok (.invokespecial 55, 3) := by decide +kernel
theorem dX6_leg_21 : decode cX6_leg 21 = .ok (.athrow, 1) := by decide +kernel
theorem dX6_leg_22 : decode cX6_leg 22 = .ok (.aload_n 0, 1) := by decide +kernel
theorem dX6_leg_23 : decode cX6_leg 23 = .ok (.getfield 10, 3) := by decide +kernel
theorem dX6_leg_26 : decode cX6_leg 26 = .ok (.invokevirtual 58, 3) := by decide +kernel
theorem dX6_leg_29 : decode cX6_leg 29 = .ok (.ifCond .eq 13, 3) := by decide +kernel
theorem dX6_leg_32 : decode cX6_leg 32 = .ok (.new 62, 3) := by decide +kernel
theorem dX6_leg_35 : decode cX6_leg 35 = .ok (.dup, 1) := by decide +kernel
theorem dX6_leg_36 : decode cX6_leg 36 = .ok (.ldc 64, 2) := by decide +kernel
theorem dX6_leg_38 : decode cX6_leg 38 = .ok (.invokespecial 66, 3) := by decide +kernel
theorem dX6_leg_41 : decode cX6_leg 41 = .ok (.athrow, 1) := by decide +kernel
theorem dX6_leg_42 : decode cX6_leg 42 = .ok (.aload_n 0, 1) := by decide +kernel
theorem dX6_leg_43 : decode cX6_leg 43 = .ok (.getfield 10, 3) := by decide +kernel
theorem dX6_leg_46 : decode cX6_leg 46 = .ok (.iload_n 1, 1) := by decide +kernel
theorem dX6_leg_47 : decode cX6_leg 47 = .ok (.iload_n 2, 1) := by decide +kernel
theorem dX6_leg_48 : decode cX6_leg 48 = .ok (.invokevirtual 67, 3) := by decide +kernel
theorem dX6_leg_51 : decode cX6_leg 51 = .ok (.ireturn, 1) := by decide +kernel
set_option maxRecDepth 20000 in
theorem ggX6_wipe_X3_clear : GoodIn wsX6_wipe wsX3_clear := goodIn_r _ [6, 7, 14, 15, 16] (by decide +kernel) (by decide +kernel)
set_option maxRecDepth 20000 in
theorem gX6_wipe_X3_clear : GoodIn wsX6_wipe (wsV RX6 71 RX3 yX3_clear wsX3_clear) := goodIn_app (goodIn_of _ (by decide +kernel)) ggX6_wipe_X3_clear
theorem dX6_wipe_0 : decode cX6_wipe 0 = .ok (.aload_n 0, 1) := by decide +kernel
theorem dX6_wipe_1 : decode cX6_wipe 1 = .ok (.getfield 10, 3) := by decide +kernel
theorem dX6_wipe_4 : decode cX6_wipe 4 = .ok (.invokevirtual 71, 3) := by decide +kernel
theorem dX6_wipe_7 : decode cX6_wipe 7 = .ok (.ireturn, 1) := by decide +kernel
set_option maxRecDepth 20000 in
theorem ggX6_write_X6_needText : GoodIn wsX6_write wsX6_needText := goodIn_ca (goodIn_r _ [9, 10, 11] (by decide +kernel) (by decide +kernel)) (goodIn_sub (fun _ h => List.mem_cons_of_mem _ (List.mem_append_right _ h)) (by decide +kernel))
set_option maxRecDepth 20000 in
theorem gX6_write_X6_needText : GoodIn wsX6_write (va_wsS RX6 75 yX6_needText wsX6_needText) := goodIn_app (goodIn_of _ (by decide +kernel)) ggX6_write_X6_needText
set_option maxRecDepth 20000 in
theorem ggX6_write_X3_isBalanced : GoodIn wsX6_write wsX3_isBalanced := goodIn_r _ [16, 17, 18, 67, 68, 69] (by decide +kernel) (by decide +kernel)
set_option maxRecDepth 20000 in
theorem gX6_write_X3_isBalanced : GoodIn wsX6_write (wsV RX6 78 RX3 yX3_isBalanced wsX3_isBalanced) := goodIn_app (goodIn_of _ (by decide +kernel)) ggX6_write_X3_isBalanced
set_option maxRecDepth 20000 in
theorem ggX6_write_X0_isFull : GoodIn wsX6_write wsX0_isFull := goodIn_r _ [23, 24, 70, 71, 72, 73, 74, 75, 76, 77, 78, 79, 80] (by decide +kernel) (by decide +kernel)
set_option maxRecDepth 20000 in
theorem gX6_write_X0_isFull : GoodIn wsX6_write (wsV RX6 81 RX0 yX0_isFull wsX0_isFull) := goodIn_app (goodIn_of _ (by decide +kernel)) ggX6_write_X0_isFull
set_option maxRecDepth 20000 in
theorem ggX6_write_X0_append : GoodIn wsX6_write wsX0_append := goodIn_r _ [28, 24, 29, 30, 31, 32, 33, 34, 35, 36, 37, 38, 39, 40, 41, 15, 42, 17, 43, 18, 44, 45, 46, 47, 48, 49, 50, 51, 52, 53, 54, 55, 56, 70, 71, 72, 73, 74, 75, 76, 77, 78, 79, 80, 67, 68, 69, 81, 82] (by decide +kernel) (by decide +kernel)
set_option maxRecDepth 20000 in
theorem gX6_write_X0_append : GoodIn wsX6_write (wsV RX6 84 RX0 yX0_append wsX0_append) := goodIn_app (goodIn_of _ (by decide +kernel)) ggX6_write_X0_append
set_option maxRecDepth 20000 in
theorem ggX6_write_X3_clear : GoodIn wsX6_write wsX3_clear := goodIn_r _ [60, 17, 67, 68, 69] (by decide +kernel) (by decide +kernel)
set_option maxRecDepth 20000 in
theorem gX6_write_X3_clear : GoodIn wsX6_write (wsV RX6 71 RX3 yX3_clear wsX3_clear) := goodIn_app (goodIn_of _ (by decide +kernel)) ggX6_write_X3_clear
theorem dX6_write_0 : decode cX6_write 0 = .ok (.iload_n 1, 1) := by decide +kernel
theorem dX6_write_1 : decode cX6_write 1 = .ok (.invokestatic 75, 3) := by decide +kernel
theorem dX6_write_4 : decode cX6_write 4 = .ok (.aload_n 0, 1) := by decide +kernel
theorem dX6_write_5 : decode cX6_write 5 = .ok (.getfield 10, 3) := by decide +kernel
theorem dX6_write_8 : decode cX6_write 8 = .ok (.invokevirtual 78, 3) := by decide +kernel
theorem dX6_write_11 : decode cX6_write 11 = .ok (.ifCond .eq 13, 3) := by decide +kernel
theorem dX6_write_14 : decode cX6_write 14 = .ok (.aload_n 0, 1) := by decide +kernel
theorem dX6_write_15 : decode cX6_write 15 = .ok (.getfield 22, 3) := by decide +kernel
theorem dX6_write_18 : decode cX6_write 18 = .ok (.invokevirtual 81, 3) := by decide +kernel
theorem dX6_write_21 : decode cX6_write 21 = .ok (.ifCond .eq 13, 3) := by decide +kernel
theorem dX6_write_24 : decode cX6_write 24 = .ok (.new 62, 3) := by decide +kernel
theorem dX6_write_27 : decode cX6_write 27 = .ok (.dup, 1) := by decide +kernel
theorem dX6_write_28 : decode cX6_write 28 = .ok (.ldc 82, 2) := by decide +kernel
theorem dX6_write_30 : decode cX6_write 30 = .ok (.invokespecial 66, 3) := by decide +kernel
theorem dX6_write_33 : decode cX6_write 33 = .ok (.athrow, 1) := by decide +kernel
theorem dX6_write_34 : decode cX6_write 34 = .ok (.aload_n 0, 1) := by decide +kernel
theorem dX6_write_35 : decode cX6_write 35 = .ok (.getfield 22, 3) := by decide +kernel
theorem dX6_write_38 : decode cX6_write 38 = .ok (.aload_n 0, 1) := by decide +kernel
theorem dX6_write_39 : decode cX6_write 39 = .ok (.getfield 10, 3) := by decide +kernel
theorem dX6_write_42 : decode cX6_write 42 = .ok (.iload_n 1, 1) := by decide +kernel
theorem dX6_write_43 : decode cX6_write 43 = .ok (.aload_n 0, 1) := by decide +kernel
theorem dX6_write_44 : decode cX6_write 44 = .ok (.getfield 40, 3) := by decide +kernel
theorem dX6_write_47 : decode cX6_write 47 = .ok (.invokevirtual 84, 3) := by decide +kernel
theorem dX6_write_50 : decode cX6_write 50 = .ok (.istore_n 2, 1) := by decide +kernel
theorem dX6_write_51 : decode cX6_write 51 = .ok (.aload_n 0, 1) := by decide +kernel
theorem dX6_write_52 : decode cX6_write 52 = .ok (.getfield 10, 3) := by decide +kernel
theorem dX6_write_55 : decode cX6_write 55 = .ok (.invokevirtual 71, 3) := by decide +kernel
theorem dX6_write_58 : decode cX6_write 58 = .ok (.pop, 1) := by decide +kernel
theorem dX6_write_59 : decode cX6_write 59 = .ok (.iload_n 2, 1) := by decide +kernel
theorem dX6_write_60 : decode cX6_write 60 = .ok (.ireturn, 1) := by decide +kernel
set_option maxRecDepth 20000 in
theorem ggX6_reverse_X6_needPage : GoodIn wsX6_reverse wsX6_needPage := goodIn_ca (goodIn_r _ [10, 11, 12, 3, 13, 85, 86, 87, 88, 89, 90, 91, 92, 93, 94, 95, 96, 97, 98, 99, 100, 101] (by decide +kernel) (by decide +kernel)) (goodIn_sub (fun _ h => List.mem_cons_of_mem _ (List.mem_append_right _ h)) (by decide +kernel))
set_option maxRecDepth 20000 in
theorem gX6_reverse_X6_needPage : GoodIn wsX6_reverse (wsV RX6 88 RX6 yX6_needPage wsX6_needPage) := goodIn_app (goodIn_of _ (by decide +kernel)) ggX6_reverse_X6_needPage
set_option maxRecDepth 20000 in
theorem ggX6_reverse_X0_isReversible : GoodIn wsX6_reverse wsX0_isReversible := goodIn_r _ [18, 19, 20, 21, 22, 23, 24, 17, 25, 26, 27, 28, 29, 30, 31, 32, 33, 34, 35, 36, 37, 91, 92, 93, 94, 95, 96, 97, 98, 99, 100, 101, 102, 103] (by decide +kernel) (by decide +kernel)
set_option maxRecDepth 20000 in
theorem gX6_reverse_X0_isReversible : GoodIn wsX6_reverse (wsV RX6 91 RX0 yX0_isReversible wsX0_isReversible) := goodIn_app (goodIn_of _ (by decide +kernel)) ggX6_reverse_X0_isReversible
set_option maxRecDepth 20000 in
theorem ggX6_reverse_X0_isFull : GoodIn wsX6_reverse wsX0_isFull := goodIn_r _ [41, 42, 91, 92, 93, 94, 95, 96, 97, 98, 99, 100, 101] (by decide +kernel) (by decide +kernel)
set_option maxRecDepth 20000 in
theorem gX6_reverse_X0_isFull : GoodIn wsX6_reverse (wsV RX6 81 RX0 yX0_isFull wsX0_isFull) := goodIn_app (goodIn_of _ (by decide +kernel)) ggX6_reverse_X0_isFull
set_option maxRecDepth 20000 in
theorem ggX6_reverse_X0_appendReversal : GoodIn wsX6_reverse wsX0_appendReversal := goodIn_r _ [46, 47, 48, 26, 49, 21, 20, 50, 51, 52, 53, 54, 55, 56, 34, 35, 30, 36, 37, 57, 58, 59, 60, 61, 62, 63, 64, 65, 17, 66, 42, 67, 68, 69, 70, 19, 71, 72, 73, 74, 75, 76, 77, 78, 79, 80, 81, 82, 32, 83, 84, 91, 92, 93, 94, 95, 96, 97, 98, 99, 100, 101, 104, 105, 106, 102, 103] (by decide +kernel) (by decide +kernel)
set_option maxRecDepth 20000 in
theorem gX6_reverse_X0_appendReversal : GoodIn wsX6_reverse (wsV RX6 97 RX0 yX0_appendReversal wsX0_appendReversal) := goodIn_app (goodIn_of _ (by decide +kernel)) ggX6_reverse_X0_appendReversal
theorem dX6_reverse_0 : decode cX6_reverse 0 = .ok (.aload_n 0, 1) := by decide +kernel
theorem dX6_reverse_1 : decode cX6_reverse 1 = .ok (.iload_n 1, 1) := by decide +kernel
theorem dX6_reverse_2 : decode cX6_reverse 2 = .ok (.invokevirtual 88, 3) := by decide +kernel
theorem dX6_reverse_5 : decode cX6_reverse 5 = .ok (.aload_n 0, 1) := by decide +kernel
theorem dX6_reverse_6 : decode cX6_reverse 6 = .ok (.getfield 22, 3) := by decide +kernel
theorem dX6_reverse_9 : decode cX6_reverse 9 = .ok (.iload_n 1, 1) := by decide +kernel
theorem dX6_reverse_10 : decode cX6_reverse 10 = .ok (.invokevirtual 91, 3) := by decide +kernel
theorem dX6_reverse_13 : decode cX6_reverse 13 = .ok (.ifCond .eq 13, 3) := by decide +kernel
theorem dX6_reverse_16 : decode cX6_reverse 16 = .ok (.aload_n 0, 1) := by decide +kernel
theorem dX6_reverse_17 : decode cX6_reverse 17 = .ok (.getfield 22, 3) := by decide +kernel
theorem dX6_reverse_20 : decode cX6_reverse 20 = .ok (.invokevirtual 81, 3) := by decide +kernel
theorem dX6_reverse_23 : decode cX6_reverse 23 = .ok (.ifCond .eq 13, 3) := by decide +kernel
theorem dX6_reverse_26 : decode cX6_reverse 26 = .ok (.new 62, 3) := by decide +kernel
theorem dX6_reverse_29 : decode cX6_reverse 29 = .ok (.dup, 1) := by decide +kernel
theorem dX6_reverse_30 : decode cX6_reverse 30 = .ok (.ldc 95, 2) := by decide +kernel
theorem dX6_reverse_32 : decode cX6_reverse 32 = .ok (.invokespecial 66, 3) := by decide +kernel
theorem dX6_reverse_35 : decode cX6_reverse 35 = .ok (.athrow, 1) := by decide +kernel
theorem dX6_reverse_36 : decode cX6_reverse 36 = .ok (.aload_n 0, 1) := by decide +kernel
theorem dX6_reverse_37 : decode cX6_reverse 37 = .ok (.getfield 22, 3) := by decide +kernel
theorem dX6_reverse_40 : decode cX6_reverse 40 = .ok (.iload_n 1, 1) := by decide +kernel
theorem dX6_reverse_41 : decode cX6_reverse 41 = .ok (.aload_n 0, 1) := by decide +kernel
theorem dX6_reverse_42 : decode cX6_reverse 42 = .ok (.getfield 16, 3) := by decide +kernel
theorem dX6_reverse_45 : decode cX6_reverse 45 = .ok (.aload_n 0, 1) := by decide +kernel
theorem dX6_reverse_46 : decode cX6_reverse 46 = .ok (.getfield 40, 3) := by decide +kernel
theorem dX6_reverse_49 : decode cX6_reverse 49 = .ok (.invokevirtual 97, 3) := by decide +kernel
theorem dX6_reverse_52 : decode cX6_reverse 52 = .ok (.ireturn, 1) := by decide +kernel
theorem dX6_pass_0 : decode cX6_pass 0 = .ok (.iload_n 1, 1) := by decide +kernel
theorem dX6_pass_1 : decode cX6_pass 1 = .ok (.iconst 1, 1) := by decide +kernel
theorem dX6_pass_2 : decode cX6_pass 2 = .ok (.if_icmp .lt 9, 3) := by decide +kernel
theorem dX6_pass_5 : decode cX6_pass 5 = .ok (.iload_n 1, 1) := by decide +kernel
theorem dX6_pass_6 : decode cX6_pass 6 = .ok (.bipush 100, 2) := by decide +kernel
theorem dX6_pass_8 : decode cX6_pass 8 = .ok (.if_icmp .le 13, 3) := by decide +kernel
theorem dX6_pass_11 : decode cX6_pass 11 = .ok (.new 51, 3) := by decide +kernel
theorem dX6_pass_14 : decode cX6_pass 14 = .ok (.dup, 1) := by decide +kernel
theorem dX6_pass_15 : decode cX6_pass 15 = .ok (.ldc 101, 2) := by decide +kernel
theorem dX6_pass_17 : decode cX6_pass 17 = .ok (.invokespecial 55, 3) := by decide +kernel
theorem dX6_pass_20 : decode cX6_pass 20 = .ok (.athrow, 1) := by decide +kernel
theorem dX6_pass_21 : decode cX6_pass 21 = .ok (.aload_n 0, 1) := by decide +kernel
theorem dX6_pass_22 : decode cX6_pass 22 = .ok (.getfield 40, 3) := by decide +kernel
theorem dX6_pass_25 : decode cX6_pass 25 = .ok (.iload_n 1, 1) := by decide +kernel
theorem dX6_pass_26 : decode cX6_pass 26 = .ok (.iadd, 1) := by decide +kernel
theorem dX6_pass_27 : decode cX6_pass 27 = .ok (.sipush 400, 3) := by decide +kernel
theorem dX6_pass_30 : decode cX6_pass 30 = .ok (.if_icmp .le 13, 3) := by decide +kernel
theorem dX6_pass_33 : decode cX6_pass 33 = .ok (.new 62, 3) := by decide +kernel
theorem dX6_pass_36 : decode cX6_pass 36 = .ok (.dup, 1) := by decide +kernel
theorem dX6_pass_37 : decode cX6_pass 37 = .ok (.ldc 103, 2) := by decide +kernel
theorem dX6_pass_39 : decode cX6_pass 39 = .ok (.invokespecial 66, 3) := by decide +kernel
theorem dX6_pass_42 : decode cX6_pass 42 = .ok (.athrow, 1) := by decide +kernel
theorem dX6_pass_43 : decode cX6_pass 43 = .ok (.aload_n 0, 1) := by decide +kernel
theorem dX6_pass_44 : decode cX6_pass 44 = .ok (.dup, 1) := by decide +kernel
theorem dX6_pass_45 : decode cX6_pass 45 = .ok (.getfield 40, 3) := by decide +kernel
theorem dX6_pass_48 : decode cX6_pass 48 = .ok (.iload_n 1, 1) := by decide +kernel
theorem dX6_pass_49 : decode cX6_pass 49 = .ok (.iadd, 1) := by decide +kernel
theorem dX6_pass_50 : decode cX6_pass 50 = .ok (.putfield 40, 3) := by decide +kernel
theorem dX6_pass_53 : decode cX6_pass 53 = .ok (.aload_n 0, 1) := by decide +kernel
theorem dX6_pass_54 : decode cX6_pass 54 = .ok (.getfield 40, 3) := by decide +kernel
theorem dX6_pass_57 : decode cX6_pass 57 = .ok (.ireturn, 1) := by decide +kernel
set_option maxRecDepth 20000 in
theorem ggX6_burn_X6_needPage : GoodIn wsX6_burn wsX6_needPage := goodIn_ca (goodIn_r _ [9, 10, 11, 3, 12, 20, 21, 22, 23, 24, 25, 26, 27, 28, 29, 30, 31, 32, 33, 34, 35, 36] (by decide +kernel) (by decide +kernel)) (goodIn_sub (fun _ h => List.mem_cons_of_mem _ (List.mem_append_right _ h)) (by decide +kernel))
set_option maxRecDepth 20000 in
theorem gX6_burn_X6_needPage : GoodIn wsX6_burn (wsV RX6 88 RX6 yX6_needPage wsX6_needPage) := goodIn_app (goodIn_of _ (by decide +kernel)) ggX6_burn_X6_needPage
set_option maxRecDepth 20000 in
theorem ggX6_burn_X4_blank : GoodIn wsX6_burn wsX4_blank := goodIn_r _ [17, 18, 19, 37, 38] (by decide +kernel) (by decide +kernel)
set_option maxRecDepth 20000 in
theorem gX6_burn_X4_blank : GoodIn wsX6_burn (wsV RX6 111 RX4 yX4_blank wsX4_blank) := goodIn_app (goodIn_of _ (by decide +kernel)) ggX6_burn_X4_blank
theorem dX6_burn_0 : decode cX6_burn 0 = .ok (.aload_n 0, 1) := by decide +kernel
theorem dX6_burn_1 : decode cX6_burn 1 = .ok (.iload_n 1, 1) := by decide +kernel
theorem dX6_burn_2 : decode cX6_burn 2 = .ok (.invokevirtual 88, 3) := by decide +kernel
theorem dX6_burn_5 : decode cX6_burn 5 = .ok (.aload_n 0, 1) := by decide +kernel
theorem dX6_burn_6 : decode cX6_burn 6 = .ok (.iload_n 2, 1) := by decide +kernel
theorem dX6_burn_7 : decode cX6_burn 7 = .ok (.invokevirtual 88, 3) := by decide +kernel
theorem dX6_burn_10 : decode cX6_burn 10 = .ok (.iload_n 2, 1) := by decide +kernel
theorem dX6_burn_11 : decode cX6_burn 11 = .ok (.iload_n 1, 1) := by decide +kernel
theorem dX6_burn_12 : decode cX6_burn 12 = .ok (.if_icmp .ge 13, 3) := by decide +kernel
theorem dX6_burn_15 : decode cX6_burn 15 = .ok (.new 51, 3) := by decide +kernel
theorem dX6_burn_18 : decode cX6_burn 18 = .ok (.dup, 1) := by decide +kernel
theorem dX6_burn_19 : decode cX6_burn 19 = .ok (.ldc 105, 2) := by decide +kernel
theorem dX6_burn_21 : decode cX6_burn 21 = .ok (.invokespecial 55, 3) := by decide +kernel
theorem dX6_burn_24 : decode cX6_burn 24 = .ok (.athrow, 1) := by decide +kernel
theorem dX6_burn_25 : decode cX6_burn 25 = .ok (.iconst 0, 1) := by decide +kernel
theorem dX6_burn_26 : decode cX6_burn 26 = .ok (.istore_n 3, 1) := by decide +kernel
theorem dX6_burn_27 : decode cX6_burn 27 = .ok (.iload_n 1, 1) := by decide +kernel
theorem dX6_burn_28 : decode cX6_burn 28 = .ok (.istore 4, 2) := by decide +kernel
theorem dX6_burn_30 : decode cX6_burn 30 = .ok (.iload 4, 2) := by decide +kernel
theorem dX6_burn_32 : decode cX6_burn 32 = .ok (.iload_n 2, 1) := by decide +kernel
theorem dX6_burn_33 : decode cX6_burn 33 = .ok (.if_icmp .gt 27, 3) := by decide +kernel
theorem dX6_burn_36 : decode cX6_burn 36 = .ok (.aload_n 0, 1) := by decide +kernel
theorem dX6_burn_37 : decode cX6_burn 37 = .ok (.getfield 22, 3) := by decide +kernel
theorem dX6_burn_40 : decode cX6_burn 40 = .ok (.getfield 107, 3) := by decide +kernel
theorem dX6_burn_43 : decode cX6_burn 43 = .ok (.iload 4, 2) := by decide +kernel
theorem dX6_burn_45 : decode cX6_burn 45 = .ok (.invokevirtual 111, 3) := by decide +kernel
theorem dX6_burn_48 : decode cX6_burn 48 = .ok (.ifCond .eq 6, 3) := by decide +kernel
theorem dX6_burn_51 : decode cX6_burn 51 = .ok (.iinc 3 1, 3) := by decide +kernel
theorem dX6_burn_54 : decode cX6_burn 54 = .ok (.iinc 4 1, 3) := by decide +kernel
theorem dX6_burn_57 : decode cX6_burn 57 = .ok (.goto (-27), 3) := by decide +kernel
theorem dX6_burn_60 : decode cX6_burn 60 = .ok (.iload_n 3, 1) := by decide +kernel
theorem dX6_burn_61 : decode cX6_burn 61 = .ok (.ireturn, 1) := by decide +kernel
set_option maxRecDepth 20000 in
theorem ggX6_alter_X6_needPage : GoodIn wsX6_alter wsX6_needPage := goodIn_ca (goodIn_r _ [12, 13, 14, 5, 15, 30, 31, 32, 33, 34, 35, 36, 37, 38, 39, 40, 41, 42, 43, 44, 45, 46] (by decide +kernel) (by decide +kernel)) (goodIn_sub (fun _ h => List.mem_cons_of_mem _ (List.mem_append_right _ h)) (by decide +kernel))
set_option maxRecDepth 20000 in
theorem gX6_alter_X6_needPage : GoodIn wsX6_alter (wsV RX6 88 RX6 yX6_needPage wsX6_needPage) := goodIn_app (goodIn_of _ (by decide +kernel)) ggX6_alter_X6_needPage
set_option maxRecDepth 20000 in
theorem ggX6_alter_X6_needAmount : GoodIn wsX6_alter wsX6_needAmount := goodIn_ca (goodIn_r _ [18, 1, 2] (by decide +kernel) (by decide +kernel)) (goodIn_sub (fun _ h => List.mem_cons_of_mem _ (List.mem_append_left _ (List.mem_append_left _ (List.mem_append_right _ h)))) (by decide +kernel))
set_option maxRecDepth 20000 in
theorem gX6_alter_X6_needAmount : GoodIn wsX6_alter (va_wsS RX6 48 yX6_needAmount wsX6_needAmount) := goodIn_app (goodIn_of _ (by decide +kernel)) ggX6_alter_X6_needAmount
set_option maxRecDepth 20000 in
theorem ggX6_alter_X4_isFilled : GoodIn wsX6_alter wsX4_isFilled := goodIn_r _ [23, 24, 47, 48] (by decide +kernel) (by decide +kernel)
set_option maxRecDepth 20000 in
theorem gX6_alter_X4_isFilled : GoodIn wsX6_alter (wsV RX6 118 RX4 yX4_isFilled wsX4_isFilled) := goodIn_app (goodIn_of _ (by decide +kernel)) ggX6_alter_X4_isFilled
set_option maxRecDepth 20000 in
theorem ggX6_alter_X4_replace : GoodIn wsX6_alter wsX4_replace := goodIn_r _ [28, 29, 47, 48] (by decide +kernel) (by decide +kernel)
set_option maxRecDepth 20000 in
theorem gX6_alter_X4_replace : GoodIn wsX6_alter (wsV RX6 127 RX4 yX4_replace wsX4_replace) := goodIn_app (goodIn_of _ (by decide +kernel)) ggX6_alter_X4_replace
theorem dX6_alter_0 : decode cX6_alter 0 = .ok (.aload_n 0, 1) := by decide +kernel
theorem dX6_alter_1 : decode cX6_alter 1 = .ok (.iload_n 1, 1) := by decide +kernel
theorem dX6_alter_2 : decode cX6_alter 2 = .ok (.invokevirtual 88, 3) := by decide +kernel
theorem dX6_alter_5 : decode cX6_alter 5 = .ok (.iload_n 2, 1) := by decide +kernel
theorem dX6_alter_6 : decode cX6_alter 6 = .ok (.ifCond .lt 8, 3) := by decide +kernel
theorem dX6_alter_9 : decode cX6_alter 9 = .ok (.iload_n 2, 1) := by decide +kernel
theorem dX6_alter_10 : decode cX6_alter 10 = .ok (.iconst 4, 1) := by decide +kernel
theorem dX6_alter_11 : decode cX6_alter 11 = .ok (.if_icmp .lt 13, 3) := by decide +kernel
theorem dX6_alter_14 : decode cX6_alter 14 = .ok (.new 51, 3) := by decide +kernel
theorem dX6_alter_17 : decode cX6_alter 17 = .ok (.dup, 1) := by decide +kernel
theorem dX6_alter_18 : decode cX6_alter 18 = .ok (.ldc 116, 2) := by decide +kernel
theorem dX6_alter_20 : decode cX6_alter 20 = .ok (.invokespecial 55, 3) := by decide +kernel
theorem dX6_alter_23 : decode cX6_alter 23 = .ok (.athrow, 1) := by decide +kernel
theorem dX6_alter_24 : decode cX6_alter 24 = .ok (.iload_n 3, 1) := by decide +kernel
theorem dX6_alter_25 : decode cX6_alter 25 = .ok (.invokestatic 48, 3) := by decide +kernel
theorem dX6_alter_28 : decode cX6_alter 28 = .ok (.aload_n 0, 1) := by decide +kernel
theorem dX6_alter_29 : decode cX6_alter 29 = .ok (.getfield 22, 3) := by decide +kernel
theorem dX6_alter_32 : decode cX6_alter 32 = .ok (.getfield 107, 3) := by decide +kernel
theorem dX6_alter_35 : decode cX6_alter 35 = .ok (.iload_n 1, 1) := by decide +kernel
theorem dX6_alter_36 : decode cX6_alter 36 = .ok (.invokevirtual 118, 3) := by decide +kernel
theorem dX6_alter_39 : decode cX6_alter 39 = .ok (.ifCond .eq 16, 3) := by decide +kernel
theorem dX6_alter_42 : decode cX6_alter 42 = .ok (.iload_n 2, 1) := by decide +kernel
theorem dX6_alter_43 : decode cX6_alter 43 = .ok (.aload_n 0, 1) := by decide +kernel
theorem dX6_alter_44 : decode cX6_alter 44 = .ok (.getfield 22, 3) := by decide +kernel
theorem dX6_alter_47 : decode cX6_alter 47 = .ok (.getfield 121, 3) := by decide +kernel
theorem dX6_alter_50 : decode cX6_alter 50 = .ok (.iload_n 1, 1) := by decide +kernel
theorem dX6_alter_51 : decode cX6_alter 51 = .ok (.iaload, 1) := by decide +kernel
theorem dX6_alter_52 : decode cX6_alter 52 = .ok (.if_icmp .lt 13, 3) := by decide +kernel
theorem dX6_alter_55 : decode cX6_alter 55 = .ok (.new 62, 3) := by decide +kernel
theorem dX6_alter_58 : decode cX6_alter 58 = .ok (.dup, 1) := by decide +kernel
theorem dX6_alter_59 : decode cX6_alter 59 = .ok (.ldc 125, 2) := by decide +kernel
theorem dX6_alter_61 : decode cX6_alter 61 = .ok (.invokespecial 66, 3) := by decide +kernel
theorem dX6_alter_64 : decode cX6_alter 64 = .ok (.athrow, 1) := by decide +kernel
theorem dX6_alter_65 : decode cX6_alter 65 = .ok (.aload_n 0, 1) := by decide +kernel
theorem dX6_alter_66 : decode cX6_alter 66 = .ok (.getfield 22, 3) := by decide +kernel
theorem dX6_alter_69 : decode cX6_alter 69 = .ok (.getfield 107, 3) := by decide +kernel
theorem dX6_alter_72 : decode cX6_alter 72 = .ok (.iload_n 1, 1) := by decide +kernel
theorem dX6_alter_73 : decode cX6_alter 73 = .ok (.iload_n 2, 1) := by decide +kernel
theorem dX6_alter_74 : decode cX6_alter 74 = .ok (.iload_n 3, 1) := by decide +kernel
theorem dX6_alter_75 : decode cX6_alter 75 = .ok (.invokevirtual 127, 3) := by decide +kernel
theorem dX6_alter_78 : decode cX6_alter 78 = .ok (.ireturn, 1) := by decide +kernel
set_option maxRecDepth 20000 in
theorem ggX6_copy_X6_needRoomForCopy : GoodIn wsX6_copy wsX6_needRoomForCopy := goodIn_ca (goodIn_r _ [7, 8, 9, 1, 2, 10, 11, 12, 13, 14, 15, 16, 17, 18, 19, 20, 21, 22, 23, 24, 25, 26, 27, 28, 29, 30, 31, 32, 33, 70, 71, 72, 73, 74, 75, 76, 77, 78, 79, 80, 81, 82, 83, 84, 85, 86, 87, 88, 89, 90] (by decide +kernel) (by decide +kernel)) (goodIn_sub (fun _ h => List.mem_cons_of_mem _ (List.mem_append_right _ h)) (by decide +kernel))
set_option maxRecDepth 20000 in
theorem gX6_copy_X6_needRoomForCopy : GoodIn wsX6_copy (wsV RX6 131 RX6 yX6_needRoomForCopy wsX6_needRoomForCopy) := goodIn_app (goodIn_of _ (by decide +kernel)) ggX6_copy_X6_needRoomForCopy
set_option maxRecDepth 20000 in
theorem ggX6_copy_X5_make : GoodIn wsX6_copy wsX5_make := goodIn_r _ [37, 38, 39, 40, 41, 42, 43, 44, 45, 46, 15, 47, 48, 49, 50, 51, 52, 53, 54, 31, 55, 56, 57, 58, 59, 60, 61, 62, 63, 33, 64, 65, 66, 67, 68, 69, 91, 92, 93, 94, 95, 78, 79, 80, 81, 82, 83, 84, 85, 86, 87, 88, 76, 77, 89, 90] (by decide +kernel) (by decide +kernel)
set_option maxRecDepth 20000 in
theorem gX6_copy_X5_make : GoodIn wsX6_copy (wsV RX6 134 RX5 yX5_make wsX5_make) := goodIn_app (goodIn_of _ (by decide +kernel)) ggX6_copy_X5_make
theorem dX6_copy_0 : decode cX6_copy 0 = .ok (.aload_n 0, 1) := by decide +kernel
theorem dX6_copy_1 : decode cX6_copy 1 = .ok (.invokevirtual 131, 3) := by decide +kernel
theorem dX6_copy_4 : decode cX6_copy 4 = .ok (.aload_n 0, 1) := by decide +kernel
theorem dX6_copy_5 : decode cX6_copy 5 = .ok (.getfield 29, 3) := by decide +kernel
theorem dX6_copy_8 : decode cX6_copy 8 = .ok (.aconst_null, 1) := by decide +kernel
theorem dX6_copy_9 : decode cX6_copy 9 = .ok (.aload_n 0, 1) := by decide +kernel
theorem dX6_copy_10 : decode cX6_copy 10 = .ok (.getfield 22, 3) := by decide +kernel
theorem dX6_copy_13 : decode cX6_copy 13 = .ok (.invokevirtual 134, 3) := by decide +kernel
theorem dX6_copy_16 : decode cX6_copy 16 = .ok (.ireturn, 1) := by decide +kernel
set_option maxRecDepth 20000 in
theorem ggX6_copyFrom_X6_needCopy : GoodIn wsX6_copyFrom wsX6_needCopy := goodIn_ca (goodIn_r _ [7, 8, 9, 1, 10, 11, 12, 13, 14, 15, 16, 80, 81, 82, 83, 84, 85, 86, 87] (by decide +kernel) (by decide +kernel)) (goodIn_sub (fun _ h => List.mem_cons_of_mem _ (List.mem_append_left _ (List.mem_append_right _ h))) (by decide +kernel))
set_option maxRecDepth 20000 in
theorem gX6_copyFrom_X6_needCopy : GoodIn wsX6_copyFrom (wsV RX6 138 RX6 yX6_needCopy wsX6_needCopy) := goodIn_app (goodIn_of _ (by decide +kernel)) ggX6_copyFrom_X6_needCopy
set_option maxRecDepth 20000 in
theorem ggX6_copyFrom_X6_needRoomForCopy : GoodIn wsX6_copyFrom wsX6_needRoomForCopy := goodIn_ca (goodIn_r _ [20, 21, 22, 1, 2, 23, 24, 25, 13, 26, 15, 27, 28, 29, 30, 31, 32, 33, 34, 35, 36, 37, 38, 39, 40, 41, 42, 43, 44, 80, 81, 82, 83, 84, 85, 86, 87, 88, 89, 90, 91, 92, 93, 94, 95, 96, 97, 98, 99, 100] (by decide +kernel) (by decide +kernel)) (goodIn_sub (fun _ h => List.mem_cons_of_mem _ (List.mem_append_right _ h)) (by decide +kernel))
set_option maxRecDepth 20000 in
theorem gX6_copyFrom_X6_needRoomForCopy : GoodIn wsX6_copyFrom (wsV RX6 131 RX6 yX6_needRoomForCopy wsX6_needRoomForCopy) := goodIn_app (goodIn_of _ (by decide +kernel)) ggX6_copyFrom_X6_needRoomForCopy
set_option maxRecDepth 20000 in
theorem ggX6_copyFrom_X5_make : GoodIn wsX6_copyFrom wsX5_make := goodIn_r _ [48, 49, 50, 51, 52, 53, 54, 55, 56, 16, 15, 57, 58, 59, 60, 61, 62, 63, 64, 42, 65, 66, 67, 68, 69, 70, 71, 72, 73, 44, 74, 75, 76, 77, 78, 79, 101, 102, 103, 104, 105, 88, 89, 90, 91, 92, 93, 94, 95, 96, 97, 98, 86, 87, 99, 100] (by decide +kernel) (by decide +kernel)
set_option maxRecDepth 20000 in
theorem gX6_copyFrom_X5_make : GoodIn wsX6_copyFrom (wsV RX6 134 RX5 yX5_make wsX5_make) := goodIn_app (goodIn_of _ (by decide +kernel)) ggX6_copyFrom_X5_make
theorem dX6_copyFrom_0 : decode cX6_copyFrom 0 = .ok (.aload_n 0, 1) := by decide +kernel
theorem dX6_copyFrom_1 : decode cX6_copyFrom 1 = .ok (.iload_n 1, 1) := by decide +kernel
theorem dX6_copyFrom_2 : decode cX6_copyFrom 2 = .ok (.invokevirtual 138, 3) := by decide +kernel
theorem dX6_copyFrom_5 : decode cX6_copyFrom 5 = .ok (.astore_n 2, 1) := by decide +kernel
theorem dX6_copyFrom_6 : decode cX6_copyFrom 6 = .ok (.aload_n 0, 1) := by decide +kernel
theorem dX6_copyFrom_7 : decode cX6_copyFrom 7 = .ok (.invokevirtual 131, 3) := by decide +kernel
theorem dX6_copyFrom_10 : decode cX6_copyFrom 10 = .ok (.aload_n 0, 1) := by decide +kernel
theorem dX6_copyFrom_11 : decode cX6_copyFrom 11 = .ok (.getfield 29, 3) := by decide +kernel
theorem dX6_copyFrom_14 : decode cX6_copyFrom 14 = .ok (.aload_n 2, 1) := by decide +kernel
theorem dX6_copyFrom_15 : decode cX6_copyFrom 15 = .ok (.aload_n 0, 1) := by decide +kernel
theorem dX6_copyFrom_16 : decode cX6_copyFrom 16 = .ok (.getfield 22, 3) := by decide +kernel
theorem dX6_copyFrom_19 : decode cX6_copyFrom 19 = .ok (.invokevirtual 134, 3) := by decide +kernel
theorem dX6_copyFrom_22 : decode cX6_copyFrom 22 = .ok (.ireturn, 1) := by decide +kernel
set_option maxRecDepth 20000 in
theorem ggX6_carry_X6_needCopy : GoodIn wsX6_carry wsX6_needCopy := goodIn_ca (goodIn_r _ [7, 8, 9, 10, 11, 12, 13, 14, 15, 16, 17, 39, 40, 41, 42, 43, 44, 45, 46] (by decide +kernel) (by decide +kernel)) (goodIn_sub (fun _ h => List.mem_cons_of_mem _ (List.mem_append_right _ h)) (by decide +kernel))
set_option maxRecDepth 20000 in
theorem gX6_carry_X6_needCopy : GoodIn wsX6_carry (wsV RX6 138 RX6 yX6_needCopy wsX6_needCopy) := goodIn_app (goodIn_of _ (by decide +kernel)) ggX6_carry_X6_needCopy
set_option maxRecDepth 20000 in
theorem ggX6_carry_X1_blankStruck : GoodIn wsX6_carry wsX1_blankStruck := goodIn_r _ [22, 23, 24, 25, 26, 27, 28, 29, 30, 31, 32, 33, 34, 35, 36, 37, 38, 47, 48, 49, 50, 51, 52, 53, 54, 55, 56, 57, 58, 59] (by decide +kernel) (by decide +kernel)
set_option maxRecDepth 20000 in
theorem gX6_carry_X1_blankStruck : GoodIn wsX6_carry (wsV RX6 148 RX1 yX1_blankStruck wsX1_blankStruck) := goodIn_app (goodIn_of _ (by decide +kernel)) ggX6_carry_X1_blankStruck
theorem dX6_carry_0 : decode cX6_carry 0 = .ok (.aload_n 0, 1) := by decide +kernel
theorem dX6_carry_1 : decode cX6_carry 1 = .ok (.iload_n 1, 1) := by decide +kernel
theorem dX6_carry_2 : decode cX6_carry 2 = .ok (.invokevirtual 138, 3) := by decide +kernel
theorem dX6_carry_5 : decode cX6_carry 5 = .ok (.astore_n 3, 1) := by decide +kernel
theorem dX6_carry_6 : decode cX6_carry 6 = .ok (.aload_n 3, 1) := by decide +kernel
theorem dX6_carry_7 : decode cX6_carry 7 = .ok (.iload_n 2, 1) := by decide +kernel
theorem dX6_carry_8 : decode cX6_carry 8 = .ok (.putfield 142, 3) := by decide +kernel
theorem dX6_carry_11 : decode cX6_carry 11 = .ok (.iload_n 2, 1) := by decide +kernel
theorem dX6_carry_12 : decode cX6_carry 12 = .ok (.ifCond .eq 14, 3) := by decide +kernel
theorem dX6_carry_15 : decode cX6_carry 15 = .ok (.aload_n 3, 1) := by decide +kernel
theorem dX6_carry_16 : decode cX6_carry 16 = .ok (.aload_n 0, 1) := by decide +kernel
theorem dX6_carry_17 : decode cX6_carry 17 = .ok (.getfield 22, 3) := by decide +kernel
theorem dX6_carry_20 : decode cX6_carry 20 = .ok (.invokevirtual 148, 3) := by decide +kernel
theorem dX6_carry_23 : decode cX6_carry 23 = .ok (.goto 4, 3) := by decide +kernel
theorem dX6_carry_26 : decode cX6_carry 26 = .ok (.iconst 0, 1) := by decide +kernel
theorem dX6_carry_27 : decode cX6_carry 27 = .ok (.ireturn, 1) := by decide +kernel
set_option maxRecDepth 20000 in
theorem ggX6_rot_X6_needCopy : GoodIn wsX6_rot wsX6_needCopy := goodIn_ca (goodIn_r _ [6, 7, 8, 9, 10, 11, 12, 13, 14, 15, 16, 34, 35, 36, 37, 38, 39, 40, 41] (by decide +kernel) (by decide +kernel)) (goodIn_sub (fun _ h => List.mem_cons_of_mem _ (List.mem_append_right _ h)) (by decide +kernel))
set_option maxRecDepth 20000 in
theorem gX6_rot_X6_needCopy : GoodIn wsX6_rot (wsV RX6 138 RX6 yX6_needCopy wsX6_needCopy) := goodIn_app (goodIn_of _ (by decide +kernel)) ggX6_rot_X6_needCopy
set_option maxRecDepth 20000 in
theorem ggX6_rot_X6_needPageIn : GoodIn wsX6_rot wsX6_needPageIn := goodIn_ca (goodIn_r _ [19, 7, 8, 20, 21, 29, 30, 31, 32, 33] (by decide +kernel) (by decide +kernel)) (goodIn_sub (fun _ h => List.mem_cons_of_mem _ (List.mem_append_right _ h)) (by decide +kernel))
set_option maxRecDepth 20000 in
theorem gX6_rot_X6_needPageIn : GoodIn wsX6_rot (va_wsS RX6 152 yX6_needPageIn wsX6_needPageIn) := goodIn_app (goodIn_of _ (by decide +kernel)) ggX6_rot_X6_needPageIn
set_option maxRecDepth 20000 in
theorem ggX6_rot_X4_blank : GoodIn wsX6_rot wsX4_blank := goodIn_r _ [26, 27, 28, 42, 43] (by decide +kernel) (by decide +kernel)
set_option maxRecDepth 20000 in
theorem gX6_rot_X4_blank : GoodIn wsX6_rot (wsV RX6 111 RX4 yX4_blank wsX4_blank) := goodIn_app (goodIn_of _ (by decide +kernel)) ggX6_rot_X4_blank
theorem dX6_rot_0 : decode cX6_rot 0 = .ok (.aload_n 0, 1) := by decide +kernel
theorem dX6_rot_1 : decode cX6_rot 1 = .ok (.iload_n 1, 1) := by decide +kernel
theorem dX6_rot_2 : decode cX6_rot 2 = .ok (.invokevirtual 138, 3) := by decide +kernel
theorem dX6_rot_5 : decode cX6_rot 5 = .ok (.astore_n 3, 1) := by decide +kernel
theorem dX6_rot_6 : decode cX6_rot 6 = .ok (.aload_n 3, 1) := by decide +kernel
theorem dX6_rot_7 : decode cX6_rot 7 = .ok (.iload_n 2, 1) := by decide +kernel
theorem dX6_rot_8 : decode cX6_rot 8 = .ok (.invokestatic 152, 3) := by decide +kernel
theorem dX6_rot_11 : decode cX6_rot 11 = .ok (.aload_n 3, 1) := by decide +kernel
theorem dX6_rot_12 : decode cX6_rot 12 = .ok (.getfield 156, 3) := by decide +kernel
theorem dX6_rot_15 : decode cX6_rot 15 = .ok (.iload_n 2, 1) := by decide +kernel
theorem dX6_rot_16 : decode cX6_rot 16 = .ok (.invokevirtual 111, 3) := by decide +kernel
theorem dX6_rot_19 : decode cX6_rot 19 = .ok (.ireturn, 1) := by decide +kernel
set_option maxRecDepth 20000 in
theorem ggX6_throwAway_X6_needCopy : GoodIn wsX6_throwAway wsX6_needCopy := goodIn_ca (goodIn_r _ [10, 11, 12, 3, 13, 14, 15, 16, 17, 18, 19, 65, 66, 67, 68, 69, 70, 71, 72] (by decide +kernel) (by decide +kernel)) (goodIn_sub (fun _ h => List.mem_cons_of_mem _ (List.mem_append_right _ h)) (by decide +kernel))
set_option maxRecDepth 20000 in
theorem gX6_throwAway_X6_needCopy : GoodIn wsX6_throwAway (wsV RX6 138 RX6 yX6_needCopy wsX6_needCopy) := goodIn_app (goodIn_of _ (by decide +kernel)) ggX6_throwAway_X6_needCopy
set_option maxRecDepth 20000 in
theorem ggX6_throwAway_X5_isBase : GoodIn wsX6_throwAway wsX5_isBase := goodIn_r _ [23, 18, 19, 24, 71, 72, 73, 74, 75, 76, 77] (by decide +kernel) (by decide +kernel)
set_option maxRecDepth 20000 in
theorem gX6_throwAway_X5_isBase : GoodIn wsX6_throwAway (wsV RX6 159 RX5 yX5_isBase wsX5_isBase) := goodIn_app (goodIn_of _ (by decide +kernel)) ggX6_throwAway_X5_isBase
set_option maxRecDepth 20000 in
theorem ggX6_throwAway_X2_holdsAnyIn : GoodIn wsX6_throwAway wsX2_holdsAnyIn := goodIn_r _ [29, 30, 31, 32, 33, 34, 35, 36, 37, 38, 39, 40, 41, 28, 42, 43, 44, 45, 46, 47, 48, 49, 50, 51, 52, 53, 54, 55, 56, 73, 74, 75, 76, 77, 78, 79, 80, 81, 82, 83, 84, 85, 86, 87, 88, 89, 90, 91, 92, 93, 94, 95, 96, 97] (by decide +kernel) (by decide +kernel)
set_option maxRecDepth 20000 in
theorem gX6_throwAway_X2_holdsAnyIn : GoodIn wsX6_throwAway (wsV RX6 163 RX2 yX2_holdsAnyIn wsX2_holdsAnyIn) := goodIn_app (goodIn_of _ (by decide +kernel)) ggX6_throwAway_X2_holdsAnyIn
set_option maxRecDepth 20000 in
theorem ggX6_throwAway_X5_remove : GoodIn wsX6_throwAway wsX5_remove := goodIn_r _ [60, 19, 71, 72] (by decide +kernel) (by decide +kernel)
set_option maxRecDepth 20000 in
theorem gX6_throwAway_X5_remove : GoodIn wsX6_throwAway (wsV RX6 169 RX5 yX5_remove wsX5_remove) := goodIn_app (goodIn_of _ (by decide +kernel)) ggX6_throwAway_X5_remove
set_option maxRecDepth 20000 in
theorem ggX6_throwAway_X5_countThere : GoodIn wsX6_throwAway wsX5_countThere := goodIn_r _ [64, 18, 19, 71, 72] (by decide +kernel) (by decide +kernel)
set_option maxRecDepth 20000 in
theorem gX6_throwAway_X5_countThere : GoodIn wsX6_throwAway (wsV RX6 172 RX5 yX5_countThere wsX5_countThere) := goodIn_app (goodIn_of _ (by decide +kernel)) ggX6_throwAway_X5_countThere
theorem dX6_throwAway_0 : decode cX6_throwAway 0 = .ok (.aload_n 0, 1) := by decide +kernel
theorem dX6_throwAway_1 : decode cX6_throwAway 1 = .ok (.iload_n 1, 1) := by decide +kernel
theorem dX6_throwAway_2 : decode cX6_throwAway 2 = .ok (.invokevirtual 138, 3) := by decide +kernel
theorem dX6_throwAway_5 : decode cX6_throwAway 5 = .ok (.astore_n 2, 1) := by decide +kernel
theorem dX6_throwAway_6 : decode cX6_throwAway 6 = .ok (.aload_n 0, 1) := by decide +kernel
theorem dX6_throwAway_7 : decode cX6_throwAway 7 = .ok (.getfield 29, 3) := by decide +kernel
theorem dX6_throwAway_10 : decode cX6_throwAway 10 = .ok (.aload_n 2, 1) := by decide +kernel
theorem dX6_throwAway_11 : decode cX6_throwAway 11 = .ok (.invokevirtual 159, 3) := by decide +kernel
theorem dX6_throwAway_14 : decode cX6_throwAway 14 = .ok (.ifCond .ne 18, 3) := by decide +kernel
theorem dX6_throwAway_17 : decode cX6_throwAway 17 = .ok (.aload_n 0, 1) := by decide +kernel
theorem dX6_throwAway_18 : decode cX6_throwAway 18 = .ok (.getfield 36, 3) := by decide +kernel
theorem dX6_throwAway_21 : decode cX6_throwAway 21 = .ok (.aload_n 2, 1) := by decide +kernel
theorem dX6_throwAway_22 : decode cX6_throwAway 22 = .ok (.aload_n 0, 1) := by decide +kernel
theorem dX6_throwAway_23 : decode cX6_throwAway 23 = .ok (.getfield 22, 3) := by decide +kernel
theorem dX6_throwAway_26 : decode cX6_throwAway 26 = .ok (.invokevirtual 163, 3) := by decide +kernel
theorem dX6_throwAway_29 : decode cX6_throwAway 29 = .ok (.ifCond .eq 13, 3) := by decide +kernel
theorem dX6_throwAway_32 : decode cX6_throwAway 32 = .ok (.new 62, 3) := by decide +kernel
theorem dX6_throwAway_35 : decode cX6_throwAway 35 = .ok (.dup, 1) := by decide +kernel
theorem dX6_throwAway_36 : decode cX6_throwAway 36 = .ok (.ldc 167, 2) := by decide +kernel
theorem dX6_throwAway_38 : decode cX6_throwAway 38 = .ok (.invokespecial 66, 3) := by decide +kernel
theorem dX6_throwAway_41 : decode cX6_throwAway 41 = .ok (.athrow, 1) := by decide +kernel
theorem dX6_throwAway_42 : decode cX6_throwAway 42 = .ok (.aload_n 0, 1) := by decide +kernel
theorem dX6_throwAway_43 : decode cX6_throwAway 43 = .ok (.getfield 29, 3) := by decide +kernel
theorem dX6_throwAway_46 : decode cX6_throwAway 46 = .ok (.iload_n 1, 1) := by decide +kernel
theorem dX6_throwAway_47 : decode cX6_throwAway 47 = .ok (.invokevirtual 169, 3) := by decide +kernel
theorem dX6_throwAway_50 : decode cX6_throwAway 50 = .ok (.aload_n 0, 1) := by decide +kernel
theorem dX6_throwAway_51 : decode cX6_throwAway 51 = .ok (.getfield 29, 3) := by decide +kernel
theorem dX6_throwAway_54 : decode cX6_throwAway 54 = .ok (.invokevirtual 172, 3) := by decide +kernel
theorem dX6_throwAway_57 : decode cX6_throwAway 57 = .ok (.ireturn, 1) := by decide +kernel
set_option maxRecDepth 20000 in
theorem ggX6_restore_X6_needCopy : GoodIn wsX6_restore wsX6_needCopy := goodIn_ca (goodIn_r _ [9, 10, 11, 12, 13, 14, 15, 16, 17, 18, 19, 57, 58, 59, 60, 61, 62, 68, 69] (by decide +kernel) (by decide +kernel)) (goodIn_sub (fun _ h => List.mem_cons_of_mem _ (List.mem_append_right _ h)) (by decide +kernel))
set_option maxRecDepth 20000 in
theorem gX6_restore_X6_needCopy : GoodIn wsX6_restore (wsV RX6 138 RX6 yX6_needCopy wsX6_needCopy) := goodIn_app (goodIn_of _ (by decide +kernel)) ggX6_restore_X6_needCopy
set_option maxRecDepth 20000 in
theorem ggX6_restore_X1_isChainInVault : GoodIn wsX6_restore wsX1_isChainInVault := goodIn_r _ [24, 25, 26, 63, 64, 65, 66, 67] (by decide +kernel) (by decide +kernel)
set_option maxRecDepth 20000 in
theorem gX6_restore_X1_isChainInVault : GoodIn wsX6_restore (wsV RX6 175 RX1 yX1_isChainInVault wsX1_isChainInVault) := goodIn_app (goodIn_of _ (by decide +kernel)) ggX6_restore_X1_isChainInVault
set_option maxRecDepth 20000 in
theorem ggX6_restore_X1_giveBack : GoodIn wsX6_restore wsX1_giveBack := goodIn_r _ [30, 31, 32, 33, 34, 35, 36, 37, 38, 39, 40, 41, 42, 43, 44, 45, 46, 47, 48, 49, 50, 51, 52, 53, 54, 55, 56, 63, 64, 65, 66, 67, 70, 71, 72, 73, 74, 75, 76, 77, 78, 79, 80, 81, 82] (by decide +kernel) (by decide +kernel)
set_option maxRecDepth 20000 in
theorem gX6_restore_X1_giveBack : GoodIn wsX6_restore (wsV RX6 180 RX1 yX1_giveBack wsX1_giveBack) := goodIn_app (goodIn_of _ (by decide +kernel)) ggX6_restore_X1_giveBack
theorem dX6_restore_0 : decode cX6_restore 0 = .ok (.aload_n 0, 1) := by decide +kernel
theorem dX6_restore_1 : decode cX6_restore 1 = .ok (.iload_n 1, 1) := by decide +kernel
theorem dX6_restore_2 : decode cX6_restore 2 = .ok (.invokevirtual 138, 3) := by decide +kernel
theorem dX6_restore_5 : decode cX6_restore 5 = .ok (.astore_n 2, 1) := by decide +kernel
theorem dX6_restore_6 : decode cX6_restore 6 = .ok (.aload_n 2, 1) := by decide +kernel
theorem dX6_restore_7 : decode cX6_restore 7 = .ok (.invokevirtual 175, 3) := by decide +kernel
theorem dX6_restore_10 : decode cX6_restore 10 = .ok (.ifCond .ne 13, 3) := by decide +kernel
theorem dX6_restore_13 : decode cX6_restore 13 = .ok (.new 62, 3) := by decide +kernel
theorem dX6_restore_16 : decode cX6_restore 16 = .ok (.dup, 1) := by decide +kernel
theorem dX6_restore_17 : decode cX6_restore 17 = .ok (.ldc 178, 2) := by decide +kernel
theorem dX6_restore_19 : decode cX6_restore 19 = .ok (.invokespecial 66, 3) := by decide +kernel
theorem dX6_restore_22 : decode cX6_restore 22 = .ok (.athrow, 1) := by decide +kernel
theorem dX6_restore_23 : decode cX6_restore 23 = .ok (.iconst 0, 1) := by decide +kernel
theorem dX6_restore_24 : decode cX6_restore 24 = .ok (.istore_n 3, 1) := by decide +kernel
theorem dX6_restore_25 : decode cX6_restore 25 = .ok (.aload_n 2, 1) := by decide +kernel
theorem dX6_restore_26 : decode cX6_restore 26 = .ok (.astore 4, 2) := by decide +kernel
theorem dX6_restore_28 : decode cX6_restore 28 = .ok (.aload 4, 2) := by decide +kernel
theorem dX6_restore_30 : decode cX6_restore 30 = .ok (.ifnull 25, 3) := by decide +kernel
theorem dX6_restore_33 : decode cX6_restore 33 = .ok (.iload_n 3, 1) := by decide +kernel
theorem dX6_restore_34 : decode cX6_restore 34 = .ok (.aload 4, 2) := by decide +kernel
theorem dX6_restore_36 : decode cX6_restore 36 = .ok (.aload_n 0, 1) := by decide +kernel
theorem dX6_restore_37 : decode cX6_restore 37 = .ok (.getfield 22, 3) := by decide +kernel
theorem dX6_restore_40 : decode cX6_restore 40 = .ok (.invokevirtual 180, 3) := by decide +kernel
theorem dX6_restore_43 : decode cX6_restore 43 = .ok (.iadd, 1) := by decide +kernel
theorem dX6_restore_44 : decode cX6_restore 44 = .ok (.istore_n 3, 1) := by decide +kernel
theorem dX6_restore_45 : decode cX6_restore 45 = .ok (.aload 4, 2) := by decide +kernel
theorem dX6_restore_47 : decode cX6_restore 47 = .ok (.getfield 183, 3) := by decide +kernel
theorem dX6_restore_50 : decode cX6_restore 50 = .ok (.astore 4, 2) := by decide +kernel
theorem dX6_restore_52 : decode cX6_restore 52 = .ok (.goto (-24), 3) := by decide +kernel
theorem dX6_restore_55 : decode cX6_restore 55 = .ok (.iload_n 3, 1) := by decide +kernel
theorem dX6_restore_56 : decode cX6_restore 56 = .ok (.ireturn, 1) := by decide +kernel
set_option maxRecDepth 20000 in
theorem ggX6_open_X2_isFull : GoodIn wsX6_open wsX2_isFull := goodIn_r _ [8, 9, 21, 22, 23, 24, 25, 26, 27] (by decide +kernel) (by decide +kernel)
set_option maxRecDepth 20000 in
theorem gX6_open_X2_isFull : GoodIn wsX6_open (wsV RX6 187 RX2 yX2_isFull wsX2_isFull) := goodIn_app (goodIn_of _ (by decide +kernel)) ggX6_open_X2_isFull
set_option maxRecDepth 20000 in
theorem ggX6_open_X2_openNext : GoodIn wsX6_open wsX2_openNext := goodIn_r _ [13, 14, 9, 21, 22, 23, 24, 25, 26, 27] (by decide +kernel) (by decide +kernel)
set_option maxRecDepth 20000 in
theorem gX6_open_X2_openNext : GoodIn wsX6_open (wsV RX6 190 RX2 yX2_openNext wsX2_openNext) := goodIn_app (goodIn_of _ (by decide +kernel)) ggX6_open_X2_openNext
theorem dX6_open_0 : decode cX6_open 0 = .ok (.aload_n 0, 1) := by decide +kernel
theorem dX6_open_1 : decode cX6_open 1 = .ok (.getfield 36, 3) := by decide +kernel
theorem dX6_open_4 : decode cX6_open 4 = .ok (.invokevirtual 187, 3) := by decide +kernel
theorem dX6_open_7 : decode cX6_open 7 = .ok (.ifCond .eq 13, 3) := by decide +kernel
theorem dX6_open_10 : decode cX6_open 10 = .ok (.new 62, 3) := by decide +kernel
theorem dX6_open_13 : decode cX6_open 13 = .ok (.dup, 1) := by decide +kernel
theorem dX6_open_14 : decode cX6_open 14 = .ok (.ldc 188, 2) := by decide +kernel
theorem dX6_open_16 : decode cX6_open 16 = .ok (.invokespecial 66, 3) := by decide +kernel
theorem dX6_open_19 : decode cX6_open 19 = .ok (.athrow, 1) := by decide +kernel
theorem dX6_open_20 : decode cX6_open 20 = .ok (.aload_n 0, 1) := by decide +kernel
theorem dX6_open_21 : decode cX6_open 21 = .ok (.getfield 36, 3) := by decide +kernel
theorem dX6_open_24 : decode cX6_open 24 = .ok (.invokevirtual 190, 3) := by decide +kernel
theorem dX6_open_27 : decode cX6_open 27 = .ok (.ireturn, 1) := by decide +kernel
set_option maxRecDepth 20000 in
theorem ggX6_close_X6_needCase : GoodIn wsX6_close wsX6_needCase := goodIn_ca (goodIn_r _ [10, 11, 12, 3, 13, 38, 39, 40, 41, 42, 43, 44, 45, 46, 47, 48, 49, 50] (by decide +kernel) (by decide +kernel)) (goodIn_sub (fun _ h => List.mem_cons_of_mem _ (List.mem_append_right _ h)) (by decide +kernel))
set_option maxRecDepth 20000 in
theorem gX6_close_X6_needCase : GoodIn wsX6_close (wsV RX6 193 RX6 yX6_needCase wsX6_needCase) := goodIn_app (goodIn_of _ (by decide +kernel)) ggX6_close_X6_needCase
set_option maxRecDepth 20000 in
theorem ggX6_close_X2_countHeldAlone : GoodIn wsX6_close wsX2_countHeldAlone := goodIn_r _ [18, 19, 20, 21, 22, 17, 23, 24, 25, 26, 27, 28, 29, 30, 31, 32, 33, 34, 35, 36, 37, 51, 52, 53, 54, 55, 56, 57, 58, 59, 60, 61, 44, 45, 46, 47, 48, 49, 50] (by decide +kernel) (by decide +kernel)
set_option maxRecDepth 20000 in
theorem gX6_close_X2_countHeldAlone : GoodIn wsX6_close (wsV RX6 202 RX2 yX2_countHeldAlone wsX2_countHeldAlone) := goodIn_app (goodIn_of _ (by decide +kernel)) ggX6_close_X2_countHeldAlone
theorem dX6_close_0 : decode cX6_close 0 = .ok (.aload_n 0, 1) := by decide +kernel
theorem dX6_close_1 : decode cX6_close 1 = .ok (.iload_n 1, 1) := by decide +kernel
theorem dX6_close_2 : decode cX6_close 2 = .ok (.invokevirtual 193, 3) := by decide +kernel
theorem dX6_close_5 : decode cX6_close 5 = .ok (.aload_n 0, 1) := by decide +kernel
theorem dX6_close_6 : decode cX6_close 6 = .ok (.getfield 36, 3) := by decide +kernel
theorem dX6_close_9 : decode cX6_close 9 = .ok (.getfield 196, 3) := by decide +kernel
theorem dX6_close_12 : decode cX6_close 12 = .ok (.iload_n 1, 1) := by decide +kernel
theorem dX6_close_13 : decode cX6_close 13 = .ok (.baload, 1) := by decide +kernel
theorem dX6_close_14 : decode cX6_close 14 = .ok (.ifCond .ne 13, 3) := by decide +kernel
theorem dX6_close_17 : decode cX6_close 17 = .ok (.new 62, 3) := by decide +kernel
theorem dX6_close_20 : decode cX6_close 20 = .ok (.dup, 1) := by decide +kernel
theorem dX6_close_21 : decode cX6_close 21 = .ok (.ldc 200, 2) := by decide +kernel
theorem dX6_close_23 : decode cX6_close 23 = .ok (.invokespecial 66, 3) := by decide +kernel
theorem dX6_close_26 : decode cX6_close 26 = .ok (.athrow, 1) := by decide +kernel
theorem dX6_close_27 : decode cX6_close 27 = .ok (.aload_n 0, 1) := by decide +kernel
theorem dX6_close_28 : decode cX6_close 28 = .ok (.getfield 36, 3) := by decide +kernel
theorem dX6_close_31 : decode cX6_close 31 = .ok (.iload_n 1, 1) := by decide +kernel
theorem dX6_close_32 : decode cX6_close 32 = .ok (.aload_n 0, 1) := by decide +kernel
theorem dX6_close_33 : decode cX6_close 33 = .ok (.getfield 22, 3) := by decide +kernel
theorem dX6_close_36 : decode cX6_close 36 = .ok (.invokevirtual 202, 3) := by decide +kernel
theorem dX6_close_39 : decode cX6_close 39 = .ok (.istore_n 2, 1) := by decide +kernel
theorem dX6_close_40 : decode cX6_close 40 = .ok (.aload_n 0, 1) := by decide +kernel
theorem dX6_close_41 : decode cX6_close 41 = .ok (.getfield 36, 3) := by decide +kernel
theorem dX6_close_44 : decode cX6_close 44 = .ok (.getfield 196, 3) := by decide +kernel
theorem dX6_close_47 : decode cX6_close 47 = .ok (.iload_n 1, 1) := by decide +kernel
theorem dX6_close_48 : decode cX6_close 48 = .ok (.iconst 0, 1) := by decide +kernel
theorem dX6_close_49 : decode cX6_close 49 = .ok (.bastore, 1) := by decide +kernel
theorem dX6_close_50 : decode cX6_close 50 = .ok (.iload_n 2, 1) := by decide +kernel
theorem dX6_close_51 : decode cX6_close 51 = .ok (.ireturn, 1) := by decide +kernel
set_option maxRecDepth 20000 in
theorem ggX6_hold_X6_needCase : GoodIn wsX6_hold wsX6_needCase := goodIn_ca (goodIn_r _ [12, 13, 14, 5, 15, 51, 52, 53, 54, 55, 56, 57, 58, 59, 60, 61, 62, 63] (by decide +kernel) (by decide +kernel)) (goodIn_sub (fun _ h => List.mem_cons_of_mem _ (List.mem_append_right _ h)) (by decide +kernel))
set_option maxRecDepth 20000 in
theorem gX6_hold_X6_needCase : GoodIn wsX6_hold (wsV RX6 193 RX6 yX6_needCase wsX6_needCase) := goodIn_app (goodIn_of _ (by decide +kernel)) ggX6_hold_X6_needCase
set_option maxRecDepth 20000 in
theorem ggX6_hold_X6_needAccount : GoodIn wsX6_hold wsX6_needAccount := goodIn_ca (goodIn_r _ [18, 13, 14] (by decide +kernel) (by decide +kernel)) (goodIn_sub (fun _ h => List.mem_cons_of_mem _ (List.mem_append_right _ h)) (by decide +kernel))
set_option maxRecDepth 20000 in
theorem gX6_hold_X6_needAccount : GoodIn wsX6_hold (va_wsS RX6 44 yX6_needAccount wsX6_needAccount) := goodIn_app (goodIn_of _ (by decide +kernel)) ggX6_hold_X6_needAccount
set_option maxRecDepth 20000 in
theorem ggX6_hold_X2_hasAllHolds : GoodIn wsX6_hold wsX2_hasAllHolds := goodIn_r _ [23, 24, 57, 58, 59, 60, 61, 62, 63] (by decide +kernel) (by decide +kernel)
set_option maxRecDepth 20000 in
theorem gX6_hold_X2_hasAllHolds : GoodIn wsX6_hold (wsV RX6 208 RX2 yX2_hasAllHolds wsX2_hasAllHolds) := goodIn_app (goodIn_of _ (by decide +kernel)) ggX6_hold_X2_hasAllHolds
set_option maxRecDepth 20000 in
theorem ggX6_hold_X2_addHold : GoodIn wsX6_hold wsX2_addHold := goodIn_r _ [28, 29, 24, 30, 31, 32, 57, 58, 59, 60, 61, 62, 63] (by decide +kernel) (by decide +kernel)
set_option maxRecDepth 20000 in
theorem gX6_hold_X2_addHold : GoodIn wsX6_hold (wsV RX6 213 RX2 yX2_addHold wsX2_addHold) := goodIn_app (goodIn_of _ (by decide +kernel)) ggX6_hold_X2_addHold
set_option maxRecDepth 20000 in
theorem ggX6_hold_X2_countHeld : GoodIn wsX6_hold wsX2_countHeld := goodIn_r _ [36, 37, 38, 39, 40, 22, 41, 42, 24, 31, 32, 43, 29, 30, 44, 45, 46, 47, 48, 49, 50, 64, 65, 66, 67, 68, 69, 70, 71, 72, 73, 74, 57, 58, 59, 60, 61, 62, 63] (by decide +kernel) (by decide +kernel)
set_option maxRecDepth 20000 in
theorem gX6_hold_X2_countHeld : GoodIn wsX6_hold (wsV RX6 217 RX2 yX2_countHeld wsX2_countHeld) := goodIn_app (goodIn_of _ (by decide +kernel)) ggX6_hold_X2_countHeld
theorem dX6_hold_0 : decode cX6_hold 0 = .ok (.aload_n 0, 1) := by decide +kernel
theorem dX6_hold_1 : decode cX6_hold 1 = .ok (.iload_n 1, 1) := by decide +kernel
theorem dX6_hold_2 : decode cX6_hold 2 = .ok (.invokevirtual 193, 3) := by decide +kernel
theorem dX6_hold_5 : decode cX6_hold 5 = .ok (.iload_n 2, 1) := by decide +kernel
theorem dX6_hold_6 : decode cX6_hold 6 = .ok (.invokestatic 44, 3) := by decide +kernel
theorem dX6_hold_9 : decode cX6_hold 9 = .ok (.iload_n 3, 1) := by decide +kernel
theorem dX6_hold_10 : decode cX6_hold 10 = .ok (.ifCond .lt 17, 3) := by decide +kernel
theorem dX6_hold_13 : decode cX6_hold 13 = .ok (.iload 4, 2) := by decide +kernel
theorem dX6_hold_15 : decode cX6_hold 15 = .ok (.iload_n 3, 1) := by decide +kernel
theorem dX6_hold_16 : decode cX6_hold 16 = .ok (.if_icmp .lt 11, 3) := by decide +kernel
theorem dX6_hold_19 : decode cX6_hold 19 = .ok (.iload 4, 2) := by decide +kernel
theorem dX6_hold_21 : decode cX6_hold 21 = .ok (.sipush 400, 3) := by decide +kernel
theorem dX6_hold_24 : decode cX6_hold 24 = .ok (.if_icmp .le 13, 3) := by decide +kernel
theorem dX6_hold_27 : decode cX6_hold 27 = .ok (.new 51, 3) := by decide +kernel
theorem dX6_hold_30 : decode cX6_hold 30 = .ok (.dup, 1) := by decide +kernel
theorem dX6_hold_31 : decode cX6_hold 31 = .ok (.ldc 206, 2) := by decide +kernel
theorem dX6_hold_33 : decode cX6_hold 33 = .ok (.invokespecial 55, 3) := by decide +kernel
theorem dX6_hold_36 : decode cX6_hold 36 = .ok (.athrow, 1) := by decide +kernel
theorem dX6_hold_37 : decode cX6_hold 37 = .ok (.aload_n 0, 1) := by decide +kernel
theorem dX6_hold_38 : decode cX6_hold 38 = .ok (.getfield 36, 3) := by decide +kernel
theorem dX6_hold_41 : decode cX6_hold 41 = .ok (.getfield 196, 3) := by decide +kernel
theorem dX6_hold_44 : decode cX6_hold 44 = .ok (.iload_n 1, 1) := by decide +kernel
theorem dX6_hold_45 : decode cX6_hold 45 = .ok (.baload, 1) := by decide +kernel
theorem dX6_hold_46 : decode cX6_hold 46 = .ok (.ifCond .eq 13, 3) := by decide +kernel
theorem dX6_hold_49 : decode cX6_hold 49 = .ok (.aload_n 0, 1) := by decide +kernel
theorem dX6_hold_50 : decode cX6_hold 50 = .ok (.getfield 36, 3) := by decide +kernel
theorem dX6_hold_53 : decode cX6_hold 53 = .ok (.invokevirtual 208, 3) := by decide +kernel
theorem dX6_hold_56 : decode cX6_hold 56 = .ok (.ifCond .eq 13, 3) := by decide +kernel
theorem dX6_hold_59 : decode cX6_hold 59 = .ok (.new 62, 3) := by decide +kernel
theorem dX6_hold_62 : decode cX6_hold 62 = .ok (.dup, 1) := by decide +kernel
theorem dX6_hold_63 : decode cX6_hold 63 = .ok (.ldc 211, 2) := by decide +kernel
theorem dX6_hold_65 : decode cX6_hold 65 = .ok (.invokespecial 66, 3) := by decide +kernel
theorem dX6_hold_68 : decode cX6_hold 68 = .ok (.athrow, 1) := by decide +kernel
theorem dX6_hold_69 : decode cX6_hold 69 = .ok (.aload_n 0, 1) := by decide +kernel
theorem dX6_hold_70 : decode cX6_hold 70 = .ok (.getfield 36, 3) := by decide +kernel
theorem dX6_hold_73 : decode cX6_hold 73 = .ok (.iload_n 1, 1) := by decide +kernel
theorem dX6_hold_74 : decode cX6_hold 74 = .ok (.iload_n 2, 1) := by decide +kernel
theorem dX6_hold_75 : decode cX6_hold 75 = .ok (.iload_n 3, 1) := by decide +kernel
theorem dX6_hold_76 : decode cX6_hold 76 = .ok (.iload 4, 2) := by decide +kernel
theorem dX6_hold_78 : decode cX6_hold 78 = .ok (.invokevirtual 213, 3) := by decide +kernel
theorem dX6_hold_81 : decode cX6_hold 81 = .ok (.aload_n 0, 1) := by decide +kernel
theorem dX6_hold_82 : decode cX6_hold 82 = .ok (.getfield 36, 3) := by decide +kernel
theorem dX6_hold_85 : decode cX6_hold 85 = .ok (.iload_n 1, 1) := by decide +kernel
theorem dX6_hold_86 : decode cX6_hold 86 = .ok (.aload_n 0, 1) := by decide +kernel
theorem dX6_hold_87 : decode cX6_hold 87 = .ok (.getfield 22, 3) := by decide +kernel
theorem dX6_hold_90 : decode cX6_hold 90 = .ok (.invokevirtual 217, 3) := by decide +kernel
theorem dX6_hold_93 : decode cX6_hold 93 = .ok (.ireturn, 1) := by decide +kernel
set_option maxRecDepth 20000 in
theorem ggX6_strike_X6_needCase : GoodIn wsX6_strike wsX6_needCase := goodIn_ca (goodIn_r _ [10, 11, 12, 3, 13, 87, 88, 89, 90, 91, 92, 93, 94, 95, 96, 97, 98, 99] (by decide +kernel) (by decide +kernel)) (goodIn_sub (fun _ h => List.mem_cons_of_mem _ (List.mem_append_right _ h)) (by decide +kernel))
set_option maxRecDepth 20000 in
theorem gX6_strike_X6_needCase : GoodIn wsX6_strike (wsV RX6 193 RX6 yX6_needCase wsX6_needCase) := goodIn_app (goodIn_of _ (by decide +kernel)) ggX6_strike_X6_needCase
set_option maxRecDepth 20000 in
theorem ggX6_strike_X6_needPage : GoodIn wsX6_strike wsX6_needPage := goodIn_ca (goodIn_r _ [17, 11, 12, 4, 18, 87, 88, 89, 90, 91, 92, 100, 101, 102, 103, 104, 105, 106, 107, 108, 109, 110] (by decide +kernel) (by decide +kernel)) (goodIn_sub (fun _ h => List.mem_cons_of_mem _ (List.mem_append_right _ h)) (by decide +kernel))
set_option maxRecDepth 20000 in
theorem gX6_strike_X6_needPage : GoodIn wsX6_strike (wsV RX6 88 RX6 yX6_needPage wsX6_needPage) := goodIn_app (goodIn_of _ (by decide +kernel)) ggX6_strike_X6_needPage
set_option maxRecDepth 20000 in
theorem ggX6_strike_X2_maySentence : GoodIn wsX6_strike wsX2_maySentence := goodIn_r _ [23, 24, 25, 26, 27, 28, 22, 29, 30, 31, 32, 33, 34, 35, 36, 37, 38, 39, 40, 41, 42, 43, 44, 45, 46, 47, 48, 49, 50, 51, 52, 53, 54, 55, 56, 57, 58, 93, 94, 95, 96, 97, 98, 99, 100, 101, 102, 103, 104, 105, 106, 107, 108, 109, 110, 111, 112] (by decide +kernel) (by decide +kernel)
set_option maxRecDepth 20000 in
theorem gX6_strike_X2_maySentence : GoodIn wsX6_strike (wsV RX6 220 RX2 yX2_maySentence wsX2_maySentence) := goodIn_app (goodIn_of _ (by decide +kernel)) ggX6_strike_X2_maySentence
set_option maxRecDepth 20000 in
theorem ggX6_strike_X0_markStruck : GoodIn wsX6_strike wsX0_markStruck := goodIn_r _ [62, 63, 64, 65, 66, 67, 51, 68, 53, 58, 100, 101, 102, 103, 104, 105, 106, 107, 108, 109, 110, 111, 112] (by decide +kernel) (by decide +kernel)
set_option maxRecDepth 20000 in
theorem gX6_strike_X0_markStruck : GoodIn wsX6_strike (wsV RX6 226 RX0 yX0_markStruck wsX0_markStruck) := goodIn_app (goodIn_of _ (by decide +kernel)) ggX6_strike_X0_markStruck
set_option maxRecDepth 20000 in
theorem ggX6_strike_X5_blankInVault : GoodIn wsX6_strike wsX5_blankInVault := goodIn_r _ [73, 74, 75, 76, 77, 78, 66, 67, 51, 68, 53, 58, 79, 80, 81, 72, 82, 83, 84, 85, 86, 113, 114, 115, 116, 117, 118, 119, 111, 112] (by decide +kernel) (by decide +kernel)
set_option maxRecDepth 20000 in
theorem gX6_strike_X5_blankInVault : GoodIn wsX6_strike (wsV RX6 229 RX5 yX5_blankInVault wsX5_blankInVault) := goodIn_app (goodIn_of _ (by decide +kernel)) ggX6_strike_X5_blankInVault
theorem dX6_strike_0 : decode cX6_strike 0 = .ok (.aload_n 0, 1) := by decide +kernel
theorem dX6_strike_1 : decode cX6_strike 1 = .ok (.iload_n 1, 1) := by decide +kernel
theorem dX6_strike_2 : decode cX6_strike 2 = .ok (.invokevirtual 193, 3) := by decide +kernel
theorem dX6_strike_5 : decode cX6_strike 5 = .ok (.aload_n 0, 1) := by decide +kernel
theorem dX6_strike_6 : decode cX6_strike 6 = .ok (.iload_n 2, 1) := by decide +kernel
theorem dX6_strike_7 : decode cX6_strike 7 = .ok (.invokevirtual 88, 3) := by decide +kernel
theorem dX6_strike_10 : decode cX6_strike 10 = .ok (.aload_n 0, 1) := by decide +kernel
theorem dX6_strike_11 : decode cX6_strike 11 = .ok (.getfield 36, 3) := by decide +kernel
theorem dX6_strike_14 : decode cX6_strike 14 = .ok (.iload_n 1, 1) := by decide +kernel
theorem dX6_strike_15 : decode cX6_strike 15 = .ok (.aload_n 0, 1) := by decide +kernel
theorem dX6_strike_16 : decode cX6_strike 16 = .ok (.getfield 22, 3) := by decide +kernel
theorem dX6_strike_19 : decode cX6_strike 19 = .ok (.iload_n 2, 1) := by decide +kernel
theorem dX6_strike_20 : decode cX6_strike 20 = .ok (.invokevirtual 220, 3) := by decide +kernel
theorem dX6_strike_23 : decode cX6_strike 23 = .ok (.ifCond .ne 13, 3) := by decide +kernel
theorem dX6_strike_26 : decode cX6_strike 26 = .ok (.new 62, 3) := by decide +kernel
theorem dX6_strike_29 : decode cX6_strike 29 = .ok (.dup, 1) := by decide +kernel
theorem dX6_strike_30 : decode cX6_strike 30 = .ok (.ldc 224, 2) := by decide +kernel
theorem dX6_strike_32 : decode cX6_strike 32 = .ok (.invokespecial 66, 3) := by decide +kernel
theorem dX6_strike_35 : decode cX6_strike 35 = .ok (.athrow, 1) := by decide +kernel
theorem dX6_strike_36 : decode cX6_strike 36 = .ok (.aload_n 0, 1) := by decide +kernel
theorem dX6_strike_37 : decode cX6_strike 37 = .ok (.getfield 22, 3) := by decide +kernel
theorem dX6_strike_40 : decode cX6_strike 40 = .ok (.iload_n 2, 1) := by decide +kernel
theorem dX6_strike_41 : decode cX6_strike 41 = .ok (.invokevirtual 226, 3) := by decide +kernel
theorem dX6_strike_44 : decode cX6_strike 44 = .ok (.aload_n 0, 1) := by decide +kernel
theorem dX6_strike_45 : decode cX6_strike 45 = .ok (.getfield 29, 3) := by decide +kernel
theorem dX6_strike_48 : decode cX6_strike 48 = .ok (.iload_n 2, 1) := by decide +kernel
theorem dX6_strike_49 : decode cX6_strike 49 = .ok (.invokevirtual 229, 3) := by decide +kernel
theorem dX6_strike_52 : decode cX6_strike 52 = .ok (.ireturn, 1) := by decide +kernel
theorem dX6_day_0 : decode cX6_day 0 = .ok (.aload_n 0, 1) := by decide +kernel
theorem dX6_day_1 : decode cX6_day 1 = .ok (.getfield 40, 3) := by decide +kernel
theorem dX6_day_4 : decode cX6_day 4 = .ok (.ireturn, 1) := by decide +kernel
theorem dX6_pages_0 : decode cX6_pages 0 = .ok (.aload_n 0, 1) := by decide +kernel
theorem dX6_pages_1 : decode cX6_pages 1 = .ok (.getfield 22, 3) := by decide +kernel
theorem dX6_pages_4 : decode cX6_pages 4 = .ok (.getfield 233, 3) := by decide +kernel
theorem dX6_pages_7 : decode cX6_pages 7 = .ok (.ireturn, 1) := by decide +kernel
set_option maxRecDepth 20000 in
theorem ggX6_state_X6_needPage : GoodIn wsX6_state wsX6_needPage := goodIn_ca (goodIn_r _ [6, 7, 8, 1, 9, 23, 24, 25, 26, 27, 28, 29, 30, 31, 32, 33, 34, 35, 36, 37, 38, 39] (by decide +kernel) (by decide +kernel)) (goodIn_sub (fun _ h => List.mem_cons_of_mem _ (List.mem_append_right _ h)) (by decide +kernel))
set_option maxRecDepth 20000 in
theorem gX6_state_X6_needPage : GoodIn wsX6_state (wsV RX6 88 RX6 yX6_needPage wsX6_needPage) := goodIn_app (goodIn_of _ (by decide +kernel)) ggX6_state_X6_needPage
set_option maxRecDepth 20000 in
theorem ggX6_state_X0_stateOf : GoodIn wsX6_state wsX0_stateOf := goodIn_r _ [14, 15, 16, 17, 18, 19, 20, 21, 22, 29, 30, 31, 32, 33, 34, 35, 36, 37, 38, 39, 40, 41] (by decide +kernel) (by decide +kernel)
set_option maxRecDepth 20000 in
theorem gX6_state_X0_stateOf : GoodIn wsX6_state (wsV RX6 236 RX0 yX0_stateOf wsX0_stateOf) := goodIn_app (goodIn_of _ (by decide +kernel)) ggX6_state_X0_stateOf
theorem dX6_state_0 : decode cX6_state 0 = .ok (.aload_n 0, 1) := by decide +kernel
theorem dX6_state_1 : decode cX6_state 1 = .ok (.iload_n 1, 1) := by decide +kernel
theorem dX6_state_2 : decode cX6_state 2 = .ok (.invokevirtual 88, 3) := by decide +kernel
theorem dX6_state_5 : decode cX6_state 5 = .ok (.aload_n 0, 1) := by decide +kernel
theorem dX6_state_6 : decode cX6_state 6 = .ok (.getfield 22, 3) := by decide +kernel
theorem dX6_state_9 : decode cX6_state 9 = .ok (.iload_n 1, 1) := by decide +kernel
theorem dX6_state_10 : decode cX6_state 10 = .ok (.invokevirtual 236, 3) := by decide +kernel
theorem dX6_state_13 : decode cX6_state 13 = .ok (.ireturn, 1) := by decide +kernel
set_option maxRecDepth 20000 in
theorem ggX6_isTrue_X6_needPage : GoodIn wsX6_isTrue wsX6_needPage := goodIn_ca (goodIn_r _ [7, 8, 9, 1, 10, 28, 29, 30, 31, 32, 33, 34, 35, 36, 37, 38, 39, 40, 41, 42, 43, 44] (by decide +kernel) (by decide +kernel)) (goodIn_sub (fun _ h => List.mem_cons_of_mem _ (List.mem_append_right _ h)) (by decide +kernel))
set_option maxRecDepth 20000 in
theorem gX6_isTrue_X6_needPage : GoodIn wsX6_isTrue (wsV RX6 88 RX6 yX6_needPage wsX6_needPage) := goodIn_app (goodIn_of _ (by decide +kernel)) ggX6_isTrue_X6_needPage
set_option maxRecDepth 20000 in
theorem ggX6_isTrue_X0_isTrueOn : GoodIn wsX6_isTrue wsX0_isTrueOn := goodIn_r _ [15, 16, 17, 18, 19, 20, 21, 22, 23, 24, 25, 26, 27, 34, 35, 36, 37, 38, 39, 40, 41, 42, 43, 44, 45, 46] (by decide +kernel) (by decide +kernel)
set_option maxRecDepth 20000 in
theorem gX6_isTrue_X0_isTrueOn : GoodIn wsX6_isTrue (wsV RX6 239 RX0 yX0_isTrueOn wsX0_isTrueOn) := goodIn_app (goodIn_of _ (by decide +kernel)) ggX6_isTrue_X0_isTrueOn
theorem dX6_isTrue_0 : decode cX6_isTrue 0 = .ok (.aload_n 0, 1) := by decide +kernel
theorem dX6_isTrue_1 : decode cX6_isTrue 1 = .ok (.iload_n 1, 1) := by decide +kernel
theorem dX6_isTrue_2 : decode cX6_isTrue 2 = .ok (.invokevirtual 88, 3) := by decide +kernel
theorem dX6_isTrue_5 : decode cX6_isTrue 5 = .ok (.aload_n 0, 1) := by decide +kernel
theorem dX6_isTrue_6 : decode cX6_isTrue 6 = .ok (.getfield 22, 3) := by decide +kernel
theorem dX6_isTrue_9 : decode cX6_isTrue 9 = .ok (.aload_n 0, 1) := by decide +kernel
theorem dX6_isTrue_10 : decode cX6_isTrue 10 = .ok (.getfield 22, 3) := by decide +kernel
theorem dX6_isTrue_13 : decode cX6_isTrue 13 = .ok (.getfield 107, 3) := by decide +kernel
theorem dX6_isTrue_16 : decode cX6_isTrue 16 = .ok (.iload_n 1, 1) := by decide +kernel
theorem dX6_isTrue_17 : decode cX6_isTrue 17 = .ok (.invokevirtual 239, 3) := by decide +kernel
theorem dX6_isTrue_20 : decode cX6_isTrue 20 = .ok (.ireturn, 1) := by decide +kernel
set_option maxRecDepth 20000 in
theorem ggX6_text_X6_needPage : GoodIn wsX6_text wsX6_needPage := goodIn_ca (goodIn_r _ [8, 9, 10, 1, 11, 18, 19, 20, 21, 22, 23, 24, 25, 26, 27, 28, 29, 30, 31, 32, 33, 34] (by decide +kernel) (by decide +kernel)) (goodIn_sub (fun _ h => List.mem_cons_of_mem _ (List.mem_append_right _ h)) (by decide +kernel))
set_option maxRecDepth 20000 in
theorem gX6_text_X6_needPage : GoodIn wsX6_text (wsV RX6 88 RX6 yX6_needPage wsX6_needPage) := goodIn_app (goodIn_of _ (by decide +kernel)) ggX6_text_X6_needPage
set_option maxRecDepth 20000 in
theorem ggX6_text_X4_isFilled : GoodIn wsX6_text wsX4_isFilled := goodIn_r _ [16, 17, 35, 36] (by decide +kernel) (by decide +kernel)
set_option maxRecDepth 20000 in
theorem gX6_text_X4_isFilled : GoodIn wsX6_text (wsV RX6 118 RX4 yX4_isFilled wsX4_isFilled) := goodIn_app (goodIn_of _ (by decide +kernel)) ggX6_text_X4_isFilled
theorem dX6_text_0 : decode cX6_text 0 = .ok (.aload_n 0, 1) := by decide +kernel
theorem dX6_text_1 : decode cX6_text 1 = .ok (.iload_n 1, 1) := by decide +kernel
theorem dX6_text_2 : decode cX6_text 2 = .ok (.invokevirtual 88, 3) := by decide +kernel
theorem dX6_text_5 : decode cX6_text 5 = .ok (.aload_n 0, 1) := by decide +kernel
theorem dX6_text_6 : decode cX6_text 6 = .ok (.getfield 22, 3) := by decide +kernel
theorem dX6_text_9 : decode cX6_text 9 = .ok (.getfield 107, 3) := by decide +kernel
theorem dX6_text_12 : decode cX6_text 12 = .ok (.iload_n 1, 1) := by decide +kernel
theorem dX6_text_13 : decode cX6_text 13 = .ok (.invokevirtual 118, 3) := by decide +kernel
theorem dX6_text_16 : decode cX6_text 16 = .ok (.ifCond .eq 15, 3) := by decide +kernel
theorem dX6_text_19 : decode cX6_text 19 = .ok (.aload_n 0, 1) := by decide +kernel
theorem dX6_text_20 : decode cX6_text 20 = .ok (.getfield 22, 3) := by decide +kernel
theorem dX6_text_23 : decode cX6_text 23 = .ok (.getfield 243, 3) := by decide +kernel
theorem dX6_text_26 : decode cX6_text 26 = .ok (.iload_n 1, 1) := by decide +kernel
theorem dX6_text_27 : decode cX6_text 27 = .ok (.iaload, 1) := by decide +kernel
theorem dX6_text_28 : decode cX6_text 28 = .ok (.goto 4, 3) := by decide +kernel
theorem dX6_text_31 : decode cX6_text 31 = .ok (.iconst (-1), 1) := by decide +kernel
theorem dX6_text_32 : decode cX6_text 32 = .ok (.ireturn, 1) := by decide +kernel
set_option maxRecDepth 20000 in
theorem ggX6_mark_X6_needPage : GoodIn wsX6_mark wsX6_needPage := goodIn_ca (goodIn_r _ [7, 8, 9, 1, 10, 11, 12, 13, 14, 15, 16, 17, 18, 19, 20, 21, 22, 23, 24, 25, 26, 27] (by decide +kernel) (by decide +kernel)) (goodIn_sub (fun _ h => List.mem_cons_of_mem _ (List.mem_append_right _ h)) (by decide +kernel))
set_option maxRecDepth 20000 in
theorem gX6_mark_X6_needPage : GoodIn wsX6_mark (wsV RX6 88 RX6 yX6_needPage wsX6_needPage) := goodIn_app (goodIn_of _ (by decide +kernel)) ggX6_mark_X6_needPage
theorem dX6_mark_0 : decode cX6_mark 0 = .ok (.aload_n 0, 1) := by decide +kernel
theorem dX6_mark_1 : decode cX6_mark 1 = .ok (.iload_n 1, 1) := by decide +kernel
theorem dX6_mark_2 : decode cX6_mark 2 = .ok (.invokevirtual 88, 3) := by decide +kernel
theorem dX6_mark_5 : decode cX6_mark 5 = .ok (.aload_n 0, 1) := by decide +kernel
theorem dX6_mark_6 : decode cX6_mark 6 = .ok (.getfield 22, 3) := by decide +kernel
theorem dX6_mark_9 : decode cX6_mark 9 = .ok (.getfield 246, 3) := by decide +kernel
theorem dX6_mark_12 : decode cX6_mark 12 = .ok (.iload_n 1, 1) := by decide +kernel
theorem dX6_mark_13 : decode cX6_mark 13 = .ok (.iaload, 1) := by decide +kernel
theorem dX6_mark_14 : decode cX6_mark 14 = .ok (.ireturn, 1) := by decide +kernel
set_option maxRecDepth 20000 in
theorem ggX6_reversal_X6_needPage : GoodIn wsX6_reversal wsX6_needPage := goodIn_ca (goodIn_r _ [7, 8, 9, 1, 10, 11, 12, 13, 14, 15, 16, 17, 18, 19, 20, 21, 22, 23, 24, 25, 26, 27] (by decide +kernel) (by decide +kernel)) (goodIn_sub (fun _ h => List.mem_cons_of_mem _ (List.mem_append_right _ h)) (by decide +kernel))
set_option maxRecDepth 20000 in
theorem gX6_reversal_X6_needPage : GoodIn wsX6_reversal (wsV RX6 88 RX6 yX6_needPage wsX6_needPage) := goodIn_app (goodIn_of _ (by decide +kernel)) ggX6_reversal_X6_needPage
theorem dX6_reversal_0 : decode cX6_reversal 0 = .ok (.aload_n 0, 1) := by decide +kernel
theorem dX6_reversal_1 : decode cX6_reversal 1 = .ok (.iload_n 1, 1) := by decide +kernel
theorem dX6_reversal_2 : decode cX6_reversal 2 = .ok (.invokevirtual 88, 3) := by decide +kernel
theorem dX6_reversal_5 : decode cX6_reversal 5 = .ok (.aload_n 0, 1) := by decide +kernel
theorem dX6_reversal_6 : decode cX6_reversal 6 = .ok (.getfield 22, 3) := by decide +kernel
theorem dX6_reversal_9 : decode cX6_reversal 9 = .ok (.getfield 249, 3) := by decide +kernel
theorem dX6_reversal_12 : decode cX6_reversal 12 = .ok (.iload_n 1, 1) := by decide +kernel
theorem dX6_reversal_13 : decode cX6_reversal 13 = .ok (.iaload, 1) := by decide +kernel
theorem dX6_reversal_14 : decode cX6_reversal 14 = .ok (.ireturn, 1) := by decide +kernel
set_option maxRecDepth 20000 in
theorem ggX6_proves_X6_needPage : GoodIn wsX6_proves wsX6_needPage := goodIn_ca (goodIn_r _ [9, 10, 11, 2, 12, 30, 31, 32, 33, 34, 35, 36, 37, 38, 39, 40, 41, 42, 43, 44, 45, 46] (by decide +kernel) (by decide +kernel)) (goodIn_sub (fun _ h => List.mem_cons_of_mem _ (List.mem_append_left _ (List.mem_append_right _ h))) (by decide +kernel))
set_option maxRecDepth 20000 in
theorem gX6_proves_X6_needPage : GoodIn wsX6_proves (wsV RX6 88 RX6 yX6_needPage wsX6_needPage) := goodIn_app (goodIn_of _ (by decide +kernel)) ggX6_proves_X6_needPage
set_option maxRecDepth 20000 in
theorem ggX6_proves_X6_needText : GoodIn wsX6_proves wsX6_needText := goodIn_ca (goodIn_r _ [15, 16, 17] (by decide +kernel) (by decide +kernel)) (goodIn_sub (fun _ h => List.mem_cons_of_mem _ (List.mem_append_right _ h)) (by decide +kernel))
set_option maxRecDepth 20000 in
theorem gX6_proves_X6_needText : GoodIn wsX6_proves (va_wsS RX6 75 yX6_needText wsX6_needText) := goodIn_app (goodIn_of _ (by decide +kernel)) ggX6_proves_X6_needText
set_option maxRecDepth 20000 in
theorem ggX6_proves_X3_markWith : GoodIn wsX6_proves wsX3_markWith := goodIn_r _ [22, 23, 24, 25, 26, 27, 21, 28, 29, 47, 48, 49] (by decide +kernel) (by decide +kernel)
set_option maxRecDepth 20000 in
theorem gX6_proves_X3_markWith : GoodIn wsX6_proves (wsV RX6 255 RX3 yX3_markWith wsX3_markWith) := goodIn_app (goodIn_of _ (by decide +kernel)) ggX6_proves_X3_markWith
theorem dX6_proves_0 : decode cX6_proves 0 = .ok (.aload_n 0, 1) := by decide +kernel
theorem dX6_proves_1 : decode cX6_proves 1 = .ok (.iload_n 1, 1) := by decide +kernel
theorem dX6_proves_2 : decode cX6_proves 2 = .ok (.invokevirtual 88, 3) := by decide +kernel
theorem dX6_proves_5 : decode cX6_proves 5 = .ok (.iload_n 2, 1) := by decide +kernel
theorem dX6_proves_6 : decode cX6_proves 6 = .ok (.invokestatic 75, 3) := by decide +kernel
theorem dX6_proves_9 : decode cX6_proves 9 = .ok (.aload_n 0, 1) := by decide +kernel
theorem dX6_proves_10 : decode cX6_proves 10 = .ok (.getfield 10, 3) := by decide +kernel
theorem dX6_proves_13 : decode cX6_proves 13 = .ok (.aload_n 0, 1) := by decide +kernel
theorem dX6_proves_14 : decode cX6_proves 14 = .ok (.getfield 22, 3) := by decide +kernel
theorem dX6_proves_17 : decode cX6_proves 17 = .ok (.getfield 252, 3) := by decide +kernel
theorem dX6_proves_20 : decode cX6_proves 20 = .ok (.iload_n 1, 1) := by decide +kernel
theorem dX6_proves_21 : decode cX6_proves 21 = .ok (.iaload, 1) := by decide +kernel
theorem dX6_proves_22 : decode cX6_proves 22 = .ok (.iload_n 2, 1) := by decide +kernel
theorem dX6_proves_23 : decode cX6_proves 23 = .ok (.invokevirtual 255, 3) := by decide +kernel
theorem dX6_proves_26 : decode cX6_proves 26 = .ok (.aload_n 0, 1) := by decide +kernel
theorem dX6_proves_27 : decode cX6_proves 27 = .ok (.getfield 22, 3) := by decide +kernel
theorem dX6_proves_30 : decode cX6_proves 30 = .ok (.getfield 246, 3) := by decide +kernel
theorem dX6_proves_33 : decode cX6_proves 33 = .ok (.iload_n 1, 1) := by decide +kernel
theorem dX6_proves_34 : decode cX6_proves 34 = .ok (.iaload, 1) := by decide +kernel
theorem dX6_proves_35 : decode cX6_proves 35 = .ok (.if_icmp .ne 7, 3) := by decide +kernel
theorem dX6_proves_38 : decode cX6_proves 38 = .ok (.iconst 1, 1) := by decide +kernel
theorem dX6_proves_39 : decode cX6_proves 39 = .ok (.goto 4, 3) := by decide +kernel
theorem dX6_proves_42 : decode cX6_proves 42 = .ok (.iconst 0, 1) := by decide +kernel
theorem dX6_proves_43 : decode cX6_proves 43 = .ok (.ireturn, 1) := by decide +kernel
set_option maxRecDepth 20000 in
theorem ggX6_proven_X6_needPage : GoodIn wsX6_proven wsX6_needPage := goodIn_ca (goodIn_r _ [8, 9, 10, 1, 11, 28, 29, 30, 31, 32, 33, 34, 35, 36, 37, 38, 39, 40, 41, 42, 43, 44] (by decide +kernel) (by decide +kernel)) (goodIn_sub (fun _ h => List.mem_cons_of_mem _ (List.mem_append_right _ h)) (by decide +kernel))
set_option maxRecDepth 20000 in
theorem gX6_proven_X6_needPage : GoodIn wsX6_proven (wsV RX6 88 RX6 yX6_needPage wsX6_needPage) := goodIn_app (goodIn_of _ (by decide +kernel)) ggX6_proven_X6_needPage
set_option maxRecDepth 20000 in
theorem ggX6_proven_X6_needAccount : GoodIn wsX6_proven wsX6_needAccount := goodIn_ca (goodIn_r _ [14, 9, 10] (by decide +kernel) (by decide +kernel)) (goodIn_sub (fun _ h => List.mem_cons_of_mem _ (List.mem_append_right _ h)) (by decide +kernel))
set_option maxRecDepth 20000 in
theorem gX6_proven_X6_needAccount : GoodIn wsX6_proven (va_wsS RX6 44 yX6_needAccount wsX6_needAccount) := goodIn_app (goodIn_of _ (by decide +kernel)) ggX6_proven_X6_needAccount
set_option maxRecDepth 20000 in
theorem ggX6_proven_X0_sumOn : GoodIn wsX6_proven wsX0_sumOn := goodIn_r _ [19, 20, 21, 22, 23, 24, 25, 26, 27, 34, 35, 36, 37, 38, 39, 40, 41, 42, 43, 44, 45, 46] (by decide +kernel) (by decide +kernel)
set_option maxRecDepth 20000 in
theorem gX6_proven_X0_sumOn : GoodIn wsX6_proven (wsV RX6 264 RX0 yX0_sumOn wsX0_sumOn) := goodIn_app (goodIn_of _ (by decide +kernel)) ggX6_proven_X0_sumOn
theorem dX6_proven_0 : decode cX6_proven 0 = .ok (.aload_n 0, 1) := by decide +kernel
theorem dX6_proven_1 : decode cX6_proven 1 = .ok (.iload_n 1, 1) := by decide +kernel
theorem dX6_proven_2 : decode cX6_proven 2 = .ok (.invokevirtual 88, 3) := by decide +kernel
theorem dX6_proven_5 : decode cX6_proven 5 = .ok (.iload_n 2, 1) := by decide +kernel
theorem dX6_proven_6 : decode cX6_proven 6 = .ok (.invokestatic 44, 3) := by decide +kernel
theorem dX6_proven_9 : decode cX6_proven 9 = .ok (.aload_n 0, 1) := by decide +kernel
theorem dX6_proven_10 : decode cX6_proven 10 = .ok (.getfield 22, 3) := by decide +kernel
theorem dX6_proven_13 : decode cX6_proven 13 = .ok (.getfield 258, 3) := by decide +kernel
theorem dX6_proven_16 : decode cX6_proven 16 = .ok (.iload_n 1, 1) := by decide +kernel
theorem dX6_proven_17 : decode cX6_proven 17 = .ok (.baload, 1) := by decide +kernel
theorem dX6_proven_18 : decode cX6_proven 18 = .ok (.ifCond .eq 22, 3) := by decide +kernel
theorem dX6_proven_21 : decode cX6_proven 21 = .ok (.aload_n 0, 1) := by decide +kernel
theorem dX6_proven_22 : decode cX6_proven 22 = .ok (.getfield 22, 3) := by decide +kernel
theorem dX6_proven_25 : decode cX6_proven 25 = .ok (.aload_n 0, 1) := by decide +kernel
theorem dX6_proven_26 : decode cX6_proven 26 = .ok (.getfield 22, 3) := by decide +kernel
theorem dX6_proven_29 : decode cX6_proven 29 = .ok (.getfield 261, 3) := by decide +kernel
theorem dX6_proven_32 : decode cX6_proven 32 = .ok (.iload_n 1, 1) := by decide +kernel
theorem dX6_proven_33 : decode cX6_proven 33 = .ok (.iload_n 2, 1) := by decide +kernel
theorem dX6_proven_34 : decode cX6_proven 34 = .ok (.invokevirtual 264, 3) := by decide +kernel
theorem dX6_proven_37 : decode cX6_proven 37 = .ok (.goto 4, 3) := by decide +kernel
theorem dX6_proven_40 : decode cX6_proven 40 = .ok (.iconst 0, 1) := by decide +kernel
theorem dX6_proven_41 : decode cX6_proven 41 = .ok (.ireturn, 1) := by decide +kernel
set_option maxRecDepth 20000 in
theorem ggX6_balance_X6_needAccount : GoodIn wsX6_balance wsX6_needAccount := goodIn_ca (goodIn_r _ [6, 7, 8] (by decide +kernel) (by decide +kernel)) (goodIn_sub (fun _ h => List.mem_cons_of_mem _ (List.mem_append_left _ (List.mem_append_right _ h))) (by decide +kernel))
set_option maxRecDepth 20000 in
theorem gX6_balance_X6_needAccount : GoodIn wsX6_balance (va_wsS RX6 44 yX6_needAccount wsX6_needAccount) := goodIn_app (goodIn_of _ (by decide +kernel)) ggX6_balance_X6_needAccount
set_option maxRecDepth 20000 in
theorem ggX6_balance_X6_needPastDay : GoodIn wsX6_balance wsX6_needPastDay := goodIn_ca (goodIn_r _ [12, 13, 14, 15, 35, 36, 37, 38, 39, 40] (by decide +kernel) (by decide +kernel)) (goodIn_sub (fun _ h => List.mem_cons_of_mem _ (List.mem_append_right _ h)) (by decide +kernel))
set_option maxRecDepth 20000 in
theorem gX6_balance_X6_needPastDay : GoodIn wsX6_balance (wsV RX6 268 RX6 yX6_needPastDay wsX6_needPastDay) := goodIn_app (goodIn_of _ (by decide +kernel)) ggX6_balance_X6_needPastDay
set_option maxRecDepth 20000 in
theorem ggX6_balance_X0_countUpTo : GoodIn wsX6_balance wsX0_countUpTo := goodIn_r _ [20, 21, 22, 41, 42, 43, 44, 45, 46, 47, 48, 49, 50, 51] (by decide +kernel) (by decide +kernel)
set_option maxRecDepth 20000 in
theorem gX6_balance_X0_countUpTo : GoodIn wsX6_balance (wsV RX6 271 RX0 yX0_countUpTo wsX0_countUpTo) := goodIn_app (goodIn_of _ (by decide +kernel)) ggX6_balance_X0_countUpTo
set_option maxRecDepth 20000 in
theorem ggX6_balance_X0_sumOn : GoodIn wsX6_balance wsX0_sumOn := goodIn_r _ [26, 27, 28, 29, 30, 31, 32, 33, 34, 41, 42, 43, 44, 45, 46, 47, 48, 49, 50, 51, 52, 53] (by decide +kernel) (by decide +kernel)
set_option maxRecDepth 20000 in
theorem gX6_balance_X0_sumOn : GoodIn wsX6_balance (wsV RX6 264 RX0 yX0_sumOn wsX0_sumOn) := goodIn_app (goodIn_of _ (by decide +kernel)) ggX6_balance_X0_sumOn
theorem dX6_balance_0 : decode cX6_balance 0 = .ok (.iload_n 1, 1) := by decide +kernel
theorem dX6_balance_1 : decode cX6_balance 1 = .ok (.invokestatic 44, 3) := by decide +kernel
theorem dX6_balance_4 : decode cX6_balance 4 = .ok (.aload_n 0, 1) := by decide +kernel
theorem dX6_balance_5 : decode cX6_balance 5 = .ok (.iload_n 2, 1) := by decide +kernel
theorem dX6_balance_6 : decode cX6_balance 6 = .ok (.invokevirtual 268, 3) := by decide +kernel
theorem dX6_balance_9 : decode cX6_balance 9 = .ok (.iconst 0, 1) := by decide +kernel
theorem dX6_balance_10 : decode cX6_balance 10 = .ok (.istore_n 3, 1) := by decide +kernel
theorem dX6_balance_11 : decode cX6_balance 11 = .ok (.aload_n 0, 1) := by decide +kernel
theorem dX6_balance_12 : decode cX6_balance 12 = .ok (.getfield 22, 3) := by decide +kernel
theorem dX6_balance_15 : decode cX6_balance 15 = .ok (.iload_n 2, 1) := by decide +kernel
theorem dX6_balance_16 : decode cX6_balance 16 = .ok (.invokevirtual 271, 3) := by decide +kernel
theorem dX6_balance_19 : decode cX6_balance 19 = .ok (.istore 4, 2) := by decide +kernel
theorem dX6_balance_21 : decode cX6_balance 21 = .ok (.iconst 0, 1) := by decide +kernel
theorem dX6_balance_22 : decode cX6_balance 22 = .ok (.istore 5, 2) := by decide +kernel
theorem dX6_balance_24 : decode cX6_balance 24 = .ok (.iload 5, 2) := by decide +kernel
theorem dX6_balance_26 : decode cX6_balance 26 = .ok (.iload 4, 2) := by decide +kernel
theorem dX6_balance_28 : decode cX6_balance 28 = .ok (.if_icmp .ge 29, 3) := by decide +kernel
theorem dX6_balance_31 : decode cX6_balance 31 = .ok (.iload_n 3, 1) := by decide +kernel
theorem dX6_balance_32 : decode cX6_balance 32 = .ok (.aload_n 0, 1) := by decide +kernel
theorem dX6_balance_33 : decode cX6_balance 33 = .ok (.getfield 22, 3) := by decide +kernel
theorem dX6_balance_36 : decode cX6_balance 36 = .ok (.aload_n 0, 1) := by decide +kernel
theorem dX6_balance_37 : decode cX6_balance 37 = .ok (.getfield 22, 3) := by decide +kernel
theorem dX6_balance_40 : decode cX6_balance 40 = .ok (.getfield 261, 3) := by decide +kernel
theorem dX6_balance_43 : decode cX6_balance 43 = .ok (.iload 5, 2) := by decide +kernel
theorem dX6_balance_45 : decode cX6_balance 45 = .ok (.iload_n 1, 1) := by decide +kernel
theorem dX6_balance_46 : decode cX6_balance 46 = .ok (.invokevirtual 264, 3) := by decide +kernel
theorem dX6_balance_49 : decode cX6_balance 49 = .ok (.iadd, 1) := by decide +kernel
theorem dX6_balance_50 : decode cX6_balance 50 = .ok (.istore_n 3, 1) := by decide +kernel
theorem dX6_balance_51 : decode cX6_balance 51 = .ok (.iinc 5 1, 3) := by decide +kernel
theorem dX6_balance_54 : decode cX6_balance 54 = .ok (.goto (-30), 3) := by decide +kernel
theorem dX6_balance_57 : decode cX6_balance 57 = .ok (.iload_n 3, 1) := by decide +kernel
theorem dX6_balance_58 : decode cX6_balance 58 = .ok (.ireturn, 1) := by decide +kernel
set_option maxRecDepth 20000 in
theorem ggX6_balanceByPages_X6_needAccount : GoodIn wsX6_balanceByPages wsX6_needAccount := goodIn_ca (goodIn_r _ [9, 10, 11] (by decide +kernel) (by decide +kernel)) (goodIn_sub (fun _ h => List.mem_cons_of_mem _ (List.mem_append_left _ (List.mem_append_right _ h))) (by decide +kernel))
set_option maxRecDepth 20000 in
theorem gX6_balanceByPages_X6_needAccount : GoodIn wsX6_balanceByPages (va_wsS RX6 44 yX6_needAccount wsX6_needAccount) := goodIn_app (goodIn_of _ (by decide +kernel)) ggX6_balanceByPages_X6_needAccount
set_option maxRecDepth 20000 in
theorem ggX6_balanceByPages_X6_needPastDay : GoodIn wsX6_balanceByPages wsX6_needPastDay := goodIn_ca (goodIn_r _ [15, 16, 17, 18, 49, 50, 51, 52, 53, 54] (by decide +kernel) (by decide +kernel)) (goodIn_sub (fun _ h => List.mem_cons_of_mem _ (List.mem_append_right _ h)) (by decide +kernel))
set_option maxRecDepth 20000 in
theorem gX6_balanceByPages_X6_needPastDay : GoodIn wsX6_balanceByPages (wsV RX6 268 RX6 yX6_needPastDay wsX6_needPastDay) := goodIn_app (goodIn_of _ (by decide +kernel)) ggX6_balanceByPages_X6_needPastDay
set_option maxRecDepth 20000 in
theorem ggX6_balanceByPages_X0_countUpTo : GoodIn wsX6_balanceByPages wsX0_countUpTo := goodIn_r _ [23, 24, 25, 55, 56, 57, 58, 59, 60, 61, 62, 63, 64, 65] (by decide +kernel) (by decide +kernel)
set_option maxRecDepth 20000 in
theorem gX6_balanceByPages_X0_countUpTo : GoodIn wsX6_balanceByPages (wsV RX6 271 RX0 yX0_countUpTo wsX0_countUpTo) := goodIn_app (goodIn_of _ (by decide +kernel)) ggX6_balanceByPages_X0_countUpTo
set_option maxRecDepth 20000 in
theorem ggX6_balanceByPages_X0_stateOf : GoodIn wsX6_balanceByPages wsX0_stateOf := goodIn_r _ [29, 30, 31, 32, 33, 34, 35, 36, 37, 55, 56, 57, 58, 59, 60, 61, 62, 63, 64, 65, 66, 67] (by decide +kernel) (by decide +kernel)
set_option maxRecDepth 20000 in
theorem gX6_balanceByPages_X0_stateOf : GoodIn wsX6_balanceByPages (wsV RX6 236 RX0 yX0_stateOf wsX0_stateOf) := goodIn_app (goodIn_of _ (by decide +kernel)) ggX6_balanceByPages_X0_stateOf
set_option maxRecDepth 20000 in
theorem ggX6_balanceByPages_X0_sumOn : GoodIn wsX6_balanceByPages wsX0_sumOn := goodIn_r _ [41, 42, 43, 44, 45, 46, 35, 47, 48, 55, 56, 57, 58, 59, 60, 61, 62, 63, 64, 65, 66, 67] (by decide +kernel) (by decide +kernel)
set_option maxRecDepth 20000 in
theorem gX6_balanceByPages_X0_sumOn : GoodIn wsX6_balanceByPages (wsV RX6 264 RX0 yX0_sumOn wsX0_sumOn) := goodIn_app (goodIn_of _ (by decide +kernel)) ggX6_balanceByPages_X0_sumOn
theorem dX6_balanceByPages_0 : decode cX6_balanceByPages 0 = .ok (.iload_n 1, 1) := by decide +kernel
theorem dX6_balanceByPages_1 : decode cX6_balanceByPages 1 = .ok (.invokestatic 44, 3) := by decide +kernel
theorem dX6_balanceByPages_4 : decode cX6_balanceByPages 4 = .ok (.aload_n 0, 1) := by decide +kernel
theorem dX6_balanceByPages_5 : decode cX6_balanceByPages 5 = .ok (.iload_n 2, 1) := by decide +kernel
theorem dX6_balanceByPages_6 : decode cX6_balanceByPages 6 = .ok (.invokevirtual 268, 3) := by decide +kernel
theorem dX6_balanceByPages_9 : decode cX6_balanceByPages 9 = .ok (.iconst 0, 1) := by decide +kernel
theorem dX6_balanceByPages_10 : decode cX6_balanceByPages 10 = .ok (.istore_n 3, 1) := by decide +kernel
theorem dX6_balanceByPages_11 : decode cX6_balanceByPages 11 = .ok (.aload_n 0, 1) := by decide +kernel
theorem dX6_balanceByPages_12 : decode cX6_balanceByPages 12 = .ok (.getfield 22, 3) := by decide +kernel
theorem dX6_balanceByPages_15 : decode cX6_balanceByPages 15 = .ok (.iload_n 2, 1) := by decide +kernel
theorem dX6_balanceByPages_16 : decode cX6_balanceByPages 16 = .ok (.invokevirtual 271, 3) := by decide +kernel
theorem dX6_balanceByPages_19 : decode cX6_balanceByPages 19 = .ok (.istore 4, 2) := by decide +kernel
theorem dX6_balanceByPages_21 : decode cX6_balanceByPages 21 = .ok (.iconst 0, 1) := by decide +kernel
theorem dX6_balanceByPages_22 : decode cX6_balanceByPages 22 = .ok (.istore 5, 2) := by decide +kernel
theorem dX6_balanceByPages_24 : decode cX6_balanceByPages 24 = .ok (.iload 5, 2) := by decide +kernel
theorem dX6_balanceByPages_26 : decode cX6_balanceByPages 26 = .ok (.iload 4, 2) := by decide +kernel
theorem dX6_balanceByPages_28 : decode cX6_balanceByPages 28 = .ok (.if_icmp .ge 73, 3) := by decide +kernel
theorem dX6_balanceByPages_31 : decode cX6_balanceByPages 31 = .ok (.aload_n 0, 1) := by decide +kernel
theorem dX6_balanceByPages_32 : decode cX6_balanceByPages 32 = .ok (.getfield 22, 3) := by decide +kernel
theorem dX6_balanceByPages_35 : decode cX6_balanceByPages 35 = .ok (.iload 5, 2) := by decide +kernel
theorem dX6_balanceByPages_37 : decode cX6_balanceByPages 37 = .ok (.invokevirtual 236, 3) := by decide +kernel
theorem dX6_balanceByPages_40 : decode cX6_balanceByPages 40 = .ok (.istore 6, 2) := by decide +kernel
theorem dX6_balanceByPages_42 : decode cX6_balanceByPages 42 = .ok (.iload 6, 2) := by decide +kernel
theorem dX6_balanceByPages_44 : decode cX6_balanceByPages 44 = .ok (.iconst 1, 1) := by decide +kernel
theorem dX6_balanceByPages_45 : decode cX6_balanceByPages 45 = .ok (.if_icmp .ne 14, 3) := by decide +kernel
theorem dX6_balanceByPages_48 : decode cX6_balanceByPages 48 = .ok (.new 62, 3) := by decide +kernel
theorem dX6_balanceByPages_51 : decode cX6_balanceByPages 51 = .ok (.dup, 1) := by decide +kernel
theorem dX6_balanceByPages_52 : decode cX6_balanceByPages 52 = .ok (.ldc_w 274, 3) := by decide +kernel
theorem dX6_balanceByPages_55 : decode cX6_balanceByPages 55 = .ok (.invokespecial 66, 3) := by decide +kernel
theorem dX6_balanceByPages_58 : decode cX6_balanceByPages 58 = .ok (.athrow, 1) := by decide +kernel
theorem dX6_balanceByPages_59 : decode cX6_balanceByPages 59 = .ok (.iload_n 3, 1) := by decide +kernel
theorem dX6_balanceByPages_60 : decode cX6_balanceByPages 60 = .ok (.aload_n 0, 1) := by decide +kernel
theorem dX6_balanceByPages_61 : decode cX6_balanceByPages 61 = .ok (.getfield 22, 3) := by decide +kernel
theorem dX6_balanceByPages_64 : decode cX6_balanceByPages 64 = .ok (.iload 6, 2) := by decide +kernel
theorem dX6_balanceByPages_66 : decode cX6_balanceByPages 66 = .ok (.iconst 2, 1) := by decide +kernel
theorem dX6_balanceByPages_67 : decode cX6_balanceByPages 67 = .ok (.if_icmp .ne 13, 3) := by decide +kernel
theorem dX6_balanceByPages_70 : decode cX6_balanceByPages 70 = .ok (.aload_n 0, 1) := by decide +kernel
theorem dX6_balanceByPages_71 : decode cX6_balanceByPages 71 = .ok (.getfield 22, 3) := by decide +kernel
theorem dX6_balanceByPages_74 : decode cX6_balanceByPages 74 = .ok (.getfield 261, 3) := by decide +kernel
theorem dX6_balanceByPages_77 : decode cX6_balanceByPages 77 = .ok (.goto 10, 3) := by decide +kernel
theorem dX6_balanceByPages_80 : decode cX6_balanceByPages 80 = .ok (.aload_n 0, 1) := by decide +kernel
theorem dX6_balanceByPages_81 : decode cX6_balanceByPages 81 = .ok (.getfield 22, 3) := by decide +kernel
theorem dX6_balanceByPages_84 : decode cX6_balanceByPages 84 = .ok (.getfield 107, 3) := by decide +kernel
theorem dX6_balanceByPages_87 : decode cX6_balanceByPages 87 = .ok (.iload 5, 2) := by decide +kernel
theorem dX6_balanceByPages_89 : decode cX6_balanceByPages 89 = .ok (.iload_n 1, 1) := by decide +kernel
theorem dX6_balanceByPages_90 : decode cX6_balanceByPages 90 = .ok (.invokevirtual 264, 3) := by decide +kernel
theorem dX6_balanceByPages_93 : decode cX6_balanceByPages 93 = .ok (.iadd, 1) := by decide +kernel
theorem dX6_balanceByPages_94 : decode cX6_balanceByPages 94 = .ok (.istore_n 3, 1) := by decide +kernel
theorem dX6_balanceByPages_95 : decode cX6_balanceByPages 95 = .ok (.iinc 5 1, 3) := by decide +kernel
theorem dX6_balanceByPages_98 : decode cX6_balanceByPages 98 = .ok (.goto (-74), 3) := by decide +kernel
theorem dX6_balanceByPages_101 : decode cX6_balanceByPages 101 = .ok (.iload_n 3, 1) := by decide +kernel
theorem dX6_balanceByPages_102 : decode cX6_balanceByPages 102 = .ok (.ireturn, 1) := by decide +kernel
set_option maxRecDepth 20000 in
theorem ggX6_balanceByCopies_X6_needAccount : GoodIn wsX6_balanceByCopies wsX6_needAccount := goodIn_ca (goodIn_r _ [8, 9, 10] (by decide +kernel) (by decide +kernel)) (goodIn_sub (fun _ h => List.mem_cons_of_mem _ (List.mem_append_left _ (List.mem_append_right _ h))) (by decide +kernel))
set_option maxRecDepth 20000 in
theorem gX6_balanceByCopies_X6_needAccount : GoodIn wsX6_balanceByCopies (va_wsS RX6 44 yX6_needAccount wsX6_needAccount) := goodIn_app (goodIn_of _ (by decide +kernel)) ggX6_balanceByCopies_X6_needAccount
set_option maxRecDepth 20000 in
theorem ggX6_balanceByCopies_X6_needPastDay : GoodIn wsX6_balanceByCopies wsX6_needPastDay := goodIn_ca (goodIn_r _ [14, 15, 16, 17, 65, 66, 67, 68, 69, 70] (by decide +kernel) (by decide +kernel)) (goodIn_sub (fun _ h => List.mem_cons_of_mem _ (List.mem_append_right _ h)) (by decide +kernel))
set_option maxRecDepth 20000 in
theorem gX6_balanceByCopies_X6_needPastDay : GoodIn wsX6_balanceByCopies (wsV RX6 268 RX6 yX6_needPastDay wsX6_needPastDay) := goodIn_app (goodIn_of _ (by decide +kernel)) ggX6_balanceByCopies_X6_needPastDay
set_option maxRecDepth 20000 in
theorem ggX6_balanceByCopies_X0_countUpTo : GoodIn wsX6_balanceByCopies wsX0_countUpTo := goodIn_r _ [22, 23, 24, 71, 72, 73, 74, 75, 76, 77, 78, 79, 80, 81] (by decide +kernel) (by decide +kernel)
set_option maxRecDepth 20000 in
theorem gX6_balanceByCopies_X0_countUpTo : GoodIn wsX6_balanceByCopies (wsV RX6 271 RX0 yX0_countUpTo wsX0_countUpTo) := goodIn_app (goodIn_of _ (by decide +kernel)) ggX6_balanceByCopies_X0_countUpTo
set_option maxRecDepth 20000 in
theorem ggX6_balanceByCopies_X6_isToldTruly : GoodIn wsX6_balanceByCopies wsX6_isToldTruly := goodIn_r _ [28, 29, 3, 30, 31, 32, 33, 34, 35, 36, 37, 38, 39, 40, 41, 42, 43, 21, 44, 45, 46, 47, 48, 49, 50, 51, 52, 53, 54, 55, 56, 57, 65, 66, 67, 68, 69, 70, 71, 72, 73, 74, 75, 76, 77, 78, 79, 80, 81, 82, 83, 84, 85, 86, 87, 88, 89, 90] (by decide +kernel) (by decide +kernel)
set_option maxRecDepth 20000 in
theorem gX6_balanceByCopies_X6_isToldTruly : GoodIn wsX6_balanceByCopies (wsV RX6 276 RX6 yX6_isToldTruly wsX6_isToldTruly) := goodIn_app (goodIn_of _ (by decide +kernel)) ggX6_balanceByCopies_X6_isToldTruly
set_option maxRecDepth 20000 in
theorem ggX6_balanceByCopies_X0_sumOn : GoodIn wsX6_balanceByCopies wsX0_sumOn := goodIn_r _ [61, 62, 63, 64, 53, 54, 49, 55, 56, 71, 72, 73, 74, 75, 76, 77, 78, 79, 80, 81, 89, 90] (by decide +kernel) (by decide +kernel)
set_option maxRecDepth 20000 in
theorem gX6_balanceByCopies_X0_sumOn : GoodIn wsX6_balanceByCopies (wsV RX6 264 RX0 yX0_sumOn wsX0_sumOn) := goodIn_app (goodIn_of _ (by decide +kernel)) ggX6_balanceByCopies_X0_sumOn
theorem dX6_balanceByCopies_0 : decode cX6_balanceByCopies 0 = .ok (.iload_n 1, 1) := by decide +kernel
theorem dX6_balanceByCopies_1 : decode cX6_balanceByCopies 1 = .ok (.invokestatic 44, 3) := by decide +kernel
theorem dX6_balanceByCopies_4 : decode cX6_balanceByCopies 4 = .ok (.aload_n 0, 1) := by decide +kernel
theorem dX6_balanceByCopies_5 : decode cX6_balanceByCopies 5 = .ok (.iload_n 2, 1) := by decide +kernel
theorem dX6_balanceByCopies_6 : decode cX6_balanceByCopies 6 = .ok (.invokevirtual 268, 3) := by decide +kernel
theorem dX6_balanceByCopies_9 : decode cX6_balanceByCopies 9 = .ok (.iconst 0, 1) := by decide +kernel
theorem dX6_balanceByCopies_10 : decode cX6_balanceByCopies 10 = .ok (.istore_n 3, 1) := by decide +kernel
theorem dX6_balanceByCopies_11 : decode cX6_balanceByCopies 11 = .ok (.aload_n 0, 1) := by decide +kernel
theorem dX6_balanceByCopies_12 : decode cX6_balanceByCopies 12 = .ok (.getfield 22, 3) := by decide +kernel
theorem dX6_balanceByCopies_15 : decode cX6_balanceByCopies 15 = .ok (.iload_n 2, 1) := by decide +kernel
theorem dX6_balanceByCopies_16 : decode cX6_balanceByCopies 16 = .ok (.invokevirtual 271, 3) := by decide +kernel
theorem dX6_balanceByCopies_19 : decode cX6_balanceByCopies 19 = .ok (.istore 4, 2) := by decide +kernel
theorem dX6_balanceByCopies_21 : decode cX6_balanceByCopies 21 = .ok (.iconst 0, 1) := by decide +kernel
theorem dX6_balanceByCopies_22 : decode cX6_balanceByCopies 22 = .ok (.istore 5, 2) := by decide +kernel
theorem dX6_balanceByCopies_24 : decode cX6_balanceByCopies 24 = .ok (.iload 5, 2) := by decide +kernel
theorem dX6_balanceByCopies_26 : decode cX6_balanceByCopies 26 = .ok (.iload 4, 2) := by decide +kernel
theorem dX6_balanceByCopies_28 : decode cX6_balanceByCopies 28 = .ok (.if_icmp .ge 49, 3) := by decide +kernel
theorem dX6_balanceByCopies_31 : decode cX6_balanceByCopies 31 = .ok (.aload_n 0, 1) := by decide +kernel
theorem dX6_balanceByCopies_32 : decode cX6_balanceByCopies 32 = .ok (.iload 5, 2) := by decide +kernel
theorem dX6_balanceByCopies_34 : decode cX6_balanceByCopies 34 = .ok (.invokevirtual 276, 3) := by decide +kernel
theorem dX6_balanceByCopies_37 : decode cX6_balanceByCopies 37 = .ok (.ifCond .ne 14, 3) := by decide +kernel
theorem dX6_balanceByCopies_40 : decode cX6_balanceByCopies 40 = .ok (.new 62, 3) := by decide +kernel
theorem dX6_balanceByCopies_43 : decode cX6_balanceByCopies 43 = .ok (.dup, 1) := by decide +kernel
theorem dX6_balanceByCopies_44 : decode cX6_balanceByCopies 44 = .ok (.ldc_w 279, 3) := by decide +kernel
theorem dX6_balanceByCopies_47 : decode cX6_balanceByCopies 47 = .ok (.invokespecial 66, 3) := by decide +kernel
theorem dX6_balanceByCopies_50 : decode cX6_balanceByCopies 50 = .ok (.athrow, 1) := by decide +kernel
theorem dX6_balanceByCopies_51 : decode cX6_balanceByCopies 51 = .ok (.iload_n 3, 1) := by decide +kernel
theorem dX6_balanceByCopies_52 : decode cX6_balanceByCopies 52 = .ok (.aload_n 0, 1) := by decide +kernel
theorem dX6_balanceByCopies_53 : decode cX6_balanceByCopies 53 = .ok (.getfield 22, 3) := by decide +kernel
theorem dX6_balanceByCopies_56 : decode cX6_balanceByCopies 56 = .ok (.aload_n 0, 1) := by decide +kernel
theorem dX6_balanceByCopies_57 : decode cX6_balanceByCopies 57 = .ok (.getfield 22, 3) := by decide +kernel
theorem dX6_balanceByCopies_60 : decode cX6_balanceByCopies 60 = .ok (.getfield 261, 3) := by decide +kernel
theorem dX6_balanceByCopies_63 : decode cX6_balanceByCopies 63 = .ok (.iload 5, 2) := by decide +kernel
theorem dX6_balanceByCopies_65 : decode cX6_balanceByCopies 65 = .ok (.iload_n 1, 1) := by decide +kernel
theorem dX6_balanceByCopies_66 : decode cX6_balanceByCopies 66 = .ok (.invokevirtual 264, 3) := by decide +kernel
theorem dX6_balanceByCopies_69 : decode cX6_balanceByCopies 69 = .ok (.iadd, 1) := by decide +kernel
theorem dX6_balanceByCopies_70 : decode cX6_balanceByCopies 70 = .ok (.istore_n 3, 1) := by decide +kernel
theorem dX6_balanceByCopies_71 : decode cX6_balanceByCopies 71 = .ok (.iinc 5 1, 3) := by decide +kernel
theorem dX6_balanceByCopies_74 : decode cX6_balanceByCopies 74 = .ok (.goto (-50), 3) := by decide +kernel
theorem dX6_balanceByCopies_77 : decode cX6_balanceByCopies 77 = .ok (.iload_n 3, 1) := by decide +kernel
theorem dX6_balanceByCopies_78 : decode cX6_balanceByCopies 78 = .ok (.ireturn, 1) := by decide +kernel
set_option maxRecDepth 20000 in
theorem ggX6_isToldTruly_X5_hasTrue : GoodIn wsX6_isToldTruly wsX5_hasTrue := goodIn_r _ [9, 10, 11, 12, 13, 14, 15, 16, 17, 18, 19, 20, 21, 22, 23, 24, 25, 26, 27, 28, 29, 30, 49, 50, 51, 52, 53, 54, 55, 38, 39, 40, 41, 42, 43, 44, 45, 46, 47, 48, 56, 57] (by decide +kernel) (by decide +kernel)
set_option maxRecDepth 20000 in
theorem gX6_isToldTruly_X5_hasTrue : GoodIn wsX6_isToldTruly (wsV RX6 281 RX5 yX5_hasTrue wsX5_hasTrue) := goodIn_app (goodIn_of _ (by decide +kernel)) ggX6_isToldTruly_X5_hasTrue
set_option maxRecDepth 20000 in
theorem ggX6_isToldTruly_X0_isTrueOn : GoodIn wsX6_isToldTruly wsX0_isTrueOn := goodIn_r _ [18, 19, 20, 21, 22, 23, 24, 25, 26, 27, 28, 29, 30, 38, 39, 40, 41, 42, 43, 44, 45, 46, 47, 48, 56, 57] (by decide +kernel) (by decide +kernel)
set_option maxRecDepth 20000 in
theorem gX6_isToldTruly_X0_isTrueOn : GoodIn wsX6_isToldTruly (wsV RX6 239 RX0 yX0_isTrueOn wsX0_isTrueOn) := goodIn_app (goodIn_of _ (by decide +kernel)) ggX6_isToldTruly_X0_isTrueOn
theorem dX6_isToldTruly_0 : decode cX6_isToldTruly 0 = .ok (.aload_n 0, 1) := by decide +kernel
theorem dX6_isToldTruly_1 : decode cX6_isToldTruly 1 = .ok (.getfield 29, 3) := by decide +kernel
theorem dX6_isToldTruly_4 : decode cX6_isToldTruly 4 = .ok (.aload_n 0, 1) := by decide +kernel
theorem dX6_isToldTruly_5 : decode cX6_isToldTruly 5 = .ok (.getfield 22, 3) := by decide +kernel
theorem dX6_isToldTruly_8 : decode cX6_isToldTruly 8 = .ok (.iload_n 1, 1) := by decide +kernel
theorem dX6_isToldTruly_9 : decode cX6_isToldTruly 9 = .ok (.iconst 0, 1) := by decide +kernel
theorem dX6_isToldTruly_10 : decode cX6_isToldTruly 10 = .ok (.invokevirtual 281, 3) := by decide +kernel
theorem dX6_isToldTruly_13 : decode cX6_isToldTruly 13 = .ok (.ifCond .ne 33, 3) := by decide +kernel
theorem dX6_isToldTruly_16 : decode cX6_isToldTruly 16 = .ok (.aload_n 0, 1) := by decide +kernel
theorem dX6_isToldTruly_17 : decode cX6_isToldTruly 17 = .ok (.getfield 22, 3) := by decide +kernel
theorem dX6_isToldTruly_20 : decode cX6_isToldTruly 20 = .ok (.getfield 258, 3) := by decide +kernel
theorem dX6_isToldTruly_23 : decode cX6_isToldTruly 23 = .ok (.iload_n 1, 1) := by decide +kernel
theorem dX6_isToldTruly_24 : decode cX6_isToldTruly 24 = .ok (.baload, 1) := by decide +kernel
theorem dX6_isToldTruly_25 : decode cX6_isToldTruly 25 = .ok (.ifCond .ne 21, 3) := by decide +kernel
theorem dX6_isToldTruly_28 : decode cX6_isToldTruly 28 = .ok (.aload_n 0, 1) := by decide +kernel
theorem dX6_isToldTruly_29 : decode cX6_isToldTruly 29 = .ok (.getfield 22, 3) := by decide +kernel
theorem dX6_isToldTruly_32 : decode cX6_isToldTruly 32 = .ok (.aload_n 0, 1) := by decide +kernel
theorem dX6_isToldTruly_33 : decode cX6_isToldTruly 33 = .ok (.getfield 22, 3) := by decide +kernel
theorem dX6_isToldTruly_36 : decode cX6_isToldTruly 36 = .ok (.getfield 107, 3) := by decide +kernel
theorem dX6_isToldTruly_39 : decode cX6_isToldTruly 39 = .ok (.iload_n 1, 1) := by decide +kernel
theorem dX6_isToldTruly_40 : decode cX6_isToldTruly 40 = .ok (.invokevirtual 239, 3) := by decide +kernel
theorem dX6_isToldTruly_43 : decode cX6_isToldTruly 43 = .ok (.ifCond .eq 7, 3) := by decide +kernel
theorem dX6_isToldTruly_46 : decode cX6_isToldTruly 46 = .ok (.iconst 1, 1) := by decide +kernel
theorem dX6_isToldTruly_47 : decode cX6_isToldTruly 47 = .ok (.goto 4, 3) := by decide +kernel
theorem dX6_isToldTruly_50 : decode cX6_isToldTruly 50 = .ok (.iconst 0, 1) := by decide +kernel
theorem dX6_isToldTruly_51 : decode cX6_isToldTruly 51 = .ok (.ireturn, 1) := by decide +kernel
set_option maxRecDepth 20000 in
theorem ggX6_copies_X5_countThere : GoodIn wsX6_copies wsX5_countThere := goodIn_r _ [6, 7, 8, 15, 16] (by decide +kernel) (by decide +kernel)
set_option maxRecDepth 20000 in
theorem gX6_copies_X5_countThere : GoodIn wsX6_copies (wsV RX6 172 RX5 yX5_countThere wsX5_countThere) := goodIn_app (goodIn_of _ (by decide +kernel)) ggX6_copies_X5_countThere
theorem dX6_copies_0 : decode cX6_copies 0 = .ok (.aload_n 0, 1) := by decide +kernel
theorem dX6_copies_1 : decode cX6_copies 1 = .ok (.getfield 29, 3) := by decide +kernel
theorem dX6_copies_4 : decode cX6_copies 4 = .ok (.invokevirtual 172, 3) := by decide +kernel
theorem dX6_copies_7 : decode cX6_copies 7 = .ok (.ireturn, 1) := by decide +kernel
set_option maxRecDepth 20000 in
theorem ggX6_size_X6_needCopy : GoodIn wsX6_size wsX6_needCopy := goodIn_ca (goodIn_r _ [7, 8, 9, 10, 11, 12, 13, 14, 15, 16, 17, 23, 24, 25, 26, 27, 28, 29, 30] (by decide +kernel) (by decide +kernel)) (goodIn_sub (fun _ h => List.mem_cons_of_mem _ (List.mem_append_right _ h)) (by decide +kernel))
set_option maxRecDepth 20000 in
theorem gX6_size_X6_needCopy : GoodIn wsX6_size (wsV RX6 138 RX6 yX6_needCopy wsX6_needCopy) := goodIn_app (goodIn_of _ (by decide +kernel)) ggX6_size_X6_needCopy
theorem dX6_size_0 : decode cX6_size 0 = .ok (.aload_n 0, 1) := by decide +kernel
theorem dX6_size_1 : decode cX6_size 1 = .ok (.iload_n 1, 1) := by decide +kernel
theorem dX6_size_2 : decode cX6_size 2 = .ok (.invokevirtual 138, 3) := by decide +kernel
theorem dX6_size_5 : decode cX6_size 5 = .ok (.astore_n 2, 1) := by decide +kernel
theorem dX6_size_6 : decode cX6_size 6 = .ok (.aload_n 2, 1) := by decide +kernel
theorem dX6_size_7 : decode cX6_size 7 = .ok (.getfield 285, 3) := by decide +kernel
theorem dX6_size_10 : decode cX6_size 10 = .ok (.aload_n 2, 1) := by decide +kernel
theorem dX6_size_11 : decode cX6_size 11 = .ok (.getfield 288, 3) := by decide +kernel
theorem dX6_size_14 : decode cX6_size 14 = .ok (.isub, 1) := by decide +kernel
theorem dX6_size_15 : decode cX6_size 15 = .ok (.ireturn, 1) := by decide +kernel
set_option maxRecDepth 20000 in
theorem ggX6_isInVault_X6_needCopy : GoodIn wsX6_isInVault wsX6_needCopy := goodIn_ca (goodIn_r _ [6, 7, 8, 9, 10, 11, 12, 13, 14, 15, 16, 22, 23, 24, 25, 26, 27, 28, 29] (by decide +kernel) (by decide +kernel)) (goodIn_sub (fun _ h => List.mem_cons_of_mem _ (List.mem_append_right _ h)) (by decide +kernel))
set_option maxRecDepth 20000 in
theorem gX6_isInVault_X6_needCopy : GoodIn wsX6_isInVault (wsV RX6 138 RX6 yX6_needCopy wsX6_needCopy) := goodIn_app (goodIn_of _ (by decide +kernel)) ggX6_isInVault_X6_needCopy
theorem dX6_isInVault_0 : decode cX6_isInVault 0 = .ok (.aload_n 0, 1) := by decide +kernel
theorem dX6_isInVault_1 : decode cX6_isInVault 1 = .ok (.iload_n 1, 1) := by decide +kernel
theorem dX6_isInVault_2 : decode cX6_isInVault 2 = .ok (.invokevirtual 138, 3) := by decide +kernel
theorem dX6_isInVault_5 : decode cX6_isInVault 5 = .ok (.astore_n 2, 1) := by decide +kernel
theorem dX6_isInVault_6 : decode cX6_isInVault 6 = .ok (.aload_n 2, 1) := by decide +kernel
theorem dX6_isInVault_7 : decode cX6_isInVault 7 = .ok (.getfield 142, 3) := by decide +kernel
theorem dX6_isInVault_10 : decode cX6_isInVault 10 = .ok (.ireturn, 1) := by decide +kernel
set_option maxRecDepth 20000 in
theorem ggX6_stands_X6_needCopy : GoodIn wsX6_stands wsX6_needCopy := goodIn_ca (goodIn_r _ [6, 7, 8, 9, 10, 11, 12, 13, 14, 15, 16, 33, 34, 35, 36, 37, 38, 39, 40] (by decide +kernel) (by decide +kernel)) (goodIn_sub (fun _ h => List.mem_cons_of_mem _ (List.mem_append_right _ h)) (by decide +kernel))
set_option maxRecDepth 20000 in
theorem gX6_stands_X6_needCopy : GoodIn wsX6_stands (wsV RX6 138 RX6 yX6_needCopy wsX6_needCopy) := goodIn_app (goodIn_of _ (by decide +kernel)) ggX6_stands_X6_needCopy
set_option maxRecDepth 20000 in
theorem ggX6_stands_X6_needPageIn : GoodIn wsX6_stands wsX6_needPageIn := goodIn_ca (goodIn_r _ [19, 7, 8, 20, 21, 28, 29, 30, 31, 32] (by decide +kernel) (by decide +kernel)) (goodIn_sub (fun _ h => List.mem_cons_of_mem _ (List.mem_append_right _ h)) (by decide +kernel))
set_option maxRecDepth 20000 in
theorem gX6_stands_X6_needPageIn : GoodIn wsX6_stands (va_wsS RX6 152 yX6_needPageIn wsX6_needPageIn) := goodIn_app (goodIn_of _ (by decide +kernel)) ggX6_stands_X6_needPageIn
set_option maxRecDepth 20000 in
theorem ggX6_stands_X4_isFilled : GoodIn wsX6_stands wsX4_isFilled := goodIn_r _ [26, 27, 41, 42] (by decide +kernel) (by decide +kernel)
set_option maxRecDepth 20000 in
theorem gX6_stands_X4_isFilled : GoodIn wsX6_stands (wsV RX6 118 RX4 yX4_isFilled wsX4_isFilled) := goodIn_app (goodIn_of _ (by decide +kernel)) ggX6_stands_X4_isFilled
theorem dX6_stands_0 : decode cX6_stands 0 = .ok (.aload_n 0, 1) := by decide +kernel
theorem dX6_stands_1 : decode cX6_stands 1 = .ok (.iload_n 1, 1) := by decide +kernel
theorem dX6_stands_2 : decode cX6_stands 2 = .ok (.invokevirtual 138, 3) := by decide +kernel
theorem dX6_stands_5 : decode cX6_stands 5 = .ok (.astore_n 3, 1) := by decide +kernel
theorem dX6_stands_6 : decode cX6_stands 6 = .ok (.aload_n 3, 1) := by decide +kernel
theorem dX6_stands_7 : decode cX6_stands 7 = .ok (.iload_n 2, 1) := by decide +kernel
theorem dX6_stands_8 : decode cX6_stands 8 = .ok (.invokestatic 152, 3) := by decide +kernel
theorem dX6_stands_11 : decode cX6_stands 11 = .ok (.aload_n 3, 1) := by decide +kernel
theorem dX6_stands_12 : decode cX6_stands 12 = .ok (.getfield 156, 3) := by decide +kernel
theorem dX6_stands_15 : decode cX6_stands 15 = .ok (.iload_n 2, 1) := by decide +kernel
theorem dX6_stands_16 : decode cX6_stands 16 = .ok (.invokevirtual 118, 3) := by decide +kernel
theorem dX6_stands_19 : decode cX6_stands 19 = .ok (.ireturn, 1) := by decide +kernel
set_option maxRecDepth 20000 in
theorem ggX6_copiesOf_X6_needPage : GoodIn wsX6_copiesOf wsX6_needPage := goodIn_ca (goodIn_r _ [6, 7, 8, 9, 10, 25, 26, 27, 28, 29, 30, 31, 32, 33, 34, 35, 36, 37, 38, 39, 40, 41] (by decide +kernel) (by decide +kernel)) (goodIn_sub (fun _ h => List.mem_cons_of_mem _ (List.mem_append_right _ h)) (by decide +kernel))
set_option maxRecDepth 20000 in
theorem gX6_copiesOf_X6_needPage : GoodIn wsX6_copiesOf (wsV RX6 88 RX6 yX6_needPage wsX6_needPage) := goodIn_app (goodIn_of _ (by decide +kernel)) ggX6_copiesOf_X6_needPage
set_option maxRecDepth 20000 in
theorem ggX6_copiesOf_X5_countFilled : GoodIn wsX6_copiesOf wsX5_countFilled := goodIn_r _ [15, 16, 17, 18, 19, 20, 21, 22, 23, 24, 42, 43, 44, 45, 46, 47, 48, 49, 50] (by decide +kernel) (by decide +kernel)
set_option maxRecDepth 20000 in
theorem gX6_copiesOf_X5_countFilled : GoodIn wsX6_copiesOf (wsV RX6 291 RX5 yX5_countFilled wsX5_countFilled) := goodIn_app (goodIn_of _ (by decide +kernel)) ggX6_copiesOf_X5_countFilled
theorem dX6_copiesOf_0 : decode cX6_copiesOf 0 = .ok (.aload_n 0, 1) := by decide +kernel
theorem dX6_copiesOf_1 : decode cX6_copiesOf 1 = .ok (.iload_n 1, 1) := by decide +kernel
theorem dX6_copiesOf_2 : decode cX6_copiesOf 2 = .ok (.invokevirtual 88, 3) := by decide +kernel
theorem dX6_copiesOf_5 : decode cX6_copiesOf 5 = .ok (.aload_n 0, 1) := by decide +kernel
theorem dX6_copiesOf_6 : decode cX6_copiesOf 6 = .ok (.getfield 29, 3) := by decide +kernel
theorem dX6_copiesOf_9 : decode cX6_copiesOf 9 = .ok (.iload_n 1, 1) := by decide +kernel
theorem dX6_copiesOf_10 : decode cX6_copiesOf 10 = .ok (.invokevirtual 291, 3) := by decide +kernel
theorem dX6_copiesOf_13 : decode cX6_copiesOf 13 = .ok (.ireturn, 1) := by decide +kernel
set_option maxRecDepth 20000 in
theorem ggX6_canRestore_X6_needCopy : GoodIn wsX6_canRestore wsX6_needCopy := goodIn_ca (goodIn_r _ [5, 6, 7, 8, 9, 10, 11, 12, 13, 14, 15, 23, 24, 25, 26, 27, 28, 29, 30] (by decide +kernel) (by decide +kernel)) (goodIn_sub (fun _ h => List.mem_cons_of_mem _ (List.mem_append_right _ h)) (by decide +kernel))
set_option maxRecDepth 20000 in
theorem gX6_canRestore_X6_needCopy : GoodIn wsX6_canRestore (wsV RX6 138 RX6 yX6_needCopy wsX6_needCopy) := goodIn_app (goodIn_of _ (by decide +kernel)) ggX6_canRestore_X6_needCopy
set_option maxRecDepth 20000 in
theorem ggX6_canRestore_X1_isChainInVault : GoodIn wsX6_canRestore wsX1_isChainInVault := goodIn_r _ [20, 21, 22, 31, 32, 33, 34, 35] (by decide +kernel) (by decide +kernel)
set_option maxRecDepth 20000 in
theorem gX6_canRestore_X1_isChainInVault : GoodIn wsX6_canRestore (wsV RX6 175 RX1 yX1_isChainInVault wsX1_isChainInVault) := goodIn_app (goodIn_of _ (by decide +kernel)) ggX6_canRestore_X1_isChainInVault
theorem dX6_canRestore_0 : decode cX6_canRestore 0 = .ok (.aload_n 0, 1) := by decide +kernel
theorem dX6_canRestore_1 : decode cX6_canRestore 1 = .ok (.iload_n 1, 1) := by decide +kernel
theorem dX6_canRestore_2 : decode cX6_canRestore 2 = .ok (.invokevirtual 138, 3) := by decide +kernel
theorem dX6_canRestore_5 : decode cX6_canRestore 5 = .ok (.astore_n 2, 1) := by decide +kernel
theorem dX6_canRestore_6 : decode cX6_canRestore 6 = .ok (.aload_n 2, 1) := by decide +kernel
theorem dX6_canRestore_7 : decode cX6_canRestore 7 = .ok (.invokevirtual 175, 3) := by decide +kernel
theorem dX6_canRestore_10 : decode cX6_canRestore 10 = .ok (.ireturn, 1) := by decide +kernel
set_option maxRecDepth 20000 in
theorem ggX6_gaps_X0_countBurnt : GoodIn wsX6_gaps wsX0_countBurnt := goodIn_r _ [6, 7, 8, 9, 10, 5, 11, 12, 13, 14, 15, 16, 17, 18, 19, 26, 27, 28, 29, 30, 31, 32, 33, 34, 35, 36, 37, 38] (by decide +kernel) (by decide +kernel)
set_option maxRecDepth 20000 in
theorem gX6_gaps_X0_countBurnt : GoodIn wsX6_gaps (wsV RX6 294 RX0 yX0_countBurnt wsX0_countBurnt) := goodIn_app (goodIn_of _ (by decide +kernel)) ggX6_gaps_X0_countBurnt
theorem dX6_gaps_0 : decode cX6_gaps 0 = .ok (.aload_n 0, 1) := by decide +kernel
theorem dX6_gaps_1 : decode cX6_gaps 1 = .ok (.getfield 22, 3) := by decide +kernel
theorem dX6_gaps_4 : decode cX6_gaps 4 = .ok (.invokevirtual 294, 3) := by decide +kernel
theorem dX6_gaps_7 : decode cX6_gaps 7 = .ok (.ireturn, 1) := by decide +kernel
set_option maxRecDepth 20000 in
theorem ggX6_lost_X0_stateOf : GoodIn wsX6_lost wsX0_stateOf := goodIn_r _ [8, 9, 10, 11, 12, 13, 14, 15, 16, 46, 47, 48, 49, 50, 51, 52, 53, 54, 55, 56, 57, 58] (by decide +kernel) (by decide +kernel)
set_option maxRecDepth 20000 in
theorem gX6_lost_X0_stateOf : GoodIn wsX6_lost (wsV RX6 236 RX0 yX0_stateOf wsX0_stateOf) := goodIn_app (goodIn_of _ (by decide +kernel)) ggX6_lost_X0_stateOf
set_option maxRecDepth 20000 in
theorem ggX6_lost_X5_hasTrue : GoodIn wsX6_lost wsX5_hasTrue := goodIn_r _ [21, 22, 23, 24, 25, 26, 27, 28, 7, 29, 30, 31, 32, 33, 14, 34, 16, 35, 36, 37, 38, 39, 59, 60, 61, 62, 63, 64, 65, 46, 47, 48, 49, 50, 51, 52, 53, 54, 55, 56, 57, 58] (by decide +kernel) (by decide +kernel)
set_option maxRecDepth 20000 in
theorem gX6_lost_X5_hasTrue : GoodIn wsX6_lost (wsV RX6 281 RX5 yX5_hasTrue wsX5_hasTrue) := goodIn_app (goodIn_of _ (by decide +kernel)) ggX6_lost_X5_hasTrue
theorem dX6_lost_0 : decode cX6_lost 0 = .ok (.iconst 0, 1) := by decide +kernel
theorem dX6_lost_1 : decode cX6_lost 1 = .ok (.istore_n 1, 1) := by decide +kernel
theorem dX6_lost_2 : decode cX6_lost 2 = .ok (.iconst 0, 1) := by decide +kernel
theorem dX6_lost_3 : decode cX6_lost 3 = .ok (.istore_n 2, 1) := by decide +kernel
theorem dX6_lost_4 : decode cX6_lost 4 = .ok (.iload_n 2, 1) := by decide +kernel
theorem dX6_lost_5 : decode cX6_lost 5 = .ok (.aload_n 0, 1) := by decide +kernel
theorem dX6_lost_6 : decode cX6_lost 6 = .ok (.getfield 22, 3) := by decide +kernel
theorem dX6_lost_9 : decode cX6_lost 9 = .ok (.getfield 233, 3) := by decide +kernel
theorem dX6_lost_12 : decode cX6_lost 12 = .ok (.if_icmp .ge 40, 3) := by decide +kernel
theorem dX6_lost_15 : decode cX6_lost 15 = .ok (.aload_n 0, 1) := by decide +kernel
theorem dX6_lost_16 : decode cX6_lost 16 = .ok (.getfield 22, 3) := by decide +kernel
theorem dX6_lost_19 : decode cX6_lost 19 = .ok (.iload_n 2, 1) := by decide +kernel
theorem dX6_lost_20 : decode cX6_lost 20 = .ok (.invokevirtual 236, 3) := by decide +kernel
theorem dX6_lost_23 : decode cX6_lost 23 = .ok (.iconst 1, 1) := by decide +kernel
theorem dX6_lost_24 : decode cX6_lost 24 = .ok (.if_icmp .ne 22, 3) := by decide +kernel
theorem dX6_lost_27 : decode cX6_lost 27 = .ok (.aload_n 0, 1) := by decide +kernel
theorem dX6_lost_28 : decode cX6_lost 28 = .ok (.getfield 29, 3) := by decide +kernel
theorem dX6_lost_31 : decode cX6_lost 31 = .ok (.aload_n 0, 1) := by decide +kernel
theorem dX6_lost_32 : decode cX6_lost 32 = .ok (.getfield 22, 3) := by decide +kernel
theorem dX6_lost_35 : decode cX6_lost 35 = .ok (.iload_n 2, 1) := by decide +kernel
theorem dX6_lost_36 : decode cX6_lost 36 = .ok (.iconst 1, 1) := by decide +kernel
theorem dX6_lost_37 : decode cX6_lost 37 = .ok (.invokevirtual 281, 3) := by decide +kernel
theorem dX6_lost_40 : decode cX6_lost 40 = .ok (.ifCond .ne 6, 3) := by decide +kernel
theorem dX6_lost_43 : decode cX6_lost 43 = .ok (.iinc 1 1, 3) := by decide +kernel
theorem dX6_lost_46 : decode cX6_lost 46 = .ok (.iinc 2 1, 3) := by decide +kernel
theorem dX6_lost_49 : decode cX6_lost 49 = .ok (.goto (-45), 3) := by decide +kernel
theorem dX6_lost_52 : decode cX6_lost 52 = .ok (.iload_n 1, 1) := by decide +kernel
theorem dX6_lost_53 : decode cX6_lost 53 = .ok (.ireturn, 1) := by decide +kernel
set_option maxRecDepth 20000 in
theorem ggX6_audit_X6_needCopy : GoodIn wsX6_audit wsX6_needCopy := goodIn_ca (goodIn_r _ [10, 11, 12, 13, 14, 15, 16, 17, 18, 19, 20, 37, 38, 39, 40, 41, 42, 54, 55] (by decide +kernel) (by decide +kernel)) (goodIn_sub (fun _ h => List.mem_cons_of_mem _ (List.mem_append_right _ h)) (by decide +kernel))
set_option maxRecDepth 20000 in
theorem gX6_audit_X6_needCopy : GoodIn wsX6_audit (wsV RX6 138 RX6 yX6_needCopy wsX6_needCopy) := goodIn_app (goodIn_of _ (by decide +kernel)) ggX6_audit_X6_needCopy
set_option maxRecDepth 20000 in
theorem ggX6_audit_X4_isLike : GoodIn wsX6_audit wsX4_isLike := goodIn_r _ [25, 26, 27, 28, 29, 24, 30, 31, 56, 57] (by decide +kernel) (by decide +kernel)
set_option maxRecDepth 20000 in
theorem gX6_audit_X4_isLike : GoodIn wsX6_audit (wsV RX6 297 RX4 yX4_isLike wsX4_isLike) := goodIn_app (goodIn_of _ (by decide +kernel)) ggX6_audit_X4_isLike
theorem dX6_audit_0 : decode cX6_audit 0 = .ok (.aload_n 0, 1) := by decide +kernel
theorem dX6_audit_1 : decode cX6_audit 1 = .ok (.iload_n 1, 1) := by decide +kernel
theorem dX6_audit_2 : decode cX6_audit 2 = .ok (.invokevirtual 138, 3) := by decide +kernel
theorem dX6_audit_5 : decode cX6_audit 5 = .ok (.astore_n 2, 1) := by decide +kernel
theorem dX6_audit_6 : decode cX6_audit 6 = .ok (.iconst 0, 1) := by decide +kernel
theorem dX6_audit_7 : decode cX6_audit 7 = .ok (.istore_n 3, 1) := by decide +kernel
theorem dX6_audit_8 : decode cX6_audit 8 = .ok (.aload_n 2, 1) := by decide +kernel
theorem dX6_audit_9 : decode cX6_audit 9 = .ok (.getfield 288, 3) := by decide +kernel
theorem dX6_audit_12 : decode cX6_audit 12 = .ok (.istore 4, 2) := by decide +kernel
theorem dX6_audit_14 : decode cX6_audit 14 = .ok (.iload 4, 2) := by decide +kernel
theorem dX6_audit_16 : decode cX6_audit 16 = .ok (.aload_n 2, 1) := by decide +kernel
theorem dX6_audit_17 : decode cX6_audit 17 = .ok (.getfield 285, 3) := by decide +kernel
theorem dX6_audit_20 : decode cX6_audit 20 = .ok (.if_icmp .ge 31, 3) := by decide +kernel
theorem dX6_audit_23 : decode cX6_audit 23 = .ok (.aload_n 2, 1) := by decide +kernel
theorem dX6_audit_24 : decode cX6_audit 24 = .ok (.getfield 156, 3) := by decide +kernel
theorem dX6_audit_27 : decode cX6_audit 27 = .ok (.aload_n 0, 1) := by decide +kernel
theorem dX6_audit_28 : decode cX6_audit 28 = .ok (.getfield 22, 3) := by decide +kernel
theorem dX6_audit_31 : decode cX6_audit 31 = .ok (.getfield 107, 3) := by decide +kernel
theorem dX6_audit_34 : decode cX6_audit 34 = .ok (.iload 4, 2) := by decide +kernel
theorem dX6_audit_36 : decode cX6_audit 36 = .ok (.invokevirtual 297, 3) := by decide +kernel
theorem dX6_audit_39 : decode cX6_audit 39 = .ok (.ifCond .ne 6, 3) := by decide +kernel
theorem dX6_audit_42 : decode cX6_audit 42 = .ok (.iinc 3 1, 3) := by decide +kernel
theorem dX6_audit_45 : decode cX6_audit 45 = .ok (.iinc 4 1, 3) := by decide +kernel
theorem dX6_audit_48 : decode cX6_audit 48 = .ok (.goto (-34), 3) := by decide +kernel
theorem dX6_audit_51 : decode cX6_audit 51 = .ok (.iload_n 3, 1) := by decide +kernel
theorem dX6_audit_52 : decode cX6_audit 52 = .ok (.ireturn, 1) := by decide +kernel
set_option maxRecDepth 20000 in
theorem ggX6_isOpen_X6_needCase : GoodIn wsX6_isOpen wsX6_needCase := goodIn_ca (goodIn_r _ [7, 8, 9, 1, 10, 11, 12, 13, 14, 15, 16, 17, 18, 19, 20, 21, 22, 23] (by decide +kernel) (by decide +kernel)) (goodIn_sub (fun _ h => List.mem_cons_of_mem _ (List.mem_append_right _ h)) (by decide +kernel))
set_option maxRecDepth 20000 in
theorem gX6_isOpen_X6_needCase : GoodIn wsX6_isOpen (wsV RX6 193 RX6 yX6_needCase wsX6_needCase) := goodIn_app (goodIn_of _ (by decide +kernel)) ggX6_isOpen_X6_needCase
theorem dX6_isOpen_0 : decode cX6_isOpen 0 = .ok (.aload_n 0, 1) := by decide +kernel
theorem dX6_isOpen_1 : decode cX6_isOpen 1 = .ok (.iload_n 1, 1) := by decide +kernel
theorem dX6_isOpen_2 : decode cX6_isOpen 2 = .ok (.invokevirtual 193, 3) := by decide +kernel
theorem dX6_isOpen_5 : decode cX6_isOpen 5 = .ok (.aload_n 0, 1) := by decide +kernel
theorem dX6_isOpen_6 : decode cX6_isOpen 6 = .ok (.getfield 36, 3) := by decide +kernel
theorem dX6_isOpen_9 : decode cX6_isOpen 9 = .ok (.getfield 196, 3) := by decide +kernel
theorem dX6_isOpen_12 : decode cX6_isOpen 12 = .ok (.iload_n 1, 1) := by decide +kernel
theorem dX6_isOpen_13 : decode cX6_isOpen 13 = .ok (.baload, 1) := by decide +kernel
theorem dX6_isOpen_14 : decode cX6_isOpen 14 = .ok (.ireturn, 1) := by decide +kernel
set_option maxRecDepth 20000 in
theorem ggX6_holders_X6_needPage : GoodIn wsX6_holders wsX6_needPage := goodIn_ca (goodIn_r _ [7, 8, 9, 2, 10, 30, 31, 32, 33, 34, 35, 36, 37, 38, 39, 40, 41, 42, 43, 44, 45, 46] (by decide +kernel) (by decide +kernel)) (goodIn_sub (fun _ h => List.mem_cons_of_mem _ (List.mem_append_right _ h)) (by decide +kernel))
set_option maxRecDepth 20000 in
theorem gX6_holders_X6_needPage : GoodIn wsX6_holders (wsV RX6 88 RX6 yX6_needPage wsX6_needPage) := goodIn_app (goodIn_of _ (by decide +kernel)) ggX6_holders_X6_needPage
set_option maxRecDepth 20000 in
theorem ggX6_holders_X2_holdersOf : GoodIn wsX6_holders wsX2_holdersOf := goodIn_r _ [15, 16, 17, 18, 19, 20, 21, 22, 23, 24, 25, 26, 27, 28, 29, 36, 37, 38, 39, 40, 41, 42, 43, 44, 45, 46, 47, 48, 49, 50, 51, 52, 53] (by decide +kernel) (by decide +kernel)
set_option maxRecDepth 20000 in
theorem gX6_holders_X2_holdersOf : GoodIn wsX6_holders (wsV RX6 300 RX2 yX2_holdersOf wsX2_holdersOf) := goodIn_app (goodIn_of _ (by decide +kernel)) ggX6_holders_X2_holdersOf
theorem dX6_holders_0 : decode cX6_holders 0 = .ok (.aload_n 0, 1) := by decide +kernel
theorem dX6_holders_1 : decode cX6_holders 1 = .ok (.iload_n 1, 1) := by decide +kernel
theorem dX6_holders_2 : decode cX6_holders 2 = .ok (.invokevirtual 88, 3) := by decide +kernel
theorem dX6_holders_5 : decode cX6_holders 5 = .ok (.aload_n 0, 1) := by decide +kernel
theorem dX6_holders_6 : decode cX6_holders 6 = .ok (.getfield 36, 3) := by decide +kernel
theorem dX6_holders_9 : decode cX6_holders 9 = .ok (.aload_n 0, 1) := by decide +kernel
theorem dX6_holders_10 : decode cX6_holders 10 = .ok (.getfield 22, 3) := by decide +kernel
theorem dX6_holders_13 : decode cX6_holders 13 = .ok (.iload_n 1, 1) := by decide +kernel
theorem dX6_holders_14 : decode cX6_holders 14 = .ok (.invokevirtual 300, 3) := by decide +kernel
theorem dX6_holders_17 : decode cX6_holders 17 = .ok (.ireturn, 1) := by decide +kernel
set_option maxRecDepth 20000 in
theorem ggX6_canStrike_X6_needCase : GoodIn wsX6_canStrike wsX6_needCase := goodIn_ca (goodIn_r _ [7, 8, 9, 1, 10, 56, 57, 58, 59, 60, 61, 62, 63, 64, 65, 66, 67, 68] (by decide +kernel) (by decide +kernel)) (goodIn_sub (fun _ h => List.mem_cons_of_mem _ (List.mem_append_right _ h)) (by decide +kernel))
set_option maxRecDepth 20000 in
theorem gX6_canStrike_X6_needCase : GoodIn wsX6_canStrike (wsV RX6 193 RX6 yX6_needCase wsX6_needCase) := goodIn_app (goodIn_of _ (by decide +kernel)) ggX6_canStrike_X6_needCase
set_option maxRecDepth 20000 in
theorem ggX6_canStrike_X6_needPage : GoodIn wsX6_canStrike wsX6_needPage := goodIn_ca (goodIn_r _ [14, 8, 9, 2, 15, 56, 57, 58, 59, 60, 61, 69, 70, 71, 72, 73, 74, 75, 76, 77, 78, 79] (by decide +kernel) (by decide +kernel)) (goodIn_sub (fun _ h => List.mem_cons_of_mem _ (List.mem_append_right _ h)) (by decide +kernel))
set_option maxRecDepth 20000 in
theorem gX6_canStrike_X6_needPage : GoodIn wsX6_canStrike (wsV RX6 88 RX6 yX6_needPage wsX6_needPage) := goodIn_app (goodIn_of _ (by decide +kernel)) ggX6_canStrike_X6_needPage
set_option maxRecDepth 20000 in
theorem ggX6_canStrike_X2_maySentence : GoodIn wsX6_canStrike wsX2_maySentence := goodIn_r _ [20, 21, 22, 23, 24, 25, 19, 26, 27, 28, 29, 30, 31, 32, 33, 34, 35, 36, 37, 38, 39, 40, 41, 42, 43, 44, 45, 46, 47, 48, 49, 50, 51, 52, 53, 54, 55, 62, 63, 64, 65, 66, 67, 68, 69, 70, 71, 72, 73, 74, 75, 76, 77, 78, 79, 80, 81] (by decide +kernel) (by decide +kernel)
set_option maxRecDepth 20000 in
theorem gX6_canStrike_X2_maySentence : GoodIn wsX6_canStrike (wsV RX6 220 RX2 yX2_maySentence wsX2_maySentence) := goodIn_app (goodIn_of _ (by decide +kernel)) ggX6_canStrike_X2_maySentence
theorem dX6_canStrike_0 : decode cX6_canStrike 0 = .ok (.aload_n 0, 1) := by decide +kernel
theorem dX6_canStrike_1 : decode cX6_canStrike 1 = .ok (.iload_n 1, 1) := by decide +kernel
theorem dX6_canStrike_2 : decode cX6_canStrike 2 = .ok (.invokevirtual 193, 3) := by decide +kernel
theorem dX6_canStrike_5 : decode cX6_canStrike 5 = .ok (.aload_n 0, 1) := by decide +kernel
theorem dX6_canStrike_6 : decode cX6_canStrike 6 = .ok (.iload_n 2, 1) := by decide +kernel
theorem dX6_canStrike_7 : decode cX6_canStrike 7 = .ok (.invokevirtual 88, 3) := by decide +kernel
theorem dX6_canStrike_10 : decode cX6_canStrike 10 = .ok (.aload_n 0, 1) := by decide +kernel
theorem dX6_canStrike_11 : decode cX6_canStrike 11 = .ok (.getfield 36, 3) := by decide +kernel
theorem dX6_canStrike_14 : decode cX6_canStrike 14 = .ok (.iload_n 1, 1) := by decide +kernel
theorem dX6_canStrike_15 : decode cX6_canStrike 15 = .ok (.aload_n 0, 1) := by decide +kernel
theorem dX6_canStrike_16 : decode cX6_canStrike 16 = .ok (.getfield 22, 3) := by decide +kernel
theorem dX6_canStrike_19 : decode cX6_canStrike 19 = .ok (.iload_n 2, 1) := by decide +kernel
theorem dX6_canStrike_20 : decode cX6_canStrike 20 = .ok (.invokevirtual 220, 3) := by decide +kernel
theorem dX6_canStrike_23 : decode cX6_canStrike 23 = .ok (.ireturn, 1) := by decide +kernel
theorem dX6_needPage_0 : decode cX6_needPage 0 = .ok (.iload_n 1, 1) := by decide +kernel
theorem dX6_needPage_1 : decode cX6_needPage 1 = .ok (.ifCond .lt 14, 3) := by decide +kernel
theorem dX6_needPage_4 : decode cX6_needPage 4 = .ok (.iload_n 1, 1) := by decide +kernel
theorem dX6_needPage_5 : decode cX6_needPage 5 = .ok (.aload_n 0, 1) := by decide +kernel
theorem dX6_needPage_6 : decode cX6_needPage 6 = .ok (.getfield 22, 3) := by decide +kernel
theorem dX6_needPage_9 : decode cX6_needPage 9 = .ok (.getfield 233, 3) := by decide +kernel
theorem dX6_needPage_12 : decode cX6_needPage 12 = .ok (.if_icmp .lt 14, 3) := by decide +kernel
theorem dX6_needPage_15 : decode cX6_needPage 15 = .ok (.new 304, 3) := by decide +kernel
theorem dX6_needPage_18 : decode cX6_needPage 18 = .ok (.dup, 1) := by decide +kernel
theorem dX6_needPage_19 : decode cX6_needPage 19 = .ok (.ldc_w 306, 3) := by decide +kernel
theorem dX6_needPage_22 : decode cX6_needPage 22 = .ok (.invokespecial 308, 3) := by decide +kernel
theorem dX6_needPage_25 : decode cX6_needPage 25 = .ok (.athrow, 1) := by decide +kernel
theorem dX6_needPage_26 : decode cX6_needPage 26 = .ok (.return_, 1) := by decide +kernel
theorem dX6_needAccount_0 : decode cX6_needAccount 0 = .ok (.iload_n 0, 1) := by decide +kernel
theorem dX6_needAccount_1 : decode cX6_needAccount 1 = .ok (.ifCond .lt 9, 3) := by decide +kernel
theorem dX6_needAccount_4 : decode cX6_needAccount 4 = .ok (.iload_n 0, 1) := by decide +kernel
theorem dX6_needAccount_5 : decode cX6_needAccount 5 = .ok (.bipush 8, 2) := by decide +kernel
theorem dX6_needAccount_7 : decode cX6_needAccount 7 = .ok (.if_icmp .lt 14, 3) := by decide +kernel
theorem dX6_needAccount_10 : decode cX6_needAccount 10 = .ok (.new 304, 3) := by decide +kernel
theorem dX6_needAccount_13 : decode cX6_needAccount 13 = .ok (.dup, 1) := by decide +kernel
theorem dX6_needAccount_14 : decode cX6_needAccount 14 = .ok (.ldc_w 309, 3) := by decide +kernel
theorem dX6_needAccount_17 : decode cX6_needAccount 17 = .ok (.invokespecial 308, 3) := by decide +kernel
theorem dX6_needAccount_20 : decode cX6_needAccount 20 = .ok (.athrow, 1) := by decide +kernel
theorem dX6_needAccount_21 : decode cX6_needAccount 21 = .ok (.return_, 1) := by decide +kernel
theorem dX6_needCase_0 : decode cX6_needCase 0 = .ok (.iload_n 1, 1) := by decide +kernel
theorem dX6_needCase_1 : decode cX6_needCase 1 = .ok (.ifCond .lt 14, 3) := by decide +kernel
theorem dX6_needCase_4 : decode cX6_needCase 4 = .ok (.iload_n 1, 1) := by decide +kernel
theorem dX6_needCase_5 : decode cX6_needCase 5 = .ok (.aload_n 0, 1) := by decide +kernel
theorem dX6_needCase_6 : decode cX6_needCase 6 = .ok (.getfield 36, 3) := by decide +kernel
theorem dX6_needCase_9 : decode cX6_needCase 9 = .ok (.getfield 311, 3) := by decide +kernel
theorem dX6_needCase_12 : decode cX6_needCase 12 = .ok (.if_icmp .lt 14, 3) := by decide +kernel
theorem dX6_needCase_15 : decode cX6_needCase 15 = .ok (.new 304, 3) := by decide +kernel
theorem dX6_needCase_18 : decode cX6_needCase 18 = .ok (.dup, 1) := by decide +kernel
theorem dX6_needCase_19 : decode cX6_needCase 19 = .ok (.ldc_w 314, 3) := by decide +kernel
theorem dX6_needCase_22 : decode cX6_needCase 22 = .ok (.invokespecial 308, 3) := by decide +kernel
theorem dX6_needCase_25 : decode cX6_needCase 25 = .ok (.athrow, 1) := by decide +kernel
theorem dX6_needCase_26 : decode cX6_needCase 26 = .ok (.return_, 1) := by decide +kernel
set_option maxRecDepth 20000 in
theorem ggX6_needCopy_X5_find : GoodIn wsX6_needCopy wsX5_find := goodIn_r _ [8, 9, 10, 17, 18] (by decide +kernel) (by decide +kernel)
set_option maxRecDepth 20000 in
theorem gX6_needCopy_X5_find : GoodIn wsX6_needCopy (wsV RX6 316 RX5 yX5_find wsX5_find) := goodIn_app (goodIn_of _ (by decide +kernel)) ggX6_needCopy_X5_find
theorem dX6_needCopy_0 : decode cX6_needCopy 0 = .ok (.aload_n 0, 1) := by decide +kernel
theorem dX6_needCopy_1 : decode cX6_needCopy 1 = .ok (.getfield 29, 3) := by decide +kernel
theorem dX6_needCopy_4 : decode cX6_needCopy 4 = .ok (.iload_n 1, 1) := by decide +kernel
theorem dX6_needCopy_5 : decode cX6_needCopy 5 = .ok (.invokevirtual 316, 3) := by decide +kernel
theorem dX6_needCopy_8 : decode cX6_needCopy 8 = .ok (.astore_n 2, 1) := by decide +kernel
theorem dX6_needCopy_9 : decode cX6_needCopy 9 = .ok (.aload_n 2, 1) := by decide +kernel
theorem dX6_needCopy_10 : decode cX6_needCopy 10 = .ok (.ifnonnull 14, 3) := by decide +kernel
theorem dX6_needCopy_13 : decode cX6_needCopy 13 = .ok (.new 304, 3) := by decide +kernel
theorem dX6_needCopy_16 : decode cX6_needCopy 16 = .ok (.dup, 1) := by decide +kernel
theorem dX6_needCopy_17 : decode cX6_needCopy 17 = .ok (.ldc_w 319, 3) := by decide +kernel
theorem dX6_needCopy_20 : decode cX6_needCopy 20 = .ok (.invokespecial 308, 3) := by decide +kernel
theorem dX6_needCopy_23 : decode cX6_needCopy 23 = .ok (.athrow, 1) := by decide +kernel
theorem dX6_needCopy_24 : decode cX6_needCopy 24 = .ok (.aload_n 2, 1) := by decide +kernel
theorem dX6_needCopy_25 : decode cX6_needCopy 25 = .ok (.areturn, 1) := by decide +kernel
theorem dX6_needPageIn_0 : decode cX6_needPageIn 0 = .ok (.iload_n 1, 1) := by decide +kernel
theorem dX6_needPageIn_1 : decode cX6_needPageIn 1 = .ok (.aload_n 0, 1) := by decide +kernel
theorem dX6_needPageIn_2 : decode cX6_needPageIn 2 = .ok (.getfield 288, 3) := by decide +kernel
theorem dX6_needPageIn_5 : decode cX6_needPageIn 5 = .ok (.if_icmp .lt 11, 3) := by decide +kernel
theorem dX6_needPageIn_8 : decode cX6_needPageIn 8 = .ok (.iload_n 1, 1) := by decide +kernel
theorem dX6_needPageIn_9 : decode cX6_needPageIn 9 = .ok (.aload_n 0, 1) := by decide +kernel
theorem dX6_needPageIn_10 : decode cX6_needPageIn 10 = .ok (.getfield 285, 3) := by decide +kernel
theorem dX6_needPageIn_13 : decode cX6_needPageIn 13 = .ok (.if_icmp .lt 14, 3) := by decide +kernel
theorem dX6_needPageIn_16 : decode cX6_needPageIn 16 = .ok (.new 304, 3) := by decide +kernel
theorem dX6_needPageIn_19 : decode cX6_needPageIn 19 = .ok (.dup, 1) := by decide +kernel
theorem dX6_needPageIn_20 : decode cX6_needPageIn 20 = .ok (.ldc_w 321, 3) := by decide +kernel
theorem dX6_needPageIn_23 : decode cX6_needPageIn 23 = .ok (.invokespecial 308, 3) := by decide +kernel
theorem dX6_needPageIn_26 : decode cX6_needPageIn 26 = .ok (.athrow, 1) := by decide +kernel
theorem dX6_needPageIn_27 : decode cX6_needPageIn 27 = .ok (.return_, 1) := by decide +kernel
theorem dX6_needAmount_0 : decode cX6_needAmount 0 = .ok (.iload_n 0, 1) := by decide +kernel
theorem dX6_needAmount_1 : decode cX6_needAmount 1 = .ok (.sipush (-10000), 3) := by decide +kernel
theorem dX6_needAmount_4 : decode cX6_needAmount 4 = .ok (.if_icmp .lt 10, 3) := by decide +kernel
theorem dX6_needAmount_7 : decode cX6_needAmount 7 = .ok (.iload_n 0, 1) := by decide +kernel
theorem dX6_needAmount_8 : decode cX6_needAmount 8 = .ok (.sipush 10000, 3) := by decide +kernel
theorem dX6_needAmount_11 : decode cX6_needAmount 11 = .ok (.if_icmp .le 14, 3) := by decide +kernel
theorem dX6_needAmount_14 : decode cX6_needAmount 14 = .ok (.new 51, 3) := by decide +kernel
theorem dX6_needAmount_17 : decode cX6_needAmount 17 = .ok (.dup, 1) := by decide +kernel
theorem dX6_needAmount_18 : decode cX6_needAmount 18 = .ok (.ldc_w 323, 3) := by decide +kernel
theorem dX6_needAmount_21 : decode cX6_needAmount 21 = .ok (.invokespecial 55, 3) := by decide +kernel
theorem dX6_needAmount_24 : decode cX6_needAmount 24 = .ok (.athrow, 1) := by decide +kernel
theorem dX6_needAmount_25 : decode cX6_needAmount 25 = .ok (.return_, 1) := by decide +kernel
theorem dX6_needText_0 : decode cX6_needText 0 = .ok (.iload_n 0, 1) := by decide +kernel
theorem dX6_needText_1 : decode cX6_needText 1 = .ok (.ifCond .lt 10, 3) := by decide +kernel
theorem dX6_needText_4 : decode cX6_needText 4 = .ok (.iload_n 0, 1) := by decide +kernel
theorem dX6_needText_5 : decode cX6_needText 5 = .ok (.sipush 9999, 3) := by decide +kernel
theorem dX6_needText_8 : decode cX6_needText 8 = .ok (.if_icmp .le 14, 3) := by decide +kernel
theorem dX6_needText_11 : decode cX6_needText 11 = .ok (.new 51, 3) := by decide +kernel
theorem dX6_needText_14 : decode cX6_needText 14 = .ok (.dup, 1) := by decide +kernel
theorem dX6_needText_15 : decode cX6_needText 15 = .ok (.ldc_w 325, 3) := by decide +kernel
theorem dX6_needText_18 : decode cX6_needText 18 = .ok (.invokespecial 55, 3) := by decide +kernel
theorem dX6_needText_21 : decode cX6_needText 21 = .ok (.athrow, 1) := by decide +kernel
theorem dX6_needText_22 : decode cX6_needText 22 = .ok (.return_, 1) := by decide +kernel
theorem dX6_needPastDay_0 : decode cX6_needPastDay 0 = .ok (.iload_n 1, 1) := by decide +kernel
theorem dX6_needPastDay_1 : decode cX6_needPastDay 1 = .ok (.ifCond .lt 11, 3) := by decide +kernel
theorem dX6_needPastDay_4 : decode cX6_needPastDay 4 = .ok (.iload_n 1, 1) := by decide +kernel
theorem dX6_needPastDay_5 : decode cX6_needPastDay 5 = .ok (.aload_n 0, 1) := by decide +kernel
theorem dX6_needPastDay_6 : decode cX6_needPastDay 6 = .ok (.getfield 40, 3) := by decide +kernel
theorem dX6_needPastDay_9 : decode cX6_needPastDay 9 = .ok (.if_icmp .le 14, 3) := by decide +kernel
theorem dX6_needPastDay_12 : decode cX6_needPastDay 12 = .ok (.new 51, 3) := by decide +kernel
theorem dX6_needPastDay_15 : decode cX6_needPastDay 15 = .ok (.dup, 1) := by decide +kernel
theorem dX6_needPastDay_16 : decode cX6_needPastDay 16 = .ok (.ldc_w 327, 3) := by decide +kernel
theorem dX6_needPastDay_19 : decode cX6_needPastDay 19 = .ok (.invokespecial 55, 3) := by decide +kernel
theorem dX6_needPastDay_22 : decode cX6_needPastDay 22 = .ok (.athrow, 1) := by decide +kernel
theorem dX6_needPastDay_23 : decode cX6_needPastDay 23 = .ok (.return_, 1) := by decide +kernel
set_option maxRecDepth 20000 in
theorem ggX6_needRoomForCopy_X5_isFull : GoodIn wsX6_needRoomForCopy wsX5_isFull := goodIn_r _ [9, 10, 35, 36] (by decide +kernel) (by decide +kernel)
set_option maxRecDepth 20000 in
theorem gX6_needRoomForCopy_X5_isFull : GoodIn wsX6_needRoomForCopy (wsV RX6 329 RX5 yX5_isFull wsX5_isFull) := goodIn_app (goodIn_of _ (by decide +kernel)) ggX6_needRoomForCopy_X5_isFull
set_option maxRecDepth 20000 in
theorem ggX6_needRoomForCopy_X0_countBurnt : GoodIn wsX6_needRoomForCopy wsX0_countBurnt := goodIn_r _ [15, 16, 17, 18, 19, 14, 20, 21, 22, 23, 24, 25, 26, 27, 28, 37, 38, 39, 40, 41, 42, 43, 44, 45, 46, 47, 48, 49] (by decide +kernel) (by decide +kernel)
set_option maxRecDepth 20000 in
theorem gX6_needRoomForCopy_X0_countBurnt : GoodIn wsX6_needRoomForCopy (wsV RX6 294 RX0 yX0_countBurnt wsX0_countBurnt) := goodIn_app (goodIn_of _ (by decide +kernel)) ggX6_needRoomForCopy_X0_countBurnt
theorem dX6_needRoomForCopy_0 : decode cX6_needRoomForCopy 0 = .ok (.aload_n 0, 1) := by decide +kernel
theorem dX6_needRoomForCopy_1 : decode cX6_needRoomForCopy 1 = .ok (.getfield 29, 3) := by decide +kernel
theorem dX6_needRoomForCopy_4 : decode cX6_needRoomForCopy 4 = .ok (.invokevirtual 329, 3) := by decide +kernel
theorem dX6_needRoomForCopy_7 : decode cX6_needRoomForCopy 7 = .ok (.ifCond .ne 13, 3) := by decide +kernel
theorem dX6_needRoomForCopy_10 : decode cX6_needRoomForCopy 10 = .ok (.aload_n 0, 1) := by decide +kernel
theorem dX6_needRoomForCopy_11 : decode cX6_needRoomForCopy 11 = .ok (.getfield 22, 3) := by decide +kernel
theorem dX6_needRoomForCopy_14 : decode cX6_needRoomForCopy 14 = .ok (.invokevirtual 294, 3) := by decide +kernel
theorem dX6_needRoomForCopy_17 : decode cX6_needRoomForCopy 17 = .ok (.ifCond .le 14, 3) := by decide +kernel
theorem dX6_needRoomForCopy_20 : decode cX6_needRoomForCopy 20 = .ok (.new 62, 3) := by decide +kernel
theorem dX6_needRoomForCopy_23 : decode cX6_needRoomForCopy 23 = .ok (.dup, 1) := by decide +kernel
theorem dX6_needRoomForCopy_24 : decode cX6_needRoomForCopy 24 = .ok (.ldc_w 330, 3) := by decide +kernel
theorem dX6_needRoomForCopy_27 : decode cX6_needRoomForCopy 27 = .ok (.invokespecial 66, 3) := by decide +kernel
theorem dX6_needRoomForCopy_30 : decode cX6_needRoomForCopy 30 = .ok (.athrow, 1) := by decide +kernel
theorem dX6_needRoomForCopy_31 : decode cX6_needRoomForCopy 31 = .ok (.return_, 1) := by decide +kernel
