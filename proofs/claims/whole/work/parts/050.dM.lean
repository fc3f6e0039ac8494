theorem dX7_init_0 : decode cX7_init 0 = .ok (.aload_n 0, 1) := by decide +kernel
theorem dX7_init_1 : decode cX7_init 1 = .ok (.invokespecial 1, 3) := by decide +kernel
theorem dX7_init_4 : decode cX7_init 4 = .ok (.aload_n 0, 1) := by decide +kernel
theorem dX7_init_5 : decode cX7_init 5 = .ok (.iconst 4, 1) := by decide +kernel
theorem dX7_init_6 : decode cX7_init 6 = .ok (.newarray .int, 2) := by decide +kernel
theorem dX7_init_8 : decode cX7_init 8 = .ok (.putfield 7, 3) := by decide +kernel
theorem dX7_init_11 : decode cX7_init 11 = .ok (.aload_n 0, 1) := by decide +kernel
theorem dX7_init_12 : decode cX7_init 12 = .ok (.iconst 4, 1) := by decide +kernel
theorem dX7_init_13 : decode cX7_init 13 = .ok (.newarray .int, 2) := by decide +kernel
theorem dX7_init_15 : decode cX7_init 15 = .ok (.putfield 13, 3) := by decide +kernel
theorem dX7_init_18 : decode cX7_init 18 = .ok (.aload_n 0, 1) := by decide +kernel
theorem dX7_init_19 : decode cX7_init 19 = .ok (.bipush 80, 2) := by decide +kernel
theorem dX7_init_21 : decode cX7_init 21 = .ok (.newarray .int, 2) := by decide +kernel
theorem dX7_init_23 : decode cX7_init 23 = .ok (.putfield 16, 3) := by decide +kernel
theorem dX7_init_26 : decode cX7_init 26 = .ok (.aload_n 0, 1) := by decide +kernel
theorem dX7_init_27 : decode cX7_init 27 = .ok (.bipush 80, 2) := by decide +kernel
theorem dX7_init_29 : decode cX7_init 29 = .ok (.newarray .int, 2) := by decide +kernel
theorem dX7_init_31 : decode cX7_init 31 = .ok (.putfield 19, 3) := by decide +kernel
theorem dX7_init_34 : decode cX7_init 34 = .ok (.aload_n 0, 1) := by decide +kernel
theorem dX7_init_35 : decode cX7_init 35 = .ok (.bipush 80, 2) := by decide +kernel
theorem dX7_init_37 : decode cX7_init 37 = .ok (.newarray .int, 2) := by decide +kernel
theorem dX7_init_39 : decode cX7_init 39 = .ok (.putfield 22, 3) := by decide +kernel
theorem dX7_init_42 : decode cX7_init 42 = .ok (.aload_n 0, 1) := by decide +kernel
theorem dX7_init_43 : decode cX7_init 43 = .ok (.sipush 320, 3) := by decide +kernel
theorem dX7_init_46 : decode cX7_init 46 = .ok (.newarray .int, 2) := by decide +kernel
theorem dX7_init_48 : decode cX7_init 48 = .ok (.putfield 25, 3) := by decide +kernel
theorem dX7_init_51 : decode cX7_init 51 = .ok (.aload_n 0, 1) := by decide +kernel
theorem dX7_init_52 : decode cX7_init 52 = .ok (.sipush 320, 3) := by decide +kernel
theorem dX7_init_55 : decode cX7_init 55 = .ok (.newarray .int, 2) := by decide +kernel
theorem dX7_init_57 : decode cX7_init 57 = .ok (.putfield 28, 3) := by decide +kernel
theorem dX7_init_60 : decode cX7_init 60 = .ok (.aload_n 0, 1) := by decide +kernel
theorem dX7_init_61 : decode cX7_init 61 = .ok (.sipush 320, 3) := by decide +kernel
theorem dX7_init_64 : decode cX7_init 64 = .ok (.newarray .int, 2) := by decide +kernel
theorem dX7_init_66 : decode cX7_init 66 = .ok (.putfield 31, 3) := by decide +kernel
theorem dX7_init_69 : decode cX7_init 69 = .ok (.aload_n 0, 1) := by decide +kernel
theorem dX7_init_70 : decode cX7_init 70 = .ok (.bipush 80, 2) := by decide +kernel
theorem dX7_init_72 : decode cX7_init 72 = .ok (.newarray .int, 2) := by decide +kernel
theorem dX7_init_74 : decode cX7_init 74 = .ok (.putfield 34, 3) := by decide +kernel
theorem dX7_init_77 : decode cX7_init 77 = .ok (.aload_n 0, 1) := by decide +kernel
theorem dX7_init_78 : decode cX7_init 78 = .ok (.bipush 80, 2) := by decide +kernel
theorem dX7_init_80 : decode cX7_init 80 = .ok (.newarray .int, 2) := by decide +kernel
theorem dX7_init_82 : decode cX7_init 82 = .ok (.putfield 37, 3) := by decide +kernel
theorem dX7_init_85 : decode cX7_init 85 = .ok (.aload_n 0, 1) := by decide +kernel
theorem dX7_init_86 : decode cX7_init 86 = .ok (.bipush 80, 2) := by decide +kernel
theorem dX7_init_88 : decode cX7_init 88 = .ok (.newarray .boolean, 2) := by decide +kernel
theorem dX7_init_90 : decode cX7_init 90 = .ok (.putfield 40, 3) := by decide +kernel
theorem dX7_init_93 : decode cX7_init 93 = .ok (.aload_n 0, 1) := by decide +kernel
theorem dX7_init_94 : decode cX7_init 94 = .ok (.bipush 16, 2) := by decide +kernel
theorem dX7_init_96 : decode cX7_init 96 = .ok (.newarray .int, 2) := by decide +kernel
theorem dX7_init_98 : decode cX7_init 98 = .ok (.putfield 44, 3) := by decide +kernel
theorem dX7_init_101 : decode cX7_init 101 = .ok (.aload_n 0, 1) := by decide +kernel
theorem dX7_init_102 : decode cX7_init 102 = .ok (.bipush 16, 2) := by decide +kernel
theorem dX7_init_104 : decode cX7_init 104 = .ok (.newarray .int, 2) := by decide +kernel
theorem dX7_init_106 : decode cX7_init 106 = .ok (.putfield 47, 3) := by decide +kernel
theorem dX7_init_109 : decode cX7_init 109 = .ok (.aload_n 0, 1) := by decide +kernel
theorem dX7_init_110 : decode cX7_init 110 = .ok (.bipush 16, 2) := by decide +kernel
theorem dX7_init_112 : decode cX7_init 112 = .ok (.newarray .int, 2) := by decide +kernel
theorem dX7_init_114 : decode cX7_init 114 = .ok (.putfield 50, 3) := by decide +kernel
theorem dX7_init_117 : decode cX7_init 117 = .ok (.aload_n 0, 1) := by decide +kernel
theorem dX7_init_118 : decode cX7_init 118 = .ok (.bipush 16, 2) := by decide +kernel
theorem dX7_init_120 : decode cX7_init 120 = .ok (.newarray .boolean, 2) := by decide +kernel
theorem dX7_init_122 : decode cX7_init 122 = .ok (.putfield 53, 3) := by decide +kernel
theorem dX7_init_125 : decode cX7_init 125 = .ok (.aload_n 0, 1) := by decide +kernel
theorem dX7_init_126 : decode cX7_init 126 = .ok (.bipush 16, 2) := by decide +kernel
theorem dX7_init_128 : decode cX7_init 128 = .ok (.newarray .boolean, 2) := by decide +kernel
theorem dX7_init_130 : decode cX7_init 130 = .ok (.putfield 56, 3) := by decide +kernel
theorem dX7_init_133 : decode cX7_init 133 = .ok (.aload_n 0, 1) := by decide +kernel
theorem dX7_init_134 : decode cX7_init 134 = .ok (.sipush 1280, 3) := by decide +kernel
theorem dX7_init_137 : decode cX7_init 137 = .ok (.newarray .boolean, 2) := by decide +kernel
theorem dX7_init_139 : decode cX7_init 139 = .ok (.putfield 59, 3) := by decide +kernel
theorem dX7_init_142 : decode cX7_init 142 = .ok (.aload_n 0, 1) := by decide +kernel
theorem dX7_init_143 : decode cX7_init 143 = .ok (.sipush 5120, 3) := by decide +kernel
theorem dX7_init_146 : decode cX7_init 146 = .ok (.newarray .int, 2) := by decide +kernel
theorem dX7_init_148 : decode cX7_init 148 = .ok (.putfield 62, 3) := by decide +kernel
theorem dX7_init_151 : decode cX7_init 151 = .ok (.aload_n 0, 1) := by decide +kernel
theorem dX7_init_152 : decode cX7_init 152 = .ok (.bipush 8, 2) := by decide +kernel
theorem dX7_init_154 : decode cX7_init 154 = .ok (.newarray .boolean, 2) := by decide +kernel
theorem dX7_init_156 : decode cX7_init 156 = .ok (.putfield 65, 3) := by decide +kernel
theorem dX7_init_159 : decode cX7_init 159 = .ok (.aload_n 0, 1) := by decide +kernel
theorem dX7_init_160 : decode cX7_init 160 = .ok (.bipush 30, 2) := by decide +kernel
theorem dX7_init_162 : decode cX7_init 162 = .ok (.newarray .int, 2) := by decide +kernel
theorem dX7_init_164 : decode cX7_init 164 = .ok (.putfield 68, 3) := by decide +kernel
theorem dX7_init_167 : decode cX7_init 167 = .ok (.aload_n 0, 1) := by decide +kernel
theorem dX7_init_168 : decode cX7_init 168 = .ok (.bipush 30, 2) := by decide +kernel
theorem dX7_init_170 : decode cX7_init 170 = .ok (.newarray .int, 2) := by decide +kernel
theorem dX7_init_172 : decode cX7_init 172 = .ok (.putfield 71, 3) := by decide +kernel
theorem dX7_init_175 : decode cX7_init 175 = .ok (.aload_n 0, 1) := by decide +kernel
theorem dX7_init_176 : decode cX7_init 176 = .ok (.bipush 30, 2) := by decide +kernel
theorem dX7_init_178 : decode cX7_init 178 = .ok (.newarray .int, 2) := by decide +kernel
theorem dX7_init_180 : decode cX7_init 180 = .ok (.putfield 74, 3) := by decide +kernel
theorem dX7_init_183 : decode cX7_init 183 = .ok (.aload_n 0, 1) := by decide +kernel
theorem dX7_init_184 : decode cX7_init 184 = .ok (.bipush 30, 2) := by decide +kernel
theorem dX7_init_186 : decode cX7_init 186 = .ok (.newarray .int, 2) := by decide +kernel
theorem dX7_init_188 : decode cX7_init 188 = .ok (.putfield 77, 3) := by decide +kernel
theorem dX7_init_191 : decode cX7_init 191 = .ok (.return_, 1) := by decide +kernel
theorem dX7_thrown_0 : decode cX7_thrown 0 = .ok (.aload_n 0, 1) := by decide +kernel
theorem dX7_thrown_1 : decode cX7_thrown 1 = .ok (.getfield 80, 3) := by decide +kernel
theorem dX7_thrown_4 : decode cX7_thrown 4 = .ok (.ireturn, 1) := by decide +kernel
theorem dX7_refused_0 : decode cX7_refused 0 = .ok (.aload_n 0, 1) := by decide +kernel
theorem dX7_refused_1 : decode cX7_refused 1 = .ok (.iload_n 1, 1) := by decide +kernel
theorem dX7_refused_2 : decode cX7_refused 2 = .ok (.putfield 80, 3) := by decide +kernel
theorem dX7_refused_5 : decode cX7_refused 5 = .ok (.iload_n 1, 1) := by decide +kernel
theorem dX7_refused_6 : decode cX7_refused 6 = .ok (.ifCond .eq 7, 3) := by decide +kernel
theorem dX7_refused_9 : decode cX7_refused 9 = .ok (.iconst 1, 1) := by decide +kernel
theorem dX7_refused_10 : decode cX7_refused 10 = .ok (.goto 4, 3) := by decide +kernel
theorem dX7_refused_13 : decode cX7_refused 13 = .ok (.iconst 0, 1) := by decide +kernel
theorem dX7_refused_14 : decode cX7_refused 14 = .ok (.ireturn, 1) := by decide +kernel
theorem dX7_fine_0 : decode cX7_fine 0 = .ok (.aload_n 0, 1) := by decide +kernel
theorem dX7_fine_1 : decode cX7_fine 1 = .ok (.iconst 0, 1) := by decide +kernel
theorem dX7_fine_2 : decode cX7_fine 2 = .ok (.putfield 80, 3) := by decide +kernel
theorem dX7_fine_5 : decode cX7_fine 5 = .ok (.iload_n 1, 1) := by decide +kernel
theorem dX7_fine_6 : decode cX7_fine 6 = .ok (.ireturn, 1) := by decide +kernel
theorem dX7_in_0 : decode cX7_in 0 = .ok (.iload_n 0, 1) := by decide +kernel
theorem dX7_in_1 : decode cX7_in 1 = .ok (.iload_n 1, 1) := by decide +kernel
theorem dX7_in_2 : decode cX7_in 2 = .ok (.if_icmp .lt 12, 3) := by decide +kernel
theorem dX7_in_5 : decode cX7_in 5 = .ok (.iload_n 0, 1) := by decide +kernel
theorem dX7_in_6 : decode cX7_in 6 = .ok (.iload_n 2, 1) := by decide +kernel
theorem dX7_in_7 : decode cX7_in 7 = .ok (.if_icmp .gt 7, 3) := by decide +kernel
theorem dX7_in_10 : decode cX7_in 10 = .ok (.iconst 1, 1) := by decide +kernel
theorem dX7_in_11 : decode cX7_in 11 = .ok (.goto 4, 3) := by decide +kernel
theorem dX7_in_14 : decode cX7_in 14 = .ok (.iconst 0, 1) := by decide +kernel
theorem dX7_in_15 : decode cX7_in 15 = .ok (.ireturn, 1) := by decide +kernel
set_option maxRecDepth 20000 in
theorem ggX7_isAccount_X7_in : GoodIn wsX7_isAccount wsX7_in := goodIn_r _ [4] (by decide +kernel) (by decide +kernel)
set_option maxRecDepth 20000 in
theorem gX7_isAccount_X7_in : GoodIn wsX7_isAccount (va_wsS RX7 84 yX7_in wsX7_in) := goodIn_app (goodIn_of _ (by decide +kernel)) ggX7_isAccount_X7_in
theorem dX7_isAccount_0 : decode cX7_isAccount 0 = .ok (.iload_n 0, 1) := by decide +kernel
theorem dX7_isAccount_1 : decode cX7_isAccount 1 = .ok (.iconst 0, 1) := by decide +kernel
theorem dX7_isAccount_2 : decode cX7_isAccount 2 = .ok (.bipush 7, 2) := by decide +kernel
theorem dX7_isAccount_4 : decode cX7_isAccount 4 = .ok (.invokestatic 84, 3) := by decide +kernel
theorem dX7_isAccount_7 : decode cX7_isAccount 7 = .ok (.ireturn, 1) := by decide +kernel
set_option maxRecDepth 20000 in
theorem ggX7_isPage_X7_in : GoodIn wsX7_isPage wsX7_in := goodIn_r _ [5] (by decide +kernel) (by decide +kernel)
set_option maxRecDepth 20000 in
theorem gX7_isPage_X7_in : GoodIn wsX7_isPage (va_wsS RX7 84 yX7_in wsX7_in) := goodIn_app (goodIn_of _ (by decide +kernel)) ggX7_isPage_X7_in
theorem dX7_isPage_0 : decode cX7_isPage 0 = .ok (.iload_n 1, 1) := by decide +kernel
theorem dX7_isPage_1 : decode cX7_isPage 1 = .ok (.iconst 0, 1) := by decide +kernel
theorem dX7_isPage_2 : decode cX7_isPage 2 = .ok (.aload_n 0, 1) := by decide +kernel
theorem dX7_isPage_3 : decode cX7_isPage 3 = .ok (.getfield 88, 3) := by decide +kernel
theorem dX7_isPage_6 : decode cX7_isPage 6 = .ok (.iconst 1, 1) := by decide +kernel
theorem dX7_isPage_7 : decode cX7_isPage 7 = .ok (.isub, 1) := by decide +kernel
theorem dX7_isPage_8 : decode cX7_isPage 8 = .ok (.invokestatic 84, 3) := by decide +kernel
theorem dX7_isPage_11 : decode cX7_isPage 11 = .ok (.ireturn, 1) := by decide +kernel
set_option maxRecDepth 20000 in
theorem ggX7_isCopy_X7_in : GoodIn wsX7_isCopy wsX7_in := goodIn_r _ [6] (by decide +kernel) (by decide +kernel)
set_option maxRecDepth 20000 in
theorem gX7_isCopy_X7_in : GoodIn wsX7_isCopy (va_wsS RX7 84 yX7_in wsX7_in) := goodIn_app (goodIn_of _ (by decide +kernel)) ggX7_isCopy_X7_in
theorem dX7_isCopy_0 : decode cX7_isCopy 0 = .ok (.iload_n 1, 1) := by decide +kernel
theorem dX7_isCopy_1 : decode cX7_isCopy 1 = .ok (.iconst 0, 1) := by decide +kernel
theorem dX7_isCopy_2 : decode cX7_isCopy 2 = .ok (.aload_n 0, 1) := by decide +kernel
theorem dX7_isCopy_3 : decode cX7_isCopy 3 = .ok (.getfield 91, 3) := by decide +kernel
theorem dX7_isCopy_6 : decode cX7_isCopy 6 = .ok (.iconst 1, 1) := by decide +kernel
theorem dX7_isCopy_7 : decode cX7_isCopy 7 = .ok (.isub, 1) := by decide +kernel
theorem dX7_isCopy_8 : decode cX7_isCopy 8 = .ok (.invokestatic 84, 3) := by decide +kernel
theorem dX7_isCopy_11 : decode cX7_isCopy 11 = .ok (.ifCond .eq 16, 3) := by decide +kernel
theorem dX7_isCopy_14 : decode cX7_isCopy 14 = .ok (.aload_n 0, 1) := by decide +kernel
theorem dX7_isCopy_15 : decode cX7_isCopy 15 = .ok (.getfield 53, 3) := by decide +kernel
theorem dX7_isCopy_18 : decode cX7_isCopy 18 = .ok (.iload_n 1, 1) := by decide +kernel
theorem dX7_isCopy_19 : decode cX7_isCopy 19 = .ok (.baload, 1) := by decide +kernel
theorem dX7_isCopy_20 : decode cX7_isCopy 20 = .ok (.ifCond .ne 7, 3) := by decide +kernel
theorem dX7_isCopy_23 : decode cX7_isCopy 23 = .ok (.iconst 1, 1) := by decide +kernel
theorem dX7_isCopy_24 : decode cX7_isCopy 24 = .ok (.goto 4, 3) := by decide +kernel
theorem dX7_isCopy_27 : decode cX7_isCopy 27 = .ok (.iconst 0, 1) := by decide +kernel
theorem dX7_isCopy_28 : decode cX7_isCopy 28 = .ok (.ireturn, 1) := by decide +kernel
set_option maxRecDepth 20000 in
theorem ggX7_isCase_X7_in : GoodIn wsX7_isCase wsX7_in := goodIn_r _ [5] (by decide +kernel) (by decide +kernel)
set_option maxRecDepth 20000 in
theorem gX7_isCase_X7_in : GoodIn wsX7_isCase (va_wsS RX7 84 yX7_in wsX7_in) := goodIn_app (goodIn_of _ (by decide +kernel)) ggX7_isCase_X7_in
theorem dX7_isCase_0 : decode cX7_isCase 0 = .ok (.iload_n 1, 1) := by decide +kernel
theorem dX7_isCase_1 : decode cX7_isCase 1 = .ok (.iconst 0, 1) := by decide +kernel
theorem dX7_isCase_2 : decode cX7_isCase 2 = .ok (.aload_n 0, 1) := by decide +kernel
theorem dX7_isCase_3 : decode cX7_isCase 3 = .ok (.getfield 94, 3) := by decide +kernel
theorem dX7_isCase_6 : decode cX7_isCase 6 = .ok (.iconst 1, 1) := by decide +kernel
theorem dX7_isCase_7 : decode cX7_isCase 7 = .ok (.isub, 1) := by decide +kernel
theorem dX7_isCase_8 : decode cX7_isCase 8 = .ok (.invokestatic 84, 3) := by decide +kernel
theorem dX7_isCase_11 : decode cX7_isCase 11 = .ok (.ireturn, 1) := by decide +kernel
set_option maxRecDepth 20000 in
theorem ggX7_leg_X7_in : GoodIn wsX7_leg wsX7_in := goodIn_r _ [7] (by decide +kernel) (by decide +kernel)
set_option maxRecDepth 20000 in
theorem gX7_leg_X7_in : GoodIn wsX7_leg (va_wsS RX7 84 yX7_in wsX7_in) := goodIn_app (goodIn_of _ (by decide +kernel)) ggX7_leg_X7_in
set_option maxRecDepth 20000 in
theorem ggX7_leg_X7_isAccount : GoodIn wsX7_leg wsX7_isAccount := goodIn_r _ [10, 4, 5, 6, 7] (by decide +kernel) (by decide +kernel)
set_option maxRecDepth 20000 in
theorem gX7_leg_X7_isAccount : GoodIn wsX7_leg (va_wsS RX7 97 yX7_isAccount wsX7_isAccount) := goodIn_app (goodIn_of _ (by decide +kernel)) ggX7_leg_X7_isAccount
set_option maxRecDepth 20000 in
theorem ggX7_leg_X7_refused : GoodIn wsX7_leg wsX7_refused := goodIn_r _ [14, 15, 16, 17, 18, 19, 20, 21, 22, 23, 24, 25, 26, 27, 28, 29, 30, 31, 32, 33, 34, 35, 36, 37, 38, 39, 40, 41, 42, 43, 44, 45] (by decide +kernel) (by decide +kernel)
set_option maxRecDepth 20000 in
theorem gX7_leg_X7_refused : GoodIn wsX7_leg (wsV RX7 104 RX7 yX7_refused wsX7_refused) := goodIn_app (goodIn_of _ (by decide +kernel)) ggX7_leg_X7_refused
theorem dX7_leg_0 : decode cX7_leg 0 = .ok (.iload_n 2, 1) := by decide +kernel
theorem dX7_leg_1 : decode cX7_leg 1 = .ok (.sipush (-10000), 3) := by decide +kernel
theorem dX7_leg_4 : decode cX7_leg 4 = .ok (.sipush 10000, 3) := by decide +kernel
theorem dX7_leg_7 : decode cX7_leg 7 = .ok (.invokestatic 84, 3) := by decide +kernel
theorem dX7_leg_10 : decode cX7_leg 10 = .ok (.ifCond .eq 11, 3) := by decide +kernel
theorem dX7_leg_13 : decode cX7_leg 13 = .ok (.iload_n 2, 1) := by decide +kernel
theorem dX7_leg_14 : decode cX7_leg 14 = .ok (.ifCond .eq 7, 3) := by decide +kernel
theorem dX7_leg_17 : decode cX7_leg 17 = .ok (.iconst 1, 1) := by decide +kernel
theorem dX7_leg_18 : decode cX7_leg 18 = .ok (.goto 4, 3) := by decide +kernel
theorem dX7_leg_21 : decode cX7_leg 21 = .ok (.iconst 0, 1) := by decide +kernel
theorem dX7_leg_22 : decode cX7_leg 22 = .ok (.istore_n 3, 1) := by decide +kernel
theorem dX7_leg_23 : decode cX7_leg 23 = .ok (.aload_n 0, 1) := by decide +kernel
theorem dX7_leg_24 : decode cX7_leg 24 = .ok (.iload_n 1, 1) := by decide +kernel
theorem dX7_leg_25 : decode cX7_leg 25 = .ok (.invokestatic 97, 3) := by decide +kernel
theorem dX7_leg_28 : decode cX7_leg 28 = .ok (.ifCond .ne 7, 3) := by decide +kernel
theorem dX7_leg_31 : decode cX7_leg 31 = .ok (.iconst 1, 1) := by decide +kernel
theorem dX7_leg_32 : decode cX7_leg 32 = .ok (.goto 24, 3) := by decide +kernel
theorem dX7_leg_35 : decode cX7_leg 35 = .ok (.iload_n 3, 1) := by decide +kernel
theorem dX7_leg_36 : decode cX7_leg 36 = .ok (.ifCond .ne 7, 3) := by decide +kernel
theorem dX7_leg_39 : decode cX7_leg 39 = .ok (.iconst 2, 1) := by decide +kernel
theorem dX7_leg_40 : decode cX7_leg 40 = .ok (.goto 16, 3) := by decide +kernel
theorem dX7_leg_43 : decode cX7_leg 43 = .ok (.aload_n 0, 1) := by decide +kernel
theorem dX7_leg_44 : decode cX7_leg 44 = .ok (.getfield 101, 3) := by decide +kernel
theorem dX7_leg_47 : decode cX7_leg 47 = .ok (.iconst 4, 1) := by decide +kernel
theorem dX7_leg_48 : decode cX7_leg 48 = .ok (.if_icmp .ne 7, 3) := by decide +kernel
theorem dX7_leg_51 : decode cX7_leg 51 = .ok (.iconst 3, 1) := by decide +kernel
theorem dX7_leg_52 : decode cX7_leg 52 = .ok (.goto 4, 3) := by decide +kernel
theorem dX7_leg_55 : decode cX7_leg 55 = .ok (.iconst 0, 1) := by decide +kernel
theorem dX7_leg_56 : decode cX7_leg 56 = .ok (.invokevirtual 104, 3) := by decide +kernel
theorem dX7_leg_59 : decode cX7_leg 59 = .ok (.ifCond .eq 5, 3) := by decide +kernel
theorem dX7_leg_62 : decode cX7_leg 62 = .ok (.iconst 0, 1) := by decide +kernel
theorem dX7_leg_63 : decode cX7_leg 63 = .ok (.ireturn, 1) := by decide +kernel
theorem dX7_leg_64 : decode cX7_leg 64 = .ok (.aload_n 0, 1) := by decide +kernel
theorem dX7_leg_65 : decode cX7_leg 65 = .ok (.getfield 7, 3) := by decide +kernel
theorem dX7_leg_68 : decode cX7_leg 68 = .ok (.aload_n 0, 1) := by decide +kernel
theorem dX7_leg_69 : decode cX7_leg 69 = .ok (.getfield 101, 3) := by decide +kernel
theorem dX7_leg_72 : decode cX7_leg 72 = .ok (.iload_n 1, 1) := by decide +kernel
theorem dX7_leg_73 : decode cX7_leg 73 = .ok (.iastore, 1) := by decide +kernel
theorem dX7_leg_74 : decode cX7_leg 74 = .ok (.aload_n 0, 1) := by decide +kernel
theorem dX7_leg_75 : decode cX7_leg 75 = .ok (.getfield 13, 3) := by decide +kernel
theorem dX7_leg_78 : decode cX7_leg 78 = .ok (.aload_n 0, 1) := by decide +kernel
theorem dX7_leg_79 : decode cX7_leg 79 = .ok (.getfield 101, 3) := by decide +kernel
theorem dX7_leg_82 : decode cX7_leg 82 = .ok (.iload_n 2, 1) := by decide +kernel
theorem dX7_leg_83 : decode cX7_leg 83 = .ok (.iastore, 1) := by decide +kernel
theorem dX7_leg_84 : decode cX7_leg 84 = .ok (.aload_n 0, 1) := by decide +kernel
theorem dX7_leg_85 : decode cX7_leg 85 = .ok (.dup, 1) := by decide +kernel
theorem dX7_leg_86 : decode cX7_leg 86 = .ok (.getfield 101, 3) := by decide +kernel
theorem dX7_leg_89 : decode cX7_leg 89 = .ok (.iconst 1, 1) := by decide +kernel
theorem dX7_leg_90 : decode cX7_leg 90 = .ok (.iadd, 1) := by decide +kernel
theorem dX7_leg_91 : decode cX7_leg 91 = .ok (.putfield 101, 3) := by decide +kernel
theorem dX7_leg_94 : decode cX7_leg 94 = .ok (.aload_n 0, 1) := by decide +kernel
theorem dX7_leg_95 : decode cX7_leg 95 = .ok (.getfield 101, 3) := by decide +kernel
theorem dX7_leg_98 : decode cX7_leg 98 = .ok (.ireturn, 1) := by decide +kernel
set_option maxRecDepth 20000 in
theorem ggX7_wipe_X7_fine : GoodIn wsX7_wipe wsX7_fine := goodIn_r _ [6, 7, 8, 9, 10, 11, 12, 13, 14, 15, 16, 17, 18, 19, 20, 21, 22, 23, 24, 25, 26, 27, 28, 29, 30, 31, 32, 33, 34, 35, 36, 37] (by decide +kernel) (by decide +kernel)
set_option maxRecDepth 20000 in
theorem gX7_wipe_X7_fine : GoodIn wsX7_wipe (wsV RX7 107 RX7 yX7_fine wsX7_fine) := goodIn_app (goodIn_of _ (by decide +kernel)) ggX7_wipe_X7_fine
theorem dX7_wipe_0 : decode cX7_wipe 0 = .ok (.aload_n 0, 1) := by decide +kernel
theorem dX7_wipe_1 : decode cX7_wipe 1 = .ok (.getfield 101, 3) := by decide +kernel
theorem dX7_wipe_4 : decode cX7_wipe 4 = .ok (.istore_n 1, 1) := by decide +kernel
theorem dX7_wipe_5 : decode cX7_wipe 5 = .ok (.aload_n 0, 1) := by decide +kernel
theorem dX7_wipe_6 : decode cX7_wipe 6 = .ok (.iconst 0, 1) := by decide +kernel
theorem dX7_wipe_7 : decode cX7_wipe 7 = .ok (.putfield 101, 3) := by decide +kernel
theorem dX7_wipe_10 : decode cX7_wipe 10 = .ok (.aload_n 0, 1) := by decide +kernel
theorem dX7_wipe_11 : decode cX7_wipe 11 = .ok (.iload_n 1, 1) := by decide +kernel
theorem dX7_wipe_12 : decode cX7_wipe 12 = .ok (.invokevirtual 107, 3) := by decide +kernel
theorem dX7_wipe_15 : decode cX7_wipe 15 = .ok (.ireturn, 1) := by decide +kernel
theorem dX7_draftSum_0 : decode cX7_draftSum 0 = .ok (.iconst 0, 1) := by decide +kernel
theorem dX7_draftSum_1 : decode cX7_draftSum 1 = .ok (.istore_n 1, 1) := by decide +kernel
theorem dX7_draftSum_2 : decode cX7_draftSum 2 = .ok (.iconst 0, 1) := by decide +kernel
theorem dX7_draftSum_3 : decode cX7_draftSum 3 = .ok (.istore_n 2, 1) := by decide +kernel
theorem dX7_draftSum_4 : decode cX7_draftSum 4 = .ok (.iload_n 2, 1) := by decide +kernel
theorem dX7_draftSum_5 : decode cX7_draftSum 5 = .ok (.aload_n 0, 1) := by decide +kernel
theorem dX7_draftSum_6 : decode cX7_draftSum 6 = .ok (.getfield 101, 3) := by decide +kernel
theorem dX7_draftSum_9 : decode cX7_draftSum 9 = .ok (.if_icmp .ge 18, 3) := by decide +kernel
theorem dX7_draftSum_12 : decode cX7_draftSum 12 = .ok (.iload_n 1, 1) := by decide +kernel
theorem dX7_draftSum_13 : decode cX7_draftSum 13 = .ok (.aload_n 0, 1) := by decide +kernel
theorem dX7_draftSum_14 : decode cX7_draftSum 14 = .ok (.getfield 13, 3) := by decide +kernel
theorem dX7_draftSum_17 : decode cX7_draftSum 17 = .ok (.iload_n 2, 1) := by decide +kernel
theorem dX7_draftSum_18 : decode cX7_draftSum 18 = .ok (.iaload, 1) := by decide +kernel
theorem dX7_draftSum_19 : decode cX7_draftSum 19 = .ok (.iadd, 1) := by decide +kernel
theorem dX7_draftSum_20 : decode cX7_draftSum 20 = .ok (.istore_n 1, 1) := by decide +kernel
theorem dX7_draftSum_21 : decode cX7_draftSum 21 = .ok (.iinc 2 1, 3) := by decide +kernel
theorem dX7_draftSum_24 : decode cX7_draftSum 24 = .ok (.goto (-20), 3) := by decide +kernel
theorem dX7_draftSum_27 : decode cX7_draftSum 27 = .ok (.iload_n 1, 1) := by decide +kernel
theorem dX7_draftSum_28 : decode cX7_draftSum 28 = .ok (.ireturn, 1) := by decide +kernel
theorem dX7_begin_0 : decode cX7_begin 0 = .ok (.aload_n 0, 1) := by decide +kernel
theorem dX7_begin_1 : decode cX7_begin 1 = .ok (.getfield 16, 3) := by decide +kernel
theorem dX7_begin_4 : decode cX7_begin 4 = .ok (.aload_n 0, 1) := by decide +kernel
theorem dX7_begin_5 : decode cX7_begin 5 = .ok (.getfield 88, 3) := by decide +kernel
theorem dX7_begin_8 : decode cX7_begin 8 = .ok (.aload_n 0, 1) := by decide +kernel
theorem dX7_begin_9 : decode cX7_begin 9 = .ok (.getfield 111, 3) := by decide +kernel
theorem dX7_begin_12 : decode cX7_begin 12 = .ok (.iastore, 1) := by decide +kernel
theorem dX7_begin_13 : decode cX7_begin 13 = .ok (.aload_n 0, 1) := by decide +kernel
theorem dX7_begin_14 : decode cX7_begin 14 = .ok (.getfield 19, 3) := by decide +kernel
theorem dX7_begin_17 : decode cX7_begin 17 = .ok (.aload_n 0, 1) := by decide +kernel
theorem dX7_begin_18 : decode cX7_begin 18 = .ok (.getfield 88, 3) := by decide +kernel
theorem dX7_begin_21 : decode cX7_begin 21 = .ok (.iload_n 1, 1) := by decide +kernel
theorem dX7_begin_22 : decode cX7_begin 22 = .ok (.iastore, 1) := by decide +kernel
theorem dX7_begin_23 : decode cX7_begin 23 = .ok (.aload_n 0, 1) := by decide +kernel
theorem dX7_begin_24 : decode cX7_begin 24 = .ok (.getfield 22, 3) := by decide +kernel
theorem dX7_begin_27 : decode cX7_begin 27 = .ok (.aload_n 0, 1) := by decide +kernel
theorem dX7_begin_28 : decode cX7_begin 28 = .ok (.getfield 88, 3) := by decide +kernel
theorem dX7_begin_31 : decode cX7_begin 31 = .ok (.iconst 0, 1) := by decide +kernel
theorem dX7_begin_32 : decode cX7_begin 32 = .ok (.iastore, 1) := by decide +kernel
theorem dX7_begin_33 : decode cX7_begin 33 = .ok (.aload_n 0, 1) := by decide +kernel
theorem dX7_begin_34 : decode cX7_begin 34 = .ok (.getfield 34, 3) := by decide +kernel
theorem dX7_begin_37 : decode cX7_begin 37 = .ok (.aload_n 0, 1) := by decide +kernel
theorem dX7_begin_38 : decode cX7_begin 38 = .ok (.getfield 88, 3) := by decide +kernel
theorem dX7_begin_41 : decode cX7_begin 41 = .ok (.iconst 0, 1) := by decide +kernel
theorem dX7_begin_42 : decode cX7_begin 42 = .ok (.iastore, 1) := by decide +kernel
theorem dX7_begin_43 : decode cX7_begin 43 = .ok (.aload_n 0, 1) := by decide +kernel
theorem dX7_begin_44 : decode cX7_begin 44 = .ok (.getfield 37, 3) := by decide +kernel
theorem dX7_begin_47 : decode cX7_begin 47 = .ok (.aload_n 0, 1) := by decide +kernel
theorem dX7_begin_48 : decode cX7_begin 48 = .ok (.getfield 88, 3) := by decide +kernel
theorem dX7_begin_51 : decode cX7_begin 51 = .ok (.iconst (-1), 1) := by decide +kernel
theorem dX7_begin_52 : decode cX7_begin 52 = .ok (.iastore, 1) := by decide +kernel
theorem dX7_begin_53 : decode cX7_begin 53 = .ok (.aload_n 0, 1) := by decide +kernel
theorem dX7_begin_54 : decode cX7_begin 54 = .ok (.dup, 1) := by decide +kernel
theorem dX7_begin_55 : decode cX7_begin 55 = .ok (.getfield 88, 3) := by decide +kernel
theorem dX7_begin_58 : decode cX7_begin 58 = .ok (.iconst 1, 1) := by decide +kernel
theorem dX7_begin_59 : decode cX7_begin 59 = .ok (.iadd, 1) := by decide +kernel
theorem dX7_begin_60 : decode cX7_begin 60 = .ok (.putfield 88, 3) := by decide +kernel
theorem dX7_begin_63 : decode cX7_begin 63 = .ok (.return_, 1) := by decide +kernel
theorem dX7_put_0 : decode cX7_put 0 = .ok (.aload_n 0, 1) := by decide +kernel
theorem dX7_put_1 : decode cX7_put 1 = .ok (.getfield 88, 3) := by decide +kernel
theorem dX7_put_4 : decode cX7_put 4 = .ok (.iconst 1, 1) := by decide +kernel
theorem dX7_put_5 : decode cX7_put 5 = .ok (.isub, 1) := by decide +kernel
theorem dX7_put_6 : decode cX7_put 6 = .ok (.istore_n 3, 1) := by decide +kernel
theorem dX7_put_7 : decode cX7_put 7 = .ok (.iconst 4, 1) := by decide +kernel
theorem dX7_put_8 : decode cX7_put 8 = .ok (.iload_n 3, 1) := by decide +kernel
theorem dX7_put_9 : decode cX7_put 9 = .ok (.imul, 1) := by decide +kernel
theorem dX7_put_10 : decode cX7_put 10 = .ok (.aload_n 0, 1) := by decide +kernel
theorem dX7_put_11 : decode cX7_put 11 = .ok (.getfield 22, 3) := by decide +kernel
theorem dX7_put_14 : decode cX7_put 14 = .ok (.iload_n 3, 1) := by decide +kernel
theorem dX7_put_15 : decode cX7_put 15 = .ok (.iaload, 1) := by decide +kernel
theorem dX7_put_16 : decode cX7_put 16 = .ok (.iadd, 1) := by decide +kernel
theorem dX7_put_17 : decode cX7_put 17 = .ok (.istore 4, 2) := by decide +kernel
theorem dX7_put_19 : decode cX7_put 19 = .ok (.aload_n 0, 1) := by decide +kernel
theorem dX7_put_20 : decode cX7_put 20 = .ok (.getfield 25, 3) := by decide +kernel
theorem dX7_put_23 : decode cX7_put 23 = .ok (.iload 4, 2) := by decide +kernel
theorem dX7_put_25 : decode cX7_put 25 = .ok (.iload_n 1, 1) := by decide +kernel
theorem dX7_put_26 : decode cX7_put 26 = .ok (.iastore, 1) := by decide +kernel
theorem dX7_put_27 : decode cX7_put 27 = .ok (.aload_n 0, 1) := by decide +kernel
theorem dX7_put_28 : decode cX7_put 28 = .ok (.getfield 28, 3) := by decide +kernel
theorem dX7_put_31 : decode cX7_put 31 = .ok (.iload 4, 2) := by decide +kernel
theorem dX7_put_33 : decode cX7_put 33 = .ok (.iload_n 2, 1) := by decide +kernel
theorem dX7_put_34 : decode cX7_put 34 = .ok (.iastore, 1) := by decide +kernel
theorem dX7_put_35 : decode cX7_put 35 = .ok (.aload_n 0, 1) := by decide +kernel
theorem dX7_put_36 : decode cX7_put 36 = .ok (.getfield 31, 3) := by decide +kernel
theorem dX7_put_39 : decode cX7_put 39 = .ok (.iload 4, 2) := by decide +kernel
theorem dX7_put_41 : decode cX7_put 41 = .ok (.iload_n 2, 1) := by decide +kernel
theorem dX7_put_42 : decode cX7_put 42 = .ok (.iastore, 1) := by decide +kernel
theorem dX7_put_43 : decode cX7_put 43 = .ok (.aload_n 0, 1) := by decide +kernel
theorem dX7_put_44 : decode cX7_put 44 = .ok (.getfield 22, 3) := by decide +kernel
theorem dX7_put_47 : decode cX7_put 47 = .ok (.iload_n 3, 1) := by decide +kernel
theorem dX7_put_48 : decode cX7_put 48 = .ok (.dup2, 1) := by decide +kernel
theorem dX7_put_49 : decode cX7_put 49 = .ok (.iaload, 1) := by decide +kernel
theorem dX7_put_50 : decode cX7_put 50 = .ok (.iconst 1, 1) := by decide +kernel
theorem dX7_put_51 : decode cX7_put 51 = .ok (.iadd, 1) := by decide +kernel
theorem dX7_put_52 : decode cX7_put 52 = .ok (.iastore, 1) := by decide +kernel
theorem dX7_put_53 : decode cX7_put 53 = .ok (.return_, 1) := by decide +kernel
set_option maxRecDepth 20000 in
theorem ggX7_write_X7_draftSum : GoodIn wsX7_write wsX7_draftSum := goodIn_r _ [9, 1, 4, 35, 36, 37, 38, 39, 40, 41, 42, 43, 44, 45, 46, 47, 48, 49, 50, 51, 52, 53, 54, 55, 56, 57, 58, 59, 60, 61, 62, 63, 64] (by decide +kernel) (by decide +kernel)
set_option maxRecDepth 20000 in
theorem gX7_write_X7_draftSum : GoodIn wsX7_write (wsV RX7 114 RX7 yX7_draftSum wsX7_draftSum) := goodIn_app (goodIn_of _ (by decide +kernel)) ggX7_write_X7_draftSum
set_option maxRecDepth 20000 in
theorem ggX7_write_X7_in : GoodIn wsX7_write wsX7_in := goodIn_r _ [12] (by decide +kernel) (by decide +kernel)
set_option maxRecDepth 20000 in
theorem gX7_write_X7_in : GoodIn wsX7_write (va_wsS RX7 84 yX7_in wsX7_in) := goodIn_app (goodIn_of _ (by decide +kernel)) ggX7_write_X7_in
set_option maxRecDepth 20000 in
theorem ggX7_write_X7_refused : GoodIn wsX7_write wsX7_refused := goodIn_r _ [16, 17, 35, 36, 37, 38, 39, 40, 41, 42, 43, 44, 45, 46, 47, 48, 49, 50, 51, 52, 53, 54, 55, 56, 57, 58, 59, 60, 61, 62, 63, 64] (by decide +kernel) (by decide +kernel)
set_option maxRecDepth 20000 in
theorem gX7_write_X7_refused : GoodIn wsX7_write (wsV RX7 104 RX7 yX7_refused wsX7_refused) := goodIn_app (goodIn_of _ (by decide +kernel)) ggX7_write_X7_refused
set_option maxRecDepth 20000 in
theorem ggX7_write_X7_begin : GoodIn wsX7_write wsX7_begin := goodIn_r _ [21, 22, 2, 23, 24, 25, 26, 27, 35, 36, 37, 38, 39, 40, 41, 42, 43, 44, 45, 46, 47, 48, 49, 50, 51, 52, 53, 54, 55, 56, 57, 58, 59, 60, 61, 62, 63, 64] (by decide +kernel) (by decide +kernel)
set_option maxRecDepth 20000 in
theorem gX7_write_X7_begin : GoodIn wsX7_write (wsV RX7 118 RX7 yX7_begin wsX7_begin) := goodIn_app (goodIn_of _ (by decide +kernel)) ggX7_write_X7_begin
set_option maxRecDepth 20000 in
theorem ggX7_write_X7_put : GoodIn wsX7_write wsX7_put := goodIn_r _ [31, 2, 25, 32, 33, 34, 35, 36, 37, 38, 39, 40, 41, 42, 43, 44, 45, 46, 47, 48, 49, 50, 51, 52, 53, 54, 55, 56, 57, 58, 59, 60, 61, 62, 63, 64] (by decide +kernel) (by decide +kernel)
set_option maxRecDepth 20000 in
theorem gX7_write_X7_put : GoodIn wsX7_write (wsV RX7 122 RX7 yX7_put wsX7_put) := goodIn_app (goodIn_of _ (by decide +kernel)) ggX7_write_X7_put
theorem dX7_write_0 : decode cX7_write 0 = .ok (.aload_n 0, 1) := by decide +kernel
theorem dX7_write_1 : decode cX7_write 1 = .ok (.getfield 101, 3) := by decide +kernel
theorem dX7_write_4 : decode cX7_write 4 = .ok (.iconst 2, 1) := by decide +kernel
theorem dX7_write_5 : decode cX7_write 5 = .ok (.if_icmp .lt 23, 3) := by decide +kernel
theorem dX7_write_8 : decode cX7_write 8 = .ok (.aload_n 0, 1) := by decide +kernel
theorem dX7_write_9 : decode cX7_write 9 = .ok (.invokevirtual 114, 3) := by decide +kernel
theorem dX7_write_12 : decode cX7_write 12 = .ok (.ifCond .ne 16, 3) := by decide +kernel
theorem dX7_write_15 : decode cX7_write 15 = .ok (.aload_n 0, 1) := by decide +kernel
theorem dX7_write_16 : decode cX7_write 16 = .ok (.getfield 88, 3) := by decide +kernel
theorem dX7_write_19 : decode cX7_write 19 = .ok (.bipush 80, 2) := by decide +kernel
theorem dX7_write_21 : decode cX7_write 21 = .ok (.if_icmp .ge 7, 3) := by decide +kernel
theorem dX7_write_24 : decode cX7_write 24 = .ok (.iconst 1, 1) := by decide +kernel
theorem dX7_write_25 : decode cX7_write 25 = .ok (.goto 4, 3) := by decide +kernel
theorem dX7_write_28 : decode cX7_write 28 = .ok (.iconst 0, 1) := by decide +kernel
theorem dX7_write_29 : decode cX7_write 29 = .ok (.istore_n 2, 1) := by decide +kernel
theorem dX7_write_30 : decode cX7_write 30 = .ok (.aload_n 0, 1) := by decide +kernel
theorem dX7_write_31 : decode cX7_write 31 = .ok (.iload_n 1, 1) := by decide +kernel
theorem dX7_write_32 : decode cX7_write 32 = .ok (.iconst 0, 1) := by decide +kernel
theorem dX7_write_33 : decode cX7_write 33 = .ok (.sipush 9999, 3) := by decide +kernel
theorem dX7_write_36 : decode cX7_write 36 = .ok (.invokestatic 84, 3) := by decide +kernel
theorem dX7_write_39 : decode cX7_write 39 = .ok (.ifCond .ne 7, 3) := by decide +kernel
theorem dX7_write_42 : decode cX7_write 42 = .ok (.iconst 1, 1) := by decide +kernel
theorem dX7_write_43 : decode cX7_write 43 = .ok (.goto 12, 3) := by decide +kernel
theorem dX7_write_46 : decode cX7_write 46 = .ok (.iload_n 2, 1) := by decide +kernel
theorem dX7_write_47 : decode cX7_write 47 = .ok (.ifCond .eq 7, 3) := by decide +kernel
theorem dX7_write_50 : decode cX7_write 50 = .ok (.iconst 0, 1) := by decide +kernel
theorem dX7_write_51 : decode cX7_write 51 = .ok (.goto 4, 3) := by decide +kernel
theorem dX7_write_54 : decode cX7_write 54 = .ok (.iconst 2, 1) := by decide +kernel
theorem dX7_write_55 : decode cX7_write 55 = .ok (.invokevirtual 104, 3) := by decide +kernel
theorem dX7_write_58 : decode cX7_write 58 = .ok (.ifCond .eq 5, 3) := by decide +kernel
theorem dX7_write_61 : decode cX7_write 61 = .ok (.iconst 0, 1) := by decide +kernel
theorem dX7_write_62 : decode cX7_write 62 = .ok (.ireturn, 1) := by decide +kernel
theorem dX7_write_63 : decode cX7_write 63 = .ok (.aload_n 0, 1) := by decide +kernel
theorem dX7_write_64 : decode cX7_write 64 = .ok (.iload_n 1, 1) := by decide +kernel
theorem dX7_write_65 : decode cX7_write 65 = .ok (.invokevirtual 118, 3) := by decide +kernel
theorem dX7_write_68 : decode cX7_write 68 = .ok (.iconst 0, 1) := by decide +kernel
theorem dX7_write_69 : decode cX7_write 69 = .ok (.istore_n 3, 1) := by decide +kernel
theorem dX7_write_70 : decode cX7_write 70 = .ok (.iload_n 3, 1) := by decide +kernel
theorem dX7_write_71 : decode cX7_write 71 = .ok (.aload_n 0, 1) := by decide +kernel
theorem dX7_write_72 : decode cX7_write 72 = .ok (.getfield 101, 3) := by decide +kernel
theorem dX7_write_75 : decode cX7_write 75 = .ok (.if_icmp .ge 25, 3) := by decide +kernel
theorem dX7_write_78 : decode cX7_write 78 = .ok (.aload_n 0, 1) := by decide +kernel
theorem dX7_write_79 : decode cX7_write 79 = .ok (.aload_n 0, 1) := by decide +kernel
theorem dX7_write_80 : decode cX7_write 80 = .ok (.getfield 7, 3) := by decide +kernel
theorem dX7_write_83 : decode cX7_write 83 = .ok (.iload_n 3, 1) := by decide +kernel
theorem dX7_write_84 : decode cX7_write 84 = .ok (.iaload, 1) := by decide +kernel
theorem dX7_write_85 : decode cX7_write 85 = .ok (.aload_n 0, 1) := by decide +kernel
theorem dX7_write_86 : decode cX7_write 86 = .ok (.getfield 13, 3) := by decide +kernel
theorem dX7_write_89 : decode cX7_write 89 = .ok (.iload_n 3, 1) := by decide +kernel
theorem dX7_write_90 : decode cX7_write 90 = .ok (.iaload, 1) := by decide +kernel
theorem dX7_write_91 : decode cX7_write 91 = .ok (.invokevirtual 122, 3) := by decide +kernel
theorem dX7_write_94 : decode cX7_write 94 = .ok (.iinc 3 1, 3) := by decide +kernel
theorem dX7_write_97 : decode cX7_write 97 = .ok (.goto (-27), 3) := by decide +kernel
theorem dX7_write_100 : decode cX7_write 100 = .ok (.aload_n 0, 1) := by decide +kernel
theorem dX7_write_101 : decode cX7_write 101 = .ok (.iconst 0, 1) := by decide +kernel
theorem dX7_write_102 : decode cX7_write 102 = .ok (.putfield 101, 3) := by decide +kernel
theorem dX7_write_105 : decode cX7_write 105 = .ok (.aload_n 0, 1) := by decide +kernel
theorem dX7_write_106 : decode cX7_write 106 = .ok (.getfield 88, 3) := by decide +kernel
theorem dX7_write_109 : decode cX7_write 109 = .ok (.iconst 1, 1) := by decide +kernel
theorem dX7_write_110 : decode cX7_write 110 = .ok (.isub, 1) := by decide +kernel
theorem dX7_write_111 : decode cX7_write 111 = .ok (.ireturn, 1) := by decide +kernel
theorem dX7_isTrueInBook_0 : decode cX7_isTrueInBook 0 = .ok (.aload_n 0, 1) := by decide +kernel
theorem dX7_isTrueInBook_1 : decode cX7_isTrueInBook 1 = .ok (.getfield 34, 3) := by decide +kernel
theorem dX7_isTrueInBook_4 : decode cX7_isTrueInBook 4 = .ok (.iload_n 1, 1) := by decide +kernel
theorem dX7_isTrueInBook_5 : decode cX7_isTrueInBook 5 = .ok (.iaload, 1) := by decide +kernel
theorem dX7_isTrueInBook_6 : decode cX7_isTrueInBook 6 = .ok (.ifCond .ne 7, 3) := by decide +kernel
theorem dX7_isTrueInBook_9 : decode cX7_isTrueInBook 9 = .ok (.iconst 1, 1) := by decide +kernel
theorem dX7_isTrueInBook_10 : decode cX7_isTrueInBook 10 = .ok (.goto 4, 3) := by decide +kernel
theorem dX7_isTrueInBook_13 : decode cX7_isTrueInBook 13 = .ok (.iconst 0, 1) := by decide +kernel
theorem dX7_isTrueInBook_14 : decode cX7_isTrueInBook 14 = .ok (.istore_n 2, 1) := by decide +kernel
theorem dX7_isTrueInBook_15 : decode cX7_isTrueInBook 15 = .ok (.iconst 4, 1) := by decide +kernel
theorem dX7_isTrueInBook_16 : decode cX7_isTrueInBook 16 = .ok (.iload_n 1, 1) := by decide +kernel
theorem dX7_isTrueInBook_17 : decode cX7_isTrueInBook 17 = .ok (.imul, 1) := by decide +kernel
theorem dX7_isTrueInBook_18 : decode cX7_isTrueInBook 18 = .ok (.istore_n 3, 1) := by decide +kernel
theorem dX7_isTrueInBook_19 : decode cX7_isTrueInBook 19 = .ok (.iload_n 3, 1) := by decide +kernel
theorem dX7_isTrueInBook_20 : decode cX7_isTrueInBook 20 = .ok (.iconst 4, 1) := by decide +kernel
theorem dX7_isTrueInBook_21 : decode cX7_isTrueInBook 21 = .ok (.iload_n 1, 1) := by decide +kernel
theorem dX7_isTrueInBook_22 : decode cX7_isTrueInBook 22 = .ok (.imul, 1) := by decide +kernel
theorem dX7_isTrueInBook_23 : decode cX7_isTrueInBook 23 = .ok (.aload_n 0, 1) := by decide +kernel
theorem dX7_isTrueInBook_24 : decode cX7_isTrueInBook 24 = .ok (.getfield 22, 3) := by decide +kernel
theorem dX7_isTrueInBook_27 : decode cX7_isTrueInBook 27 = .ok (.iload_n 1, 1) := by decide +kernel
theorem dX7_isTrueInBook_28 : decode cX7_isTrueInBook 28 = .ok (.iaload, 1) := by decide +kernel
theorem dX7_isTrueInBook_29 : decode cX7_isTrueInBook 29 = .ok (.iadd, 1) := by decide +kernel
theorem dX7_isTrueInBook_30 : decode cX7_isTrueInBook 30 = .ok (.if_icmp .ge 34, 3) := by decide +kernel
theorem dX7_isTrueInBook_33 : decode cX7_isTrueInBook 33 = .ok (.iload_n 2, 1) := by decide +kernel
theorem dX7_isTrueInBook_34 : decode cX7_isTrueInBook 34 = .ok (.ifCond .eq 22, 3) := by decide +kernel
theorem dX7_isTrueInBook_37 : decode cX7_isTrueInBook 37 = .ok (.aload_n 0, 1) := by decide +kernel
theorem dX7_isTrueInBook_38 : decode cX7_isTrueInBook 38 = .ok (.getfield 31, 3) := by decide +kernel
theorem dX7_isTrueInBook_41 : decode cX7_isTrueInBook 41 = .ok (.iload_n 3, 1) := by decide +kernel
theorem dX7_isTrueInBook_42 : decode cX7_isTrueInBook 42 = .ok (.iaload, 1) := by decide +kernel
theorem dX7_isTrueInBook_43 : decode cX7_isTrueInBook 43 = .ok (.aload_n 0, 1) := by decide +kernel
theorem dX7_isTrueInBook_44 : decode cX7_isTrueInBook 44 = .ok (.getfield 28, 3) := by decide +kernel
theorem dX7_isTrueInBook_47 : decode cX7_isTrueInBook 47 = .ok (.iload_n 3, 1) := by decide +kernel
theorem dX7_isTrueInBook_48 : decode cX7_isTrueInBook 48 = .ok (.iaload, 1) := by decide +kernel
theorem dX7_isTrueInBook_49 : decode cX7_isTrueInBook 49 = .ok (.if_icmp .ne 7, 3) := by decide +kernel
theorem dX7_isTrueInBook_52 : decode cX7_isTrueInBook 52 = .ok (.iconst 1, 1) := by decide +kernel
theorem dX7_isTrueInBook_53 : decode cX7_isTrueInBook 53 = .ok (.goto 4, 3) := by decide +kernel
theorem dX7_isTrueInBook_56 : decode cX7_isTrueInBook 56 = .ok (.iconst 0, 1) := by decide +kernel
theorem dX7_isTrueInBook_57 : decode cX7_isTrueInBook 57 = .ok (.istore_n 2, 1) := by decide +kernel
theorem dX7_isTrueInBook_58 : decode cX7_isTrueInBook 58 = .ok (.iinc 3 1, 3) := by decide +kernel
theorem dX7_isTrueInBook_61 : decode cX7_isTrueInBook 61 = .ok (.goto (-42), 3) := by decide +kernel
theorem dX7_isTrueInBook_64 : decode cX7_isTrueInBook 64 = .ok (.iload_n 2, 1) := by decide +kernel
theorem dX7_isTrueInBook_65 : decode cX7_isTrueInBook 65 = .ok (.ireturn, 1) := by decide +kernel
set_option maxRecDepth 20000 in
theorem ggX7_reverse_X7_isPage : GoodIn wsX7_reverse wsX7_isPage := goodIn_r _ [12, 3, 13, 14, 11, 15, 37, 38, 39, 40, 41, 42, 43, 44, 45, 46, 47, 48, 49, 50, 51, 52, 53, 54, 55, 56, 57, 58, 59, 60, 61, 62, 63, 64, 65, 66] (by decide +kernel) (by decide +kernel)
set_option maxRecDepth 20000 in
theorem gX7_reverse_X7_isPage : GoodIn wsX7_reverse (wsV RX7 126 RX7 yX7_isPage wsX7_isPage) := goodIn_app (goodIn_of _ (by decide +kernel)) ggX7_reverse_X7_isPage
set_option maxRecDepth 20000 in
theorem ggX7_reverse_X7_isTrueInBook : GoodIn wsX7_reverse wsX7_isTrueInBook := goodIn_r _ [19, 20, 5, 21, 7, 37, 38, 39, 40, 41, 42, 43, 44, 45, 46, 47, 48, 49, 50, 51, 52, 53, 54, 55, 56, 57, 58, 59, 60, 61, 62, 63, 64, 65, 66] (by decide +kernel) (by decide +kernel)
set_option maxRecDepth 20000 in
theorem gX7_reverse_X7_isTrueInBook : GoodIn wsX7_reverse (wsV RX7 129 RX7 yX7_isTrueInBook wsX7_isTrueInBook) := goodIn_app (goodIn_of _ (by decide +kernel)) ggX7_reverse_X7_isTrueInBook
set_option maxRecDepth 20000 in
theorem ggX7_reverse_X7_refused : GoodIn wsX7_reverse wsX7_refused := goodIn_r _ [25, 26, 37, 38, 39, 40, 41, 42, 43, 44, 45, 46, 47, 48, 49, 50, 51, 52, 53, 54, 55, 56, 57, 58, 59, 60, 61, 62, 63, 64, 65, 66] (by decide +kernel) (by decide +kernel)
set_option maxRecDepth 20000 in
theorem gX7_reverse_X7_refused : GoodIn wsX7_reverse (wsV RX7 104 RX7 yX7_refused wsX7_refused) := goodIn_app (goodIn_of _ (by decide +kernel)) ggX7_reverse_X7_refused
set_option maxRecDepth 20000 in
theorem ggX7_reverse_X7_begin : GoodIn wsX7_reverse wsX7_begin := goodIn_r _ [30, 31, 3, 32, 4, 5, 20, 1, 37, 38, 39, 40, 41, 42, 43, 44, 45, 46, 47, 48, 49, 50, 51, 52, 53, 54, 55, 56, 57, 58, 59, 60, 61, 62, 63, 64, 65, 66] (by decide +kernel) (by decide +kernel)
set_option maxRecDepth 20000 in
theorem gX7_reverse_X7_begin : GoodIn wsX7_reverse (wsV RX7 118 RX7 yX7_begin wsX7_begin) := goodIn_app (goodIn_of _ (by decide +kernel)) ggX7_reverse_X7_begin
set_option maxRecDepth 20000 in
theorem ggX7_reverse_X7_put : GoodIn wsX7_reverse wsX7_put := goodIn_r _ [36, 3, 5, 6, 7, 21, 37, 38, 39, 40, 41, 42, 43, 44, 45, 46, 47, 48, 49, 50, 51, 52, 53, 54, 55, 56, 57, 58, 59, 60, 61, 62, 63, 64, 65, 66] (by decide +kernel) (by decide +kernel)
set_option maxRecDepth 20000 in
theorem gX7_reverse_X7_put : GoodIn wsX7_reverse (wsV RX7 122 RX7 yX7_put wsX7_put) := goodIn_app (goodIn_of _ (by decide +kernel)) ggX7_reverse_X7_put
theorem dX7_reverse_0 : decode cX7_reverse 0 = .ok (.aload_n 0, 1) := by decide +kernel
theorem dX7_reverse_1 : decode cX7_reverse 1 = .ok (.iload_n 1, 1) := by decide +kernel
theorem dX7_reverse_2 : decode cX7_reverse 2 = .ok (.invokevirtual 126, 3) := by decide +kernel
theorem dX7_reverse_5 : decode cX7_reverse 5 = .ok (.ifCond .eq 43, 3) := by decide +kernel
theorem dX7_reverse_8 : decode cX7_reverse 8 = .ok (.aload_n 0, 1) := by decide +kernel
theorem dX7_reverse_9 : decode cX7_reverse 9 = .ok (.iload_n 1, 1) := by decide +kernel
theorem dX7_reverse_10 : decode cX7_reverse 10 = .ok (.invokevirtual 129, 3) := by decide +kernel
theorem dX7_reverse_13 : decode cX7_reverse 13 = .ok (.ifCond .eq 35, 3) := by decide +kernel
theorem dX7_reverse_16 : decode cX7_reverse 16 = .ok (.aload_n 0, 1) := by decide +kernel
theorem dX7_reverse_17 : decode cX7_reverse 17 = .ok (.getfield 37, 3) := by decide +kernel
theorem dX7_reverse_20 : decode cX7_reverse 20 = .ok (.iload_n 1, 1) := by decide +kernel
theorem dX7_reverse_21 : decode cX7_reverse 21 = .ok (.iaload, 1) := by decide +kernel
theorem dX7_reverse_22 : decode cX7_reverse 22 = .ok (.iconst (-1), 1) := by decide +kernel
theorem dX7_reverse_23 : decode cX7_reverse 23 = .ok (.if_icmp .ne 25, 3) := by decide +kernel
theorem dX7_reverse_26 : decode cX7_reverse 26 = .ok (.aload_n 0, 1) := by decide +kernel
theorem dX7_reverse_27 : decode cX7_reverse 27 = .ok (.getfield 40, 3) := by decide +kernel
theorem dX7_reverse_30 : decode cX7_reverse 30 = .ok (.iload_n 1, 1) := by decide +kernel
theorem dX7_reverse_31 : decode cX7_reverse 31 = .ok (.baload, 1) := by decide +kernel
theorem dX7_reverse_32 : decode cX7_reverse 32 = .ok (.ifCond .ne 16, 3) := by decide +kernel
theorem dX7_reverse_35 : decode cX7_reverse 35 = .ok (.aload_n 0, 1) := by decide +kernel
theorem dX7_reverse_36 : decode cX7_reverse 36 = .ok (.getfield 88, 3) := by decide +kernel
theorem dX7_reverse_39 : decode cX7_reverse 39 = .ok (.bipush 80, 2) := by decide +kernel
theorem dX7_reverse_41 : decode cX7_reverse 41 = .ok (.if_icmp .ge 7, 3) := by decide +kernel
theorem dX7_reverse_44 : decode cX7_reverse 44 = .ok (.iconst 1, 1) := by decide +kernel
theorem dX7_reverse_45 : decode cX7_reverse 45 = .ok (.goto 4, 3) := by decide +kernel
theorem dX7_reverse_48 : decode cX7_reverse 48 = .ok (.iconst 0, 1) := by decide +kernel
theorem dX7_reverse_49 : decode cX7_reverse 49 = .ok (.istore_n 2, 1) := by decide +kernel
theorem dX7_reverse_50 : decode cX7_reverse 50 = .ok (.aload_n 0, 1) := by decide +kernel
theorem dX7_reverse_51 : decode cX7_reverse 51 = .ok (.aload_n 0, 1) := by decide +kernel
theorem dX7_reverse_52 : decode cX7_reverse 52 = .ok (.iload_n 1, 1) := by decide +kernel
theorem dX7_reverse_53 : decode cX7_reverse 53 = .ok (.invokevirtual 126, 3) := by decide +kernel
theorem dX7_reverse_56 : decode cX7_reverse 56 = .ok (.ifCond .ne 7, 3) := by decide +kernel
theorem dX7_reverse_59 : decode cX7_reverse 59 = .ok (.iconst 1, 1) := by decide +kernel
theorem dX7_reverse_60 : decode cX7_reverse 60 = .ok (.goto 12, 3) := by decide +kernel
theorem dX7_reverse_63 : decode cX7_reverse 63 = .ok (.iload_n 2, 1) := by decide +kernel
theorem dX7_reverse_64 : decode cX7_reverse 64 = .ok (.ifCond .eq 7, 3) := by decide +kernel
theorem dX7_reverse_67 : decode cX7_reverse 67 = .ok (.iconst 0, 1) := by decide +kernel
theorem dX7_reverse_68 : decode cX7_reverse 68 = .ok (.goto 4, 3) := by decide +kernel
theorem dX7_reverse_71 : decode cX7_reverse 71 = .ok (.iconst 2, 1) := by decide +kernel
theorem dX7_reverse_72 : decode cX7_reverse 72 = .ok (.invokevirtual 104, 3) := by decide +kernel
theorem dX7_reverse_75 : decode cX7_reverse 75 = .ok (.ifCond .eq 5, 3) := by decide +kernel
theorem dX7_reverse_78 : decode cX7_reverse 78 = .ok (.iconst 0, 1) := by decide +kernel
theorem dX7_reverse_79 : decode cX7_reverse 79 = .ok (.ireturn, 1) := by decide +kernel
theorem dX7_reverse_80 : decode cX7_reverse 80 = .ok (.aload_n 0, 1) := by decide +kernel
theorem dX7_reverse_81 : decode cX7_reverse 81 = .ok (.getfield 88, 3) := by decide +kernel
theorem dX7_reverse_84 : decode cX7_reverse 84 = .ok (.istore_n 3, 1) := by decide +kernel
theorem dX7_reverse_85 : decode cX7_reverse 85 = .ok (.aload_n 0, 1) := by decide +kernel
theorem dX7_reverse_86 : decode cX7_reverse 86 = .ok (.aload_n 0, 1) := by decide +kernel
theorem dX7_reverse_87 : decode cX7_reverse 87 = .ok (.getfield 19, 3) := by decide +kernel
theorem dX7_reverse_90 : decode cX7_reverse 90 = .ok (.iload_n 1, 1) := by decide +kernel
theorem dX7_reverse_91 : decode cX7_reverse 91 = .ok (.iaload, 1) := by decide +kernel
theorem dX7_reverse_92 : decode cX7_reverse 92 = .ok (.invokevirtual 118, 3) := by decide +kernel
theorem dX7_reverse_95 : decode cX7_reverse 95 = .ok (.iconst 4, 1) := by decide +kernel
theorem dX7_reverse_96 : decode cX7_reverse 96 = .ok (.iload_n 1, 1) := by decide +kernel
theorem dX7_reverse_97 : decode cX7_reverse 97 = .ok (.imul, 1) := by decide +kernel
theorem dX7_reverse_98 : decode cX7_reverse 98 = .ok (.istore 4, 2) := by decide +kernel
theorem dX7_reverse_100 : decode cX7_reverse 100 = .ok (.iload 4, 2) := by decide +kernel
theorem dX7_reverse_102 : decode cX7_reverse 102 = .ok (.iconst 4, 1) := by decide +kernel
theorem dX7_reverse_103 : decode cX7_reverse 103 = .ok (.iload_n 1, 1) := by decide +kernel
theorem dX7_reverse_104 : decode cX7_reverse 104 = .ok (.imul, 1) := by decide +kernel
theorem dX7_reverse_105 : decode cX7_reverse 105 = .ok (.aload_n 0, 1) := by decide +kernel
theorem dX7_reverse_106 : decode cX7_reverse 106 = .ok (.getfield 22, 3) := by decide +kernel
theorem dX7_reverse_109 : decode cX7_reverse 109 = .ok (.iload_n 1, 1) := by decide +kernel
theorem dX7_reverse_110 : decode cX7_reverse 110 = .ok (.iaload, 1) := by decide +kernel
theorem dX7_reverse_111 : decode cX7_reverse 111 = .ok (.iadd, 1) := by decide +kernel
theorem dX7_reverse_112 : decode cX7_reverse 112 = .ok (.if_icmp .ge 28, 3) := by decide +kernel
theorem dX7_reverse_115 : decode cX7_reverse 115 = .ok (.aload_n 0, 1) := by decide +kernel
theorem dX7_reverse_116 : decode cX7_reverse 116 = .ok (.aload_n 0, 1) := by decide +kernel
theorem dX7_reverse_117 : decode cX7_reverse 117 = .ok (.getfield 25, 3) := by decide +kernel
theorem dX7_reverse_120 : decode cX7_reverse 120 = .ok (.iload 4, 2) := by decide +kernel
theorem dX7_reverse_122 : decode cX7_reverse 122 = .ok (.iaload, 1) := by decide +kernel
theorem dX7_reverse_123 : decode cX7_reverse 123 = .ok (.aload_n 0, 1) := by decide +kernel
theorem dX7_reverse_124 : decode cX7_reverse 124 = .ok (.getfield 28, 3) := by decide +kernel
theorem dX7_reverse_127 : decode cX7_reverse 127 = .ok (.iload 4, 2) := by decide +kernel
theorem dX7_reverse_129 : decode cX7_reverse 129 = .ok (.iaload, 1) := by decide +kernel
theorem dX7_reverse_130 : decode cX7_reverse 130 = .ok (.ineg, 1) := by decide +kernel
theorem dX7_reverse_131 : decode cX7_reverse 131 = .ok (.invokevirtual 122, 3) := by decide +kernel
theorem dX7_reverse_134 : decode cX7_reverse 134 = .ok (.iinc 4 1, 3) := by decide +kernel
theorem dX7_reverse_137 : decode cX7_reverse 137 = .ok (.goto (-37), 3) := by decide +kernel
theorem dX7_reverse_140 : decode cX7_reverse 140 = .ok (.aload_n 0, 1) := by decide +kernel
theorem dX7_reverse_141 : decode cX7_reverse 141 = .ok (.getfield 40, 3) := by decide +kernel
theorem dX7_reverse_144 : decode cX7_reverse 144 = .ok (.iload_n 3, 1) := by decide +kernel
theorem dX7_reverse_145 : decode cX7_reverse 145 = .ok (.iconst 1, 1) := by decide +kernel
theorem dX7_reverse_146 : decode cX7_reverse 146 = .ok (.bastore, 1) := by decide +kernel
theorem dX7_reverse_147 : decode cX7_reverse 147 = .ok (.aload_n 0, 1) := by decide +kernel
theorem dX7_reverse_148 : decode cX7_reverse 148 = .ok (.getfield 37, 3) := by decide +kernel
theorem dX7_reverse_151 : decode cX7_reverse 151 = .ok (.iload_n 1, 1) := by decide +kernel
theorem dX7_reverse_152 : decode cX7_reverse 152 = .ok (.iload_n 3, 1) := by decide +kernel
theorem dX7_reverse_153 : decode cX7_reverse 153 = .ok (.iastore, 1) := by decide +kernel
theorem dX7_reverse_154 : decode cX7_reverse 154 = .ok (.iload_n 3, 1) := by decide +kernel
theorem dX7_reverse_155 : decode cX7_reverse 155 = .ok (.ireturn, 1) := by decide +kernel
set_option maxRecDepth 20000 in
theorem ggX7_pass_X7_in : GoodIn wsX7_pass wsX7_in := goodIn_r _ [5] (by decide +kernel) (by decide +kernel)
set_option maxRecDepth 20000 in
theorem gX7_pass_X7_in : GoodIn wsX7_pass (va_wsS RX7 84 yX7_in wsX7_in) := goodIn_app (goodIn_of _ (by decide +kernel)) ggX7_pass_X7_in
set_option maxRecDepth 20000 in
theorem ggX7_pass_X7_refused : GoodIn wsX7_pass wsX7_refused := goodIn_r _ [9, 10, 11, 12, 13, 14, 15, 16, 17, 18, 19, 20, 21, 22, 23, 24, 25, 26, 27, 28, 29, 30, 31, 32, 33, 34, 35, 36, 37, 38, 39, 40] (by decide +kernel) (by decide +kernel)
set_option maxRecDepth 20000 in
theorem gX7_pass_X7_refused : GoodIn wsX7_pass (wsV RX7 104 RX7 yX7_refused wsX7_refused) := goodIn_app (goodIn_of _ (by decide +kernel)) ggX7_pass_X7_refused
theorem dX7_pass_0 : decode cX7_pass 0 = .ok (.aload_n 0, 1) := by decide +kernel
theorem dX7_pass_1 : decode cX7_pass 1 = .ok (.iload_n 1, 1) := by decide +kernel
theorem dX7_pass_2 : decode cX7_pass 2 = .ok (.iconst 1, 1) := by decide +kernel
theorem dX7_pass_3 : decode cX7_pass 3 = .ok (.bipush 100, 2) := by decide +kernel
theorem dX7_pass_5 : decode cX7_pass 5 = .ok (.invokestatic 84, 3) := by decide +kernel
theorem dX7_pass_8 : decode cX7_pass 8 = .ok (.ifCond .ne 7, 3) := by decide +kernel
theorem dX7_pass_11 : decode cX7_pass 11 = .ok (.iconst 1, 1) := by decide +kernel
theorem dX7_pass_12 : decode cX7_pass 12 = .ok (.goto 20, 3) := by decide +kernel
theorem dX7_pass_15 : decode cX7_pass 15 = .ok (.aload_n 0, 1) := by decide +kernel
theorem dX7_pass_16 : decode cX7_pass 16 = .ok (.getfield 111, 3) := by decide +kernel
theorem dX7_pass_19 : decode cX7_pass 19 = .ok (.iload_n 1, 1) := by decide +kernel
theorem dX7_pass_20 : decode cX7_pass 20 = .ok (.iadd, 1) := by decide +kernel
theorem dX7_pass_21 : decode cX7_pass 21 = .ok (.sipush 400, 3) := by decide +kernel
theorem dX7_pass_24 : decode cX7_pass 24 = .ok (.if_icmp .le 7, 3) := by decide +kernel
theorem dX7_pass_27 : decode cX7_pass 27 = .ok (.iconst 2, 1) := by decide +kernel
theorem dX7_pass_28 : decode cX7_pass 28 = .ok (.goto 4, 3) := by decide +kernel
theorem dX7_pass_31 : decode cX7_pass 31 = .ok (.iconst 0, 1) := by decide +kernel
theorem dX7_pass_32 : decode cX7_pass 32 = .ok (.invokevirtual 104, 3) := by decide +kernel
theorem dX7_pass_35 : decode cX7_pass 35 = .ok (.ifCond .eq 5, 3) := by decide +kernel
theorem dX7_pass_38 : decode cX7_pass 38 = .ok (.iconst 0, 1) := by decide +kernel
theorem dX7_pass_39 : decode cX7_pass 39 = .ok (.ireturn, 1) := by decide +kernel
theorem dX7_pass_40 : decode cX7_pass 40 = .ok (.aload_n 0, 1) := by decide +kernel
theorem dX7_pass_41 : decode cX7_pass 41 = .ok (.dup, 1) := by decide +kernel
theorem dX7_pass_42 : decode cX7_pass 42 = .ok (.getfield 111, 3) := by decide +kernel
theorem dX7_pass_45 : decode cX7_pass 45 = .ok (.iload_n 1, 1) := by decide +kernel
theorem dX7_pass_46 : decode cX7_pass 46 = .ok (.iadd, 1) := by decide +kernel
theorem dX7_pass_47 : decode cX7_pass 47 = .ok (.putfield 111, 3) := by decide +kernel
theorem dX7_pass_50 : decode cX7_pass 50 = .ok (.aload_n 0, 1) := by decide +kernel
theorem dX7_pass_51 : decode cX7_pass 51 = .ok (.getfield 111, 3) := by decide +kernel
theorem dX7_pass_54 : decode cX7_pass 54 = .ok (.ireturn, 1) := by decide +kernel
set_option maxRecDepth 20000 in
theorem ggX7_burn_X7_isPage : GoodIn wsX7_burn wsX7_isPage := goodIn_r _ [6, 7, 8, 9, 5, 10, 16, 17, 18, 19, 20, 21, 22, 23, 24, 25, 26, 27, 28, 29, 30, 31, 32, 33, 34, 35, 36, 37, 38, 39, 40, 41, 42, 43, 44, 45] (by decide +kernel) (by decide +kernel)
set_option maxRecDepth 20000 in
theorem gX7_burn_X7_isPage : GoodIn wsX7_burn (wsV RX7 126 RX7 yX7_isPage wsX7_isPage) := goodIn_app (goodIn_of _ (by decide +kernel)) ggX7_burn_X7_isPage
set_option maxRecDepth 20000 in
theorem ggX7_burn_X7_refused : GoodIn wsX7_burn wsX7_refused := goodIn_r _ [14, 15, 16, 17, 18, 19, 20, 21, 22, 23, 24, 25, 26, 27, 28, 29, 30, 31, 32, 33, 34, 35, 36, 37, 38, 39, 40, 41, 42, 43, 44, 45] (by decide +kernel) (by decide +kernel)
set_option maxRecDepth 20000 in
theorem gX7_burn_X7_refused : GoodIn wsX7_burn (wsV RX7 104 RX7 yX7_refused wsX7_refused) := goodIn_app (goodIn_of _ (by decide +kernel)) ggX7_burn_X7_refused
theorem dX7_burn_0 : decode cX7_burn 0 = .ok (.aload_n 0, 1) := by decide +kernel
theorem dX7_burn_1 : decode cX7_burn 1 = .ok (.iload_n 1, 1) := by decide +kernel
theorem dX7_burn_2 : decode cX7_burn 2 = .ok (.invokevirtual 126, 3) := by decide +kernel
theorem dX7_burn_5 : decode cX7_burn 5 = .ok (.ifCond .eq 15, 3) := by decide +kernel
theorem dX7_burn_8 : decode cX7_burn 8 = .ok (.aload_n 0, 1) := by decide +kernel
theorem dX7_burn_9 : decode cX7_burn 9 = .ok (.iload_n 2, 1) := by decide +kernel
theorem dX7_burn_10 : decode cX7_burn 10 = .ok (.invokevirtual 126, 3) := by decide +kernel
theorem dX7_burn_13 : decode cX7_burn 13 = .ok (.ifCond .eq 7, 3) := by decide +kernel
theorem dX7_burn_16 : decode cX7_burn 16 = .ok (.iconst 1, 1) := by decide +kernel
theorem dX7_burn_17 : decode cX7_burn 17 = .ok (.goto 4, 3) := by decide +kernel
theorem dX7_burn_20 : decode cX7_burn 20 = .ok (.iconst 0, 1) := by decide +kernel
theorem dX7_burn_21 : decode cX7_burn 21 = .ok (.istore_n 3, 1) := by decide +kernel
theorem dX7_burn_22 : decode cX7_burn 22 = .ok (.aload_n 0, 1) := by decide +kernel
theorem dX7_burn_23 : decode cX7_burn 23 = .ok (.iload_n 3, 1) := by decide +kernel
theorem dX7_burn_24 : decode cX7_burn 24 = .ok (.ifCond .ne 7, 3) := by decide +kernel
theorem dX7_burn_27 : decode cX7_burn 27 = .ok (.iconst 1, 1) := by decide +kernel
theorem dX7_burn_28 : decode cX7_burn 28 = .ok (.goto 13, 3) := by decide +kernel
theorem dX7_burn_31 : decode cX7_burn 31 = .ok (.iload_n 2, 1) := by decide +kernel
theorem dX7_burn_32 : decode cX7_burn 32 = .ok (.iload_n 1, 1) := by decide +kernel
theorem dX7_burn_33 : decode cX7_burn 33 = .ok (.if_icmp .ge 7, 3) := by decide +kernel
theorem dX7_burn_36 : decode cX7_burn 36 = .ok (.iconst 2, 1) := by decide +kernel
theorem dX7_burn_37 : decode cX7_burn 37 = .ok (.goto 4, 3) := by decide +kernel
theorem dX7_burn_40 : decode cX7_burn 40 = .ok (.iconst 0, 1) := by decide +kernel
theorem dX7_burn_41 : decode cX7_burn 41 = .ok (.invokevirtual 104, 3) := by decide +kernel
theorem dX7_burn_44 : decode cX7_burn 44 = .ok (.ifCond .eq 5, 3) := by decide +kernel
theorem dX7_burn_47 : decode cX7_burn 47 = .ok (.iconst 0, 1) := by decide +kernel
theorem dX7_burn_48 : decode cX7_burn 48 = .ok (.ireturn, 1) := by decide +kernel
theorem dX7_burn_49 : decode cX7_burn 49 = .ok (.iconst 0, 1) := by decide +kernel
theorem dX7_burn_50 : decode cX7_burn 50 = .ok (.istore 4, 2) := by decide +kernel
theorem dX7_burn_52 : decode cX7_burn 52 = .ok (.iload_n 1, 1) := by decide +kernel
theorem dX7_burn_53 : decode cX7_burn 53 = .ok (.istore 5, 2) := by decide +kernel
theorem dX7_burn_55 : decode cX7_burn 55 = .ok (.iload 5, 2) := by decide +kernel
theorem dX7_burn_57 : decode cX7_burn 57 = .ok (.iload_n 2, 1) := by decide +kernel
theorem dX7_burn_58 : decode cX7_burn 58 = .ok (.if_icmp .gt 57, 3) := by decide +kernel
theorem dX7_burn_61 : decode cX7_burn 61 = .ok (.iload 4, 2) := by decide +kernel
theorem dX7_burn_63 : decode cX7_burn 63 = .ok (.aload_n 0, 1) := by decide +kernel
theorem dX7_burn_64 : decode cX7_burn 64 = .ok (.getfield 34, 3) := by decide +kernel
theorem dX7_burn_67 : decode cX7_burn 67 = .ok (.iload 5, 2) := by decide +kernel
theorem dX7_burn_69 : decode cX7_burn 69 = .ok (.iaload, 1) := by decide +kernel
theorem dX7_burn_70 : decode cX7_burn 70 = .ok (.ifCond .ne 7, 3) := by decide +kernel
theorem dX7_burn_73 : decode cX7_burn 73 = .ok (.iconst 1, 1) := by decide +kernel
theorem dX7_burn_74 : decode cX7_burn 74 = .ok (.goto 4, 3) := by decide +kernel
theorem dX7_burn_77 : decode cX7_burn 77 = .ok (.iconst 0, 1) := by decide +kernel
theorem dX7_burn_78 : decode cX7_burn 78 = .ok (.iadd, 1) := by decide +kernel
theorem dX7_burn_79 : decode cX7_burn 79 = .ok (.istore 4, 2) := by decide +kernel
theorem dX7_burn_81 : decode cX7_burn 81 = .ok (.aload_n 0, 1) := by decide +kernel
theorem dX7_burn_82 : decode cX7_burn 82 = .ok (.getfield 34, 3) := by decide +kernel
theorem dX7_burn_85 : decode cX7_burn 85 = .ok (.iload 5, 2) := by decide +kernel
theorem dX7_burn_87 : decode cX7_burn 87 = .ok (.aload_n 0, 1) := by decide +kernel
theorem dX7_burn_88 : decode cX7_burn 88 = .ok (.getfield 34, 3) := by decide +kernel
theorem dX7_burn_91 : decode cX7_burn 91 = .ok (.iload 5, 2) := by decide +kernel
theorem dX7_burn_93 : decode cX7_burn 93 = .ok (.iaload, 1) := by decide +kernel
theorem dX7_burn_94 : decode cX7_burn 94 = .ok (.ifCond .ne 7, 3) := by decide +kernel
theorem dX7_burn_97 : decode cX7_burn 97 = .ok (.iconst 1, 1) := by decide +kernel
theorem dX7_burn_98 : decode cX7_burn 98 = .ok (.goto 10, 3) := by decide +kernel
theorem dX7_burn_101 : decode cX7_burn 101 = .ok (.aload_n 0, 1) := by decide +kernel
theorem dX7_burn_102 : decode cX7_burn 102 = .ok (.getfield 34, 3) := by decide +kernel
theorem dX7_burn_105 : decode cX7_burn 105 = .ok (.iload 5, 2) := by decide +kernel
theorem dX7_burn_107 : decode cX7_burn 107 = .ok (.iaload, 1) := by decide +kernel
theorem dX7_burn_108 : decode cX7_burn 108 = .ok (.iastore, 1) := by decide +kernel
theorem dX7_burn_109 : decode cX7_burn 109 = .ok (.iinc 5 1, 3) := by decide +kernel
theorem dX7_burn_112 : decode cX7_burn 112 = .ok (.goto (-57), 3) := by decide +kernel
theorem dX7_burn_115 : decode cX7_burn 115 = .ok (.iload 4, 2) := by decide +kernel
theorem dX7_burn_117 : decode cX7_burn 117 = .ok (.ireturn, 1) := by decide +kernel
set_option maxRecDepth 20000 in
theorem ggX7_alter_X7_in : GoodIn wsX7_alter wsX7_in := goodIn_r _ [7] (by decide +kernel) (by decide +kernel)
set_option maxRecDepth 20000 in
theorem gX7_alter_X7_in : GoodIn wsX7_alter (va_wsS RX7 84 yX7_in wsX7_in) := goodIn_app (goodIn_of _ (by decide +kernel)) ggX7_alter_X7_in
set_option maxRecDepth 20000 in
theorem ggX7_alter_X7_isPage : GoodIn wsX7_alter wsX7_isPage := goodIn_r _ [11, 12, 4, 5, 6, 7, 18, 19, 20, 21, 22, 23, 24, 25, 26, 27, 28, 29, 30, 31, 32, 33, 34, 35, 36, 37, 38, 39, 40, 41, 42, 43, 44, 45, 46, 47] (by decide +kernel) (by decide +kernel)
set_option maxRecDepth 20000 in
theorem gX7_alter_X7_isPage : GoodIn wsX7_alter (wsV RX7 126 RX7 yX7_isPage wsX7_isPage) := goodIn_app (goodIn_of _ (by decide +kernel)) ggX7_alter_X7_isPage
set_option maxRecDepth 20000 in
theorem ggX7_alter_X7_refused : GoodIn wsX7_alter wsX7_refused := goodIn_r _ [16, 17, 18, 19, 20, 21, 22, 23, 24, 25, 26, 27, 28, 29, 30, 31, 32, 33, 34, 35, 36, 37, 38, 39, 40, 41, 42, 43, 44, 45, 46, 47] (by decide +kernel) (by decide +kernel)
set_option maxRecDepth 20000 in
theorem gX7_alter_X7_refused : GoodIn wsX7_alter (wsV RX7 104 RX7 yX7_refused wsX7_refused) := goodIn_app (goodIn_of _ (by decide +kernel)) ggX7_alter_X7_refused
theorem dX7_alter_0 : decode cX7_alter 0 = .ok (.iload_n 2, 1) := by decide +kernel
theorem dX7_alter_1 : decode cX7_alter 1 = .ok (.iconst 0, 1) := by decide +kernel
theorem dX7_alter_2 : decode cX7_alter 2 = .ok (.iconst 3, 1) := by decide +kernel
theorem dX7_alter_3 : decode cX7_alter 3 = .ok (.invokestatic 84, 3) := by decide +kernel
theorem dX7_alter_6 : decode cX7_alter 6 = .ok (.ifCond .eq 20, 3) := by decide +kernel
theorem dX7_alter_9 : decode cX7_alter 9 = .ok (.iload_n 3, 1) := by decide +kernel
theorem dX7_alter_10 : decode cX7_alter 10 = .ok (.sipush (-10000), 3) := by decide +kernel
theorem dX7_alter_13 : decode cX7_alter 13 = .ok (.sipush 10000, 3) := by decide +kernel
theorem dX7_alter_16 : decode cX7_alter 16 = .ok (.invokestatic 84, 3) := by decide +kernel
theorem dX7_alter_19 : decode cX7_alter 19 = .ok (.ifCond .eq 7, 3) := by decide +kernel
theorem dX7_alter_22 : decode cX7_alter 22 = .ok (.iconst 1, 1) := by decide +kernel
theorem dX7_alter_23 : decode cX7_alter 23 = .ok (.goto 4, 3) := by decide +kernel
theorem dX7_alter_26 : decode cX7_alter 26 = .ok (.iconst 0, 1) := by decide +kernel
theorem dX7_alter_27 : decode cX7_alter 27 = .ok (.istore 4, 2) := by decide +kernel
theorem dX7_alter_29 : decode cX7_alter 29 = .ok (.aload_n 0, 1) := by decide +kernel
theorem dX7_alter_30 : decode cX7_alter 30 = .ok (.iload_n 1, 1) := by decide +kernel
theorem dX7_alter_31 : decode cX7_alter 31 = .ok (.invokevirtual 126, 3) := by decide +kernel
theorem dX7_alter_34 : decode cX7_alter 34 = .ok (.ifCond .eq 31, 3) := by decide +kernel
theorem dX7_alter_37 : decode cX7_alter 37 = .ok (.iload 4, 2) := by decide +kernel
theorem dX7_alter_39 : decode cX7_alter 39 = .ok (.ifCond .eq 26, 3) := by decide +kernel
theorem dX7_alter_42 : decode cX7_alter 42 = .ok (.aload_n 0, 1) := by decide +kernel
theorem dX7_alter_43 : decode cX7_alter 43 = .ok (.getfield 34, 3) := by decide +kernel
theorem dX7_alter_46 : decode cX7_alter 46 = .ok (.iload_n 1, 1) := by decide +kernel
theorem dX7_alter_47 : decode cX7_alter 47 = .ok (.iaload, 1) := by decide +kernel
theorem dX7_alter_48 : decode cX7_alter 48 = .ok (.ifCond .ne 17, 3) := by decide +kernel
theorem dX7_alter_51 : decode cX7_alter 51 = .ok (.iload_n 2, 1) := by decide +kernel
theorem dX7_alter_52 : decode cX7_alter 52 = .ok (.aload_n 0, 1) := by decide +kernel
theorem dX7_alter_53 : decode cX7_alter 53 = .ok (.getfield 22, 3) := by decide +kernel
theorem dX7_alter_56 : decode cX7_alter 56 = .ok (.iload_n 1, 1) := by decide +kernel
theorem dX7_alter_57 : decode cX7_alter 57 = .ok (.iaload, 1) := by decide +kernel
theorem dX7_alter_58 : decode cX7_alter 58 = .ok (.if_icmp .ge 7, 3) := by decide +kernel
theorem dX7_alter_61 : decode cX7_alter 61 = .ok (.iconst 1, 1) := by decide +kernel
theorem dX7_alter_62 : decode cX7_alter 62 = .ok (.goto 4, 3) := by decide +kernel
theorem dX7_alter_65 : decode cX7_alter 65 = .ok (.iconst 0, 1) := by decide +kernel
theorem dX7_alter_66 : decode cX7_alter 66 = .ok (.istore 5, 2) := by decide +kernel
theorem dX7_alter_68 : decode cX7_alter 68 = .ok (.aload_n 0, 1) := by decide +kernel
theorem dX7_alter_69 : decode cX7_alter 69 = .ok (.aload_n 0, 1) := by decide +kernel
theorem dX7_alter_70 : decode cX7_alter 70 = .ok (.iload_n 1, 1) := by decide +kernel
theorem dX7_alter_71 : decode cX7_alter 71 = .ok (.invokevirtual 126, 3) := by decide +kernel
theorem dX7_alter_74 : decode cX7_alter 74 = .ok (.ifCond .ne 7, 3) := by decide +kernel
theorem dX7_alter_77 : decode cX7_alter 77 = .ok (.iconst 1, 1) := by decide +kernel
theorem dX7_alter_78 : decode cX7_alter 78 = .ok (.goto 22, 3) := by decide +kernel
theorem dX7_alter_81 : decode cX7_alter 81 = .ok (.iload 4, 2) := by decide +kernel
theorem dX7_alter_83 : decode cX7_alter 83 = .ok (.ifCond .ne 7, 3) := by decide +kernel
theorem dX7_alter_86 : decode cX7_alter 86 = .ok (.iconst 2, 1) := by decide +kernel
theorem dX7_alter_87 : decode cX7_alter 87 = .ok (.goto 13, 3) := by decide +kernel
theorem dX7_alter_90 : decode cX7_alter 90 = .ok (.iload 5, 2) := by decide +kernel
theorem dX7_alter_92 : decode cX7_alter 92 = .ok (.ifCond .eq 7, 3) := by decide +kernel
theorem dX7_alter_95 : decode cX7_alter 95 = .ok (.iconst 0, 1) := by decide +kernel
theorem dX7_alter_96 : decode cX7_alter 96 = .ok (.goto 4, 3) := by decide +kernel
theorem dX7_alter_99 : decode cX7_alter 99 = .ok (.iconst 3, 1) := by decide +kernel
theorem dX7_alter_100 : decode cX7_alter 100 = .ok (.invokevirtual 104, 3) := by decide +kernel
theorem dX7_alter_103 : decode cX7_alter 103 = .ok (.ifCond .eq 5, 3) := by decide +kernel
theorem dX7_alter_106 : decode cX7_alter 106 = .ok (.iconst 0, 1) := by decide +kernel
theorem dX7_alter_107 : decode cX7_alter 107 = .ok (.ireturn, 1) := by decide +kernel
theorem dX7_alter_108 : decode cX7_alter 108 = .ok (.aload_n 0, 1) := by decide +kernel
theorem dX7_alter_109 : decode cX7_alter 109 = .ok (.getfield 31, 3) := by decide +kernel
theorem dX7_alter_112 : decode cX7_alter 112 = .ok (.iconst 4, 1) := by decide +kernel
theorem dX7_alter_113 : decode cX7_alter 113 = .ok (.iload_n 1, 1) := by decide +kernel
theorem dX7_alter_114 : decode cX7_alter 114 = .ok (.imul, 1) := by decide +kernel
theorem dX7_alter_115 : decode cX7_alter 115 = .ok (.iload_n 2, 1) := by decide +kernel
theorem dX7_alter_116 : decode cX7_alter 116 = .ok (.iadd, 1) := by decide +kernel
theorem dX7_alter_117 : decode cX7_alter 117 = .ok (.iaload, 1) := by decide +kernel
theorem dX7_alter_118 : decode cX7_alter 118 = .ok (.istore 6, 2) := by decide +kernel
theorem dX7_alter_120 : decode cX7_alter 120 = .ok (.aload_n 0, 1) := by decide +kernel
theorem dX7_alter_121 : decode cX7_alter 121 = .ok (.getfield 31, 3) := by decide +kernel
theorem dX7_alter_124 : decode cX7_alter 124 = .ok (.iconst 4, 1) := by decide +kernel
theorem dX7_alter_125 : decode cX7_alter 125 = .ok (.iload_n 1, 1) := by decide +kernel
theorem dX7_alter_126 : decode cX7_alter 126 = .ok (.imul, 1) := by decide +kernel
theorem dX7_alter_127 : decode cX7_alter 127 = .ok (.iload_n 2, 1) := by decide +kernel
theorem dX7_alter_128 : decode cX7_alter 128 = .ok (.iadd, 1) := by decide +kernel
theorem dX7_alter_129 : decode cX7_alter 129 = .ok (.iload_n 3, 1) := by decide +kernel
theorem dX7_alter_130 : decode cX7_alter 130 = .ok (.iastore, 1) := by decide +kernel
theorem dX7_alter_131 : decode cX7_alter 131 = .ok (.iload 6, 2) := by decide +kernel
theorem dX7_alter_133 : decode cX7_alter 133 = .ok (.ireturn, 1) := by decide +kernel
theorem dX7_burnt_0 : decode cX7_burnt 0 = .ok (.iconst 0, 1) := by decide +kernel
theorem dX7_burnt_1 : decode cX7_burnt 1 = .ok (.istore_n 1, 1) := by decide +kernel
theorem dX7_burnt_2 : decode cX7_burnt 2 = .ok (.iconst 0, 1) := by decide +kernel
theorem dX7_burnt_3 : decode cX7_burnt 3 = .ok (.istore_n 2, 1) := by decide +kernel
theorem dX7_burnt_4 : decode cX7_burnt 4 = .ok (.iload_n 2, 1) := by decide +kernel
theorem dX7_burnt_5 : decode cX7_burnt 5 = .ok (.aload_n 0, 1) := by decide +kernel
theorem dX7_burnt_6 : decode cX7_burnt 6 = .ok (.getfield 88, 3) := by decide +kernel
theorem dX7_burnt_9 : decode cX7_burnt 9 = .ok (.if_icmp .ge 27, 3) := by decide +kernel
theorem dX7_burnt_12 : decode cX7_burnt 12 = .ok (.iload_n 1, 1) := by decide +kernel
theorem dX7_burnt_13 : decode cX7_burnt 13 = .ok (.aload_n 0, 1) := by decide +kernel
theorem dX7_burnt_14 : decode cX7_burnt 14 = .ok (.getfield 34, 3) := by decide +kernel
theorem dX7_burnt_17 : decode cX7_burnt 17 = .ok (.iload_n 2, 1) := by decide +kernel
theorem dX7_burnt_18 : decode cX7_burnt 18 = .ok (.iaload, 1) := by decide +kernel
theorem dX7_burnt_19 : decode cX7_burnt 19 = .ok (.iconst 1, 1) := by decide +kernel
theorem dX7_burnt_20 : decode cX7_burnt 20 = .ok (.if_icmp .ne 7, 3) := by decide +kernel
theorem dX7_burnt_23 : decode cX7_burnt 23 = .ok (.iconst 1, 1) := by decide +kernel
theorem dX7_burnt_24 : decode cX7_burnt 24 = .ok (.goto 4, 3) := by decide +kernel
theorem dX7_burnt_27 : decode cX7_burnt 27 = .ok (.iconst 0, 1) := by decide +kernel
theorem dX7_burnt_28 : decode cX7_burnt 28 = .ok (.iadd, 1) := by decide +kernel
theorem dX7_burnt_29 : decode cX7_burnt 29 = .ok (.istore_n 1, 1) := by decide +kernel
theorem dX7_burnt_30 : decode cX7_burnt 30 = .ok (.iinc 2 1, 3) := by decide +kernel
theorem dX7_burnt_33 : decode cX7_burnt 33 = .ok (.goto (-29), 3) := by decide +kernel
theorem dX7_burnt_36 : decode cX7_burnt 36 = .ok (.iload_n 1, 1) := by decide +kernel
theorem dX7_burnt_37 : decode cX7_burnt 37 = .ok (.ireturn, 1) := by decide +kernel
theorem dX7_makeCopy_0 : decode cX7_makeCopy 0 = .ok (.aload_n 0, 1) := by decide +kernel
theorem dX7_makeCopy_1 : decode cX7_makeCopy 1 = .ok (.getfield 91, 3) := by decide +kernel
theorem dX7_makeCopy_4 : decode cX7_makeCopy 4 = .ok (.istore_n 3, 1) := by decide +kernel
theorem dX7_makeCopy_5 : decode cX7_makeCopy 5 = .ok (.aload_n 0, 1) := by decide +kernel
theorem dX7_makeCopy_6 : decode cX7_makeCopy 6 = .ok (.getfield 44, 3) := by decide +kernel
theorem dX7_makeCopy_9 : decode cX7_makeCopy 9 = .ok (.iload_n 3, 1) := by decide +kernel
theorem dX7_makeCopy_10 : decode cX7_makeCopy 10 = .ok (.iload_n 1, 1) := by decide +kernel
theorem dX7_makeCopy_11 : decode cX7_makeCopy 11 = .ok (.iastore, 1) := by decide +kernel
theorem dX7_makeCopy_12 : decode cX7_makeCopy 12 = .ok (.aload_n 0, 1) := by decide +kernel
theorem dX7_makeCopy_13 : decode cX7_makeCopy 13 = .ok (.getfield 47, 3) := by decide +kernel
theorem dX7_makeCopy_16 : decode cX7_makeCopy 16 = .ok (.iload_n 3, 1) := by decide +kernel
theorem dX7_makeCopy_17 : decode cX7_makeCopy 17 = .ok (.iload_n 2, 1) := by decide +kernel
theorem dX7_makeCopy_18 : decode cX7_makeCopy 18 = .ok (.iastore, 1) := by decide +kernel
theorem dX7_makeCopy_19 : decode cX7_makeCopy 19 = .ok (.aload_n 0, 1) := by decide +kernel
theorem dX7_makeCopy_20 : decode cX7_makeCopy 20 = .ok (.getfield 50, 3) := by decide +kernel
theorem dX7_makeCopy_23 : decode cX7_makeCopy 23 = .ok (.iload_n 3, 1) := by decide +kernel
theorem dX7_makeCopy_24 : decode cX7_makeCopy 24 = .ok (.aload_n 0, 1) := by decide +kernel
theorem dX7_makeCopy_25 : decode cX7_makeCopy 25 = .ok (.getfield 88, 3) := by decide +kernel
theorem dX7_makeCopy_28 : decode cX7_makeCopy 28 = .ok (.iastore, 1) := by decide +kernel
theorem dX7_makeCopy_29 : decode cX7_makeCopy 29 = .ok (.aload_n 0, 1) := by decide +kernel
theorem dX7_makeCopy_30 : decode cX7_makeCopy 30 = .ok (.getfield 53, 3) := by decide +kernel
theorem dX7_makeCopy_33 : decode cX7_makeCopy 33 = .ok (.iload_n 3, 1) := by decide +kernel
theorem dX7_makeCopy_34 : decode cX7_makeCopy 34 = .ok (.iconst 0, 1) := by decide +kernel
theorem dX7_makeCopy_35 : decode cX7_makeCopy 35 = .ok (.bastore, 1) := by decide +kernel
theorem dX7_makeCopy_36 : decode cX7_makeCopy 36 = .ok (.aload_n 0, 1) := by decide +kernel
theorem dX7_makeCopy_37 : decode cX7_makeCopy 37 = .ok (.getfield 56, 3) := by decide +kernel
theorem dX7_makeCopy_40 : decode cX7_makeCopy 40 = .ok (.iload_n 3, 1) := by decide +kernel
theorem dX7_makeCopy_41 : decode cX7_makeCopy 41 = .ok (.iconst 0, 1) := by decide +kernel
theorem dX7_makeCopy_42 : decode cX7_makeCopy 42 = .ok (.bastore, 1) := by decide +kernel
theorem dX7_makeCopy_43 : decode cX7_makeCopy 43 = .ok (.iload_n 2, 1) := by decide +kernel
theorem dX7_makeCopy_44 : decode cX7_makeCopy 44 = .ok (.istore 4, 2) := by decide +kernel
theorem dX7_makeCopy_46 : decode cX7_makeCopy 46 = .ok (.iload 4, 2) := by decide +kernel
theorem dX7_makeCopy_48 : decode cX7_makeCopy 48 = .ok (.aload_n 0, 1) := by decide +kernel
theorem dX7_makeCopy_49 : decode cX7_makeCopy 49 = .ok (.getfield 88, 3) := by decide +kernel
theorem dX7_makeCopy_52 : decode cX7_makeCopy 52 = .ok (.if_icmp .ge 80, 3) := by decide +kernel
theorem dX7_makeCopy_55 : decode cX7_makeCopy 55 = .ok (.aload_n 0, 1) := by decide +kernel
theorem dX7_makeCopy_56 : decode cX7_makeCopy 56 = .ok (.getfield 59, 3) := by decide +kernel
theorem dX7_makeCopy_59 : decode cX7_makeCopy 59 = .ok (.bipush 80, 2) := by decide +kernel
theorem dX7_makeCopy_61 : decode cX7_makeCopy 61 = .ok (.iload_n 3, 1) := by decide +kernel
theorem dX7_makeCopy_62 : decode cX7_makeCopy 62 = .ok (.imul, 1) := by decide +kernel
theorem dX7_makeCopy_63 : decode cX7_makeCopy 63 = .ok (.iload 4, 2) := by decide +kernel
theorem dX7_makeCopy_65 : decode cX7_makeCopy 65 = .ok (.iadd, 1) := by decide +kernel
theorem dX7_makeCopy_66 : decode cX7_makeCopy 66 = .ok (.aload_n 0, 1) := by decide +kernel
theorem dX7_makeCopy_67 : decode cX7_makeCopy 67 = .ok (.getfield 34, 3) := by decide +kernel
theorem dX7_makeCopy_70 : decode cX7_makeCopy 70 = .ok (.iload 4, 2) := by decide +kernel
theorem dX7_makeCopy_72 : decode cX7_makeCopy 72 = .ok (.iaload, 1) := by decide +kernel
theorem dX7_makeCopy_73 : decode cX7_makeCopy 73 = .ok (.ifCond .ne 7, 3) := by decide +kernel
theorem dX7_makeCopy_76 : decode cX7_makeCopy 76 = .ok (.iconst 1, 1) := by decide +kernel
theorem dX7_makeCopy_77 : decode cX7_makeCopy 77 = .ok (.goto 4, 3) := by decide +kernel
theorem dX7_makeCopy_80 : decode cX7_makeCopy 80 = .ok (.iconst 0, 1) := by decide +kernel
theorem dX7_makeCopy_81 : decode cX7_makeCopy 81 = .ok (.bastore, 1) := by decide +kernel
theorem dX7_makeCopy_82 : decode cX7_makeCopy 82 = .ok (.iconst 0, 1) := by decide +kernel
theorem dX7_makeCopy_83 : decode cX7_makeCopy 83 = .ok (.istore 5, 2) := by decide +kernel
theorem dX7_makeCopy_85 : decode cX7_makeCopy 85 = .ok (.iload 5, 2) := by decide +kernel
theorem dX7_makeCopy_87 : decode cX7_makeCopy 87 = .ok (.iconst 4, 1) := by decide +kernel
theorem dX7_makeCopy_88 : decode cX7_makeCopy 88 = .ok (.if_icmp .ge 38, 3) := by decide +kernel
theorem dX7_makeCopy_91 : decode cX7_makeCopy 91 = .ok (.aload_n 0, 1) := by decide +kernel
theorem dX7_makeCopy_92 : decode cX7_makeCopy 92 = .ok (.getfield 62, 3) := by decide +kernel
theorem dX7_makeCopy_95 : decode cX7_makeCopy 95 = .ok (.iconst 4, 1) := by decide +kernel
theorem dX7_makeCopy_96 : decode cX7_makeCopy 96 = .ok (.bipush 80, 2) := by decide +kernel
theorem dX7_makeCopy_98 : decode cX7_makeCopy 98 = .ok (.iload_n 3, 1) := by decide +kernel
theorem dX7_makeCopy_99 : decode cX7_makeCopy 99 = .ok (.imul, 1) := by decide +kernel
theorem dX7_makeCopy_100 : decode cX7_makeCopy 100 = .ok (.iload 4, 2) := by decide +kernel
theorem dX7_makeCopy_102 : decode cX7_makeCopy 102 = .ok (.iadd, 1) := by decide +kernel
theorem dX7_makeCopy_103 : decode cX7_makeCopy 103 = .ok (.imul, 1) := by decide +kernel
theorem dX7_makeCopy_104 : decode cX7_makeCopy 104 = .ok (.iload 5, 2) := by decide +kernel
theorem dX7_makeCopy_106 : decode cX7_makeCopy 106 = .ok (.iadd, 1) := by decide +kernel
theorem dX7_makeCopy_107 : decode cX7_makeCopy 107 = .ok (.aload_n 0, 1) := by decide +kernel
theorem dX7_makeCopy_108 : decode cX7_makeCopy 108 = .ok (.getfield 31, 3) := by decide +kernel
theorem dX7_makeCopy_111 : decode cX7_makeCopy 111 = .ok (.iconst 4, 1) := by decide +kernel
theorem dX7_makeCopy_112 : decode cX7_makeCopy 112 = .ok (.iload 4, 2) := by decide +kernel
theorem dX7_makeCopy_114 : decode cX7_makeCopy 114 = .ok (.imul, 1) := by decide +kernel
theorem dX7_makeCopy_115 : decode cX7_makeCopy 115 = .ok (.iload 5, 2) := by decide +kernel
theorem dX7_makeCopy_117 : decode cX7_makeCopy 117 = .ok (.iadd, 1) := by decide +kernel
theorem dX7_makeCopy_118 : decode cX7_makeCopy 118 = .ok (.iaload, 1) := by decide +kernel
theorem dX7_makeCopy_119 : decode cX7_makeCopy 119 = .ok (.iastore, 1) := by decide +kernel
theorem dX7_makeCopy_120 : decode cX7_makeCopy 120 = .ok (.iinc 5 1, 3) := by decide +kernel
theorem dX7_makeCopy_123 : decode cX7_makeCopy 123 = .ok (.goto (-38), 3) := by decide +kernel
theorem dX7_makeCopy_126 : decode cX7_makeCopy 126 = .ok (.iinc 4 1, 3) := by decide +kernel
theorem dX7_makeCopy_129 : decode cX7_makeCopy 129 = .ok (.goto (-83), 3) := by decide +kernel
theorem dX7_makeCopy_132 : decode cX7_makeCopy 132 = .ok (.aload_n 0, 1) := by decide +kernel
theorem dX7_makeCopy_133 : decode cX7_makeCopy 133 = .ok (.dup, 1) := by decide +kernel
theorem dX7_makeCopy_134 : decode cX7_makeCopy 134 = .ok (.getfield 91, 3) := by decide +kernel
theorem dX7_makeCopy_137 : decode cX7_makeCopy 137 = .ok (.iconst 1, 1) := by decide +kernel
theorem dX7_makeCopy_138 : decode cX7_makeCopy 138 = .ok (.iadd, 1) := by decide +kernel
theorem dX7_makeCopy_139 : decode cX7_makeCopy 139 = .ok (.putfield 91, 3) := by decide +kernel
theorem dX7_makeCopy_142 : decode cX7_makeCopy 142 = .ok (.iload_n 3, 1) := by decide +kernel
theorem dX7_makeCopy_143 : decode cX7_makeCopy 143 = .ok (.ireturn, 1) := by decide +kernel
set_option maxRecDepth 20000 in
theorem ggX7_copy_X7_burnt : GoodIn wsX7_copy wsX7_burnt := goodIn_r _ [6, 7, 8, 26, 27, 28, 29, 30, 31, 32, 33, 34, 35, 36, 37, 38, 39, 40, 41, 42, 43, 44, 45, 46, 47, 48, 49, 50, 51, 52, 53, 54, 55] (by decide +kernel) (by decide +kernel)
set_option maxRecDepth 20000 in
theorem gX7_copy_X7_burnt : GoodIn wsX7_copy (wsV RX7 132 RX7 yX7_burnt wsX7_burnt) := goodIn_app (goodIn_of _ (by decide +kernel)) ggX7_copy_X7_burnt
set_option maxRecDepth 20000 in
theorem ggX7_copy_X7_refused : GoodIn wsX7_copy wsX7_refused := goodIn_r _ [12, 13, 26, 27, 28, 29, 30, 31, 32, 33, 34, 35, 36, 37, 38, 39, 40, 41, 42, 43, 44, 45, 46, 47, 48, 49, 50, 51, 52, 53, 54, 55] (by decide +kernel) (by decide +kernel)
set_option maxRecDepth 20000 in
theorem gX7_copy_X7_refused : GoodIn wsX7_copy (wsV RX7 104 RX7 yX7_refused wsX7_refused) := goodIn_app (goodIn_of _ (by decide +kernel)) ggX7_copy_X7_refused
set_option maxRecDepth 20000 in
theorem ggX7_copy_X7_makeCopy : GoodIn wsX7_copy wsX7_makeCopy := goodIn_r _ [17, 1, 18, 19, 20, 7, 21, 22, 23, 8, 24, 25, 26, 27, 28, 29, 30, 31, 32, 33, 34, 35, 36, 37, 38, 39, 40, 41, 42, 43, 44, 45, 46, 47, 48, 49, 50, 51, 52, 53, 54, 55] (by decide +kernel) (by decide +kernel)
set_option maxRecDepth 20000 in
theorem gX7_copy_X7_makeCopy : GoodIn wsX7_copy (wsV RX7 135 RX7 yX7_makeCopy wsX7_makeCopy) := goodIn_app (goodIn_of _ (by decide +kernel)) ggX7_copy_X7_makeCopy
theorem dX7_copy_0 : decode cX7_copy 0 = .ok (.aload_n 0, 1) := by decide +kernel
theorem dX7_copy_1 : decode cX7_copy 1 = .ok (.aload_n 0, 1) := by decide +kernel
theorem dX7_copy_2 : decode cX7_copy 2 = .ok (.getfield 91, 3) := by decide +kernel
theorem dX7_copy_5 : decode cX7_copy 5 = .ok (.bipush 16, 2) := by decide +kernel
theorem dX7_copy_7 : decode cX7_copy 7 = .ok (.if_icmp .eq 10, 3) := by decide +kernel
theorem dX7_copy_10 : decode cX7_copy 10 = .ok (.aload_n 0, 1) := by decide +kernel
theorem dX7_copy_11 : decode cX7_copy 11 = .ok (.invokevirtual 132, 3) := by decide +kernel
theorem dX7_copy_14 : decode cX7_copy 14 = .ok (.ifCond .le 7, 3) := by decide +kernel
theorem dX7_copy_17 : decode cX7_copy 17 = .ok (.iconst 1, 1) := by decide +kernel
theorem dX7_copy_18 : decode cX7_copy 18 = .ok (.goto 4, 3) := by decide +kernel
theorem dX7_copy_21 : decode cX7_copy 21 = .ok (.iconst 0, 1) := by decide +kernel
theorem dX7_copy_22 : decode cX7_copy 22 = .ok (.invokevirtual 104, 3) := by decide +kernel
theorem dX7_copy_25 : decode cX7_copy 25 = .ok (.ifCond .eq 7, 3) := by decide +kernel
theorem dX7_copy_28 : decode cX7_copy 28 = .ok (.iconst 0, 1) := by decide +kernel
theorem dX7_copy_29 : decode cX7_copy 29 = .ok (.goto 9, 3) := by decide +kernel
theorem dX7_copy_32 : decode cX7_copy 32 = .ok (.aload_n 0, 1) := by decide +kernel
theorem dX7_copy_33 : decode cX7_copy 33 = .ok (.iconst (-1), 1) := by decide +kernel
theorem dX7_copy_34 : decode cX7_copy 34 = .ok (.iconst 0, 1) := by decide +kernel
theorem dX7_copy_35 : decode cX7_copy 35 = .ok (.invokevirtual 135, 3) := by decide +kernel
theorem dX7_copy_38 : decode cX7_copy 38 = .ok (.ireturn, 1) := by decide +kernel
set_option maxRecDepth 20000 in
theorem ggX7_copyFrom_X7_isCopy : GoodIn wsX7_copyFrom wsX7_isCopy := goodIn_r _ [7, 1, 8, 9, 10, 6, 11, 33, 34, 35, 36, 37, 38, 39, 40, 41, 42, 43, 44, 45, 46, 47, 48, 49, 50, 51, 52, 53, 54, 55, 56, 57, 58, 59, 60, 61, 62] (by decide +kernel) (by decide +kernel)
set_option maxRecDepth 20000 in
theorem gX7_copyFrom_X7_isCopy : GoodIn wsX7_copyFrom (wsV RX7 139 RX7 yX7_isCopy wsX7_isCopy) := goodIn_app (goodIn_of _ (by decide +kernel)) ggX7_copyFrom_X7_isCopy
set_option maxRecDepth 20000 in
theorem ggX7_copyFrom_X7_burnt : GoodIn wsX7_copyFrom wsX7_burnt := goodIn_r _ [15, 16, 17, 33, 34, 35, 36, 37, 38, 39, 40, 41, 42, 43, 44, 45, 46, 47, 48, 49, 50, 51, 52, 53, 54, 55, 56, 57, 58, 59, 60, 61, 62] (by decide +kernel) (by decide +kernel)
set_option maxRecDepth 20000 in
theorem gX7_copyFrom_X7_burnt : GoodIn wsX7_copyFrom (wsV RX7 132 RX7 yX7_burnt wsX7_burnt) := goodIn_app (goodIn_of _ (by decide +kernel)) ggX7_copyFrom_X7_burnt
set_option maxRecDepth 20000 in
theorem ggX7_copyFrom_X7_refused : GoodIn wsX7_copyFrom wsX7_refused := goodIn_r _ [21, 22, 33, 34, 35, 36, 37, 38, 39, 40, 41, 42, 43, 44, 45, 46, 47, 48, 49, 50, 51, 52, 53, 54, 55, 56, 57, 58, 59, 60, 61, 62] (by decide +kernel) (by decide +kernel)
set_option maxRecDepth 20000 in
theorem gX7_copyFrom_X7_refused : GoodIn wsX7_copyFrom (wsV RX7 104 RX7 yX7_refused wsX7_refused) := goodIn_app (goodIn_of _ (by decide +kernel)) ggX7_copyFrom_X7_refused
set_option maxRecDepth 20000 in
theorem ggX7_copyFrom_X7_makeCopy : GoodIn wsX7_copyFrom wsX7_makeCopy := goodIn_r _ [26, 1, 27, 28, 2, 16, 8, 29, 30, 17, 31, 32, 33, 34, 35, 36, 37, 38, 39, 40, 41, 42, 43, 44, 45, 46, 47, 48, 49, 50, 51, 52, 53, 54, 55, 56, 57, 58, 59, 60, 61, 62] (by decide +kernel) (by decide +kernel)
set_option maxRecDepth 20000 in
theorem gX7_copyFrom_X7_makeCopy : GoodIn wsX7_copyFrom (wsV RX7 135 RX7 yX7_makeCopy wsX7_makeCopy) := goodIn_app (goodIn_of _ (by decide +kernel)) ggX7_copyFrom_X7_makeCopy
theorem dX7_copyFrom_0 : decode cX7_copyFrom 0 = .ok (.aload_n 0, 1) := by decide +kernel
theorem dX7_copyFrom_1 : decode cX7_copyFrom 1 = .ok (.aload_n 0, 1) := by decide +kernel
theorem dX7_copyFrom_2 : decode cX7_copyFrom 2 = .ok (.iload_n 1, 1) := by decide +kernel
theorem dX7_copyFrom_3 : decode cX7_copyFrom 3 = .ok (.invokevirtual 139, 3) := by decide +kernel
theorem dX7_copyFrom_6 : decode cX7_copyFrom 6 = .ok (.ifCond .ne 7, 3) := by decide +kernel
theorem dX7_copyFrom_9 : decode cX7_copyFrom 9 = .ok (.iconst 1, 1) := by decide +kernel
theorem dX7_copyFrom_10 : decode cX7_copyFrom 10 = .ok (.goto 24, 3) := by decide +kernel
theorem dX7_copyFrom_13 : decode cX7_copyFrom 13 = .ok (.aload_n 0, 1) := by decide +kernel
theorem dX7_copyFrom_14 : decode cX7_copyFrom 14 = .ok (.getfield 91, 3) := by decide +kernel
theorem dX7_copyFrom_17 : decode cX7_copyFrom 17 = .ok (.bipush 16, 2) := by decide +kernel
theorem dX7_copyFrom_19 : decode cX7_copyFrom 19 = .ok (.if_icmp .eq 10, 3) := by decide +kernel
theorem dX7_copyFrom_22 : decode cX7_copyFrom 22 = .ok (.aload_n 0, 1) := by decide +kernel
theorem dX7_copyFrom_23 : decode cX7_copyFrom 23 = .ok (.invokevirtual 132, 3) := by decide +kernel
theorem dX7_copyFrom_26 : decode cX7_copyFrom 26 = .ok (.ifCond .le 7, 3) := by decide +kernel
theorem dX7_copyFrom_29 : decode cX7_copyFrom 29 = .ok (.iconst 2, 1) := by decide +kernel
theorem dX7_copyFrom_30 : decode cX7_copyFrom 30 = .ok (.goto 4, 3) := by decide +kernel
theorem dX7_copyFrom_33 : decode cX7_copyFrom 33 = .ok (.iconst 0, 1) := by decide +kernel
theorem dX7_copyFrom_34 : decode cX7_copyFrom 34 = .ok (.invokevirtual 104, 3) := by decide +kernel
theorem dX7_copyFrom_37 : decode cX7_copyFrom 37 = .ok (.ifCond .eq 7, 3) := by decide +kernel
theorem dX7_copyFrom_40 : decode cX7_copyFrom 40 = .ok (.iconst 0, 1) := by decide +kernel
theorem dX7_copyFrom_41 : decode cX7_copyFrom 41 = .ok (.goto 14, 3) := by decide +kernel
theorem dX7_copyFrom_44 : decode cX7_copyFrom 44 = .ok (.aload_n 0, 1) := by decide +kernel
theorem dX7_copyFrom_45 : decode cX7_copyFrom 45 = .ok (.iload_n 1, 1) := by decide +kernel
theorem dX7_copyFrom_46 : decode cX7_copyFrom 46 = .ok (.aload_n 0, 1) := by decide +kernel
theorem dX7_copyFrom_47 : decode cX7_copyFrom 47 = .ok (.getfield 50, 3) := by decide +kernel
theorem dX7_copyFrom_50 : decode cX7_copyFrom 50 = .ok (.iload_n 1, 1) := by decide +kernel
theorem dX7_copyFrom_51 : decode cX7_copyFrom 51 = .ok (.iaload, 1) := by decide +kernel
theorem dX7_copyFrom_52 : decode cX7_copyFrom 52 = .ok (.invokevirtual 135, 3) := by decide +kernel
theorem dX7_copyFrom_55 : decode cX7_copyFrom 55 = .ok (.ireturn, 1) := by decide +kernel
theorem dX7_has_0 : decode cX7_has 0 = .ok (.iload_n 2, 1) := by decide +kernel
theorem dX7_has_1 : decode cX7_has 1 = .ok (.aload_n 0, 1) := by decide +kernel
theorem dX7_has_2 : decode cX7_has 2 = .ok (.getfield 47, 3) := by decide +kernel
theorem dX7_has_5 : decode cX7_has 5 = .ok (.iload_n 1, 1) := by decide +kernel
theorem dX7_has_6 : decode cX7_has 6 = .ok (.iaload, 1) := by decide +kernel
theorem dX7_has_7 : decode cX7_has 7 = .ok (.if_icmp .lt 17, 3) := by decide +kernel
theorem dX7_has_10 : decode cX7_has 10 = .ok (.iload_n 2, 1) := by decide +kernel
theorem dX7_has_11 : decode cX7_has 11 = .ok (.aload_n 0, 1) := by decide +kernel
theorem dX7_has_12 : decode cX7_has 12 = .ok (.getfield 50, 3) := by decide +kernel
theorem dX7_has_15 : decode cX7_has 15 = .ok (.iload_n 1, 1) := by decide +kernel
theorem dX7_has_16 : decode cX7_has 16 = .ok (.iaload, 1) := by decide +kernel
theorem dX7_has_17 : decode cX7_has 17 = .ok (.if_icmp .ge 7, 3) := by decide +kernel
theorem dX7_has_20 : decode cX7_has 20 = .ok (.iconst 1, 1) := by decide +kernel
theorem dX7_has_21 : decode cX7_has 21 = .ok (.goto 4, 3) := by decide +kernel
theorem dX7_has_24 : decode cX7_has 24 = .ok (.iconst 0, 1) := by decide +kernel
theorem dX7_has_25 : decode cX7_has 25 = .ok (.ireturn, 1) := by decide +kernel
set_option maxRecDepth 20000 in
theorem ggX7_standsIn_X7_has : GoodIn wsX7_standsIn wsX7_has := goodIn_r _ [6, 7, 8, 9, 10, 11, 12, 13, 14, 15, 16, 17, 18, 19, 20, 21, 22, 23, 24, 25, 26, 27, 28, 29, 30, 31, 32, 33, 34, 35, 36, 37, 38] (by decide +kernel) (by decide +kernel)
set_option maxRecDepth 20000 in
theorem gX7_standsIn_X7_has : GoodIn wsX7_standsIn (wsV RX7 142 RX7 yX7_has wsX7_has) := goodIn_app (goodIn_of _ (by decide +kernel)) ggX7_standsIn_X7_has
theorem dX7_standsIn_0 : decode cX7_standsIn 0 = .ok (.aload_n 0, 1) := by decide +kernel
theorem dX7_standsIn_1 : decode cX7_standsIn 1 = .ok (.iload_n 1, 1) := by decide +kernel
theorem dX7_standsIn_2 : decode cX7_standsIn 2 = .ok (.iload_n 2, 1) := by decide +kernel
theorem dX7_standsIn_3 : decode cX7_standsIn 3 = .ok (.invokevirtual 142, 3) := by decide +kernel
theorem dX7_standsIn_6 : decode cX7_standsIn 6 = .ok (.ifCond .eq 21, 3) := by decide +kernel
theorem dX7_standsIn_9 : decode cX7_standsIn 9 = .ok (.aload_n 0, 1) := by decide +kernel
theorem dX7_standsIn_10 : decode cX7_standsIn 10 = .ok (.getfield 59, 3) := by decide +kernel
theorem dX7_standsIn_13 : decode cX7_standsIn 13 = .ok (.bipush 80, 2) := by decide +kernel
theorem dX7_standsIn_15 : decode cX7_standsIn 15 = .ok (.iload_n 1, 1) := by decide +kernel
theorem dX7_standsIn_16 : decode cX7_standsIn 16 = .ok (.imul, 1) := by decide +kernel
theorem dX7_standsIn_17 : decode cX7_standsIn 17 = .ok (.iload_n 2, 1) := by decide +kernel
theorem dX7_standsIn_18 : decode cX7_standsIn 18 = .ok (.iadd, 1) := by decide +kernel
theorem dX7_standsIn_19 : decode cX7_standsIn 19 = .ok (.baload, 1) := by decide +kernel
theorem dX7_standsIn_20 : decode cX7_standsIn 20 = .ok (.ifCond .eq 7, 3) := by decide +kernel
theorem dX7_standsIn_23 : decode cX7_standsIn 23 = .ok (.iconst 1, 1) := by decide +kernel
theorem dX7_standsIn_24 : decode cX7_standsIn 24 = .ok (.goto 4, 3) := by decide +kernel
theorem dX7_standsIn_27 : decode cX7_standsIn 27 = .ok (.iconst 0, 1) := by decide +kernel
theorem dX7_standsIn_28 : decode cX7_standsIn 28 = .ok (.ireturn, 1) := by decide +kernel
set_option maxRecDepth 20000 in
theorem ggX7_carry_X7_isCopy : GoodIn wsX7_carry wsX7_isCopy := goodIn_r _ [9, 10, 11, 12, 13, 8, 14, 30, 31, 32, 33, 34, 35, 36, 37, 38, 39, 40, 41, 42, 43, 44, 45, 46, 47, 48, 49, 50, 51, 52, 53, 54, 55, 56, 57, 58, 59] (by decide +kernel) (by decide +kernel)
set_option maxRecDepth 20000 in
theorem gX7_carry_X7_isCopy : GoodIn wsX7_carry (wsV RX7 139 RX7 yX7_isCopy wsX7_isCopy) := goodIn_app (goodIn_of _ (by decide +kernel)) ggX7_carry_X7_isCopy
set_option maxRecDepth 20000 in
theorem ggX7_carry_X7_refused : GoodIn wsX7_carry wsX7_refused := goodIn_r _ [18, 19, 30, 31, 32, 33, 34, 35, 36, 37, 38, 39, 40, 41, 42, 43, 44, 45, 46, 47, 48, 49, 50, 51, 52, 53, 54, 55, 56, 57, 58, 59] (by decide +kernel) (by decide +kernel)
set_option maxRecDepth 20000 in
theorem gX7_carry_X7_refused : GoodIn wsX7_carry (wsV RX7 104 RX7 yX7_refused wsX7_refused) := goodIn_app (goodIn_of _ (by decide +kernel)) ggX7_carry_X7_refused
set_option maxRecDepth 20000 in
theorem ggX7_carry_X7_standsIn : GoodIn wsX7_carry wsX7_standsIn := goodIn_r _ [23, 3, 24, 25, 26, 8, 27, 28, 29, 30, 31, 32, 33, 34, 35, 36, 37, 38, 39, 40, 41, 42, 43, 44, 45, 46, 47, 48, 49, 50, 51, 52, 53, 54, 55, 56, 57, 58, 59] (by decide +kernel) (by decide +kernel)
set_option maxRecDepth 20000 in
theorem gX7_carry_X7_standsIn : GoodIn wsX7_carry (wsV RX7 146 RX7 yX7_standsIn wsX7_standsIn) := goodIn_app (goodIn_of _ (by decide +kernel)) ggX7_carry_X7_standsIn
theorem dX7_carry_0 : decode cX7_carry 0 = .ok (.aload_n 0, 1) := by decide +kernel
theorem dX7_carry_1 : decode cX7_carry 1 = .ok (.aload_n 0, 1) := by decide +kernel
theorem dX7_carry_2 : decode cX7_carry 2 = .ok (.iload_n 1, 1) := by decide +kernel
theorem dX7_carry_3 : decode cX7_carry 3 = .ok (.invokevirtual 139, 3) := by decide +kernel
theorem dX7_carry_6 : decode cX7_carry 6 = .ok (.ifCond .eq 7, 3) := by decide +kernel
theorem dX7_carry_9 : decode cX7_carry 9 = .ok (.iconst 0, 1) := by decide +kernel
theorem dX7_carry_10 : decode cX7_carry 10 = .ok (.goto 4, 3) := by decide +kernel
theorem dX7_carry_13 : decode cX7_carry 13 = .ok (.iconst 1, 1) := by decide +kernel
theorem dX7_carry_14 : decode cX7_carry 14 = .ok (.invokevirtual 104, 3) := by decide +kernel
theorem dX7_carry_17 : decode cX7_carry 17 = .ok (.ifCond .eq 5, 3) := by decide +kernel
theorem dX7_carry_20 : decode cX7_carry 20 = .ok (.iconst 0, 1) := by decide +kernel
theorem dX7_carry_21 : decode cX7_carry 21 = .ok (.ireturn, 1) := by decide +kernel
theorem dX7_carry_22 : decode cX7_carry 22 = .ok (.iconst 0, 1) := by decide +kernel
theorem dX7_carry_23 : decode cX7_carry 23 = .ok (.istore_n 3, 1) := by decide +kernel
theorem dX7_carry_24 : decode cX7_carry 24 = .ok (.iconst 0, 1) := by decide +kernel
theorem dX7_carry_25 : decode cX7_carry 25 = .ok (.istore 4, 2) := by decide +kernel
theorem dX7_carry_27 : decode cX7_carry 27 = .ok (.iload 4, 2) := by decide +kernel
theorem dX7_carry_29 : decode cX7_carry 29 = .ok (.aload_n 0, 1) := by decide +kernel
theorem dX7_carry_30 : decode cX7_carry 30 = .ok (.getfield 88, 3) := by decide +kernel
theorem dX7_carry_33 : decode cX7_carry 33 = .ok (.if_icmp .ge 50, 3) := by decide +kernel
theorem dX7_carry_36 : decode cX7_carry 36 = .ok (.iload_n 2, 1) := by decide +kernel
theorem dX7_carry_37 : decode cX7_carry 37 = .ok (.ifCond .eq 46, 3) := by decide +kernel
theorem dX7_carry_40 : decode cX7_carry 40 = .ok (.aload_n 0, 1) := by decide +kernel
theorem dX7_carry_41 : decode cX7_carry 41 = .ok (.getfield 34, 3) := by decide +kernel
theorem dX7_carry_44 : decode cX7_carry 44 = .ok (.iload 4, 2) := by decide +kernel
theorem dX7_carry_46 : decode cX7_carry 46 = .ok (.iaload, 1) := by decide +kernel
theorem dX7_carry_47 : decode cX7_carry 47 = .ok (.iconst 2, 1) := by decide +kernel
theorem dX7_carry_48 : decode cX7_carry 48 = .ok (.if_icmp .ne 29, 3) := by decide +kernel
theorem dX7_carry_51 : decode cX7_carry 51 = .ok (.aload_n 0, 1) := by decide +kernel
theorem dX7_carry_52 : decode cX7_carry 52 = .ok (.iload_n 1, 1) := by decide +kernel
theorem dX7_carry_53 : decode cX7_carry 53 = .ok (.iload 4, 2) := by decide +kernel
theorem dX7_carry_55 : decode cX7_carry 55 = .ok (.invokevirtual 146, 3) := by decide +kernel
theorem dX7_carry_58 : decode cX7_carry 58 = .ok (.ifCond .eq 19, 3) := by decide +kernel
theorem dX7_carry_61 : decode cX7_carry 61 = .ok (.aload_n 0, 1) := by decide +kernel
theorem dX7_carry_62 : decode cX7_carry 62 = .ok (.getfield 59, 3) := by decide +kernel
theorem dX7_carry_65 : decode cX7_carry 65 = .ok (.bipush 80, 2) := by decide +kernel
theorem dX7_carry_67 : decode cX7_carry 67 = .ok (.iload_n 1, 1) := by decide +kernel
theorem dX7_carry_68 : decode cX7_carry 68 = .ok (.imul, 1) := by decide +kernel
theorem dX7_carry_69 : decode cX7_carry 69 = .ok (.iload 4, 2) := by decide +kernel
theorem dX7_carry_71 : decode cX7_carry 71 = .ok (.iadd, 1) := by decide +kernel
theorem dX7_carry_72 : decode cX7_carry 72 = .ok (.iconst 0, 1) := by decide +kernel
theorem dX7_carry_73 : decode cX7_carry 73 = .ok (.bastore, 1) := by decide +kernel
theorem dX7_carry_74 : decode cX7_carry 74 = .ok (.iinc 3 1, 3) := by decide +kernel
theorem dX7_carry_77 : decode cX7_carry 77 = .ok (.iinc 4 1, 3) := by decide +kernel
theorem dX7_carry_80 : decode cX7_carry 80 = .ok (.goto (-53), 3) := by decide +kernel
theorem dX7_carry_83 : decode cX7_carry 83 = .ok (.aload_n 0, 1) := by decide +kernel
theorem dX7_carry_84 : decode cX7_carry 84 = .ok (.getfield 56, 3) := by decide +kernel
theorem dX7_carry_87 : decode cX7_carry 87 = .ok (.iload_n 1, 1) := by decide +kernel
theorem dX7_carry_88 : decode cX7_carry 88 = .ok (.iload_n 2, 1) := by decide +kernel
theorem dX7_carry_89 : decode cX7_carry 89 = .ok (.ifCond .ne 7, 3) := by decide +kernel
theorem dX7_carry_92 : decode cX7_carry 92 = .ok (.iconst 1, 1) := by decide +kernel
theorem dX7_carry_93 : decode cX7_carry 93 = .ok (.goto 4, 3) := by decide +kernel
theorem dX7_carry_96 : decode cX7_carry 96 = .ok (.iconst 0, 1) := by decide +kernel
theorem dX7_carry_97 : decode cX7_carry 97 = .ok (.bastore, 1) := by decide +kernel
theorem dX7_carry_98 : decode cX7_carry 98 = .ok (.iload_n 3, 1) := by decide +kernel
theorem dX7_carry_99 : decode cX7_carry 99 = .ok (.ireturn, 1) := by decide +kernel
set_option maxRecDepth 20000 in
theorem ggX7_areBoth_X7_isCopy : GoodIn wsX7_areBoth wsX7_isCopy := goodIn_r _ [5, 6, 7, 8, 9, 4, 10, 22, 23, 24, 25, 26, 27, 28, 29, 30, 31, 32, 33, 34, 35, 36, 37, 38, 39, 40, 41, 42, 43, 44, 45, 46, 47, 48, 49, 50, 51] (by decide +kernel) (by decide +kernel)
set_option maxRecDepth 20000 in
theorem gX7_areBoth_X7_isCopy : GoodIn wsX7_areBoth (wsV RX7 139 RX7 yX7_isCopy wsX7_isCopy) := goodIn_app (goodIn_of _ (by decide +kernel)) ggX7_areBoth_X7_isCopy
set_option maxRecDepth 20000 in
theorem ggX7_areBoth_X7_isPage : GoodIn wsX7_areBoth wsX7_isPage := goodIn_r _ [14, 15, 8, 9, 4, 10, 22, 23, 24, 25, 26, 27, 28, 29, 30, 31, 32, 33, 34, 35, 36, 37, 38, 39, 40, 41, 42, 43, 44, 45, 46, 47, 48, 49, 50, 51] (by decide +kernel) (by decide +kernel)
set_option maxRecDepth 20000 in
theorem gX7_areBoth_X7_isPage : GoodIn wsX7_areBoth (wsV RX7 126 RX7 yX7_isPage wsX7_isPage) := goodIn_app (goodIn_of _ (by decide +kernel)) ggX7_areBoth_X7_isPage
set_option maxRecDepth 20000 in
theorem ggX7_areBoth_X7_has : GoodIn wsX7_areBoth wsX7_has := goodIn_r _ [19, 20, 21, 22, 23, 24, 25, 26, 27, 28, 29, 30, 31, 32, 33, 34, 35, 36, 37, 38, 39, 40, 41, 42, 43, 44, 45, 46, 47, 48, 49, 50, 51] (by decide +kernel) (by decide +kernel)
set_option maxRecDepth 20000 in
theorem gX7_areBoth_X7_has : GoodIn wsX7_areBoth (wsV RX7 142 RX7 yX7_has wsX7_has) := goodIn_app (goodIn_of _ (by decide +kernel)) ggX7_areBoth_X7_has
theorem dX7_areBoth_0 : decode cX7_areBoth 0 = .ok (.aload_n 0, 1) := by decide +kernel
theorem dX7_areBoth_1 : decode cX7_areBoth 1 = .ok (.iload_n 1, 1) := by decide +kernel
theorem dX7_areBoth_2 : decode cX7_areBoth 2 = .ok (.invokevirtual 139, 3) := by decide +kernel
theorem dX7_areBoth_5 : decode cX7_areBoth 5 = .ok (.ifCond .eq 24, 3) := by decide +kernel
theorem dX7_areBoth_8 : decode cX7_areBoth 8 = .ok (.aload_n 0, 1) := by decide +kernel
theorem dX7_areBoth_9 : decode cX7_areBoth 9 = .ok (.iload_n 2, 1) := by decide +kernel
theorem dX7_areBoth_10 : decode cX7_areBoth 10 = .ok (.invokevirtual 126, 3) := by decide +kernel
theorem dX7_areBoth_13 : decode cX7_areBoth 13 = .ok (.ifCond .eq 16, 3) := by decide +kernel
theorem dX7_areBoth_16 : decode cX7_areBoth 16 = .ok (.aload_n 0, 1) := by decide +kernel
theorem dX7_areBoth_17 : decode cX7_areBoth 17 = .ok (.iload_n 1, 1) := by decide +kernel
theorem dX7_areBoth_18 : decode cX7_areBoth 18 = .ok (.iload_n 2, 1) := by decide +kernel
theorem dX7_areBoth_19 : decode cX7_areBoth 19 = .ok (.invokevirtual 142, 3) := by decide +kernel
theorem dX7_areBoth_22 : decode cX7_areBoth 22 = .ok (.ifCond .eq 7, 3) := by decide +kernel
theorem dX7_areBoth_25 : decode cX7_areBoth 25 = .ok (.iconst 1, 1) := by decide +kernel
theorem dX7_areBoth_26 : decode cX7_areBoth 26 = .ok (.goto 4, 3) := by decide +kernel
theorem dX7_areBoth_29 : decode cX7_areBoth 29 = .ok (.iconst 0, 1) := by decide +kernel
theorem dX7_areBoth_30 : decode cX7_areBoth 30 = .ok (.ireturn, 1) := by decide +kernel
set_option maxRecDepth 20000 in
theorem ggX7_rot_X7_areBoth : GoodIn wsX7_rot wsX7_areBoth := goodIn_r _ [6, 7, 8, 9, 5, 10, 11, 12, 13, 14, 15, 16, 17, 18, 19, 20, 21, 22, 23, 24, 25, 26, 32, 33, 34, 35, 36, 37, 38, 39, 40, 41, 42, 43, 44, 45, 46, 47, 48, 49, 50, 51, 52, 53, 54, 55, 56, 57, 58, 59, 60, 61] (by decide +kernel) (by decide +kernel)
set_option maxRecDepth 20000 in
theorem gX7_rot_X7_areBoth : GoodIn wsX7_rot (wsV RX7 149 RX7 yX7_areBoth wsX7_areBoth) := goodIn_app (goodIn_of _ (by decide +kernel)) ggX7_rot_X7_areBoth
set_option maxRecDepth 20000 in
theorem ggX7_rot_X7_refused : GoodIn wsX7_rot wsX7_refused := goodIn_r _ [30, 31, 32, 33, 34, 35, 36, 37, 38, 39, 40, 41, 42, 43, 44, 45, 46, 47, 48, 49, 50, 51, 52, 53, 54, 55, 56, 57, 58, 59, 60, 61] (by decide +kernel) (by decide +kernel)
set_option maxRecDepth 20000 in
theorem gX7_rot_X7_refused : GoodIn wsX7_rot (wsV RX7 104 RX7 yX7_refused wsX7_refused) := goodIn_app (goodIn_of _ (by decide +kernel)) ggX7_rot_X7_refused
theorem dX7_rot_0 : decode cX7_rot 0 = .ok (.aload_n 0, 1) := by decide +kernel
theorem dX7_rot_1 : decode cX7_rot 1 = .ok (.aload_n 0, 1) := by decide +kernel
theorem dX7_rot_2 : decode cX7_rot 2 = .ok (.iload_n 1, 1) := by decide +kernel
theorem dX7_rot_3 : decode cX7_rot 3 = .ok (.iload_n 2, 1) := by decide +kernel
theorem dX7_rot_4 : decode cX7_rot 4 = .ok (.invokevirtual 149, 3) := by decide +kernel
theorem dX7_rot_7 : decode cX7_rot 7 = .ok (.ifCond .eq 7, 3) := by decide +kernel
theorem dX7_rot_10 : decode cX7_rot 10 = .ok (.iconst 0, 1) := by decide +kernel
theorem dX7_rot_11 : decode cX7_rot 11 = .ok (.goto 4, 3) := by decide +kernel
theorem dX7_rot_14 : decode cX7_rot 14 = .ok (.iconst 1, 1) := by decide +kernel
theorem dX7_rot_15 : decode cX7_rot 15 = .ok (.invokevirtual 104, 3) := by decide +kernel
theorem dX7_rot_18 : decode cX7_rot 18 = .ok (.ifCond .eq 5, 3) := by decide +kernel
theorem dX7_rot_21 : decode cX7_rot 21 = .ok (.iconst 0, 1) := by decide +kernel
theorem dX7_rot_22 : decode cX7_rot 22 = .ok (.ireturn, 1) := by decide +kernel
theorem dX7_rot_23 : decode cX7_rot 23 = .ok (.aload_n 0, 1) := by decide +kernel
theorem dX7_rot_24 : decode cX7_rot 24 = .ok (.getfield 59, 3) := by decide +kernel
theorem dX7_rot_27 : decode cX7_rot 27 = .ok (.bipush 80, 2) := by decide +kernel
theorem dX7_rot_29 : decode cX7_rot 29 = .ok (.iload_n 1, 1) := by decide +kernel
theorem dX7_rot_30 : decode cX7_rot 30 = .ok (.imul, 1) := by decide +kernel
theorem dX7_rot_31 : decode cX7_rot 31 = .ok (.iload_n 2, 1) := by decide +kernel
theorem dX7_rot_32 : decode cX7_rot 32 = .ok (.iadd, 1) := by decide +kernel
theorem dX7_rot_33 : decode cX7_rot 33 = .ok (.baload, 1) := by decide +kernel
theorem dX7_rot_34 : decode cX7_rot 34 = .ok (.istore_n 3, 1) := by decide +kernel
theorem dX7_rot_35 : decode cX7_rot 35 = .ok (.aload_n 0, 1) := by decide +kernel
theorem dX7_rot_36 : decode cX7_rot 36 = .ok (.getfield 59, 3) := by decide +kernel
theorem dX7_rot_39 : decode cX7_rot 39 = .ok (.bipush 80, 2) := by decide +kernel
theorem dX7_rot_41 : decode cX7_rot 41 = .ok (.iload_n 1, 1) := by decide +kernel
theorem dX7_rot_42 : decode cX7_rot 42 = .ok (.imul, 1) := by decide +kernel
theorem dX7_rot_43 : decode cX7_rot 43 = .ok (.iload_n 2, 1) := by decide +kernel
theorem dX7_rot_44 : decode cX7_rot 44 = .ok (.iadd, 1) := by decide +kernel
theorem dX7_rot_45 : decode cX7_rot 45 = .ok (.iconst 0, 1) := by decide +kernel
theorem dX7_rot_46 : decode cX7_rot 46 = .ok (.bastore, 1) := by decide +kernel
theorem dX7_rot_47 : decode cX7_rot 47 = .ok (.iload_n 3, 1) := by decide +kernel
theorem dX7_rot_48 : decode cX7_rot 48 = .ok (.ireturn, 1) := by decide +kernel
theorem dX7_isBase_0 : decode cX7_isBase 0 = .ok (.iconst 0, 1) := by decide +kernel
theorem dX7_isBase_1 : decode cX7_isBase 1 = .ok (.istore_n 2, 1) := by decide +kernel
theorem dX7_isBase_2 : decode cX7_isBase 2 = .ok (.iconst 0, 1) := by decide +kernel
theorem dX7_isBase_3 : decode cX7_isBase 3 = .ok (.istore_n 3, 1) := by decide +kernel
theorem dX7_isBase_4 : decode cX7_isBase 4 = .ok (.iload_n 3, 1) := by decide +kernel
theorem dX7_isBase_5 : decode cX7_isBase 5 = .ok (.aload_n 0, 1) := by decide +kernel
theorem dX7_isBase_6 : decode cX7_isBase 6 = .ok (.getfield 91, 3) := by decide +kernel
theorem dX7_isBase_9 : decode cX7_isBase 9 = .ok (.if_icmp .ge 38, 3) := by decide +kernel
theorem dX7_isBase_12 : decode cX7_isBase 12 = .ok (.iload_n 2, 1) := by decide +kernel
theorem dX7_isBase_13 : decode cX7_isBase 13 = .ok (.ifCond .ne 22, 3) := by decide +kernel
theorem dX7_isBase_16 : decode cX7_isBase 16 = .ok (.aload_n 0, 1) := by decide +kernel
theorem dX7_isBase_17 : decode cX7_isBase 17 = .ok (.getfield 53, 3) := by decide +kernel
theorem dX7_isBase_20 : decode cX7_isBase 20 = .ok (.iload_n 3, 1) := by decide +kernel
theorem dX7_isBase_21 : decode cX7_isBase 21 = .ok (.baload, 1) := by decide +kernel
theorem dX7_isBase_22 : decode cX7_isBase 22 = .ok (.ifCond .ne 17, 3) := by decide +kernel
theorem dX7_isBase_25 : decode cX7_isBase 25 = .ok (.aload_n 0, 1) := by decide +kernel
theorem dX7_isBase_26 : decode cX7_isBase 26 = .ok (.getfield 44, 3) := by decide +kernel
theorem dX7_isBase_29 : decode cX7_isBase 29 = .ok (.iload_n 3, 1) := by decide +kernel
theorem dX7_isBase_30 : decode cX7_isBase 30 = .ok (.iaload, 1) := by decide +kernel
theorem dX7_isBase_31 : decode cX7_isBase 31 = .ok (.iload_n 1, 1) := by decide +kernel
theorem dX7_isBase_32 : decode cX7_isBase 32 = .ok (.if_icmp .ne 7, 3) := by decide +kernel
theorem dX7_isBase_35 : decode cX7_isBase 35 = .ok (.iconst 1, 1) := by decide +kernel
theorem dX7_isBase_36 : decode cX7_isBase 36 = .ok (.goto 4, 3) := by decide +kernel
theorem dX7_isBase_39 : decode cX7_isBase 39 = .ok (.iconst 0, 1) := by decide +kernel
theorem dX7_isBase_40 : decode cX7_isBase 40 = .ok (.istore_n 2, 1) := by decide +kernel
theorem dX7_isBase_41 : decode cX7_isBase 41 = .ok (.iinc 3 1, 3) := by decide +kernel
theorem dX7_isBase_44 : decode cX7_isBase 44 = .ok (.goto (-40), 3) := by decide +kernel
theorem dX7_isBase_47 : decode cX7_isBase 47 = .ok (.iload_n 2, 1) := by decide +kernel
theorem dX7_isBase_48 : decode cX7_isBase 48 = .ok (.ireturn, 1) := by decide +kernel
set_option maxRecDepth 20000 in
theorem ggX7_throwAway_X7_isCopy : GoodIn wsX7_throwAway wsX7_isCopy := goodIn_r _ [7, 8, 2, 9, 10, 6, 11, 55, 56, 57, 58, 59, 60, 61, 62, 63, 64, 65, 66, 67, 68, 69, 70, 71, 72, 73, 74, 75, 76, 77, 78, 79, 80, 81, 82, 83, 84] (by decide +kernel) (by decide +kernel)
set_option maxRecDepth 20000 in
theorem gX7_throwAway_X7_isCopy : GoodIn wsX7_throwAway (wsV RX7 139 RX7 yX7_isCopy wsX7_isCopy) := goodIn_app (goodIn_of _ (by decide +kernel)) ggX7_throwAway_X7_isCopy
set_option maxRecDepth 20000 in
theorem ggX7_throwAway_X7_isBase : GoodIn wsX7_throwAway wsX7_isBase := goodIn_r _ [15, 8, 2, 16, 55, 56, 57, 58, 59, 60, 61, 62, 63, 64, 65, 66, 67, 68, 69, 70, 71, 72, 73, 74, 75, 76, 77, 78, 79, 80, 81, 82, 83, 84] (by decide +kernel) (by decide +kernel)
set_option maxRecDepth 20000 in
theorem gX7_throwAway_X7_isBase : GoodIn wsX7_throwAway (wsV RX7 152 RX7 yX7_isBase wsX7_isBase) := goodIn_app (goodIn_of _ (by decide +kernel)) ggX7_throwAway_X7_isBase
set_option maxRecDepth 20000 in
theorem ggX7_throwAway_X7_standsIn : GoodIn wsX7_throwAway wsX7_standsIn := goodIn_r _ [20, 21, 22, 23, 24, 6, 25, 26, 27, 55, 56, 57, 58, 59, 60, 61, 62, 63, 64, 65, 66, 67, 68, 69, 70, 71, 72, 73, 74, 75, 76, 77, 78, 79, 80, 81, 82, 83, 84] (by decide +kernel) (by decide +kernel)
set_option maxRecDepth 20000 in
theorem gX7_throwAway_X7_standsIn : GoodIn wsX7_throwAway (wsV RX7 146 RX7 yX7_standsIn wsX7_standsIn) := goodIn_app (goodIn_of _ (by decide +kernel)) ggX7_throwAway_X7_standsIn
set_option maxRecDepth 20000 in
theorem ggX7_throwAway_X7_holdersOf : GoodIn wsX7_throwAway wsX7_holdersOf := goodIn_r _ [31, 32, 33, 34, 35, 36, 6, 37, 38, 39, 40, 41, 42, 43, 44, 45, 9, 10, 11, 55, 56, 57, 58, 59, 60, 61, 62, 63, 64, 65, 66, 67, 68, 69, 70, 71, 72, 73, 74, 75, 76, 77, 78, 79, 80, 81, 82, 83, 84] (by decide +kernel) (by decide +kernel)
set_option maxRecDepth 20000 in
theorem gX7_throwAway_X7_holdersOf : GoodIn wsX7_throwAway (wsV RX7 155 RX7 yX7_holdersOf wsX7_holdersOf) := goodIn_app (goodIn_of _ (by decide +kernel)) ggX7_throwAway_X7_holdersOf
set_option maxRecDepth 20000 in
theorem ggX7_throwAway_X7_refused : GoodIn wsX7_throwAway wsX7_refused := goodIn_r _ [49, 50, 55, 56, 57, 58, 59, 60, 61, 62, 63, 64, 65, 66, 67, 68, 69, 70, 71, 72, 73, 74, 75, 76, 77, 78, 79, 80, 81, 82, 83, 84] (by decide +kernel) (by decide +kernel)
set_option maxRecDepth 20000 in
theorem gX7_throwAway_X7_refused : GoodIn wsX7_throwAway (wsV RX7 104 RX7 yX7_refused wsX7_refused) := goodIn_app (goodIn_of _ (by decide +kernel)) ggX7_throwAway_X7_refused
set_option maxRecDepth 20000 in
theorem ggX7_throwAway_X7_copiesThere : GoodIn wsX7_throwAway wsX7_copiesThere := goodIn_r _ [54, 8, 2, 55, 56, 57, 58, 59, 60, 61, 62, 63, 64, 65, 66, 67, 68, 69, 70, 71, 72, 73, 74, 75, 76, 77, 78, 79, 80, 81, 82, 83, 84] (by decide +kernel) (by decide +kernel)
set_option maxRecDepth 20000 in
theorem gX7_throwAway_X7_copiesThere : GoodIn wsX7_throwAway (wsV RX7 158 RX7 yX7_copiesThere wsX7_copiesThere) := goodIn_app (goodIn_of _ (by decide +kernel)) ggX7_throwAway_X7_copiesThere
theorem dX7_throwAway_0 : decode cX7_throwAway 0 = .ok (.aload_n 0, 1) := by decide +kernel
theorem dX7_throwAway_1 : decode cX7_throwAway 1 = .ok (.iload_n 1, 1) := by decide +kernel
theorem dX7_throwAway_2 : decode cX7_throwAway 2 = .ok (.invokevirtual 139, 3) := by decide +kernel
theorem dX7_throwAway_5 : decode cX7_throwAway 5 = .ok (.ifCond .eq 15, 3) := by decide +kernel
theorem dX7_throwAway_8 : decode cX7_throwAway 8 = .ok (.aload_n 0, 1) := by decide +kernel
theorem dX7_throwAway_9 : decode cX7_throwAway 9 = .ok (.iload_n 1, 1) := by decide +kernel
theorem dX7_throwAway_10 : decode cX7_throwAway 10 = .ok (.invokevirtual 152, 3) := by decide +kernel
theorem dX7_throwAway_13 : decode cX7_throwAway 13 = .ok (.ifCond .ne 7, 3) := by decide +kernel
theorem dX7_throwAway_16 : decode cX7_throwAway 16 = .ok (.iconst 1, 1) := by decide +kernel
theorem dX7_throwAway_17 : decode cX7_throwAway 17 = .ok (.goto 4, 3) := by decide +kernel
theorem dX7_throwAway_20 : decode cX7_throwAway 20 = .ok (.iconst 0, 1) := by decide +kernel
theorem dX7_throwAway_21 : decode cX7_throwAway 21 = .ok (.istore_n 2, 1) := by decide +kernel
theorem dX7_throwAway_22 : decode cX7_throwAway 22 = .ok (.iconst 0, 1) := by decide +kernel
theorem dX7_throwAway_23 : decode cX7_throwAway 23 = .ok (.istore_n 3, 1) := by decide +kernel
theorem dX7_throwAway_24 : decode cX7_throwAway 24 = .ok (.iload_n 2, 1) := by decide +kernel
theorem dX7_throwAway_25 : decode cX7_throwAway 25 = .ok (.ifCond .eq 40, 3) := by decide +kernel
theorem dX7_throwAway_28 : decode cX7_throwAway 28 = .ok (.iload_n 3, 1) := by decide +kernel
theorem dX7_throwAway_29 : decode cX7_throwAway 29 = .ok (.aload_n 0, 1) := by decide +kernel
theorem dX7_throwAway_30 : decode cX7_throwAway 30 = .ok (.getfield 88, 3) := by decide +kernel
theorem dX7_throwAway_33 : decode cX7_throwAway 33 = .ok (.if_icmp .ge 32, 3) := by decide +kernel
theorem dX7_throwAway_36 : decode cX7_throwAway 36 = .ok (.aload_n 0, 1) := by decide +kernel
theorem dX7_throwAway_37 : decode cX7_throwAway 37 = .ok (.iload_n 1, 1) := by decide +kernel
theorem dX7_throwAway_38 : decode cX7_throwAway 38 = .ok (.iload_n 3, 1) := by decide +kernel
theorem dX7_throwAway_39 : decode cX7_throwAway 39 = .ok (.invokevirtual 146, 3) := by decide +kernel
theorem dX7_throwAway_42 : decode cX7_throwAway 42 = .ok (.ifCond .eq 11, 3) := by decide +kernel
theorem dX7_throwAway_45 : decode cX7_throwAway 45 = .ok (.aload_n 0, 1) := by decide +kernel
theorem dX7_throwAway_46 : decode cX7_throwAway 46 = .ok (.iload_n 3, 1) := by decide +kernel
theorem dX7_throwAway_47 : decode cX7_throwAway 47 = .ok (.invokevirtual 155, 3) := by decide +kernel
theorem dX7_throwAway_50 : decode cX7_throwAway 50 = .ok (.ifCond .ne 7, 3) := by decide +kernel
theorem dX7_throwAway_53 : decode cX7_throwAway 53 = .ok (.iconst 1, 1) := by decide +kernel
theorem dX7_throwAway_54 : decode cX7_throwAway 54 = .ok (.goto 4, 3) := by decide +kernel
theorem dX7_throwAway_57 : decode cX7_throwAway 57 = .ok (.iconst 0, 1) := by decide +kernel
theorem dX7_throwAway_58 : decode cX7_throwAway 58 = .ok (.istore_n 2, 1) := by decide +kernel
theorem dX7_throwAway_59 : decode cX7_throwAway 59 = .ok (.iinc 3 1, 3) := by decide +kernel
theorem dX7_throwAway_62 : decode cX7_throwAway 62 = .ok (.goto (-38), 3) := by decide +kernel
theorem dX7_throwAway_65 : decode cX7_throwAway 65 = .ok (.aload_n 0, 1) := by decide +kernel
theorem dX7_throwAway_66 : decode cX7_throwAway 66 = .ok (.aload_n 0, 1) := by decide +kernel
theorem dX7_throwAway_67 : decode cX7_throwAway 67 = .ok (.iload_n 1, 1) := by decide +kernel
theorem dX7_throwAway_68 : decode cX7_throwAway 68 = .ok (.invokevirtual 139, 3) := by decide +kernel
theorem dX7_throwAway_71 : decode cX7_throwAway 71 = .ok (.ifCond .ne 7, 3) := by decide +kernel
theorem dX7_throwAway_74 : decode cX7_throwAway 74 = .ok (.iconst 1, 1) := by decide +kernel
theorem dX7_throwAway_75 : decode cX7_throwAway 75 = .ok (.goto 12, 3) := by decide +kernel
theorem dX7_throwAway_78 : decode cX7_throwAway 78 = .ok (.iload_n 2, 1) := by decide +kernel
theorem dX7_throwAway_79 : decode cX7_throwAway 79 = .ok (.ifCond .eq 7, 3) := by decide +kernel
theorem dX7_throwAway_82 : decode cX7_throwAway 82 = .ok (.iconst 0, 1) := by decide +kernel
theorem dX7_throwAway_83 : decode cX7_throwAway 83 = .ok (.goto 4, 3) := by decide +kernel
theorem dX7_throwAway_86 : decode cX7_throwAway 86 = .ok (.iconst 2, 1) := by decide +kernel
theorem dX7_throwAway_87 : decode cX7_throwAway 87 = .ok (.invokevirtual 104, 3) := by decide +kernel
theorem dX7_throwAway_90 : decode cX7_throwAway 90 = .ok (.ifCond .eq 5, 3) := by decide +kernel
theorem dX7_throwAway_93 : decode cX7_throwAway 93 = .ok (.iconst 0, 1) := by decide +kernel
theorem dX7_throwAway_94 : decode cX7_throwAway 94 = .ok (.ireturn, 1) := by decide +kernel
theorem dX7_throwAway_95 : decode cX7_throwAway 95 = .ok (.aload_n 0, 1) := by decide +kernel
theorem dX7_throwAway_96 : decode cX7_throwAway 96 = .ok (.getfield 53, 3) := by decide +kernel
theorem dX7_throwAway_99 : decode cX7_throwAway 99 = .ok (.iload_n 1, 1) := by decide +kernel
theorem dX7_throwAway_100 : decode cX7_throwAway 100 = .ok (.iconst 1, 1) := by decide +kernel
theorem dX7_throwAway_101 : decode cX7_throwAway 101 = .ok (.bastore, 1) := by decide +kernel
theorem dX7_throwAway_102 : decode cX7_throwAway 102 = .ok (.aload_n 0, 1) := by decide +kernel
theorem dX7_throwAway_103 : decode cX7_throwAway 103 = .ok (.invokevirtual 158, 3) := by decide +kernel
theorem dX7_throwAway_106 : decode cX7_throwAway 106 = .ok (.ireturn, 1) := by decide +kernel
theorem dX7_copiesThere_0 : decode cX7_copiesThere 0 = .ok (.iconst 0, 1) := by decide +kernel
theorem dX7_copiesThere_1 : decode cX7_copiesThere 1 = .ok (.istore_n 1, 1) := by decide +kernel
theorem dX7_copiesThere_2 : decode cX7_copiesThere 2 = .ok (.iconst 0, 1) := by decide +kernel
theorem dX7_copiesThere_3 : decode cX7_copiesThere 3 = .ok (.istore_n 2, 1) := by decide +kernel
theorem dX7_copiesThere_4 : decode cX7_copiesThere 4 = .ok (.iload_n 2, 1) := by decide +kernel
theorem dX7_copiesThere_5 : decode cX7_copiesThere 5 = .ok (.aload_n 0, 1) := by decide +kernel
theorem dX7_copiesThere_6 : decode cX7_copiesThere 6 = .ok (.getfield 91, 3) := by decide +kernel
theorem dX7_copiesThere_9 : decode cX7_copiesThere 9 = .ok (.if_icmp .ge 26, 3) := by decide +kernel
theorem dX7_copiesThere_12 : decode cX7_copiesThere 12 = .ok (.iload_n 1, 1) := by decide +kernel
theorem dX7_copiesThere_13 : decode cX7_copiesThere 13 = .ok (.aload_n 0, 1) := by decide +kernel
theorem dX7_copiesThere_14 : decode cX7_copiesThere 14 = .ok (.getfield 53, 3) := by decide +kernel
theorem dX7_copiesThere_17 : decode cX7_copiesThere 17 = .ok (.iload_n 2, 1) := by decide +kernel
theorem dX7_copiesThere_18 : decode cX7_copiesThere 18 = .ok (.baload, 1) := by decide +kernel
theorem dX7_copiesThere_19 : decode cX7_copiesThere 19 = .ok (.ifCond .eq 7, 3) := by decide +kernel
theorem dX7_copiesThere_22 : decode cX7_copiesThere 22 = .ok (.iconst 0, 1) := by decide +kernel
theorem dX7_copiesThere_23 : decode cX7_copiesThere 23 = .ok (.goto 4, 3) := by decide +kernel
theorem dX7_copiesThere_26 : decode cX7_copiesThere 26 = .ok (.iconst 1, 1) := by decide +kernel
theorem dX7_copiesThere_27 : decode cX7_copiesThere 27 = .ok (.iadd, 1) := by decide +kernel
theorem dX7_copiesThere_28 : decode cX7_copiesThere 28 = .ok (.istore_n 1, 1) := by decide +kernel
theorem dX7_copiesThere_29 : decode cX7_copiesThere 29 = .ok (.iinc 2 1, 3) := by decide +kernel
theorem dX7_copiesThere_32 : decode cX7_copiesThere 32 = .ok (.goto (-28), 3) := by decide +kernel
theorem dX7_copiesThere_35 : decode cX7_copiesThere 35 = .ok (.iload_n 1, 1) := by decide +kernel
theorem dX7_copiesThere_36 : decode cX7_copiesThere 36 = .ok (.ireturn, 1) := by decide +kernel
theorem dX7_isWhole_0 : decode cX7_isWhole 0 = .ok (.iconst 1, 1) := by decide +kernel
theorem dX7_isWhole_1 : decode cX7_isWhole 1 = .ok (.istore_n 2, 1) := by decide +kernel
theorem dX7_isWhole_2 : decode cX7_isWhole 2 = .ok (.iload_n 1, 1) := by decide +kernel
theorem dX7_isWhole_3 : decode cX7_isWhole 3 = .ok (.istore_n 3, 1) := by decide +kernel
theorem dX7_isWhole_4 : decode cX7_isWhole 4 = .ok (.iload_n 3, 1) := by decide +kernel
theorem dX7_isWhole_5 : decode cX7_isWhole 5 = .ok (.iconst (-1), 1) := by decide +kernel
theorem dX7_isWhole_6 : decode cX7_isWhole 6 = .ok (.if_icmp .eq 41, 3) := by decide +kernel
theorem dX7_isWhole_9 : decode cX7_isWhole 9 = .ok (.iload_n 2, 1) := by decide +kernel
theorem dX7_isWhole_10 : decode cX7_isWhole 10 = .ok (.ifCond .eq 25, 3) := by decide +kernel
theorem dX7_isWhole_13 : decode cX7_isWhole 13 = .ok (.aload_n 0, 1) := by decide +kernel
theorem dX7_isWhole_14 : decode cX7_isWhole 14 = .ok (.getfield 53, 3) := by decide +kernel
theorem dX7_isWhole_17 : decode cX7_isWhole 17 = .ok (.iload_n 3, 1) := by decide +kernel
theorem dX7_isWhole_18 : decode cX7_isWhole 18 = .ok (.baload, 1) := by decide +kernel
theorem dX7_isWhole_19 : decode cX7_isWhole 19 = .ok (.ifCond .ne 16, 3) := by decide +kernel
theorem dX7_isWhole_22 : decode cX7_isWhole 22 = .ok (.aload_n 0, 1) := by decide +kernel
theorem dX7_isWhole_23 : decode cX7_isWhole 23 = .ok (.getfield 56, 3) := by decide +kernel
theorem dX7_isWhole_26 : decode cX7_isWhole 26 = .ok (.iload_n 3, 1) := by decide +kernel
theorem dX7_isWhole_27 : decode cX7_isWhole 27 = .ok (.baload, 1) := by decide +kernel
theorem dX7_isWhole_28 : decode cX7_isWhole 28 = .ok (.ifCond .ne 7, 3) := by decide +kernel
theorem dX7_isWhole_31 : decode cX7_isWhole 31 = .ok (.iconst 1, 1) := by decide +kernel
theorem dX7_isWhole_32 : decode cX7_isWhole 32 = .ok (.goto 4, 3) := by decide +kernel
theorem dX7_isWhole_35 : decode cX7_isWhole 35 = .ok (.iconst 0, 1) := by decide +kernel
theorem dX7_isWhole_36 : decode cX7_isWhole 36 = .ok (.istore_n 2, 1) := by decide +kernel
theorem dX7_isWhole_37 : decode cX7_isWhole 37 = .ok (.aload_n 0, 1) := by decide +kernel
theorem dX7_isWhole_38 : decode cX7_isWhole 38 = .ok (.getfield 44, 3) := by decide +kernel
theorem dX7_isWhole_41 : decode cX7_isWhole 41 = .ok (.iload_n 3, 1) := by decide +kernel
theorem dX7_isWhole_42 : decode cX7_isWhole 42 = .ok (.iaload, 1) := by decide +kernel
theorem dX7_isWhole_43 : decode cX7_isWhole 43 = .ok (.istore_n 3, 1) := by decide +kernel
theorem dX7_isWhole_44 : decode cX7_isWhole 44 = .ok (.goto (-40), 3) := by decide +kernel
theorem dX7_isWhole_47 : decode cX7_isWhole 47 = .ok (.iload_n 2, 1) := by decide +kernel
theorem dX7_isWhole_48 : decode cX7_isWhole 48 = .ok (.ireturn, 1) := by decide +kernel
set_option maxRecDepth 20000 in
theorem ggX7_isTrueIn_X7_standsIn : GoodIn wsX7_isTrueIn wsX7_standsIn := goodIn_r _ [8, 9, 10, 11, 12, 7, 13, 14, 15, 16, 17, 18, 19, 20, 21, 22, 23, 24, 25, 26, 27, 28, 29, 30, 31, 32, 33, 34, 35, 36, 37, 38, 39, 40, 41, 42, 43, 44, 45] (by decide +kernel) (by decide +kernel)
set_option maxRecDepth 20000 in
theorem gX7_isTrueIn_X7_standsIn : GoodIn wsX7_isTrueIn (wsV RX7 146 RX7 yX7_standsIn wsX7_standsIn) := goodIn_app (goodIn_of _ (by decide +kernel)) ggX7_isTrueIn_X7_standsIn
theorem dX7_isTrueIn_0 : decode cX7_isTrueIn 0 = .ok (.aload_n 0, 1) := by decide +kernel
theorem dX7_isTrueIn_1 : decode cX7_isTrueIn 1 = .ok (.iload_n 1, 1) := by decide +kernel
theorem dX7_isTrueIn_2 : decode cX7_isTrueIn 2 = .ok (.iload_n 2, 1) := by decide +kernel
theorem dX7_isTrueIn_3 : decode cX7_isTrueIn 3 = .ok (.invokevirtual 146, 3) := by decide +kernel
theorem dX7_isTrueIn_6 : decode cX7_isTrueIn 6 = .ok (.istore_n 3, 1) := by decide +kernel
theorem dX7_isTrueIn_7 : decode cX7_isTrueIn 7 = .ok (.iconst 0, 1) := by decide +kernel
theorem dX7_isTrueIn_8 : decode cX7_isTrueIn 8 = .ok (.istore 4, 2) := by decide +kernel
theorem dX7_isTrueIn_10 : decode cX7_isTrueIn 10 = .ok (.iload 4, 2) := by decide +kernel
theorem dX7_isTrueIn_12 : decode cX7_isTrueIn 12 = .ok (.aload_n 0, 1) := by decide +kernel
theorem dX7_isTrueIn_13 : decode cX7_isTrueIn 13 = .ok (.getfield 22, 3) := by decide +kernel
theorem dX7_isTrueIn_16 : decode cX7_isTrueIn 16 = .ok (.iload_n 2, 1) := by decide +kernel
theorem dX7_isTrueIn_17 : decode cX7_isTrueIn 17 = .ok (.iaload, 1) := by decide +kernel
theorem dX7_isTrueIn_18 : decode cX7_isTrueIn 18 = .ok (.if_icmp .ge 49, 3) := by decide +kernel
theorem dX7_isTrueIn_21 : decode cX7_isTrueIn 21 = .ok (.iload_n 3, 1) := by decide +kernel
theorem dX7_isTrueIn_22 : decode cX7_isTrueIn 22 = .ok (.ifCond .eq 37, 3) := by decide +kernel
theorem dX7_isTrueIn_25 : decode cX7_isTrueIn 25 = .ok (.aload_n 0, 1) := by decide +kernel
theorem dX7_isTrueIn_26 : decode cX7_isTrueIn 26 = .ok (.getfield 62, 3) := by decide +kernel
theorem dX7_isTrueIn_29 : decode cX7_isTrueIn 29 = .ok (.iconst 4, 1) := by decide +kernel
theorem dX7_isTrueIn_30 : decode cX7_isTrueIn 30 = .ok (.bipush 80, 2) := by decide +kernel
theorem dX7_isTrueIn_32 : decode cX7_isTrueIn 32 = .ok (.iload_n 1, 1) := by decide +kernel
theorem dX7_isTrueIn_33 : decode cX7_isTrueIn 33 = .ok (.imul, 1) := by decide +kernel
theorem dX7_isTrueIn_34 : decode cX7_isTrueIn 34 = .ok (.iload_n 2, 1) := by decide +kernel
theorem dX7_isTrueIn_35 : decode cX7_isTrueIn 35 = .ok (.iadd, 1) := by decide +kernel
theorem dX7_isTrueIn_36 : decode cX7_isTrueIn 36 = .ok (.imul, 1) := by decide +kernel
theorem dX7_isTrueIn_37 : decode cX7_isTrueIn 37 = .ok (.iload 4, 2) := by decide +kernel
theorem dX7_isTrueIn_39 : decode cX7_isTrueIn 39 = .ok (.iadd, 1) := by decide +kernel
theorem dX7_isTrueIn_40 : decode cX7_isTrueIn 40 = .ok (.iaload, 1) := by decide +kernel
theorem dX7_isTrueIn_41 : decode cX7_isTrueIn 41 = .ok (.aload_n 0, 1) := by decide +kernel
theorem dX7_isTrueIn_42 : decode cX7_isTrueIn 42 = .ok (.getfield 28, 3) := by decide +kernel
theorem dX7_isTrueIn_45 : decode cX7_isTrueIn 45 = .ok (.iconst 4, 1) := by decide +kernel
theorem dX7_isTrueIn_46 : decode cX7_isTrueIn 46 = .ok (.iload_n 2, 1) := by decide +kernel
theorem dX7_isTrueIn_47 : decode cX7_isTrueIn 47 = .ok (.imul, 1) := by decide +kernel
theorem dX7_isTrueIn_48 : decode cX7_isTrueIn 48 = .ok (.iload 4, 2) := by decide +kernel
theorem dX7_isTrueIn_50 : decode cX7_isTrueIn 50 = .ok (.iadd, 1) := by decide +kernel
theorem dX7_isTrueIn_51 : decode cX7_isTrueIn 51 = .ok (.iaload, 1) := by decide +kernel
theorem dX7_isTrueIn_52 : decode cX7_isTrueIn 52 = .ok (.if_icmp .ne 7, 3) := by decide +kernel
theorem dX7_isTrueIn_55 : decode cX7_isTrueIn 55 = .ok (.iconst 1, 1) := by decide +kernel
theorem dX7_isTrueIn_56 : decode cX7_isTrueIn 56 = .ok (.goto 4, 3) := by decide +kernel
theorem dX7_isTrueIn_59 : decode cX7_isTrueIn 59 = .ok (.iconst 0, 1) := by decide +kernel
theorem dX7_isTrueIn_60 : decode cX7_isTrueIn 60 = .ok (.istore_n 3, 1) := by decide +kernel
theorem dX7_isTrueIn_61 : decode cX7_isTrueIn 61 = .ok (.iinc 4 1, 3) := by decide +kernel
theorem dX7_isTrueIn_64 : decode cX7_isTrueIn 64 = .ok (.goto (-54), 3) := by decide +kernel
theorem dX7_isTrueIn_67 : decode cX7_isTrueIn 67 = .ok (.iload_n 3, 1) := by decide +kernel
theorem dX7_isTrueIn_68 : decode cX7_isTrueIn 68 = .ok (.ireturn, 1) := by decide +kernel
set_option maxRecDepth 20000 in
theorem ggX7_restore_X7_isCopy : GoodIn wsX7_restore wsX7_isCopy := goodIn_r _ [10, 11, 12, 13, 14, 9, 15, 47, 48, 49, 50, 51, 52, 53, 54, 55, 56, 57, 58, 59, 60, 61, 62, 63, 64, 65, 66, 67, 68, 69, 70, 71, 72, 73, 74, 75, 76] (by decide +kernel) (by decide +kernel)
set_option maxRecDepth 20000 in
theorem gX7_restore_X7_isCopy : GoodIn wsX7_restore (wsV RX7 139 RX7 yX7_isCopy wsX7_isCopy) := goodIn_app (goodIn_of _ (by decide +kernel)) ggX7_restore_X7_isCopy
set_option maxRecDepth 20000 in
theorem ggX7_restore_X7_isWhole : GoodIn wsX7_restore wsX7_isWhole := goodIn_r _ [19, 12, 20, 5, 47, 48, 49, 50, 51, 52, 53, 54, 55, 56, 57, 58, 59, 60, 61, 62, 63, 64, 65, 66, 67, 68, 69, 70, 71, 72, 73, 74, 75, 76] (by decide +kernel) (by decide +kernel)
set_option maxRecDepth 20000 in
theorem gX7_restore_X7_isWhole : GoodIn wsX7_restore (wsV RX7 161 RX7 yX7_isWhole wsX7_isWhole) := goodIn_app (goodIn_of _ (by decide +kernel)) ggX7_restore_X7_isWhole
set_option maxRecDepth 20000 in
theorem ggX7_restore_X7_refused : GoodIn wsX7_restore wsX7_refused := goodIn_r _ [24, 25, 47, 48, 49, 50, 51, 52, 53, 54, 55, 56, 57, 58, 59, 60, 61, 62, 63, 64, 65, 66, 67, 68, 69, 70, 71, 72, 73, 74, 75, 76] (by decide +kernel) (by decide +kernel)
set_option maxRecDepth 20000 in
theorem gX7_restore_X7_refused : GoodIn wsX7_restore (wsV RX7 104 RX7 yX7_refused wsX7_refused) := goodIn_app (goodIn_of _ (by decide +kernel)) ggX7_restore_X7_refused
set_option maxRecDepth 20000 in
theorem ggX7_restore_X7_isTrueInBook : GoodIn wsX7_restore wsX7_isTrueInBook := goodIn_r _ [29, 2, 30, 3, 4, 47, 48, 49, 50, 51, 52, 53, 54, 55, 56, 57, 58, 59, 60, 61, 62, 63, 64, 65, 66, 67, 68, 69, 70, 71, 72, 73, 74, 75, 76] (by decide +kernel) (by decide +kernel)
set_option maxRecDepth 20000 in
theorem gX7_restore_X7_isTrueInBook : GoodIn wsX7_restore (wsV RX7 129 RX7 yX7_isTrueInBook wsX7_isTrueInBook) := goodIn_app (goodIn_of _ (by decide +kernel)) ggX7_restore_X7_isTrueInBook
set_option maxRecDepth 20000 in
theorem ggX7_restore_X7_isTrueIn : GoodIn wsX7_restore wsX7_isTrueIn := goodIn_r _ [34, 30, 35, 4, 36, 37, 38, 9, 39, 40, 41, 42, 43, 44, 45, 46, 47, 48, 49, 50, 51, 52, 53, 54, 55, 56, 57, 58, 59, 60, 61, 62, 63, 64, 65, 66, 67, 68, 69, 70, 71, 72, 73, 74, 75, 76] (by decide +kernel) (by decide +kernel)
set_option maxRecDepth 20000 in
theorem gX7_restore_X7_isTrueIn : GoodIn wsX7_restore (wsV RX7 164 RX7 yX7_isTrueIn wsX7_isTrueIn) := goodIn_app (goodIn_of _ (by decide +kernel)) ggX7_restore_X7_isTrueIn
theorem dX7_restore_0 : decode cX7_restore 0 = .ok (.aload_n 0, 1) := by decide +kernel
theorem dX7_restore_1 : decode cX7_restore 1 = .ok (.aload_n 0, 1) := by decide +kernel
theorem dX7_restore_2 : decode cX7_restore 2 = .ok (.iload_n 1, 1) := by decide +kernel
theorem dX7_restore_3 : decode cX7_restore 3 = .ok (.invokevirtual 139, 3) := by decide +kernel
theorem dX7_restore_6 : decode cX7_restore 6 = .ok (.ifCond .ne 7, 3) := by decide +kernel
theorem dX7_restore_9 : decode cX7_restore 9 = .ok (.iconst 1, 1) := by decide +kernel
theorem dX7_restore_10 : decode cX7_restore 10 = .ok (.goto 16, 3) := by decide +kernel
theorem dX7_restore_13 : decode cX7_restore 13 = .ok (.aload_n 0, 1) := by decide +kernel
theorem dX7_restore_14 : decode cX7_restore 14 = .ok (.iload_n 1, 1) := by decide +kernel
theorem dX7_restore_15 : decode cX7_restore 15 = .ok (.invokevirtual 161, 3) := by decide +kernel
theorem dX7_restore_18 : decode cX7_restore 18 = .ok (.ifCond .eq 7, 3) := by decide +kernel
theorem dX7_restore_21 : decode cX7_restore 21 = .ok (.iconst 0, 1) := by decide +kernel
theorem dX7_restore_22 : decode cX7_restore 22 = .ok (.goto 4, 3) := by decide +kernel
theorem dX7_restore_25 : decode cX7_restore 25 = .ok (.iconst 2, 1) := by decide +kernel
theorem dX7_restore_26 : decode cX7_restore 26 = .ok (.invokevirtual 104, 3) := by decide +kernel
theorem dX7_restore_29 : decode cX7_restore 29 = .ok (.ifCond .eq 5, 3) := by decide +kernel
theorem dX7_restore_32 : decode cX7_restore 32 = .ok (.iconst 0, 1) := by decide +kernel
theorem dX7_restore_33 : decode cX7_restore 33 = .ok (.ireturn, 1) := by decide +kernel
theorem dX7_restore_34 : decode cX7_restore 34 = .ok (.iconst 0, 1) := by decide +kernel
theorem dX7_restore_35 : decode cX7_restore 35 = .ok (.istore_n 2, 1) := by decide +kernel
theorem dX7_restore_36 : decode cX7_restore 36 = .ok (.iload_n 1, 1) := by decide +kernel
theorem dX7_restore_37 : decode cX7_restore 37 = .ok (.istore_n 3, 1) := by decide +kernel
theorem dX7_restore_38 : decode cX7_restore 38 = .ok (.iload_n 3, 1) := by decide +kernel
theorem dX7_restore_39 : decode cX7_restore 39 = .ok (.iconst (-1), 1) := by decide +kernel
theorem dX7_restore_40 : decode cX7_restore 40 = .ok (.if_icmp .eq 109, 3) := by decide +kernel
theorem dX7_restore_43 : decode cX7_restore 43 = .ok (.iconst 0, 1) := by decide +kernel
theorem dX7_restore_44 : decode cX7_restore 44 = .ok (.istore 4, 2) := by decide +kernel
theorem dX7_restore_46 : decode cX7_restore 46 = .ok (.iload 4, 2) := by decide +kernel
theorem dX7_restore_48 : decode cX7_restore 48 = .ok (.aload_n 0, 1) := by decide +kernel
theorem dX7_restore_49 : decode cX7_restore 49 = .ok (.getfield 88, 3) := by decide +kernel
theorem dX7_restore_52 : decode cX7_restore 52 = .ok (.if_icmp .ge 87, 3) := by decide +kernel
theorem dX7_restore_55 : decode cX7_restore 55 = .ok (.aload_n 0, 1) := by decide +kernel
theorem dX7_restore_56 : decode cX7_restore 56 = .ok (.getfield 34, 3) := by decide +kernel
theorem dX7_restore_59 : decode cX7_restore 59 = .ok (.iload 4, 2) := by decide +kernel
theorem dX7_restore_61 : decode cX7_restore 61 = .ok (.iaload, 1) := by decide +kernel
theorem dX7_restore_62 : decode cX7_restore 62 = .ok (.iconst 2, 1) := by decide +kernel
theorem dX7_restore_63 : decode cX7_restore 63 = .ok (.if_icmp .eq 70, 3) := by decide +kernel
theorem dX7_restore_66 : decode cX7_restore 66 = .ok (.aload_n 0, 1) := by decide +kernel
theorem dX7_restore_67 : decode cX7_restore 67 = .ok (.iload 4, 2) := by decide +kernel
theorem dX7_restore_69 : decode cX7_restore 69 = .ok (.invokevirtual 129, 3) := by decide +kernel
theorem dX7_restore_72 : decode cX7_restore 72 = .ok (.ifCond .ne 61, 3) := by decide +kernel
theorem dX7_restore_75 : decode cX7_restore 75 = .ok (.aload_n 0, 1) := by decide +kernel
theorem dX7_restore_76 : decode cX7_restore 76 = .ok (.iload_n 3, 1) := by decide +kernel
theorem dX7_restore_77 : decode cX7_restore 77 = .ok (.iload 4, 2) := by decide +kernel
theorem dX7_restore_79 : decode cX7_restore 79 = .ok (.invokevirtual 164, 3) := by decide +kernel
theorem dX7_restore_82 : decode cX7_restore 82 = .ok (.ifCond .eq 51, 3) := by decide +kernel
theorem dX7_restore_85 : decode cX7_restore 85 = .ok (.aload_n 0, 1) := by decide +kernel
theorem dX7_restore_86 : decode cX7_restore 86 = .ok (.getfield 34, 3) := by decide +kernel
theorem dX7_restore_89 : decode cX7_restore 89 = .ok (.iload 4, 2) := by decide +kernel
theorem dX7_restore_91 : decode cX7_restore 91 = .ok (.iconst 0, 1) := by decide +kernel
theorem dX7_restore_92 : decode cX7_restore 92 = .ok (.iastore, 1) := by decide +kernel
theorem dX7_restore_93 : decode cX7_restore 93 = .ok (.iconst 4, 1) := by decide +kernel
theorem dX7_restore_94 : decode cX7_restore 94 = .ok (.iload 4, 2) := by decide +kernel
theorem dX7_restore_96 : decode cX7_restore 96 = .ok (.imul, 1) := by decide +kernel
theorem dX7_restore_97 : decode cX7_restore 97 = .ok (.istore 5, 2) := by decide +kernel
theorem dX7_restore_99 : decode cX7_restore 99 = .ok (.iload 5, 2) := by decide +kernel
theorem dX7_restore_101 : decode cX7_restore 101 = .ok (.iconst 4, 1) := by decide +kernel
theorem dX7_restore_102 : decode cX7_restore 102 = .ok (.iload 4, 2) := by decide +kernel
theorem dX7_restore_104 : decode cX7_restore 104 = .ok (.imul, 1) := by decide +kernel
theorem dX7_restore_105 : decode cX7_restore 105 = .ok (.iconst 4, 1) := by decide +kernel
theorem dX7_restore_106 : decode cX7_restore 106 = .ok (.iadd, 1) := by decide +kernel
theorem dX7_restore_107 : decode cX7_restore 107 = .ok (.if_icmp .ge 23, 3) := by decide +kernel
theorem dX7_restore_110 : decode cX7_restore 110 = .ok (.aload_n 0, 1) := by decide +kernel
theorem dX7_restore_111 : decode cX7_restore 111 = .ok (.getfield 31, 3) := by decide +kernel
theorem dX7_restore_114 : decode cX7_restore 114 = .ok (.iload 5, 2) := by decide +kernel
theorem dX7_restore_116 : decode cX7_restore 116 = .ok (.aload_n 0, 1) := by decide +kernel
theorem dX7_restore_117 : decode cX7_restore 117 = .ok (.getfield 28, 3) := by decide +kernel
theorem dX7_restore_120 : decode cX7_restore 120 = .ok (.iload 5, 2) := by decide +kernel
theorem dX7_restore_122 : decode cX7_restore 122 = .ok (.iaload, 1) := by decide +kernel
theorem dX7_restore_123 : decode cX7_restore 123 = .ok (.iastore, 1) := by decide +kernel
theorem dX7_restore_124 : decode cX7_restore 124 = .ok (.iinc 5 1, 3) := by decide +kernel
theorem dX7_restore_127 : decode cX7_restore 127 = .ok (.goto (-28), 3) := by decide +kernel
theorem dX7_restore_130 : decode cX7_restore 130 = .ok (.iinc 2 1, 3) := by decide +kernel
theorem dX7_restore_133 : decode cX7_restore 133 = .ok (.iinc 4 1, 3) := by decide +kernel
theorem dX7_restore_136 : decode cX7_restore 136 = .ok (.goto (-90), 3) := by decide +kernel
theorem dX7_restore_139 : decode cX7_restore 139 = .ok (.aload_n 0, 1) := by decide +kernel
theorem dX7_restore_140 : decode cX7_restore 140 = .ok (.getfield 44, 3) := by decide +kernel
theorem dX7_restore_143 : decode cX7_restore 143 = .ok (.iload_n 3, 1) := by decide +kernel
theorem dX7_restore_144 : decode cX7_restore 144 = .ok (.iaload, 1) := by decide +kernel
theorem dX7_restore_145 : decode cX7_restore 145 = .ok (.istore_n 3, 1) := by decide +kernel
theorem dX7_restore_146 : decode cX7_restore 146 = .ok (.goto (-108), 3) := by decide +kernel
theorem dX7_restore_149 : decode cX7_restore 149 = .ok (.iload_n 2, 1) := by decide +kernel
theorem dX7_restore_150 : decode cX7_restore 150 = .ok (.ireturn, 1) := by decide +kernel
set_option maxRecDepth 20000 in
theorem ggX7_open_X7_refused : GoodIn wsX7_open wsX7_refused := goodIn_r _ [7, 8, 9, 10, 11, 12, 13, 14, 15, 16, 17, 18, 19, 20, 21, 22, 23, 24, 25, 26, 27, 28, 29, 30, 31, 32, 33, 34, 35, 36, 37, 38] (by decide +kernel) (by decide +kernel)
set_option maxRecDepth 20000 in
theorem gX7_open_X7_refused : GoodIn wsX7_open (wsV RX7 104 RX7 yX7_refused wsX7_refused) := goodIn_app (goodIn_of _ (by decide +kernel)) ggX7_open_X7_refused
theorem dX7_open_0 : decode cX7_open 0 = .ok (.aload_n 0, 1) := by decide +kernel
theorem dX7_open_1 : decode cX7_open 1 = .ok (.aload_n 0, 1) := by decide +kernel
theorem dX7_open_2 : decode cX7_open 2 = .ok (.getfield 94, 3) := by decide +kernel
theorem dX7_open_5 : decode cX7_open 5 = .ok (.bipush 8, 2) := by decide +kernel
theorem dX7_open_7 : decode cX7_open 7 = .ok (.if_icmp .ne 7, 3) := by decide +kernel
theorem dX7_open_10 : decode cX7_open 10 = .ok (.iconst 1, 1) := by decide +kernel
theorem dX7_open_11 : decode cX7_open 11 = .ok (.goto 4, 3) := by decide +kernel
theorem dX7_open_14 : decode cX7_open 14 = .ok (.iconst 0, 1) := by decide +kernel
theorem dX7_open_15 : decode cX7_open 15 = .ok (.invokevirtual 104, 3) := by decide +kernel
theorem dX7_open_18 : decode cX7_open 18 = .ok (.ifCond .eq 5, 3) := by decide +kernel
theorem dX7_open_21 : decode cX7_open 21 = .ok (.iconst 0, 1) := by decide +kernel
theorem dX7_open_22 : decode cX7_open 22 = .ok (.ireturn, 1) := by decide +kernel
theorem dX7_open_23 : decode cX7_open 23 = .ok (.aload_n 0, 1) := by decide +kernel
theorem dX7_open_24 : decode cX7_open 24 = .ok (.getfield 65, 3) := by decide +kernel
theorem dX7_open_27 : decode cX7_open 27 = .ok (.aload_n 0, 1) := by decide +kernel
theorem dX7_open_28 : decode cX7_open 28 = .ok (.getfield 94, 3) := by decide +kernel
theorem dX7_open_31 : decode cX7_open 31 = .ok (.iconst 0, 1) := by decide +kernel
theorem dX7_open_32 : decode cX7_open 32 = .ok (.bastore, 1) := by decide +kernel
theorem dX7_open_33 : decode cX7_open 33 = .ok (.aload_n 0, 1) := by decide +kernel
theorem dX7_open_34 : decode cX7_open 34 = .ok (.dup, 1) := by decide +kernel
theorem dX7_open_35 : decode cX7_open 35 = .ok (.getfield 94, 3) := by decide +kernel
theorem dX7_open_38 : decode cX7_open 38 = .ok (.iconst 1, 1) := by decide +kernel
theorem dX7_open_39 : decode cX7_open 39 = .ok (.iadd, 1) := by decide +kernel
theorem dX7_open_40 : decode cX7_open 40 = .ok (.putfield 94, 3) := by decide +kernel
theorem dX7_open_43 : decode cX7_open 43 = .ok (.aload_n 0, 1) := by decide +kernel
theorem dX7_open_44 : decode cX7_open 44 = .ok (.getfield 94, 3) := by decide +kernel
theorem dX7_open_47 : decode cX7_open 47 = .ok (.iconst 1, 1) := by decide +kernel
theorem dX7_open_48 : decode cX7_open 48 = .ok (.isub, 1) := by decide +kernel
theorem dX7_open_49 : decode cX7_open 49 = .ok (.ireturn, 1) := by decide +kernel
set_option maxRecDepth 20000 in
theorem ggX7_reaches_X7_in : GoodIn wsX7_reaches wsX7_in := goodIn_r _ [12] (by decide +kernel) (by decide +kernel)
set_option maxRecDepth 20000 in
theorem gX7_reaches_X7_in : GoodIn wsX7_reaches (va_wsS RX7 84 yX7_in wsX7_in) := goodIn_app (goodIn_of _ (by decide +kernel)) ggX7_reaches_X7_in
theorem dX7_reaches_0 : decode cX7_reaches 0 = .ok (.iconst 0, 1) := by decide +kernel
theorem dX7_reaches_1 : decode cX7_reaches 1 = .ok (.istore_n 3, 1) := by decide +kernel
theorem dX7_reaches_2 : decode cX7_reaches 2 = .ok (.iconst 0, 1) := by decide +kernel
theorem dX7_reaches_3 : decode cX7_reaches 3 = .ok (.istore 4, 2) := by decide +kernel
theorem dX7_reaches_5 : decode cX7_reaches 5 = .ok (.iload 4, 2) := by decide +kernel
theorem dX7_reaches_7 : decode cX7_reaches 7 = .ok (.aload_n 0, 1) := by decide +kernel
theorem dX7_reaches_8 : decode cX7_reaches 8 = .ok (.getfield 167, 3) := by decide +kernel
theorem dX7_reaches_11 : decode cX7_reaches 11 = .ok (.if_icmp .ge 99, 3) := by decide +kernel
theorem dX7_reaches_14 : decode cX7_reaches 14 = .ok (.iconst 4, 1) := by decide +kernel
theorem dX7_reaches_15 : decode cX7_reaches 15 = .ok (.iload_n 2, 1) := by decide +kernel
theorem dX7_reaches_16 : decode cX7_reaches 16 = .ok (.imul, 1) := by decide +kernel
theorem dX7_reaches_17 : decode cX7_reaches 17 = .ok (.istore 5, 2) := by decide +kernel
theorem dX7_reaches_19 : decode cX7_reaches 19 = .ok (.iload 5, 2) := by decide +kernel
theorem dX7_reaches_21 : decode cX7_reaches 21 = .ok (.iconst 4, 1) := by decide +kernel
theorem dX7_reaches_22 : decode cX7_reaches 22 = .ok (.iload_n 2, 1) := by decide +kernel
theorem dX7_reaches_23 : decode cX7_reaches 23 = .ok (.imul, 1) := by decide +kernel
theorem dX7_reaches_24 : decode cX7_reaches 24 = .ok (.aload_n 0, 1) := by decide +kernel
theorem dX7_reaches_25 : decode cX7_reaches 25 = .ok (.getfield 22, 3) := by decide +kernel
theorem dX7_reaches_28 : decode cX7_reaches 28 = .ok (.iload_n 2, 1) := by decide +kernel
theorem dX7_reaches_29 : decode cX7_reaches 29 = .ok (.iaload, 1) := by decide +kernel
theorem dX7_reaches_30 : decode cX7_reaches 30 = .ok (.iadd, 1) := by decide +kernel
theorem dX7_reaches_31 : decode cX7_reaches 31 = .ok (.if_icmp .ge 73, 3) := by decide +kernel
theorem dX7_reaches_34 : decode cX7_reaches 34 = .ok (.iload_n 3, 1) := by decide +kernel
theorem dX7_reaches_35 : decode cX7_reaches 35 = .ok (.ifCond .ne 57, 3) := by decide +kernel
theorem dX7_reaches_38 : decode cX7_reaches 38 = .ok (.aload_n 0, 1) := by decide +kernel
theorem dX7_reaches_39 : decode cX7_reaches 39 = .ok (.getfield 68, 3) := by decide +kernel
theorem dX7_reaches_42 : decode cX7_reaches 42 = .ok (.iload 4, 2) := by decide +kernel
theorem dX7_reaches_44 : decode cX7_reaches 44 = .ok (.iaload, 1) := by decide +kernel
theorem dX7_reaches_45 : decode cX7_reaches 45 = .ok (.iload_n 1, 1) := by decide +kernel
theorem dX7_reaches_46 : decode cX7_reaches 46 = .ok (.if_icmp .ne 50, 3) := by decide +kernel
theorem dX7_reaches_49 : decode cX7_reaches 49 = .ok (.aload_n 0, 1) := by decide +kernel
theorem dX7_reaches_50 : decode cX7_reaches 50 = .ok (.getfield 16, 3) := by decide +kernel
theorem dX7_reaches_53 : decode cX7_reaches 53 = .ok (.iload_n 2, 1) := by decide +kernel
theorem dX7_reaches_54 : decode cX7_reaches 54 = .ok (.iaload, 1) := by decide +kernel
theorem dX7_reaches_55 : decode cX7_reaches 55 = .ok (.aload_n 0, 1) := by decide +kernel
theorem dX7_reaches_56 : decode cX7_reaches 56 = .ok (.getfield 74, 3) := by decide +kernel
theorem dX7_reaches_59 : decode cX7_reaches 59 = .ok (.iload 4, 2) := by decide +kernel
theorem dX7_reaches_61 : decode cX7_reaches 61 = .ok (.iaload, 1) := by decide +kernel
theorem dX7_reaches_62 : decode cX7_reaches 62 = .ok (.aload_n 0, 1) := by decide +kernel
theorem dX7_reaches_63 : decode cX7_reaches 63 = .ok (.getfield 77, 3) := by decide +kernel
theorem dX7_reaches_66 : decode cX7_reaches 66 = .ok (.iload 4, 2) := by decide +kernel
theorem dX7_reaches_68 : decode cX7_reaches 68 = .ok (.iaload, 1) := by decide +kernel
theorem dX7_reaches_69 : decode cX7_reaches 69 = .ok (.invokestatic 84, 3) := by decide +kernel
theorem dX7_reaches_72 : decode cX7_reaches 72 = .ok (.ifCond .eq 24, 3) := by decide +kernel
theorem dX7_reaches_75 : decode cX7_reaches 75 = .ok (.aload_n 0, 1) := by decide +kernel
theorem dX7_reaches_76 : decode cX7_reaches 76 = .ok (.getfield 25, 3) := by decide +kernel
theorem dX7_reaches_79 : decode cX7_reaches 79 = .ok (.iload 5, 2) := by decide +kernel
theorem dX7_reaches_81 : decode cX7_reaches 81 = .ok (.iaload, 1) := by decide +kernel
theorem dX7_reaches_82 : decode cX7_reaches 82 = .ok (.aload_n 0, 1) := by decide +kernel
theorem dX7_reaches_83 : decode cX7_reaches 83 = .ok (.getfield 71, 3) := by decide +kernel
theorem dX7_reaches_86 : decode cX7_reaches 86 = .ok (.iload 4, 2) := by decide +kernel
theorem dX7_reaches_88 : decode cX7_reaches 88 = .ok (.iaload, 1) := by decide +kernel
theorem dX7_reaches_89 : decode cX7_reaches 89 = .ok (.if_icmp .ne 7, 3) := by decide +kernel
theorem dX7_reaches_92 : decode cX7_reaches 92 = .ok (.iconst 1, 1) := by decide +kernel
theorem dX7_reaches_93 : decode cX7_reaches 93 = .ok (.goto 4, 3) := by decide +kernel
theorem dX7_reaches_96 : decode cX7_reaches 96 = .ok (.iconst 0, 1) := by decide +kernel
theorem dX7_reaches_97 : decode cX7_reaches 97 = .ok (.istore_n 3, 1) := by decide +kernel
theorem dX7_reaches_98 : decode cX7_reaches 98 = .ok (.iinc 5 1, 3) := by decide +kernel
theorem dX7_reaches_101 : decode cX7_reaches 101 = .ok (.goto (-82), 3) := by decide +kernel
theorem dX7_reaches_104 : decode cX7_reaches 104 = .ok (.iinc 4 1, 3) := by decide +kernel
theorem dX7_reaches_107 : decode cX7_reaches 107 = .ok (.goto (-102), 3) := by decide +kernel
theorem dX7_reaches_110 : decode cX7_reaches 110 = .ok (.iload_n 3, 1) := by decide +kernel
theorem dX7_reaches_111 : decode cX7_reaches 111 = .ok (.ireturn, 1) := by decide +kernel
set_option maxRecDepth 20000 in
theorem ggX7_holdersOf_X7_reaches : GoodIn wsX7_holdersOf wsX7_reaches := goodIn_r _ [7, 8, 9, 10, 11, 12, 13, 14, 15, 16, 17, 6, 18, 19, 20, 21, 22, 23, 24, 25, 26, 27, 28, 29, 30, 31, 32, 33, 34, 35, 36, 37, 38, 39, 40, 41, 42, 43, 44, 45, 46, 47, 48] (by decide +kernel) (by decide +kernel)
set_option maxRecDepth 20000 in
theorem gX7_holdersOf_X7_reaches : GoodIn wsX7_holdersOf (wsV RX7 170 RX7 yX7_reaches wsX7_reaches) := goodIn_app (goodIn_of _ (by decide +kernel)) ggX7_holdersOf_X7_reaches
theorem dX7_holdersOf_0 : decode cX7_holdersOf 0 = .ok (.iconst 0, 1) := by decide +kernel
theorem dX7_holdersOf_1 : decode cX7_holdersOf 1 = .ok (.istore_n 2, 1) := by decide +kernel
theorem dX7_holdersOf_2 : decode cX7_holdersOf 2 = .ok (.iconst 0, 1) := by decide +kernel
theorem dX7_holdersOf_3 : decode cX7_holdersOf 3 = .ok (.istore_n 3, 1) := by decide +kernel
theorem dX7_holdersOf_4 : decode cX7_holdersOf 4 = .ok (.iload_n 3, 1) := by decide +kernel
theorem dX7_holdersOf_5 : decode cX7_holdersOf 5 = .ok (.aload_n 0, 1) := by decide +kernel
theorem dX7_holdersOf_6 : decode cX7_holdersOf 6 = .ok (.getfield 94, 3) := by decide +kernel
theorem dX7_holdersOf_9 : decode cX7_holdersOf 9 = .ok (.if_icmp .ge 37, 3) := by decide +kernel
theorem dX7_holdersOf_12 : decode cX7_holdersOf 12 = .ok (.iload_n 2, 1) := by decide +kernel
theorem dX7_holdersOf_13 : decode cX7_holdersOf 13 = .ok (.aload_n 0, 1) := by decide +kernel
theorem dX7_holdersOf_14 : decode cX7_holdersOf 14 = .ok (.getfield 65, 3) := by decide +kernel
theorem dX7_holdersOf_17 : decode cX7_holdersOf 17 = .ok (.iload_n 3, 1) := by decide +kernel
theorem dX7_holdersOf_18 : decode cX7_holdersOf 18 = .ok (.baload, 1) := by decide +kernel
theorem dX7_holdersOf_19 : decode cX7_holdersOf 19 = .ok (.ifCond .ne 18, 3) := by decide +kernel
theorem dX7_holdersOf_22 : decode cX7_holdersOf 22 = .ok (.aload_n 0, 1) := by decide +kernel
theorem dX7_holdersOf_23 : decode cX7_holdersOf 23 = .ok (.iload_n 3, 1) := by decide +kernel
theorem dX7_holdersOf_24 : decode cX7_holdersOf 24 = .ok (.iload_n 1, 1) := by decide +kernel
theorem dX7_holdersOf_25 : decode cX7_holdersOf 25 = .ok (.invokevirtual 170, 3) := by decide +kernel
theorem dX7_holdersOf_28 : decode cX7_holdersOf 28 = .ok (.ifCond .eq 9, 3) := by decide +kernel
theorem dX7_holdersOf_31 : decode cX7_holdersOf 31 = .ok (.iconst 1, 1) := by decide +kernel
theorem dX7_holdersOf_32 : decode cX7_holdersOf 32 = .ok (.iload_n 3, 1) := by decide +kernel
theorem dX7_holdersOf_33 : decode cX7_holdersOf 33 = .ok (.ishl, 1) := by decide +kernel
theorem dX7_holdersOf_34 : decode cX7_holdersOf 34 = .ok (.goto 4, 3) := by decide +kernel
theorem dX7_holdersOf_37 : decode cX7_holdersOf 37 = .ok (.iconst 0, 1) := by decide +kernel
theorem dX7_holdersOf_38 : decode cX7_holdersOf 38 = .ok (.ior, 1) := by decide +kernel
theorem dX7_holdersOf_39 : decode cX7_holdersOf 39 = .ok (.istore_n 2, 1) := by decide +kernel
theorem dX7_holdersOf_40 : decode cX7_holdersOf 40 = .ok (.iinc 3 1, 3) := by decide +kernel
theorem dX7_holdersOf_43 : decode cX7_holdersOf 43 = .ok (.goto (-39), 3) := by decide +kernel
theorem dX7_holdersOf_46 : decode cX7_holdersOf 46 = .ok (.iload_n 2, 1) := by decide +kernel
theorem dX7_holdersOf_47 : decode cX7_holdersOf 47 = .ok (.ireturn, 1) := by decide +kernel
set_option maxRecDepth 20000 in
theorem ggX7_close_X7_isCase : GoodIn wsX7_close wsX7_isCase := goodIn_r _ [7, 8, 9, 10, 6, 11, 33, 34, 35, 36, 37, 38, 39, 40, 41, 42, 43, 44, 45, 46, 47, 48, 49, 50, 51, 52, 53, 54, 55, 56, 57, 58, 59, 60, 61, 62] (by decide +kernel) (by decide +kernel)
set_option maxRecDepth 20000 in
theorem gX7_close_X7_isCase : GoodIn wsX7_close (wsV RX7 173 RX7 yX7_isCase wsX7_isCase) := goodIn_app (goodIn_of _ (by decide +kernel)) ggX7_close_X7_isCase
set_option maxRecDepth 20000 in
theorem ggX7_close_X7_refused : GoodIn wsX7_close wsX7_refused := goodIn_r _ [15, 16, 33, 34, 35, 36, 37, 38, 39, 40, 41, 42, 43, 44, 45, 46, 47, 48, 49, 50, 51, 52, 53, 54, 55, 56, 57, 58, 59, 60, 61, 62] (by decide +kernel) (by decide +kernel)
set_option maxRecDepth 20000 in
theorem gX7_close_X7_refused : GoodIn wsX7_close (wsV RX7 104 RX7 yX7_refused wsX7_refused) := goodIn_app (goodIn_of _ (by decide +kernel)) ggX7_close_X7_refused
set_option maxRecDepth 20000 in
theorem ggX7_close_X7_holdersOf : GoodIn wsX7_close wsX7_holdersOf := goodIn_r _ [20, 8, 1, 21, 22, 23, 6, 24, 25, 26, 27, 28, 29, 30, 31, 32, 9, 10, 11, 33, 34, 35, 36, 37, 38, 39, 40, 41, 42, 43, 44, 45, 46, 47, 48, 49, 50, 51, 52, 53, 54, 55, 56, 57, 58, 59, 60, 61, 62] (by decide +kernel) (by decide +kernel)
set_option maxRecDepth 20000 in
theorem gX7_close_X7_holdersOf : GoodIn wsX7_close (wsV RX7 155 RX7 yX7_holdersOf wsX7_holdersOf) := goodIn_app (goodIn_of _ (by decide +kernel)) ggX7_close_X7_holdersOf
theorem dX7_close_0 : decode cX7_close 0 = .ok (.aload_n 0, 1) := by decide +kernel
theorem dX7_close_1 : decode cX7_close 1 = .ok (.aload_n 0, 1) := by decide +kernel
theorem dX7_close_2 : decode cX7_close 2 = .ok (.iload_n 1, 1) := by decide +kernel
theorem dX7_close_3 : decode cX7_close 3 = .ok (.invokevirtual 173, 3) := by decide +kernel
theorem dX7_close_6 : decode cX7_close 6 = .ok (.ifCond .ne 7, 3) := by decide +kernel
theorem dX7_close_9 : decode cX7_close 9 = .ok (.iconst 1, 1) := by decide +kernel
theorem dX7_close_10 : decode cX7_close 10 = .ok (.goto 17, 3) := by decide +kernel
theorem dX7_close_13 : decode cX7_close 13 = .ok (.aload_n 0, 1) := by decide +kernel
theorem dX7_close_14 : decode cX7_close 14 = .ok (.getfield 65, 3) := by decide +kernel
theorem dX7_close_17 : decode cX7_close 17 = .ok (.iload_n 1, 1) := by decide +kernel
theorem dX7_close_18 : decode cX7_close 18 = .ok (.baload, 1) := by decide +kernel
theorem dX7_close_19 : decode cX7_close 19 = .ok (.ifCond .eq 7, 3) := by decide +kernel
theorem dX7_close_22 : decode cX7_close 22 = .ok (.iconst 2, 1) := by decide +kernel
theorem dX7_close_23 : decode cX7_close 23 = .ok (.goto 4, 3) := by decide +kernel
theorem dX7_close_26 : decode cX7_close 26 = .ok (.iconst 0, 1) := by decide +kernel
theorem dX7_close_27 : decode cX7_close 27 = .ok (.invokevirtual 104, 3) := by decide +kernel
theorem dX7_close_30 : decode cX7_close 30 = .ok (.ifCond .eq 5, 3) := by decide +kernel
theorem dX7_close_33 : decode cX7_close 33 = .ok (.iconst 0, 1) := by decide +kernel
theorem dX7_close_34 : decode cX7_close 34 = .ok (.ireturn, 1) := by decide +kernel
theorem dX7_close_35 : decode cX7_close 35 = .ok (.iconst 0, 1) := by decide +kernel
theorem dX7_close_36 : decode cX7_close 36 = .ok (.istore_n 2, 1) := by decide +kernel
theorem dX7_close_37 : decode cX7_close 37 = .ok (.iconst 0, 1) := by decide +kernel
theorem dX7_close_38 : decode cX7_close 38 = .ok (.istore_n 3, 1) := by decide +kernel
theorem dX7_close_39 : decode cX7_close 39 = .ok (.iload_n 3, 1) := by decide +kernel
theorem dX7_close_40 : decode cX7_close 40 = .ok (.aload_n 0, 1) := by decide +kernel
theorem dX7_close_41 : decode cX7_close 41 = .ok (.getfield 88, 3) := by decide +kernel
theorem dX7_close_44 : decode cX7_close 44 = .ok (.if_icmp .ge 28, 3) := by decide +kernel
theorem dX7_close_47 : decode cX7_close 47 = .ok (.iload_n 2, 1) := by decide +kernel
theorem dX7_close_48 : decode cX7_close 48 = .ok (.aload_n 0, 1) := by decide +kernel
theorem dX7_close_49 : decode cX7_close 49 = .ok (.iload_n 3, 1) := by decide +kernel
theorem dX7_close_50 : decode cX7_close 50 = .ok (.invokevirtual 155, 3) := by decide +kernel
theorem dX7_close_53 : decode cX7_close 53 = .ok (.iconst 1, 1) := by decide +kernel
theorem dX7_close_54 : decode cX7_close 54 = .ok (.iload_n 1, 1) := by decide +kernel
theorem dX7_close_55 : decode cX7_close 55 = .ok (.ishl, 1) := by decide +kernel
theorem dX7_close_56 : decode cX7_close 56 = .ok (.if_icmp .ne 7, 3) := by decide +kernel
theorem dX7_close_59 : decode cX7_close 59 = .ok (.iconst 1, 1) := by decide +kernel
theorem dX7_close_60 : decode cX7_close 60 = .ok (.goto 4, 3) := by decide +kernel
theorem dX7_close_63 : decode cX7_close 63 = .ok (.iconst 0, 1) := by decide +kernel
theorem dX7_close_64 : decode cX7_close 64 = .ok (.iadd, 1) := by decide +kernel
theorem dX7_close_65 : decode cX7_close 65 = .ok (.istore_n 2, 1) := by decide +kernel
theorem dX7_close_66 : decode cX7_close 66 = .ok (.iinc 3 1, 3) := by decide +kernel
theorem dX7_close_69 : decode cX7_close 69 = .ok (.goto (-30), 3) := by decide +kernel
theorem dX7_close_72 : decode cX7_close 72 = .ok (.aload_n 0, 1) := by decide +kernel
theorem dX7_close_73 : decode cX7_close 73 = .ok (.getfield 65, 3) := by decide +kernel
theorem dX7_close_76 : decode cX7_close 76 = .ok (.iload_n 1, 1) := by decide +kernel
theorem dX7_close_77 : decode cX7_close 77 = .ok (.iconst 1, 1) := by decide +kernel
theorem dX7_close_78 : decode cX7_close 78 = .ok (.bastore, 1) := by decide +kernel
theorem dX7_close_79 : decode cX7_close 79 = .ok (.iload_n 2, 1) := by decide +kernel
theorem dX7_close_80 : decode cX7_close 80 = .ok (.ireturn, 1) := by decide +kernel
set_option maxRecDepth 20000 in
theorem ggX7_hold_X7_isCase : GoodIn wsX7_hold wsX7_isCase := goodIn_r _ [12, 13, 14, 15, 11, 16, 32, 33, 34, 35, 36, 37, 38, 39, 40, 41, 42, 43, 44, 45, 46, 47, 48, 49, 50, 51, 52, 53, 54, 55, 56, 57, 58, 59, 60, 61] (by decide +kernel) (by decide +kernel)
set_option maxRecDepth 20000 in
theorem gX7_hold_X7_isCase : GoodIn wsX7_hold (wsV RX7 173 RX7 yX7_isCase wsX7_isCase) := goodIn_app (goodIn_of _ (by decide +kernel)) ggX7_hold_X7_isCase
set_option maxRecDepth 20000 in
theorem ggX7_hold_X7_isAccount : GoodIn wsX7_hold wsX7_isAccount := goodIn_r _ [19, 14, 15, 11, 16] (by decide +kernel) (by decide +kernel)
set_option maxRecDepth 20000 in
theorem gX7_hold_X7_isAccount : GoodIn wsX7_hold (va_wsS RX7 97 yX7_isAccount wsX7_isAccount) := goodIn_app (goodIn_of _ (by decide +kernel)) ggX7_hold_X7_isAccount
set_option maxRecDepth 20000 in
theorem ggX7_hold_X7_in : GoodIn wsX7_hold wsX7_in := goodIn_r _ [16] (by decide +kernel) (by decide +kernel)
set_option maxRecDepth 20000 in
theorem gX7_hold_X7_in : GoodIn wsX7_hold (va_wsS RX7 84 yX7_in wsX7_in) := goodIn_app (goodIn_of _ (by decide +kernel)) ggX7_hold_X7_in
set_option maxRecDepth 20000 in
theorem ggX7_hold_X7_refused : GoodIn wsX7_hold wsX7_refused := goodIn_r _ [23, 24, 32, 33, 34, 35, 36, 37, 38, 39, 40, 41, 42, 43, 44, 45, 46, 47, 48, 49, 50, 51, 52, 53, 54, 55, 56, 57, 58, 59, 60, 61] (by decide +kernel) (by decide +kernel)
set_option maxRecDepth 20000 in
theorem gX7_hold_X7_refused : GoodIn wsX7_hold (wsV RX7 104 RX7 yX7_refused wsX7_refused) := goodIn_app (goodIn_of _ (by decide +kernel)) ggX7_hold_X7_refused
set_option maxRecDepth 20000 in
theorem ggX7_hold_X7_reaches : GoodIn wsX7_hold wsX7_reaches := goodIn_r _ [28, 2, 29, 3, 30, 5, 6, 31, 4, 14, 15, 11, 16, 32, 33, 34, 35, 36, 37, 38, 39, 40, 41, 42, 43, 44, 45, 46, 47, 48, 49, 50, 51, 52, 53, 54, 55, 56, 57, 58, 59, 60, 61] (by decide +kernel) (by decide +kernel)
set_option maxRecDepth 20000 in
theorem gX7_hold_X7_reaches : GoodIn wsX7_hold (wsV RX7 170 RX7 yX7_reaches wsX7_reaches) := goodIn_app (goodIn_of _ (by decide +kernel)) ggX7_hold_X7_reaches
theorem dX7_hold_0 : decode cX7_hold 0 = .ok (.aload_n 0, 1) := by decide +kernel
theorem dX7_hold_1 : decode cX7_hold 1 = .ok (.iload_n 1, 1) := by decide +kernel
theorem dX7_hold_2 : decode cX7_hold 2 = .ok (.invokevirtual 173, 3) := by decide +kernel
theorem dX7_hold_5 : decode cX7_hold 5 = .ok (.ifCond .eq 14, 3) := by decide +kernel
theorem dX7_hold_8 : decode cX7_hold 8 = .ok (.iload_n 2, 1) := by decide +kernel
theorem dX7_hold_9 : decode cX7_hold 9 = .ok (.invokestatic 97, 3) := by decide +kernel
theorem dX7_hold_12 : decode cX7_hold 12 = .ok (.ifCond .eq 7, 3) := by decide +kernel
theorem dX7_hold_15 : decode cX7_hold 15 = .ok (.iconst 1, 1) := by decide +kernel
theorem dX7_hold_16 : decode cX7_hold 16 = .ok (.goto 4, 3) := by decide +kernel
theorem dX7_hold_19 : decode cX7_hold 19 = .ok (.iconst 0, 1) := by decide +kernel
theorem dX7_hold_20 : decode cX7_hold 20 = .ok (.istore 5, 2) := by decide +kernel
theorem dX7_hold_22 : decode cX7_hold 22 = .ok (.iload_n 3, 1) := by decide +kernel
theorem dX7_hold_23 : decode cX7_hold 23 = .ok (.iconst 0, 1) := by decide +kernel
theorem dX7_hold_24 : decode cX7_hold 24 = .ok (.sipush 400, 3) := by decide +kernel
theorem dX7_hold_27 : decode cX7_hold 27 = .ok (.invokestatic 84, 3) := by decide +kernel
theorem dX7_hold_30 : decode cX7_hold 30 = .ok (.ifCond .eq 19, 3) := by decide +kernel
theorem dX7_hold_33 : decode cX7_hold 33 = .ok (.iload 4, 2) := by decide +kernel
theorem dX7_hold_35 : decode cX7_hold 35 = .ok (.iload_n 3, 1) := by decide +kernel
theorem dX7_hold_36 : decode cX7_hold 36 = .ok (.sipush 400, 3) := by decide +kernel
theorem dX7_hold_39 : decode cX7_hold 39 = .ok (.invokestatic 84, 3) := by decide +kernel
theorem dX7_hold_42 : decode cX7_hold 42 = .ok (.ifCond .eq 7, 3) := by decide +kernel
theorem dX7_hold_45 : decode cX7_hold 45 = .ok (.iconst 1, 1) := by decide +kernel
theorem dX7_hold_46 : decode cX7_hold 46 = .ok (.goto 4, 3) := by decide +kernel
theorem dX7_hold_49 : decode cX7_hold 49 = .ok (.iconst 0, 1) := by decide +kernel
theorem dX7_hold_50 : decode cX7_hold 50 = .ok (.istore 6, 2) := by decide +kernel
theorem dX7_hold_52 : decode cX7_hold 52 = .ok (.iload 5, 2) := by decide +kernel
theorem dX7_hold_54 : decode cX7_hold 54 = .ok (.ifCond .eq 30, 3) := by decide +kernel
theorem dX7_hold_57 : decode cX7_hold 57 = .ok (.iload 6, 2) := by decide +kernel
theorem dX7_hold_59 : decode cX7_hold 59 = .ok (.ifCond .eq 25, 3) := by decide +kernel
theorem dX7_hold_62 : decode cX7_hold 62 = .ok (.aload_n 0, 1) := by decide +kernel
theorem dX7_hold_63 : decode cX7_hold 63 = .ok (.getfield 65, 3) := by decide +kernel
theorem dX7_hold_66 : decode cX7_hold 66 = .ok (.iload_n 1, 1) := by decide +kernel
theorem dX7_hold_67 : decode cX7_hold 67 = .ok (.baload, 1) := by decide +kernel
theorem dX7_hold_68 : decode cX7_hold 68 = .ok (.ifCond .ne 16, 3) := by decide +kernel
theorem dX7_hold_71 : decode cX7_hold 71 = .ok (.aload_n 0, 1) := by decide +kernel
theorem dX7_hold_72 : decode cX7_hold 72 = .ok (.getfield 167, 3) := by decide +kernel
theorem dX7_hold_75 : decode cX7_hold 75 = .ok (.bipush 30, 2) := by decide +kernel
theorem dX7_hold_77 : decode cX7_hold 77 = .ok (.if_icmp .ge 7, 3) := by decide +kernel
theorem dX7_hold_80 : decode cX7_hold 80 = .ok (.iconst 1, 1) := by decide +kernel
theorem dX7_hold_81 : decode cX7_hold 81 = .ok (.goto 4, 3) := by decide +kernel
theorem dX7_hold_84 : decode cX7_hold 84 = .ok (.iconst 0, 1) := by decide +kernel
theorem dX7_hold_85 : decode cX7_hold 85 = .ok (.istore 7, 2) := by decide +kernel
theorem dX7_hold_87 : decode cX7_hold 87 = .ok (.aload_n 0, 1) := by decide +kernel
theorem dX7_hold_88 : decode cX7_hold 88 = .ok (.iload 5, 2) := by decide +kernel
theorem dX7_hold_90 : decode cX7_hold 90 = .ok (.ifCond .ne 7, 3) := by decide +kernel
theorem dX7_hold_93 : decode cX7_hold 93 = .ok (.iconst 1, 1) := by decide +kernel
theorem dX7_hold_94 : decode cX7_hold 94 = .ok (.goto 22, 3) := by decide +kernel
theorem dX7_hold_97 : decode cX7_hold 97 = .ok (.iload 6, 2) := by decide +kernel
theorem dX7_hold_99 : decode cX7_hold 99 = .ok (.ifCond .ne 7, 3) := by decide +kernel
theorem dX7_hold_102 : decode cX7_hold 102 = .ok (.iconst 2, 1) := by decide +kernel
theorem dX7_hold_103 : decode cX7_hold 103 = .ok (.goto 13, 3) := by decide +kernel
theorem dX7_hold_106 : decode cX7_hold 106 = .ok (.iload 7, 2) := by decide +kernel
theorem dX7_hold_108 : decode cX7_hold 108 = .ok (.ifCond .eq 7, 3) := by decide +kernel
theorem dX7_hold_111 : decode cX7_hold 111 = .ok (.iconst 0, 1) := by decide +kernel
theorem dX7_hold_112 : decode cX7_hold 112 = .ok (.goto 4, 3) := by decide +kernel
theorem dX7_hold_115 : decode cX7_hold 115 = .ok (.iconst 3, 1) := by decide +kernel
theorem dX7_hold_116 : decode cX7_hold 116 = .ok (.invokevirtual 104, 3) := by decide +kernel
theorem dX7_hold_119 : decode cX7_hold 119 = .ok (.ifCond .eq 5, 3) := by decide +kernel
theorem dX7_hold_122 : decode cX7_hold 122 = .ok (.iconst 0, 1) := by decide +kernel
theorem dX7_hold_123 : decode cX7_hold 123 = .ok (.ireturn, 1) := by decide +kernel
theorem dX7_hold_124 : decode cX7_hold 124 = .ok (.aload_n 0, 1) := by decide +kernel
theorem dX7_hold_125 : decode cX7_hold 125 = .ok (.getfield 68, 3) := by decide +kernel
theorem dX7_hold_128 : decode cX7_hold 128 = .ok (.aload_n 0, 1) := by decide +kernel
theorem dX7_hold_129 : decode cX7_hold 129 = .ok (.getfield 167, 3) := by decide +kernel
theorem dX7_hold_132 : decode cX7_hold 132 = .ok (.iload_n 1, 1) := by decide +kernel
theorem dX7_hold_133 : decode cX7_hold 133 = .ok (.iastore, 1) := by decide +kernel
theorem dX7_hold_134 : decode cX7_hold 134 = .ok (.aload_n 0, 1) := by decide +kernel
theorem dX7_hold_135 : decode cX7_hold 135 = .ok (.getfield 71, 3) := by decide +kernel
theorem dX7_hold_138 : decode cX7_hold 138 = .ok (.aload_n 0, 1) := by decide +kernel
theorem dX7_hold_139 : decode cX7_hold 139 = .ok (.getfield 167, 3) := by decide +kernel
theorem dX7_hold_142 : decode cX7_hold 142 = .ok (.iload_n 2, 1) := by decide +kernel
theorem dX7_hold_143 : decode cX7_hold 143 = .ok (.iastore, 1) := by decide +kernel
theorem dX7_hold_144 : decode cX7_hold 144 = .ok (.aload_n 0, 1) := by decide +kernel
theorem dX7_hold_145 : decode cX7_hold 145 = .ok (.getfield 74, 3) := by decide +kernel
theorem dX7_hold_148 : decode cX7_hold 148 = .ok (.aload_n 0, 1) := by decide +kernel
theorem dX7_hold_149 : decode cX7_hold 149 = .ok (.getfield 167, 3) := by decide +kernel
theorem dX7_hold_152 : decode cX7_hold 152 = .ok (.iload_n 3, 1) := by decide +kernel
theorem dX7_hold_153 : decode cX7_hold 153 = .ok (.iastore, 1) := by decide +kernel
theorem dX7_hold_154 : decode cX7_hold 154 = .ok (.aload_n 0, 1) := by decide +kernel
theorem dX7_hold_155 : decode cX7_hold 155 = .ok (.getfield 77, 3) := by decide +kernel
theorem dX7_hold_158 : decode cX7_hold 158 = .ok (.aload_n 0, 1) := by decide +kernel
theorem dX7_hold_159 : decode cX7_hold 159 = .ok (.getfield 167, 3) := by decide +kernel
theorem dX7_hold_162 : decode cX7_hold 162 = .ok (.iload 4, 2) := by decide +kernel
theorem dX7_hold_164 : decode cX7_hold 164 = .ok (.iastore, 1) := by decide +kernel
theorem dX7_hold_165 : decode cX7_hold 165 = .ok (.aload_n 0, 1) := by decide +kernel
theorem dX7_hold_166 : decode cX7_hold 166 = .ok (.dup, 1) := by decide +kernel
theorem dX7_hold_167 : decode cX7_hold 167 = .ok (.getfield 167, 3) := by decide +kernel
theorem dX7_hold_170 : decode cX7_hold 170 = .ok (.iconst 1, 1) := by decide +kernel
theorem dX7_hold_171 : decode cX7_hold 171 = .ok (.iadd, 1) := by decide +kernel
theorem dX7_hold_172 : decode cX7_hold 172 = .ok (.putfield 167, 3) := by decide +kernel
theorem dX7_hold_175 : decode cX7_hold 175 = .ok (.iconst 0, 1) := by decide +kernel
theorem dX7_hold_176 : decode cX7_hold 176 = .ok (.istore 8, 2) := by decide +kernel
theorem dX7_hold_178 : decode cX7_hold 178 = .ok (.iconst 0, 1) := by decide +kernel
theorem dX7_hold_179 : decode cX7_hold 179 = .ok (.istore 9, 2) := by decide +kernel
theorem dX7_hold_181 : decode cX7_hold 181 = .ok (.iload 9, 2) := by decide +kernel
theorem dX7_hold_183 : decode cX7_hold 183 = .ok (.aload_n 0, 1) := by decide +kernel
theorem dX7_hold_184 : decode cX7_hold 184 = .ok (.getfield 88, 3) := by decide +kernel
theorem dX7_hold_187 : decode cX7_hold 187 = .ok (.if_icmp .ge 29, 3) := by decide +kernel
theorem dX7_hold_190 : decode cX7_hold 190 = .ok (.iload 8, 2) := by decide +kernel
theorem dX7_hold_192 : decode cX7_hold 192 = .ok (.aload_n 0, 1) := by decide +kernel
theorem dX7_hold_193 : decode cX7_hold 193 = .ok (.iload_n 1, 1) := by decide +kernel
theorem dX7_hold_194 : decode cX7_hold 194 = .ok (.iload 9, 2) := by decide +kernel
theorem dX7_hold_196 : decode cX7_hold 196 = .ok (.invokevirtual 170, 3) := by decide +kernel
theorem dX7_hold_199 : decode cX7_hold 199 = .ok (.ifCond .eq 7, 3) := by decide +kernel
theorem dX7_hold_202 : decode cX7_hold 202 = .ok (.iconst 1, 1) := by decide +kernel
theorem dX7_hold_203 : decode cX7_hold 203 = .ok (.goto 4, 3) := by decide +kernel
theorem dX7_hold_206 : decode cX7_hold 206 = .ok (.iconst 0, 1) := by decide +kernel
theorem dX7_hold_207 : decode cX7_hold 207 = .ok (.iadd, 1) := by decide +kernel
theorem dX7_hold_208 : decode cX7_hold 208 = .ok (.istore 8, 2) := by decide +kernel
theorem dX7_hold_210 : decode cX7_hold 210 = .ok (.iinc 9 1, 3) := by decide +kernel
theorem dX7_hold_213 : decode cX7_hold 213 = .ok (.goto (-32), 3) := by decide +kernel
theorem dX7_hold_216 : decode cX7_hold 216 = .ok (.iload 8, 2) := by decide +kernel
theorem dX7_hold_218 : decode cX7_hold 218 = .ok (.ireturn, 1) := by decide +kernel
set_option maxRecDepth 20000 in
theorem ggX7_may_X7_isTrueInBook : GoodIn wsX7_may wsX7_isTrueInBook := goodIn_r _ [6, 7, 8, 9, 10, 30, 31, 32, 33, 34, 35, 36, 37, 38, 39, 40, 41, 42, 43, 44, 45, 46, 47, 48, 49, 50, 51, 52, 53, 54, 55, 56, 57, 58, 59] (by decide +kernel) (by decide +kernel)
set_option maxRecDepth 20000 in
theorem gX7_may_X7_isTrueInBook : GoodIn wsX7_may (wsV RX7 129 RX7 yX7_isTrueInBook wsX7_isTrueInBook) := goodIn_app (goodIn_of _ (by decide +kernel)) ggX7_may_X7_isTrueInBook
set_option maxRecDepth 20000 in
theorem ggX7_may_X7_holdersOf : GoodIn wsX7_may wsX7_holdersOf := goodIn_r _ [14, 15, 1, 16, 17, 18, 5, 19, 20, 8, 21, 22, 23, 24, 25, 26, 27, 28, 29, 30, 31, 32, 33, 34, 35, 36, 37, 38, 39, 40, 41, 42, 43, 44, 45, 46, 47, 48, 49, 50, 51, 52, 53, 54, 55, 56, 57, 58, 59] (by decide +kernel) (by decide +kernel)
set_option maxRecDepth 20000 in
theorem gX7_may_X7_holdersOf : GoodIn wsX7_may (wsV RX7 155 RX7 yX7_holdersOf wsX7_holdersOf) := goodIn_app (goodIn_of _ (by decide +kernel)) ggX7_may_X7_holdersOf
theorem dX7_may_0 : decode cX7_may 0 = .ok (.aload_n 0, 1) := by decide +kernel
theorem dX7_may_1 : decode cX7_may 1 = .ok (.getfield 65, 3) := by decide +kernel
theorem dX7_may_4 : decode cX7_may 4 = .ok (.iload_n 1, 1) := by decide +kernel
theorem dX7_may_5 : decode cX7_may 5 = .ok (.baload, 1) := by decide +kernel
theorem dX7_may_6 : decode cX7_may 6 = .ok (.ifCond .ne 29, 3) := by decide +kernel
theorem dX7_may_9 : decode cX7_may 9 = .ok (.aload_n 0, 1) := by decide +kernel
theorem dX7_may_10 : decode cX7_may 10 = .ok (.iload_n 2, 1) := by decide +kernel
theorem dX7_may_11 : decode cX7_may 11 = .ok (.invokevirtual 129, 3) := by decide +kernel
theorem dX7_may_14 : decode cX7_may 14 = .ok (.ifCond .eq 21, 3) := by decide +kernel
theorem dX7_may_17 : decode cX7_may 17 = .ok (.aload_n 0, 1) := by decide +kernel
theorem dX7_may_18 : decode cX7_may 18 = .ok (.iload_n 2, 1) := by decide +kernel
theorem dX7_may_19 : decode cX7_may 19 = .ok (.invokevirtual 155, 3) := by decide +kernel
theorem dX7_may_22 : decode cX7_may 22 = .ok (.iconst 1, 1) := by decide +kernel
theorem dX7_may_23 : decode cX7_may 23 = .ok (.iload_n 1, 1) := by decide +kernel
theorem dX7_may_24 : decode cX7_may 24 = .ok (.ishl, 1) := by decide +kernel
theorem dX7_may_25 : decode cX7_may 25 = .ok (.iconst (-1), 1) := by decide +kernel
theorem dX7_may_26 : decode cX7_may 26 = .ok (.ixor, 1) := by decide +kernel
theorem dX7_may_27 : decode cX7_may 27 = .ok (.iand, 1) := by decide +kernel
theorem dX7_may_28 : decode cX7_may 28 = .ok (.ifCond .ne 7, 3) := by decide +kernel
theorem dX7_may_31 : decode cX7_may 31 = .ok (.iconst 1, 1) := by decide +kernel
theorem dX7_may_32 : decode cX7_may 32 = .ok (.goto 4, 3) := by decide +kernel
theorem dX7_may_35 : decode cX7_may 35 = .ok (.iconst 0, 1) := by decide +kernel
theorem dX7_may_36 : decode cX7_may 36 = .ok (.ireturn, 1) := by decide +kernel
set_option maxRecDepth 20000 in
theorem ggX7_strike_X7_isCase : GoodIn wsX7_strike wsX7_isCase := goodIn_r _ [10, 11, 12, 13, 9, 14, 62, 63, 64, 65, 66, 67, 68, 69, 70, 71, 72, 73, 74, 75, 76, 77, 78, 79, 80, 81, 82, 83, 84, 85, 86, 87, 88, 89, 90, 91] (by decide +kernel) (by decide +kernel)
set_option maxRecDepth 20000 in
theorem gX7_strike_X7_isCase : GoodIn wsX7_strike (wsV RX7 173 RX7 yX7_isCase wsX7_isCase) := goodIn_app (goodIn_of _ (by decide +kernel)) ggX7_strike_X7_isCase
set_option maxRecDepth 20000 in
theorem ggX7_strike_X7_isPage : GoodIn wsX7_strike wsX7_isPage := goodIn_r _ [18, 19, 12, 13, 9, 14, 62, 63, 64, 65, 66, 67, 68, 69, 70, 71, 72, 73, 74, 75, 76, 77, 78, 79, 80, 81, 82, 83, 84, 85, 86, 87, 88, 89, 90, 91] (by decide +kernel) (by decide +kernel)
set_option maxRecDepth 20000 in
theorem gX7_strike_X7_isPage : GoodIn wsX7_strike (wsV RX7 126 RX7 yX7_isPage wsX7_isPage) := goodIn_app (goodIn_of _ (by decide +kernel)) ggX7_strike_X7_isPage
set_option maxRecDepth 20000 in
theorem ggX7_strike_X7_may : GoodIn wsX7_strike wsX7_may := goodIn_r _ [23, 24, 25, 26, 27, 9, 28, 1, 29, 30, 31, 32, 33, 34, 35, 11, 36, 37, 38, 39, 40, 41, 42, 43, 44, 45, 46, 12, 13, 14, 62, 63, 64, 65, 66, 67, 68, 69, 70, 71, 72, 73, 74, 75, 76, 77, 78, 79, 80, 81, 82, 83, 84, 85, 86, 87, 88, 89, 90, 91] (by decide +kernel) (by decide +kernel)
set_option maxRecDepth 20000 in
theorem gX7_strike_X7_may : GoodIn wsX7_strike (wsV RX7 176 RX7 yX7_may wsX7_may) := goodIn_app (goodIn_of _ (by decide +kernel)) ggX7_strike_X7_may
set_option maxRecDepth 20000 in
theorem ggX7_strike_X7_refused : GoodIn wsX7_strike wsX7_refused := goodIn_r _ [50, 51, 62, 63, 64, 65, 66, 67, 68, 69, 70, 71, 72, 73, 74, 75, 76, 77, 78, 79, 80, 81, 82, 83, 84, 85, 86, 87, 88, 89, 90, 91] (by decide +kernel) (by decide +kernel)
set_option maxRecDepth 20000 in
theorem gX7_strike_X7_refused : GoodIn wsX7_strike (wsV RX7 104 RX7 yX7_refused wsX7_refused) := goodIn_app (goodIn_of _ (by decide +kernel)) ggX7_strike_X7_refused
set_option maxRecDepth 20000 in
theorem ggX7_strike_X7_has : GoodIn wsX7_strike wsX7_has := goodIn_r _ [55, 56, 57, 62, 63, 64, 65, 66, 67, 68, 69, 70, 71, 72, 73, 74, 75, 76, 77, 78, 79, 80, 81, 82, 83, 84, 85, 86, 87, 88, 89, 90, 91] (by decide +kernel) (by decide +kernel)
set_option maxRecDepth 20000 in
theorem gX7_strike_X7_has : GoodIn wsX7_strike (wsV RX7 142 RX7 yX7_has wsX7_has) := goodIn_app (goodIn_of _ (by decide +kernel)) ggX7_strike_X7_has
set_option maxRecDepth 20000 in
theorem ggX7_strike_X7_standsIn : GoodIn wsX7_strike wsX7_standsIn := goodIn_r _ [61, 4, 52, 53, 54, 9, 55, 56, 57, 62, 63, 64, 65, 66, 67, 68, 69, 70, 71, 72, 73, 74, 75, 76, 77, 78, 79, 80, 81, 82, 83, 84, 85, 86, 87, 88, 89, 90, 91] (by decide +kernel) (by decide +kernel)
set_option maxRecDepth 20000 in
theorem gX7_strike_X7_standsIn : GoodIn wsX7_strike (wsV RX7 146 RX7 yX7_standsIn wsX7_standsIn) := goodIn_app (goodIn_of _ (by decide +kernel)) ggX7_strike_X7_standsIn
theorem dX7_strike_0 : decode cX7_strike 0 = .ok (.aload_n 0, 1) := by decide +kernel
theorem dX7_strike_1 : decode cX7_strike 1 = .ok (.iload_n 1, 1) := by decide +kernel
theorem dX7_strike_2 : decode cX7_strike 2 = .ok (.invokevirtual 173, 3) := by decide +kernel
theorem dX7_strike_5 : decode cX7_strike 5 = .ok (.ifCond .eq 15, 3) := by decide +kernel
theorem dX7_strike_8 : decode cX7_strike 8 = .ok (.aload_n 0, 1) := by decide +kernel
theorem dX7_strike_9 : decode cX7_strike 9 = .ok (.iload_n 2, 1) := by decide +kernel
theorem dX7_strike_10 : decode cX7_strike 10 = .ok (.invokevirtual 126, 3) := by decide +kernel
theorem dX7_strike_13 : decode cX7_strike 13 = .ok (.ifCond .eq 7, 3) := by decide +kernel
theorem dX7_strike_16 : decode cX7_strike 16 = .ok (.iconst 1, 1) := by decide +kernel
theorem dX7_strike_17 : decode cX7_strike 17 = .ok (.goto 4, 3) := by decide +kernel
theorem dX7_strike_20 : decode cX7_strike 20 = .ok (.iconst 0, 1) := by decide +kernel
theorem dX7_strike_21 : decode cX7_strike 21 = .ok (.istore_n 3, 1) := by decide +kernel
theorem dX7_strike_22 : decode cX7_strike 22 = .ok (.aload_n 0, 1) := by decide +kernel
theorem dX7_strike_23 : decode cX7_strike 23 = .ok (.iload_n 3, 1) := by decide +kernel
theorem dX7_strike_24 : decode cX7_strike 24 = .ok (.ifCond .ne 7, 3) := by decide +kernel
theorem dX7_strike_27 : decode cX7_strike 27 = .ok (.iconst 1, 1) := by decide +kernel
theorem dX7_strike_28 : decode cX7_strike 28 = .ok (.goto 17, 3) := by decide +kernel
theorem dX7_strike_31 : decode cX7_strike 31 = .ok (.aload_n 0, 1) := by decide +kernel
theorem dX7_strike_32 : decode cX7_strike 32 = .ok (.iload_n 1, 1) := by decide +kernel
theorem dX7_strike_33 : decode cX7_strike 33 = .ok (.iload_n 2, 1) := by decide +kernel
theorem dX7_strike_34 : decode cX7_strike 34 = .ok (.invokevirtual 176, 3) := by decide +kernel
theorem dX7_strike_37 : decode cX7_strike 37 = .ok (.ifCond .eq 7, 3) := by decide +kernel
theorem dX7_strike_40 : decode cX7_strike 40 = .ok (.iconst 0, 1) := by decide +kernel
theorem dX7_strike_41 : decode cX7_strike 41 = .ok (.goto 4, 3) := by decide +kernel
theorem dX7_strike_44 : decode cX7_strike 44 = .ok (.iconst 2, 1) := by decide +kernel
theorem dX7_strike_45 : decode cX7_strike 45 = .ok (.invokevirtual 104, 3) := by decide +kernel
theorem dX7_strike_48 : decode cX7_strike 48 = .ok (.ifCond .eq 5, 3) := by decide +kernel
theorem dX7_strike_51 : decode cX7_strike 51 = .ok (.iconst 0, 1) := by decide +kernel
theorem dX7_strike_52 : decode cX7_strike 52 = .ok (.ireturn, 1) := by decide +kernel
theorem dX7_strike_53 : decode cX7_strike 53 = .ok (.aload_n 0, 1) := by decide +kernel
theorem dX7_strike_54 : decode cX7_strike 54 = .ok (.getfield 34, 3) := by decide +kernel
theorem dX7_strike_57 : decode cX7_strike 57 = .ok (.iload_n 2, 1) := by decide +kernel
theorem dX7_strike_58 : decode cX7_strike 58 = .ok (.iconst 2, 1) := by decide +kernel
theorem dX7_strike_59 : decode cX7_strike 59 = .ok (.iastore, 1) := by decide +kernel
theorem dX7_strike_60 : decode cX7_strike 60 = .ok (.iconst 0, 1) := by decide +kernel
theorem dX7_strike_61 : decode cX7_strike 61 = .ok (.istore 4, 2) := by decide +kernel
theorem dX7_strike_63 : decode cX7_strike 63 = .ok (.iconst 0, 1) := by decide +kernel
theorem dX7_strike_64 : decode cX7_strike 64 = .ok (.istore 5, 2) := by decide +kernel
theorem dX7_strike_66 : decode cX7_strike 66 = .ok (.iload 5, 2) := by decide +kernel
theorem dX7_strike_68 : decode cX7_strike 68 = .ok (.aload_n 0, 1) := by decide +kernel
theorem dX7_strike_69 : decode cX7_strike 69 = .ok (.getfield 91, 3) := by decide +kernel
theorem dX7_strike_72 : decode cX7_strike 72 = .ok (.if_icmp .ge 72, 3) := by decide +kernel
theorem dX7_strike_75 : decode cX7_strike 75 = .ok (.aload_n 0, 1) := by decide +kernel
theorem dX7_strike_76 : decode cX7_strike 76 = .ok (.getfield 56, 3) := by decide +kernel
theorem dX7_strike_79 : decode cX7_strike 79 = .ok (.iload 5, 2) := by decide +kernel
theorem dX7_strike_81 : decode cX7_strike 81 = .ok (.baload, 1) := by decide +kernel
theorem dX7_strike_82 : decode cX7_strike 82 = .ok (.ifCond .ne 26, 3) := by decide +kernel
theorem dX7_strike_85 : decode cX7_strike 85 = .ok (.aload_n 0, 1) := by decide +kernel
theorem dX7_strike_86 : decode cX7_strike 86 = .ok (.iload 5, 2) := by decide +kernel
theorem dX7_strike_88 : decode cX7_strike 88 = .ok (.iload_n 2, 1) := by decide +kernel
theorem dX7_strike_89 : decode cX7_strike 89 = .ok (.invokevirtual 142, 3) := by decide +kernel
theorem dX7_strike_92 : decode cX7_strike 92 = .ok (.ifCond .eq 16, 3) := by decide +kernel
theorem dX7_strike_95 : decode cX7_strike 95 = .ok (.aload_n 0, 1) := by decide +kernel
theorem dX7_strike_96 : decode cX7_strike 96 = .ok (.getfield 59, 3) := by decide +kernel
theorem dX7_strike_99 : decode cX7_strike 99 = .ok (.bipush 80, 2) := by decide +kernel
theorem dX7_strike_101 : decode cX7_strike 101 = .ok (.iload 5, 2) := by decide +kernel
theorem dX7_strike_103 : decode cX7_strike 103 = .ok (.imul, 1) := by decide +kernel
theorem dX7_strike_104 : decode cX7_strike 104 = .ok (.iload_n 2, 1) := by decide +kernel
theorem dX7_strike_105 : decode cX7_strike 105 = .ok (.iadd, 1) := by decide +kernel
theorem dX7_strike_106 : decode cX7_strike 106 = .ok (.iconst 0, 1) := by decide +kernel
theorem dX7_strike_107 : decode cX7_strike 107 = .ok (.bastore, 1) := by decide +kernel
theorem dX7_strike_108 : decode cX7_strike 108 = .ok (.iload 4, 2) := by decide +kernel
theorem dX7_strike_110 : decode cX7_strike 110 = .ok (.aload_n 0, 1) := by decide +kernel
theorem dX7_strike_111 : decode cX7_strike 111 = .ok (.getfield 53, 3) := by decide +kernel
theorem dX7_strike_114 : decode cX7_strike 114 = .ok (.iload 5, 2) := by decide +kernel
theorem dX7_strike_116 : decode cX7_strike 116 = .ok (.baload, 1) := by decide +kernel
theorem dX7_strike_117 : decode cX7_strike 117 = .ok (.ifCond .ne 17, 3) := by decide +kernel
theorem dX7_strike_120 : decode cX7_strike 120 = .ok (.aload_n 0, 1) := by decide +kernel
theorem dX7_strike_121 : decode cX7_strike 121 = .ok (.iload 5, 2) := by decide +kernel
theorem dX7_strike_123 : decode cX7_strike 123 = .ok (.iload_n 2, 1) := by decide +kernel
theorem dX7_strike_124 : decode cX7_strike 124 = .ok (.invokevirtual 146, 3) := by decide +kernel
theorem dX7_strike_127 : decode cX7_strike 127 = .ok (.ifCond .eq 7, 3) := by decide +kernel
theorem dX7_strike_130 : decode cX7_strike 130 = .ok (.iconst 1, 1) := by decide +kernel
theorem dX7_strike_131 : decode cX7_strike 131 = .ok (.goto 4, 3) := by decide +kernel
theorem dX7_strike_134 : decode cX7_strike 134 = .ok (.iconst 0, 1) := by decide +kernel
theorem dX7_strike_135 : decode cX7_strike 135 = .ok (.iadd, 1) := by decide +kernel
theorem dX7_strike_136 : decode cX7_strike 136 = .ok (.istore 4, 2) := by decide +kernel
theorem dX7_strike_138 : decode cX7_strike 138 = .ok (.iinc 5 1, 3) := by decide +kernel
theorem dX7_strike_141 : decode cX7_strike 141 = .ok (.goto (-75), 3) := by decide +kernel
theorem dX7_strike_144 : decode cX7_strike 144 = .ok (.iload 4, 2) := by decide +kernel
theorem dX7_strike_146 : decode cX7_strike 146 = .ok (.ireturn, 1) := by decide +kernel
set_option maxRecDepth 20000 in
theorem ggX7_day_X7_fine : GoodIn wsX7_day wsX7_fine := goodIn_r _ [6, 7, 8, 9, 10, 11, 12, 13, 14, 15, 16, 17, 18, 19, 20, 21, 22, 23, 24, 25, 26, 27, 28, 29, 30, 31, 32, 33, 34, 35, 36, 37] (by decide +kernel) (by decide +kernel)
set_option maxRecDepth 20000 in
theorem gX7_day_X7_fine : GoodIn wsX7_day (wsV RX7 107 RX7 yX7_fine wsX7_fine) := goodIn_app (goodIn_of _ (by decide +kernel)) ggX7_day_X7_fine
theorem dX7_day_0 : decode cX7_day 0 = .ok (.aload_n 0, 1) := by decide +kernel
theorem dX7_day_1 : decode cX7_day 1 = .ok (.aload_n 0, 1) := by decide +kernel
theorem dX7_day_2 : decode cX7_day 2 = .ok (.getfield 111, 3) := by decide +kernel
theorem dX7_day_5 : decode cX7_day 5 = .ok (.invokevirtual 107, 3) := by decide +kernel
theorem dX7_day_8 : decode cX7_day 8 = .ok (.ireturn, 1) := by decide +kernel
set_option maxRecDepth 20000 in
theorem ggX7_pages_X7_fine : GoodIn wsX7_pages wsX7_fine := goodIn_r _ [6, 7, 8, 9, 10, 11, 12, 13, 14, 15, 16, 17, 18, 19, 20, 21, 22, 23, 24, 25, 26, 27, 28, 29, 30, 31, 32, 33, 34, 35, 36, 37] (by decide +kernel) (by decide +kernel)
set_option maxRecDepth 20000 in
theorem gX7_pages_X7_fine : GoodIn wsX7_pages (wsV RX7 107 RX7 yX7_fine wsX7_fine) := goodIn_app (goodIn_of _ (by decide +kernel)) ggX7_pages_X7_fine
theorem dX7_pages_0 : decode cX7_pages 0 = .ok (.aload_n 0, 1) := by decide +kernel
theorem dX7_pages_1 : decode cX7_pages 1 = .ok (.aload_n 0, 1) := by decide +kernel
theorem dX7_pages_2 : decode cX7_pages 2 = .ok (.getfield 88, 3) := by decide +kernel
theorem dX7_pages_5 : decode cX7_pages 5 = .ok (.invokevirtual 107, 3) := by decide +kernel
theorem dX7_pages_8 : decode cX7_pages 8 = .ok (.ireturn, 1) := by decide +kernel
set_option maxRecDepth 20000 in
theorem ggX7_noPage_X7_isPage : GoodIn wsX7_noPage wsX7_isPage := goodIn_r _ [5, 6, 7, 8, 4, 9, 15, 16, 17, 18, 19, 20, 21, 22, 23, 24, 25, 26, 27, 28, 29, 30, 31, 32, 33, 34, 35, 36, 37, 38, 39, 40, 41, 42, 43, 44] (by decide +kernel) (by decide +kernel)
set_option maxRecDepth 20000 in
theorem gX7_noPage_X7_isPage : GoodIn wsX7_noPage (wsV RX7 126 RX7 yX7_isPage wsX7_isPage) := goodIn_app (goodIn_of _ (by decide +kernel)) ggX7_noPage_X7_isPage
set_option maxRecDepth 20000 in
theorem ggX7_noPage_X7_refused : GoodIn wsX7_noPage wsX7_refused := goodIn_r _ [13, 14, 15, 16, 17, 18, 19, 20, 21, 22, 23, 24, 25, 26, 27, 28, 29, 30, 31, 32, 33, 34, 35, 36, 37, 38, 39, 40, 41, 42, 43, 44] (by decide +kernel) (by decide +kernel)
set_option maxRecDepth 20000 in
theorem gX7_noPage_X7_refused : GoodIn wsX7_noPage (wsV RX7 104 RX7 yX7_refused wsX7_refused) := goodIn_app (goodIn_of _ (by decide +kernel)) ggX7_noPage_X7_refused
theorem dX7_noPage_0 : decode cX7_noPage 0 = .ok (.aload_n 0, 1) := by decide +kernel
theorem dX7_noPage_1 : decode cX7_noPage 1 = .ok (.aload_n 0, 1) := by decide +kernel
theorem dX7_noPage_2 : decode cX7_noPage 2 = .ok (.iload_n 1, 1) := by decide +kernel
theorem dX7_noPage_3 : decode cX7_noPage 3 = .ok (.invokevirtual 126, 3) := by decide +kernel
theorem dX7_noPage_6 : decode cX7_noPage 6 = .ok (.ifCond .eq 7, 3) := by decide +kernel
theorem dX7_noPage_9 : decode cX7_noPage 9 = .ok (.iconst 0, 1) := by decide +kernel
theorem dX7_noPage_10 : decode cX7_noPage 10 = .ok (.goto 4, 3) := by decide +kernel
theorem dX7_noPage_13 : decode cX7_noPage 13 = .ok (.iconst 1, 1) := by decide +kernel
theorem dX7_noPage_14 : decode cX7_noPage 14 = .ok (.invokevirtual 104, 3) := by decide +kernel
theorem dX7_noPage_17 : decode cX7_noPage 17 = .ok (.ireturn, 1) := by decide +kernel
set_option maxRecDepth 20000 in
theorem ggX7_state_X7_noPage : GoodIn wsX7_state wsX7_noPage := goodIn_r _ [6, 7, 8, 9, 5, 10, 11, 12, 13, 14, 15, 16, 17, 18, 19, 20, 21, 22, 23, 24, 25, 26, 27, 28, 29, 30, 31, 32, 33, 34, 35, 36, 37, 38, 39, 40, 41, 42, 43, 44, 45, 46, 47, 48, 49] (by decide +kernel) (by decide +kernel)
set_option maxRecDepth 20000 in
theorem gX7_state_X7_noPage : GoodIn wsX7_state (wsV RX7 179 RX7 yX7_noPage wsX7_noPage) := goodIn_app (goodIn_of _ (by decide +kernel)) ggX7_state_X7_noPage
theorem dX7_state_0 : decode cX7_state 0 = .ok (.aload_n 0, 1) := by decide +kernel
theorem dX7_state_1 : decode cX7_state 1 = .ok (.iload_n 1, 1) := by decide +kernel
theorem dX7_state_2 : decode cX7_state 2 = .ok (.invokevirtual 179, 3) := by decide +kernel
theorem dX7_state_5 : decode cX7_state 5 = .ok (.ifCond .eq 7, 3) := by decide +kernel
theorem dX7_state_8 : decode cX7_state 8 = .ok (.iconst 0, 1) := by decide +kernel
theorem dX7_state_9 : decode cX7_state 9 = .ok (.goto 9, 3) := by decide +kernel
theorem dX7_state_12 : decode cX7_state 12 = .ok (.aload_n 0, 1) := by decide +kernel
theorem dX7_state_13 : decode cX7_state 13 = .ok (.getfield 34, 3) := by decide +kernel
theorem dX7_state_16 : decode cX7_state 16 = .ok (.iload_n 1, 1) := by decide +kernel
theorem dX7_state_17 : decode cX7_state 17 = .ok (.iaload, 1) := by decide +kernel
theorem dX7_state_18 : decode cX7_state 18 = .ok (.ireturn, 1) := by decide +kernel
set_option maxRecDepth 20000 in
theorem ggX7_isTrue_X7_noPage : GoodIn wsX7_isTrue wsX7_noPage := goodIn_r _ [5, 6, 7, 8, 4, 9, 10, 11, 12, 13, 14, 15, 16, 17, 18, 27, 28, 29, 30, 31, 32, 33, 34, 35, 36, 37, 38, 39, 40, 41, 42, 43, 44, 45, 46, 47, 48, 49, 50, 51, 52, 53, 54, 55, 56] (by decide +kernel) (by decide +kernel)
set_option maxRecDepth 20000 in
theorem gX7_isTrue_X7_noPage : GoodIn wsX7_isTrue (wsV RX7 179 RX7 yX7_noPage wsX7_noPage) := goodIn_app (goodIn_of _ (by decide +kernel)) ggX7_isTrue_X7_noPage
set_option maxRecDepth 20000 in
theorem ggX7_isTrue_X7_isTrueInBook : GoodIn wsX7_isTrue wsX7_isTrueInBook := goodIn_r _ [22, 23, 24, 25, 26, 27, 28, 29, 30, 31, 32, 33, 34, 35, 36, 37, 38, 39, 40, 41, 42, 43, 44, 45, 46, 47, 48, 49, 50, 51, 52, 53, 54, 55, 56] (by decide +kernel) (by decide +kernel)
set_option maxRecDepth 20000 in
theorem gX7_isTrue_X7_isTrueInBook : GoodIn wsX7_isTrue (wsV RX7 129 RX7 yX7_isTrueInBook wsX7_isTrueInBook) := goodIn_app (goodIn_of _ (by decide +kernel)) ggX7_isTrue_X7_isTrueInBook
theorem dX7_isTrue_0 : decode cX7_isTrue 0 = .ok (.aload_n 0, 1) := by decide +kernel
theorem dX7_isTrue_1 : decode cX7_isTrue 1 = .ok (.iload_n 1, 1) := by decide +kernel
theorem dX7_isTrue_2 : decode cX7_isTrue 2 = .ok (.invokevirtual 179, 3) := by decide +kernel
theorem dX7_isTrue_5 : decode cX7_isTrue 5 = .ok (.ifCond .ne 15, 3) := by decide +kernel
theorem dX7_isTrue_8 : decode cX7_isTrue 8 = .ok (.aload_n 0, 1) := by decide +kernel
theorem dX7_isTrue_9 : decode cX7_isTrue 9 = .ok (.iload_n 1, 1) := by decide +kernel
theorem dX7_isTrue_10 : decode cX7_isTrue 10 = .ok (.invokevirtual 129, 3) := by decide +kernel
theorem dX7_isTrue_13 : decode cX7_isTrue 13 = .ok (.ifCond .eq 7, 3) := by decide +kernel
theorem dX7_isTrue_16 : decode cX7_isTrue 16 = .ok (.iconst 1, 1) := by decide +kernel
theorem dX7_isTrue_17 : decode cX7_isTrue 17 = .ok (.goto 4, 3) := by decide +kernel
theorem dX7_isTrue_20 : decode cX7_isTrue 20 = .ok (.iconst 0, 1) := by decide +kernel
theorem dX7_isTrue_21 : decode cX7_isTrue 21 = .ok (.ireturn, 1) := by decide +kernel
set_option maxRecDepth 20000 in
theorem ggX7_text_X7_noPage : GoodIn wsX7_text wsX7_noPage := goodIn_r _ [7, 8, 9, 10, 6, 11, 12, 13, 14, 15, 16, 17, 18, 19, 20, 21, 22, 23, 24, 25, 26, 27, 28, 29, 30, 31, 32, 33, 34, 35, 36, 37, 38, 39, 40, 41, 42, 43, 44, 45, 46, 47, 48, 49, 50] (by decide +kernel) (by decide +kernel)
set_option maxRecDepth 20000 in
theorem gX7_text_X7_noPage : GoodIn wsX7_text (wsV RX7 179 RX7 yX7_noPage wsX7_noPage) := goodIn_app (goodIn_of _ (by decide +kernel)) ggX7_text_X7_noPage
theorem dX7_text_0 : decode cX7_text 0 = .ok (.aload_n 0, 1) := by decide +kernel
theorem dX7_text_1 : decode cX7_text 1 = .ok (.iload_n 1, 1) := by decide +kernel
theorem dX7_text_2 : decode cX7_text 2 = .ok (.invokevirtual 179, 3) := by decide +kernel
theorem dX7_text_5 : decode cX7_text 5 = .ok (.ifCond .eq 7, 3) := by decide +kernel
theorem dX7_text_8 : decode cX7_text 8 = .ok (.iconst 0, 1) := by decide +kernel
theorem dX7_text_9 : decode cX7_text 9 = .ok (.goto 22, 3) := by decide +kernel
theorem dX7_text_12 : decode cX7_text 12 = .ok (.aload_n 0, 1) := by decide +kernel
theorem dX7_text_13 : decode cX7_text 13 = .ok (.getfield 34, 3) := by decide +kernel
theorem dX7_text_16 : decode cX7_text 16 = .ok (.iload_n 1, 1) := by decide +kernel
theorem dX7_text_17 : decode cX7_text 17 = .ok (.iaload, 1) := by decide +kernel
theorem dX7_text_18 : decode cX7_text 18 = .ok (.ifCond .ne 12, 3) := by decide +kernel
theorem dX7_text_21 : decode cX7_text 21 = .ok (.aload_n 0, 1) := by decide +kernel
theorem dX7_text_22 : decode cX7_text 22 = .ok (.getfield 19, 3) := by decide +kernel
theorem dX7_text_25 : decode cX7_text 25 = .ok (.iload_n 1, 1) := by decide +kernel
theorem dX7_text_26 : decode cX7_text 26 = .ok (.iaload, 1) := by decide +kernel
theorem dX7_text_27 : decode cX7_text 27 = .ok (.goto 4, 3) := by decide +kernel
theorem dX7_text_30 : decode cX7_text 30 = .ok (.iconst (-1), 1) := by decide +kernel
theorem dX7_text_31 : decode cX7_text 31 = .ok (.ireturn, 1) := by decide +kernel
theorem dX7_marked_0 : decode cX7_marked 0 = .ok (.sipush 131, 3) := by decide +kernel
theorem dX7_marked_3 : decode cX7_marked 3 = .ok (.iload_n 0, 1) := by decide +kernel
theorem dX7_marked_4 : decode cX7_marked 4 = .ok (.imul, 1) := by decide +kernel
theorem dX7_marked_5 : decode cX7_marked 5 = .ok (.bipush 17, 2) := by decide +kernel
theorem dX7_marked_7 : decode cX7_marked 7 = .ok (.iload_n 1, 1) := by decide +kernel
theorem dX7_marked_8 : decode cX7_marked 8 = .ok (.imul, 1) := by decide +kernel
theorem dX7_marked_9 : decode cX7_marked 9 = .ok (.iadd, 1) := by decide +kernel
theorem dX7_marked_10 : decode cX7_marked 10 = .ok (.bipush 7, 2) := by decide +kernel
theorem dX7_marked_12 : decode cX7_marked 12 = .ok (.iadd, 1) := by decide +kernel
theorem dX7_marked_13 : decode cX7_marked 13 = .ok (.ldc 182, 2) := by decide +kernel
theorem dX7_marked_15 : decode cX7_marked 15 = .ok (.irem, 1) := by decide +kernel
theorem dX7_marked_16 : decode cX7_marked 16 = .ok (.ireturn, 1) := by decide +kernel
set_option maxRecDepth 20000 in
theorem ggX7_markOf_X7_marked : GoodIn wsX7_markOf wsX7_marked := goodIn_r _ [9, 10] (by decide +kernel) (by decide +kernel)
set_option maxRecDepth 20000 in
theorem gX7_markOf_X7_marked : GoodIn wsX7_markOf (va_wsS RX7 183 yX7_marked wsX7_marked) := goodIn_app (goodIn_of _ (by decide +kernel)) ggX7_markOf_X7_marked
theorem dX7_markOf_0 : decode cX7_markOf 0 = .ok (.iconst 1, 1) := by decide +kernel
theorem dX7_markOf_1 : decode cX7_markOf 1 = .ok (.aload_n 0, 1) := by decide +kernel
theorem dX7_markOf_2 : decode cX7_markOf 2 = .ok (.getfield 16, 3) := by decide +kernel
theorem dX7_markOf_5 : decode cX7_markOf 5 = .ok (.iload_n 1, 1) := by decide +kernel
theorem dX7_markOf_6 : decode cX7_markOf 6 = .ok (.iaload, 1) := by decide +kernel
theorem dX7_markOf_7 : decode cX7_markOf 7 = .ok (.invokestatic 183, 3) := by decide +kernel
theorem dX7_markOf_10 : decode cX7_markOf 10 = .ok (.aload_n 0, 1) := by decide +kernel
theorem dX7_markOf_11 : decode cX7_markOf 11 = .ok (.getfield 19, 3) := by decide +kernel
theorem dX7_markOf_14 : decode cX7_markOf 14 = .ok (.iload_n 1, 1) := by decide +kernel
theorem dX7_markOf_15 : decode cX7_markOf 15 = .ok (.iaload, 1) := by decide +kernel
theorem dX7_markOf_16 : decode cX7_markOf 16 = .ok (.invokestatic 183, 3) := by decide +kernel
theorem dX7_markOf_19 : decode cX7_markOf 19 = .ok (.istore_n 2, 1) := by decide +kernel
theorem dX7_markOf_20 : decode cX7_markOf 20 = .ok (.iconst 4, 1) := by decide +kernel
theorem dX7_markOf_21 : decode cX7_markOf 21 = .ok (.iload_n 1, 1) := by decide +kernel
theorem dX7_markOf_22 : decode cX7_markOf 22 = .ok (.imul, 1) := by decide +kernel
theorem dX7_markOf_23 : decode cX7_markOf 23 = .ok (.istore_n 3, 1) := by decide +kernel
theorem dX7_markOf_24 : decode cX7_markOf 24 = .ok (.iload_n 3, 1) := by decide +kernel
theorem dX7_markOf_25 : decode cX7_markOf 25 = .ok (.iconst 4, 1) := by decide +kernel
theorem dX7_markOf_26 : decode cX7_markOf 26 = .ok (.iload_n 1, 1) := by decide +kernel
theorem dX7_markOf_27 : decode cX7_markOf 27 = .ok (.imul, 1) := by decide +kernel
theorem dX7_markOf_28 : decode cX7_markOf 28 = .ok (.aload_n 0, 1) := by decide +kernel
theorem dX7_markOf_29 : decode cX7_markOf 29 = .ok (.getfield 22, 3) := by decide +kernel
theorem dX7_markOf_32 : decode cX7_markOf 32 = .ok (.iload_n 1, 1) := by decide +kernel
theorem dX7_markOf_33 : decode cX7_markOf 33 = .ok (.iaload, 1) := by decide +kernel
theorem dX7_markOf_34 : decode cX7_markOf 34 = .ok (.iadd, 1) := by decide +kernel
theorem dX7_markOf_35 : decode cX7_markOf 35 = .ok (.if_icmp .ge 33, 3) := by decide +kernel
theorem dX7_markOf_38 : decode cX7_markOf 38 = .ok (.iload_n 2, 1) := by decide +kernel
theorem dX7_markOf_39 : decode cX7_markOf 39 = .ok (.aload_n 0, 1) := by decide +kernel
theorem dX7_markOf_40 : decode cX7_markOf 40 = .ok (.getfield 25, 3) := by decide +kernel
theorem dX7_markOf_43 : decode cX7_markOf 43 = .ok (.iload_n 3, 1) := by decide +kernel
theorem dX7_markOf_44 : decode cX7_markOf 44 = .ok (.iaload, 1) := by decide +kernel
theorem dX7_markOf_45 : decode cX7_markOf 45 = .ok (.invokestatic 183, 3) := by decide +kernel
theorem dX7_markOf_48 : decode cX7_markOf 48 = .ok (.aload_n 0, 1) := by decide +kernel
theorem dX7_markOf_49 : decode cX7_markOf 49 = .ok (.getfield 28, 3) := by decide +kernel
theorem dX7_markOf_52 : decode cX7_markOf 52 = .ok (.iload_n 3, 1) := by decide +kernel
theorem dX7_markOf_53 : decode cX7_markOf 53 = .ok (.iaload, 1) := by decide +kernel
theorem dX7_markOf_54 : decode cX7_markOf 54 = .ok (.sipush 10000, 3) := by decide +kernel
theorem dX7_markOf_57 : decode cX7_markOf 57 = .ok (.iadd, 1) := by decide +kernel
theorem dX7_markOf_58 : decode cX7_markOf 58 = .ok (.invokestatic 183, 3) := by decide +kernel
theorem dX7_markOf_61 : decode cX7_markOf 61 = .ok (.istore_n 2, 1) := by decide +kernel
theorem dX7_markOf_62 : decode cX7_markOf 62 = .ok (.iinc 3 1, 3) := by decide +kernel
theorem dX7_markOf_65 : decode cX7_markOf 65 = .ok (.goto (-41), 3) := by decide +kernel
theorem dX7_markOf_68 : decode cX7_markOf 68 = .ok (.iload_n 2, 1) := by decide +kernel
theorem dX7_markOf_69 : decode cX7_markOf 69 = .ok (.ireturn, 1) := by decide +kernel
set_option maxRecDepth 20000 in
theorem ggX7_mark_X7_noPage : GoodIn wsX7_mark wsX7_noPage := goodIn_r _ [5, 6, 7, 8, 4, 9, 10, 11, 12, 13, 14, 15, 16, 17, 18, 32, 33, 34, 35, 36, 37, 38, 39, 40, 41, 42, 43, 44, 45, 46, 47, 48, 49, 50, 51, 52, 53, 54, 55, 56, 57, 58, 59, 60, 61] (by decide +kernel) (by decide +kernel)
set_option maxRecDepth 20000 in
theorem gX7_mark_X7_noPage : GoodIn wsX7_mark (wsV RX7 179 RX7 yX7_noPage wsX7_noPage) := goodIn_app (goodIn_of _ (by decide +kernel)) ggX7_mark_X7_noPage
set_option maxRecDepth 20000 in
theorem ggX7_mark_X7_markOf : GoodIn wsX7_mark wsX7_markOf := goodIn_r _ [22, 23, 24, 25, 26, 27, 28, 29, 4, 30, 31, 32, 33, 34, 35, 36, 37, 38, 39, 40, 41, 42, 43, 44, 45, 46, 47, 48, 49, 50, 51, 52, 53, 54, 55, 56, 57, 58, 59, 60, 61] (by decide +kernel) (by decide +kernel)
set_option maxRecDepth 20000 in
theorem gX7_mark_X7_markOf : GoodIn wsX7_mark (wsV RX7 186 RX7 yX7_markOf wsX7_markOf) := goodIn_app (goodIn_of _ (by decide +kernel)) ggX7_mark_X7_markOf
theorem dX7_mark_0 : decode cX7_mark 0 = .ok (.aload_n 0, 1) := by decide +kernel
theorem dX7_mark_1 : decode cX7_mark 1 = .ok (.iload_n 1, 1) := by decide +kernel
theorem dX7_mark_2 : decode cX7_mark 2 = .ok (.invokevirtual 179, 3) := by decide +kernel
theorem dX7_mark_5 : decode cX7_mark 5 = .ok (.ifCond .eq 7, 3) := by decide +kernel
theorem dX7_mark_8 : decode cX7_mark 8 = .ok (.iconst 0, 1) := by decide +kernel
theorem dX7_mark_9 : decode cX7_mark 9 = .ok (.goto 8, 3) := by decide +kernel
theorem dX7_mark_12 : decode cX7_mark 12 = .ok (.aload_n 0, 1) := by decide +kernel
theorem dX7_mark_13 : decode cX7_mark 13 = .ok (.iload_n 1, 1) := by decide +kernel
theorem dX7_mark_14 : decode cX7_mark 14 = .ok (.invokevirtual 186, 3) := by decide +kernel
theorem dX7_mark_17 : decode cX7_mark 17 = .ok (.ireturn, 1) := by decide +kernel
set_option maxRecDepth 20000 in
theorem ggX7_reversal_X7_noPage : GoodIn wsX7_reversal wsX7_noPage := goodIn_r _ [6, 7, 8, 9, 5, 10, 11, 12, 13, 14, 15, 16, 17, 18, 19, 20, 21, 22, 23, 24, 25, 26, 27, 28, 29, 30, 31, 32, 33, 34, 35, 36, 37, 38, 39, 40, 41, 42, 43, 44, 45, 46, 47, 48, 49] (by decide +kernel) (by decide +kernel)
set_option maxRecDepth 20000 in
theorem gX7_reversal_X7_noPage : GoodIn wsX7_reversal (wsV RX7 179 RX7 yX7_noPage wsX7_noPage) := goodIn_app (goodIn_of _ (by decide +kernel)) ggX7_reversal_X7_noPage
theorem dX7_reversal_0 : decode cX7_reversal 0 = .ok (.aload_n 0, 1) := by decide +kernel
theorem dX7_reversal_1 : decode cX7_reversal 1 = .ok (.iload_n 1, 1) := by decide +kernel
theorem dX7_reversal_2 : decode cX7_reversal 2 = .ok (.invokevirtual 179, 3) := by decide +kernel
theorem dX7_reversal_5 : decode cX7_reversal 5 = .ok (.ifCond .eq 7, 3) := by decide +kernel
theorem dX7_reversal_8 : decode cX7_reversal 8 = .ok (.iconst 0, 1) := by decide +kernel
theorem dX7_reversal_9 : decode cX7_reversal 9 = .ok (.goto 9, 3) := by decide +kernel
theorem dX7_reversal_12 : decode cX7_reversal 12 = .ok (.aload_n 0, 1) := by decide +kernel
theorem dX7_reversal_13 : decode cX7_reversal 13 = .ok (.getfield 37, 3) := by decide +kernel
theorem dX7_reversal_16 : decode cX7_reversal 16 = .ok (.iload_n 1, 1) := by decide +kernel
theorem dX7_reversal_17 : decode cX7_reversal 17 = .ok (.iaload, 1) := by decide +kernel
theorem dX7_reversal_18 : decode cX7_reversal 18 = .ok (.ireturn, 1) := by decide +kernel
set_option maxRecDepth 20000 in
theorem ggX7_proves_X7_isPage : GoodIn wsX7_proves wsX7_isPage := goodIn_r _ [9, 10, 11, 12, 8, 13, 31, 32, 33, 34, 35, 36, 37, 38, 39, 40, 41, 42, 43, 44, 45, 46, 47, 48, 49, 50, 51, 52, 53, 54, 55, 56, 57, 58, 59, 60] (by decide +kernel) (by decide +kernel)
set_option maxRecDepth 20000 in
theorem gX7_proves_X7_isPage : GoodIn wsX7_proves (wsV RX7 126 RX7 yX7_isPage wsX7_isPage) := goodIn_app (goodIn_of _ (by decide +kernel)) ggX7_proves_X7_isPage
set_option maxRecDepth 20000 in
theorem ggX7_proves_X7_in : GoodIn wsX7_proves wsX7_in := goodIn_r _ [13] (by decide +kernel) (by decide +kernel)
set_option maxRecDepth 20000 in
theorem gX7_proves_X7_in : GoodIn wsX7_proves (va_wsS RX7 84 yX7_in wsX7_in) := goodIn_app (goodIn_of _ (by decide +kernel)) ggX7_proves_X7_in
set_option maxRecDepth 20000 in
theorem ggX7_proves_X7_refused : GoodIn wsX7_proves wsX7_refused := goodIn_r _ [17, 18, 31, 32, 33, 34, 35, 36, 37, 38, 39, 40, 41, 42, 43, 44, 45, 46, 47, 48, 49, 50, 51, 52, 53, 54, 55, 56, 57, 58, 59, 60] (by decide +kernel) (by decide +kernel)
set_option maxRecDepth 20000 in
theorem gX7_proves_X7_refused : GoodIn wsX7_proves (wsV RX7 104 RX7 yX7_refused wsX7_refused) := goodIn_app (goodIn_of _ (by decide +kernel)) ggX7_proves_X7_refused
set_option maxRecDepth 20000 in
theorem ggX7_proves_X7_marked : GoodIn wsX7_proves wsX7_marked := goodIn_r _ [21, 22] (by decide +kernel) (by decide +kernel)
set_option maxRecDepth 20000 in
theorem gX7_proves_X7_marked : GoodIn wsX7_proves (va_wsS RX7 183 yX7_marked wsX7_marked) := goodIn_app (goodIn_of _ (by decide +kernel)) ggX7_proves_X7_marked
set_option maxRecDepth 20000 in
theorem ggX7_proves_X7_markOf : GoodIn wsX7_proves wsX7_markOf := goodIn_r _ [26, 1, 27, 28, 29, 30, 19, 20, 8, 21, 22, 31, 32, 33, 34, 35, 36, 37, 38, 39, 40, 41, 42, 43, 44, 45, 46, 47, 48, 49, 50, 51, 52, 53, 54, 55, 56, 57, 58, 59, 60] (by decide +kernel) (by decide +kernel)
set_option maxRecDepth 20000 in
theorem gX7_proves_X7_markOf : GoodIn wsX7_proves (wsV RX7 186 RX7 yX7_markOf wsX7_markOf) := goodIn_app (goodIn_of _ (by decide +kernel)) ggX7_proves_X7_markOf
theorem dX7_proves_0 : decode cX7_proves 0 = .ok (.aload_n 0, 1) := by decide +kernel
theorem dX7_proves_1 : decode cX7_proves 1 = .ok (.aload_n 0, 1) := by decide +kernel
theorem dX7_proves_2 : decode cX7_proves 2 = .ok (.iload_n 1, 1) := by decide +kernel
theorem dX7_proves_3 : decode cX7_proves 3 = .ok (.invokevirtual 126, 3) := by decide +kernel
theorem dX7_proves_6 : decode cX7_proves 6 = .ok (.ifCond .ne 7, 3) := by decide +kernel
theorem dX7_proves_9 : decode cX7_proves 9 = .ok (.iconst 1, 1) := by decide +kernel
theorem dX7_proves_10 : decode cX7_proves 10 = .ok (.goto 19, 3) := by decide +kernel
theorem dX7_proves_13 : decode cX7_proves 13 = .ok (.iload_n 2, 1) := by decide +kernel
theorem dX7_proves_14 : decode cX7_proves 14 = .ok (.iconst 0, 1) := by decide +kernel
theorem dX7_proves_15 : decode cX7_proves 15 = .ok (.sipush 9999, 3) := by decide +kernel
theorem dX7_proves_18 : decode cX7_proves 18 = .ok (.invokestatic 84, 3) := by decide +kernel
theorem dX7_proves_21 : decode cX7_proves 21 = .ok (.ifCond .eq 7, 3) := by decide +kernel
theorem dX7_proves_24 : decode cX7_proves 24 = .ok (.iconst 0, 1) := by decide +kernel
theorem dX7_proves_25 : decode cX7_proves 25 = .ok (.goto 4, 3) := by decide +kernel
theorem dX7_proves_28 : decode cX7_proves 28 = .ok (.iconst 2, 1) := by decide +kernel
theorem dX7_proves_29 : decode cX7_proves 29 = .ok (.invokevirtual 104, 3) := by decide +kernel
theorem dX7_proves_32 : decode cX7_proves 32 = .ok (.ifCond .eq 5, 3) := by decide +kernel
theorem dX7_proves_35 : decode cX7_proves 35 = .ok (.iconst 0, 1) := by decide +kernel
theorem dX7_proves_36 : decode cX7_proves 36 = .ok (.ireturn, 1) := by decide +kernel
theorem dX7_proves_37 : decode cX7_proves 37 = .ok (.iconst 1, 1) := by decide +kernel
theorem dX7_proves_38 : decode cX7_proves 38 = .ok (.aload_n 0, 1) := by decide +kernel
theorem dX7_proves_39 : decode cX7_proves 39 = .ok (.getfield 16, 3) := by decide +kernel
theorem dX7_proves_42 : decode cX7_proves 42 = .ok (.iload_n 1, 1) := by decide +kernel
theorem dX7_proves_43 : decode cX7_proves 43 = .ok (.iaload, 1) := by decide +kernel
theorem dX7_proves_44 : decode cX7_proves 44 = .ok (.invokestatic 183, 3) := by decide +kernel
theorem dX7_proves_47 : decode cX7_proves 47 = .ok (.iload_n 2, 1) := by decide +kernel
theorem dX7_proves_48 : decode cX7_proves 48 = .ok (.invokestatic 183, 3) := by decide +kernel
theorem dX7_proves_51 : decode cX7_proves 51 = .ok (.istore_n 3, 1) := by decide +kernel
theorem dX7_proves_52 : decode cX7_proves 52 = .ok (.iconst 0, 1) := by decide +kernel
theorem dX7_proves_53 : decode cX7_proves 53 = .ok (.istore 4, 2) := by decide +kernel
theorem dX7_proves_55 : decode cX7_proves 55 = .ok (.iload 4, 2) := by decide +kernel
theorem dX7_proves_57 : decode cX7_proves 57 = .ok (.aload_n 0, 1) := by decide +kernel
theorem dX7_proves_58 : decode cX7_proves 58 = .ok (.getfield 101, 3) := by decide +kernel
theorem dX7_proves_61 : decode cX7_proves 61 = .ok (.if_icmp .ge 35, 3) := by decide +kernel
theorem dX7_proves_64 : decode cX7_proves 64 = .ok (.iload_n 3, 1) := by decide +kernel
theorem dX7_proves_65 : decode cX7_proves 65 = .ok (.aload_n 0, 1) := by decide +kernel
theorem dX7_proves_66 : decode cX7_proves 66 = .ok (.getfield 7, 3) := by decide +kernel
theorem dX7_proves_69 : decode cX7_proves 69 = .ok (.iload 4, 2) := by decide +kernel
theorem dX7_proves_71 : decode cX7_proves 71 = .ok (.iaload, 1) := by decide +kernel
theorem dX7_proves_72 : decode cX7_proves 72 = .ok (.invokestatic 183, 3) := by decide +kernel
theorem dX7_proves_75 : decode cX7_proves 75 = .ok (.aload_n 0, 1) := by decide +kernel
theorem dX7_proves_76 : decode cX7_proves 76 = .ok (.getfield 13, 3) := by decide +kernel
theorem dX7_proves_79 : decode cX7_proves 79 = .ok (.iload 4, 2) := by decide +kernel
theorem dX7_proves_81 : decode cX7_proves 81 = .ok (.iaload, 1) := by decide +kernel
theorem dX7_proves_82 : decode cX7_proves 82 = .ok (.sipush 10000, 3) := by decide +kernel
theorem dX7_proves_85 : decode cX7_proves 85 = .ok (.iadd, 1) := by decide +kernel
theorem dX7_proves_86 : decode cX7_proves 86 = .ok (.invokestatic 183, 3) := by decide +kernel
theorem dX7_proves_89 : decode cX7_proves 89 = .ok (.istore_n 3, 1) := by decide +kernel
theorem dX7_proves_90 : decode cX7_proves 90 = .ok (.iinc 4 1, 3) := by decide +kernel
theorem dX7_proves_93 : decode cX7_proves 93 = .ok (.goto (-38), 3) := by decide +kernel
theorem dX7_proves_96 : decode cX7_proves 96 = .ok (.iload_n 3, 1) := by decide +kernel
theorem dX7_proves_97 : decode cX7_proves 97 = .ok (.aload_n 0, 1) := by decide +kernel
theorem dX7_proves_98 : decode cX7_proves 98 = .ok (.iload_n 1, 1) := by decide +kernel
theorem dX7_proves_99 : decode cX7_proves 99 = .ok (.invokevirtual 186, 3) := by decide +kernel
theorem dX7_proves_102 : decode cX7_proves 102 = .ok (.if_icmp .ne 7, 3) := by decide +kernel
theorem dX7_proves_105 : decode cX7_proves 105 = .ok (.iconst 1, 1) := by decide +kernel
theorem dX7_proves_106 : decode cX7_proves 106 = .ok (.goto 4, 3) := by decide +kernel
theorem dX7_proves_109 : decode cX7_proves 109 = .ok (.iconst 0, 1) := by decide +kernel
theorem dX7_proves_110 : decode cX7_proves 110 = .ok (.ireturn, 1) := by decide +kernel
theorem dX7_sumOf_0 : decode cX7_sumOf 0 = .ok (.iconst 0, 1) := by decide +kernel
theorem dX7_sumOf_1 : decode cX7_sumOf 1 = .ok (.istore 4, 2) := by decide +kernel
theorem dX7_sumOf_3 : decode cX7_sumOf 3 = .ok (.iconst 4, 1) := by decide +kernel
theorem dX7_sumOf_4 : decode cX7_sumOf 4 = .ok (.iload_n 1, 1) := by decide +kernel
theorem dX7_sumOf_5 : decode cX7_sumOf 5 = .ok (.imul, 1) := by decide +kernel
theorem dX7_sumOf_6 : decode cX7_sumOf 6 = .ok (.istore 5, 2) := by decide +kernel
theorem dX7_sumOf_8 : decode cX7_sumOf 8 = .ok (.iload 5, 2) := by decide +kernel
theorem dX7_sumOf_10 : decode cX7_sumOf 10 = .ok (.iconst 4, 1) := by decide +kernel
theorem dX7_sumOf_11 : decode cX7_sumOf 11 = .ok (.iload_n 1, 1) := by decide +kernel
theorem dX7_sumOf_12 : decode cX7_sumOf 12 = .ok (.imul, 1) := by decide +kernel
theorem dX7_sumOf_13 : decode cX7_sumOf 13 = .ok (.aload_n 0, 1) := by decide +kernel
theorem dX7_sumOf_14 : decode cX7_sumOf 14 = .ok (.getfield 22, 3) := by decide +kernel
theorem dX7_sumOf_17 : decode cX7_sumOf 17 = .ok (.iload_n 1, 1) := by decide +kernel
theorem dX7_sumOf_18 : decode cX7_sumOf 18 = .ok (.iaload, 1) := by decide +kernel
theorem dX7_sumOf_19 : decode cX7_sumOf 19 = .ok (.iadd, 1) := by decide +kernel
theorem dX7_sumOf_20 : decode cX7_sumOf 20 = .ok (.if_icmp .ge 54, 3) := by decide +kernel
theorem dX7_sumOf_23 : decode cX7_sumOf 23 = .ok (.iload_n 3, 1) := by decide +kernel
theorem dX7_sumOf_24 : decode cX7_sumOf 24 = .ok (.ifCond .eq 13, 3) := by decide +kernel
theorem dX7_sumOf_27 : decode cX7_sumOf 27 = .ok (.aload_n 0, 1) := by decide +kernel
theorem dX7_sumOf_28 : decode cX7_sumOf 28 = .ok (.getfield 28, 3) := by decide +kernel
theorem dX7_sumOf_31 : decode cX7_sumOf 31 = .ok (.iload 5, 2) := by decide +kernel
theorem dX7_sumOf_33 : decode cX7_sumOf 33 = .ok (.iaload, 1) := by decide +kernel
theorem dX7_sumOf_34 : decode cX7_sumOf 34 = .ok (.goto 10, 3) := by decide +kernel
theorem dX7_sumOf_37 : decode cX7_sumOf 37 = .ok (.aload_n 0, 1) := by decide +kernel
theorem dX7_sumOf_38 : decode cX7_sumOf 38 = .ok (.getfield 31, 3) := by decide +kernel
theorem dX7_sumOf_41 : decode cX7_sumOf 41 = .ok (.iload 5, 2) := by decide +kernel
theorem dX7_sumOf_43 : decode cX7_sumOf 43 = .ok (.iaload, 1) := by decide +kernel
theorem dX7_sumOf_44 : decode cX7_sumOf 44 = .ok (.istore 6, 2) := by decide +kernel
theorem dX7_sumOf_46 : decode cX7_sumOf 46 = .ok (.iload 4, 2) := by decide +kernel
theorem dX7_sumOf_48 : decode cX7_sumOf 48 = .ok (.aload_n 0, 1) := by decide +kernel
theorem dX7_sumOf_49 : decode cX7_sumOf 49 = .ok (.getfield 25, 3) := by decide +kernel
theorem dX7_sumOf_52 : decode cX7_sumOf 52 = .ok (.iload 5, 2) := by decide +kernel
theorem dX7_sumOf_54 : decode cX7_sumOf 54 = .ok (.iaload, 1) := by decide +kernel
theorem dX7_sumOf_55 : decode cX7_sumOf 55 = .ok (.iload_n 2, 1) := by decide +kernel
theorem dX7_sumOf_56 : decode cX7_sumOf 56 = .ok (.if_icmp .ne 8, 3) := by decide +kernel
theorem dX7_sumOf_59 : decode cX7_sumOf 59 = .ok (.iload 6, 2) := by decide +kernel
theorem dX7_sumOf_61 : decode cX7_sumOf 61 = .ok (.goto 4, 3) := by decide +kernel
theorem dX7_sumOf_64 : decode cX7_sumOf 64 = .ok (.iconst 0, 1) := by decide +kernel
theorem dX7_sumOf_65 : decode cX7_sumOf 65 = .ok (.iadd, 1) := by decide +kernel
theorem dX7_sumOf_66 : decode cX7_sumOf 66 = .ok (.istore 4, 2) := by decide +kernel
theorem dX7_sumOf_68 : decode cX7_sumOf 68 = .ok (.iinc 5 1, 3) := by decide +kernel
theorem dX7_sumOf_71 : decode cX7_sumOf 71 = .ok (.goto (-63), 3) := by decide +kernel
theorem dX7_sumOf_74 : decode cX7_sumOf 74 = .ok (.iload 4, 2) := by decide +kernel
theorem dX7_sumOf_76 : decode cX7_sumOf 76 = .ok (.ireturn, 1) := by decide +kernel
set_option maxRecDepth 20000 in
theorem ggX7_proven_X7_isPage : GoodIn wsX7_proven wsX7_isPage := goodIn_r _ [6, 7, 8, 9, 5, 10, 27, 28, 29, 30, 31, 32, 33, 34, 35, 36, 37, 38, 39, 40, 41, 42, 43, 44, 45, 46, 47, 48, 49, 50, 51, 52, 53, 54, 55, 56] (by decide +kernel) (by decide +kernel)
set_option maxRecDepth 20000 in
theorem gX7_proven_X7_isPage : GoodIn wsX7_proven (wsV RX7 126 RX7 yX7_isPage wsX7_isPage) := goodIn_app (goodIn_of _ (by decide +kernel)) ggX7_proven_X7_isPage
set_option maxRecDepth 20000 in
theorem ggX7_proven_X7_isAccount : GoodIn wsX7_proven wsX7_isAccount := goodIn_r _ [13, 8, 9, 5, 10] (by decide +kernel) (by decide +kernel)
set_option maxRecDepth 20000 in
theorem gX7_proven_X7_isAccount : GoodIn wsX7_proven (va_wsS RX7 97 yX7_isAccount wsX7_isAccount) := goodIn_app (goodIn_of _ (by decide +kernel)) ggX7_proven_X7_isAccount
set_option maxRecDepth 20000 in
theorem ggX7_proven_X7_refused : GoodIn wsX7_proven wsX7_refused := goodIn_r _ [17, 18, 27, 28, 29, 30, 31, 32, 33, 34, 35, 36, 37, 38, 39, 40, 41, 42, 43, 44, 45, 46, 47, 48, 49, 50, 51, 52, 53, 54, 55, 56] (by decide +kernel) (by decide +kernel)
set_option maxRecDepth 20000 in
theorem gX7_proven_X7_refused : GoodIn wsX7_proven (wsV RX7 104 RX7 yX7_refused wsX7_refused) := goodIn_app (goodIn_of _ (by decide +kernel)) ggX7_proven_X7_refused
set_option maxRecDepth 20000 in
theorem ggX7_proven_X7_sumOf : GoodIn wsX7_proven wsX7_sumOf := goodIn_r _ [22, 23, 24, 25, 26, 27, 28, 29, 30, 31, 32, 33, 34, 35, 36, 37, 38, 39, 40, 41, 42, 43, 44, 45, 46, 47, 48, 49, 50, 51, 52, 53, 54, 55, 56] (by decide +kernel) (by decide +kernel)
set_option maxRecDepth 20000 in
theorem gX7_proven_X7_sumOf : GoodIn wsX7_proven (wsV RX7 189 RX7 yX7_sumOf wsX7_sumOf) := goodIn_app (goodIn_of _ (by decide +kernel)) ggX7_proven_X7_sumOf
theorem dX7_proven_0 : decode cX7_proven 0 = .ok (.aload_n 0, 1) := by decide +kernel
theorem dX7_proven_1 : decode cX7_proven 1 = .ok (.iload_n 1, 1) := by decide +kernel
theorem dX7_proven_2 : decode cX7_proven 2 = .ok (.invokevirtual 126, 3) := by decide +kernel
theorem dX7_proven_5 : decode cX7_proven 5 = .ok (.ifCond .eq 14, 3) := by decide +kernel
theorem dX7_proven_8 : decode cX7_proven 8 = .ok (.iload_n 2, 1) := by decide +kernel
theorem dX7_proven_9 : decode cX7_proven 9 = .ok (.invokestatic 97, 3) := by decide +kernel
theorem dX7_proven_12 : decode cX7_proven 12 = .ok (.ifCond .eq 7, 3) := by decide +kernel
theorem dX7_proven_15 : decode cX7_proven 15 = .ok (.iconst 1, 1) := by decide +kernel
theorem dX7_proven_16 : decode cX7_proven 16 = .ok (.goto 4, 3) := by decide +kernel
theorem dX7_proven_19 : decode cX7_proven 19 = .ok (.iconst 0, 1) := by decide +kernel
theorem dX7_proven_20 : decode cX7_proven 20 = .ok (.istore_n 3, 1) := by decide +kernel
theorem dX7_proven_21 : decode cX7_proven 21 = .ok (.aload_n 0, 1) := by decide +kernel
theorem dX7_proven_22 : decode cX7_proven 22 = .ok (.iload_n 3, 1) := by decide +kernel
theorem dX7_proven_23 : decode cX7_proven 23 = .ok (.ifCond .eq 7, 3) := by decide +kernel
theorem dX7_proven_26 : decode cX7_proven 26 = .ok (.iconst 0, 1) := by decide +kernel
theorem dX7_proven_27 : decode cX7_proven 27 = .ok (.goto 4, 3) := by decide +kernel
theorem dX7_proven_30 : decode cX7_proven 30 = .ok (.iconst 1, 1) := by decide +kernel
theorem dX7_proven_31 : decode cX7_proven 31 = .ok (.invokevirtual 104, 3) := by decide +kernel
theorem dX7_proven_34 : decode cX7_proven 34 = .ok (.ifCond .ne 13, 3) := by decide +kernel
theorem dX7_proven_37 : decode cX7_proven 37 = .ok (.aload_n 0, 1) := by decide +kernel
theorem dX7_proven_38 : decode cX7_proven 38 = .ok (.getfield 34, 3) := by decide +kernel
theorem dX7_proven_41 : decode cX7_proven 41 = .ok (.iload_n 1, 1) := by decide +kernel
theorem dX7_proven_42 : decode cX7_proven 42 = .ok (.iaload, 1) := by decide +kernel
theorem dX7_proven_43 : decode cX7_proven 43 = .ok (.iconst 2, 1) := by decide +kernel
theorem dX7_proven_44 : decode cX7_proven 44 = .ok (.if_icmp .eq 7, 3) := by decide +kernel
theorem dX7_proven_47 : decode cX7_proven 47 = .ok (.iconst 0, 1) := by decide +kernel
theorem dX7_proven_48 : decode cX7_proven 48 = .ok (.goto 10, 3) := by decide +kernel
theorem dX7_proven_51 : decode cX7_proven 51 = .ok (.aload_n 0, 1) := by decide +kernel
theorem dX7_proven_52 : decode cX7_proven 52 = .ok (.iload_n 1, 1) := by decide +kernel
theorem dX7_proven_53 : decode cX7_proven 53 = .ok (.iload_n 2, 1) := by decide +kernel
theorem dX7_proven_54 : decode cX7_proven 54 = .ok (.iconst 1, 1) := by decide +kernel
theorem dX7_proven_55 : decode cX7_proven 55 = .ok (.invokevirtual 189, 3) := by decide +kernel
theorem dX7_proven_58 : decode cX7_proven 58 = .ok (.ireturn, 1) := by decide +kernel
set_option maxRecDepth 20000 in
theorem ggX7_noBalance_X7_isAccount : GoodIn wsX7_noBalance wsX7_isAccount := goodIn_r _ [5, 6, 7, 4, 8] (by decide +kernel) (by decide +kernel)
set_option maxRecDepth 20000 in
theorem gX7_noBalance_X7_isAccount : GoodIn wsX7_noBalance (va_wsS RX7 97 yX7_isAccount wsX7_isAccount) := goodIn_app (goodIn_of _ (by decide +kernel)) ggX7_noBalance_X7_isAccount
set_option maxRecDepth 20000 in
theorem ggX7_noBalance_X7_in : GoodIn wsX7_noBalance wsX7_in := goodIn_r _ [8] (by decide +kernel) (by decide +kernel)
set_option maxRecDepth 20000 in
theorem gX7_noBalance_X7_in : GoodIn wsX7_noBalance (va_wsS RX7 84 yX7_in wsX7_in) := goodIn_app (goodIn_of _ (by decide +kernel)) ggX7_noBalance_X7_in
set_option maxRecDepth 20000 in
theorem ggX7_noBalance_X7_refused : GoodIn wsX7_noBalance wsX7_refused := goodIn_r _ [12, 13, 14, 15, 16, 17, 18, 19, 20, 21, 22, 23, 24, 25, 26, 27, 28, 29, 30, 31, 32, 33, 34, 35, 36, 37, 38, 39, 40, 41, 42, 43] (by decide +kernel) (by decide +kernel)
set_option maxRecDepth 20000 in
theorem gX7_noBalance_X7_refused : GoodIn wsX7_noBalance (wsV RX7 104 RX7 yX7_refused wsX7_refused) := goodIn_app (goodIn_of _ (by decide +kernel)) ggX7_noBalance_X7_refused
theorem dX7_noBalance_0 : decode cX7_noBalance 0 = .ok (.aload_n 0, 1) := by decide +kernel
theorem dX7_noBalance_1 : decode cX7_noBalance 1 = .ok (.iload_n 1, 1) := by decide +kernel
theorem dX7_noBalance_2 : decode cX7_noBalance 2 = .ok (.invokestatic 97, 3) := by decide +kernel
theorem dX7_noBalance_5 : decode cX7_noBalance 5 = .ok (.ifCond .ne 7, 3) := by decide +kernel
theorem dX7_noBalance_8 : decode cX7_noBalance 8 = .ok (.iconst 1, 1) := by decide +kernel
theorem dX7_noBalance_9 : decode cX7_noBalance 9 = .ok (.goto 20, 3) := by decide +kernel
theorem dX7_noBalance_12 : decode cX7_noBalance 12 = .ok (.iload_n 2, 1) := by decide +kernel
theorem dX7_noBalance_13 : decode cX7_noBalance 13 = .ok (.iconst 0, 1) := by decide +kernel
theorem dX7_noBalance_14 : decode cX7_noBalance 14 = .ok (.aload_n 0, 1) := by decide +kernel
theorem dX7_noBalance_15 : decode cX7_noBalance 15 = .ok (.getfield 111, 3) := by decide +kernel
theorem dX7_noBalance_18 : decode cX7_noBalance 18 = .ok (.invokestatic 84, 3) := by decide +kernel
theorem dX7_noBalance_21 : decode cX7_noBalance 21 = .ok (.ifCond .eq 7, 3) := by decide +kernel
theorem dX7_noBalance_24 : decode cX7_noBalance 24 = .ok (.iconst 0, 1) := by decide +kernel
theorem dX7_noBalance_25 : decode cX7_noBalance 25 = .ok (.goto 4, 3) := by decide +kernel
theorem dX7_noBalance_28 : decode cX7_noBalance 28 = .ok (.iconst 2, 1) := by decide +kernel
theorem dX7_noBalance_29 : decode cX7_noBalance 29 = .ok (.invokevirtual 104, 3) := by decide +kernel
theorem dX7_noBalance_32 : decode cX7_noBalance 32 = .ok (.ireturn, 1) := by decide +kernel
set_option maxRecDepth 20000 in
theorem ggX7_balanceOf_X7_sumOf : GoodIn wsX7_balanceOf wsX7_sumOf := goodIn_r _ [7, 8, 9, 10, 11, 12, 13, 14, 15, 16, 17, 18, 19, 20, 21, 22, 23, 24, 25, 26, 27, 28, 29, 30, 31, 32, 33, 34, 35, 36, 37, 38, 39, 40, 41] (by decide +kernel) (by decide +kernel)
set_option maxRecDepth 20000 in
theorem gX7_balanceOf_X7_sumOf : GoodIn wsX7_balanceOf (wsV RX7 189 RX7 yX7_sumOf wsX7_sumOf) := goodIn_app (goodIn_of _ (by decide +kernel)) ggX7_balanceOf_X7_sumOf
theorem dX7_balanceOf_0 : decode cX7_balanceOf 0 = .ok (.iconst 0, 1) := by decide +kernel
theorem dX7_balanceOf_1 : decode cX7_balanceOf 1 = .ok (.istore_n 3, 1) := by decide +kernel
theorem dX7_balanceOf_2 : decode cX7_balanceOf 2 = .ok (.iconst 0, 1) := by decide +kernel
theorem dX7_balanceOf_3 : decode cX7_balanceOf 3 = .ok (.istore 4, 2) := by decide +kernel
theorem dX7_balanceOf_5 : decode cX7_balanceOf 5 = .ok (.iload 4, 2) := by decide +kernel
theorem dX7_balanceOf_7 : decode cX7_balanceOf 7 = .ok (.aload_n 0, 1) := by decide +kernel
theorem dX7_balanceOf_8 : decode cX7_balanceOf 8 = .ok (.getfield 88, 3) := by decide +kernel
theorem dX7_balanceOf_11 : decode cX7_balanceOf 11 = .ok (.if_icmp .ge 35, 3) := by decide +kernel
theorem dX7_balanceOf_14 : decode cX7_balanceOf 14 = .ok (.iload_n 3, 1) := by decide +kernel
theorem dX7_balanceOf_15 : decode cX7_balanceOf 15 = .ok (.aload_n 0, 1) := by decide +kernel
theorem dX7_balanceOf_16 : decode cX7_balanceOf 16 = .ok (.getfield 16, 3) := by decide +kernel
theorem dX7_balanceOf_19 : decode cX7_balanceOf 19 = .ok (.iload 4, 2) := by decide +kernel
theorem dX7_balanceOf_21 : decode cX7_balanceOf 21 = .ok (.iaload, 1) := by decide +kernel
theorem dX7_balanceOf_22 : decode cX7_balanceOf 22 = .ok (.iload_n 2, 1) := by decide +kernel
theorem dX7_balanceOf_23 : decode cX7_balanceOf 23 = .ok (.if_icmp .gt 14, 3) := by decide +kernel
theorem dX7_balanceOf_26 : decode cX7_balanceOf 26 = .ok (.aload_n 0, 1) := by decide +kernel
theorem dX7_balanceOf_27 : decode cX7_balanceOf 27 = .ok (.iload 4, 2) := by decide +kernel
theorem dX7_balanceOf_29 : decode cX7_balanceOf 29 = .ok (.iload_n 1, 1) := by decide +kernel
theorem dX7_balanceOf_30 : decode cX7_balanceOf 30 = .ok (.iconst 1, 1) := by decide +kernel
theorem dX7_balanceOf_31 : decode cX7_balanceOf 31 = .ok (.invokevirtual 189, 3) := by decide +kernel
theorem dX7_balanceOf_34 : decode cX7_balanceOf 34 = .ok (.goto 4, 3) := by decide +kernel
theorem dX7_balanceOf_37 : decode cX7_balanceOf 37 = .ok (.iconst 0, 1) := by decide +kernel
theorem dX7_balanceOf_38 : decode cX7_balanceOf 38 = .ok (.iadd, 1) := by decide +kernel
theorem dX7_balanceOf_39 : decode cX7_balanceOf 39 = .ok (.istore_n 3, 1) := by decide +kernel
theorem dX7_balanceOf_40 : decode cX7_balanceOf 40 = .ok (.iinc 4 1, 3) := by decide +kernel
theorem dX7_balanceOf_43 : decode cX7_balanceOf 43 = .ok (.goto (-38), 3) := by decide +kernel
theorem dX7_balanceOf_46 : decode cX7_balanceOf 46 = .ok (.iload_n 3, 1) := by decide +kernel
theorem dX7_balanceOf_47 : decode cX7_balanceOf 47 = .ok (.ireturn, 1) := by decide +kernel
set_option maxRecDepth 20000 in
theorem ggX7_balance_X7_noBalance : GoodIn wsX7_balance wsX7_noBalance := goodIn_r _ [5, 6, 7, 8, 4, 9, 10, 11, 12, 13, 14, 15, 16, 17, 32, 33, 34, 35, 36, 37, 38, 39, 40, 41, 42, 43, 44, 45, 46, 47, 48, 49, 50, 51, 52, 53, 54, 55, 56, 57, 58, 59, 60, 61] (by decide +kernel) (by decide +kernel)
set_option maxRecDepth 20000 in
theorem gX7_balance_X7_noBalance : GoodIn wsX7_balance (wsV RX7 193 RX7 yX7_noBalance wsX7_noBalance) := goodIn_app (goodIn_of _ (by decide +kernel)) ggX7_balance_X7_noBalance
set_option maxRecDepth 20000 in
theorem ggX7_balance_X7_balanceOf : GoodIn wsX7_balance wsX7_balanceOf := goodIn_r _ [21, 22, 23, 24, 25, 26, 4, 27, 28, 29, 30, 31, 32, 33, 34, 35, 36, 37, 38, 39, 40, 41, 42, 43, 44, 45, 46, 47, 48, 49, 50, 51, 52, 53, 54, 55, 56, 57, 58, 59, 60, 61] (by decide +kernel) (by decide +kernel)
set_option maxRecDepth 20000 in
theorem gX7_balance_X7_balanceOf : GoodIn wsX7_balance (wsV RX7 196 RX7 yX7_balanceOf wsX7_balanceOf) := goodIn_app (goodIn_of _ (by decide +kernel)) ggX7_balance_X7_balanceOf
theorem dX7_balance_0 : decode cX7_balance 0 = .ok (.aload_n 0, 1) := by decide +kernel
theorem dX7_balance_1 : decode cX7_balance 1 = .ok (.iload_n 1, 1) := by decide +kernel
theorem dX7_balance_2 : decode cX7_balance 2 = .ok (.iload_n 2, 1) := by decide +kernel
theorem dX7_balance_3 : decode cX7_balance 3 = .ok (.invokevirtual 193, 3) := by decide +kernel
theorem dX7_balance_6 : decode cX7_balance 6 = .ok (.ifCond .eq 7, 3) := by decide +kernel
theorem dX7_balance_9 : decode cX7_balance 9 = .ok (.iconst 0, 1) := by decide +kernel
theorem dX7_balance_10 : decode cX7_balance 10 = .ok (.goto 9, 3) := by decide +kernel
theorem dX7_balance_13 : decode cX7_balance 13 = .ok (.aload_n 0, 1) := by decide +kernel
theorem dX7_balance_14 : decode cX7_balance 14 = .ok (.iload_n 1, 1) := by decide +kernel
theorem dX7_balance_15 : decode cX7_balance 15 = .ok (.iload_n 2, 1) := by decide +kernel
theorem dX7_balance_16 : decode cX7_balance 16 = .ok (.invokevirtual 196, 3) := by decide +kernel
theorem dX7_balance_19 : decode cX7_balance 19 = .ok (.ireturn, 1) := by decide +kernel
set_option maxRecDepth 20000 in
theorem ggX7_balanceByPages_X7_noBalance : GoodIn wsX7_balanceByPages wsX7_noBalance := goodIn_r _ [8, 9, 10, 11, 7, 12, 13, 14, 15, 16, 17, 18, 19, 20, 29, 30, 31, 32, 33, 34, 35, 36, 37, 38, 39, 40, 41, 42, 43, 44, 45, 46, 47, 48, 49, 50, 51, 52, 53, 54, 55, 56, 57, 58] (by decide +kernel) (by decide +kernel)
set_option maxRecDepth 20000 in
theorem gX7_balanceByPages_X7_noBalance : GoodIn wsX7_balanceByPages (wsV RX7 193 RX7 yX7_noBalance wsX7_noBalance) := goodIn_app (goodIn_of _ (by decide +kernel)) ggX7_balanceByPages_X7_noBalance
set_option maxRecDepth 20000 in
theorem ggX7_balanceByPages_X7_sumOf : GoodIn wsX7_balanceByPages wsX7_sumOf := goodIn_r _ [24, 25, 26, 27, 28, 29, 30, 31, 32, 33, 34, 35, 36, 37, 38, 39, 40, 41, 42, 43, 44, 45, 46, 47, 48, 49, 50, 51, 52, 53, 54, 55, 56, 57, 58] (by decide +kernel) (by decide +kernel)
set_option maxRecDepth 20000 in
theorem gX7_balanceByPages_X7_sumOf : GoodIn wsX7_balanceByPages (wsV RX7 189 RX7 yX7_sumOf wsX7_sumOf) := goodIn_app (goodIn_of _ (by decide +kernel)) ggX7_balanceByPages_X7_sumOf
set_option maxRecDepth 20000 in
theorem ggX7_balanceByPages_X7_refused : GoodIn wsX7_balanceByPages wsX7_refused := goodIn_r _ [19, 20, 29, 30, 31, 32, 33, 34, 35, 36, 37, 38, 39, 40, 41, 42, 43, 44, 45, 46, 47, 48, 49, 50, 51, 52, 53, 54, 55, 56, 57, 58] (by decide +kernel) (by decide +kernel)
set_option maxRecDepth 20000 in
theorem gX7_balanceByPages_X7_refused : GoodIn wsX7_balanceByPages (wsV RX7 104 RX7 yX7_refused wsX7_refused) := goodIn_app (goodIn_of _ (by decide +kernel)) ggX7_balanceByPages_X7_refused
theorem dX7_balanceByPages_0 : decode cX7_balanceByPages 0 = .ok (.aload_n 0, 1) := by decide +kernel
theorem dX7_balanceByPages_1 : decode cX7_balanceByPages 1 = .ok (.iload_n 1, 1) := by decide +kernel
theorem dX7_balanceByPages_2 : decode cX7_balanceByPages 2 = .ok (.iload_n 2, 1) := by decide +kernel
theorem dX7_balanceByPages_3 : decode cX7_balanceByPages 3 = .ok (.invokevirtual 193, 3) := by decide +kernel
theorem dX7_balanceByPages_6 : decode cX7_balanceByPages 6 = .ok (.ifCond .eq 5, 3) := by decide +kernel
theorem dX7_balanceByPages_9 : decode cX7_balanceByPages 9 = .ok (.iconst 0, 1) := by decide +kernel
theorem dX7_balanceByPages_10 : decode cX7_balanceByPages 10 = .ok (.ireturn, 1) := by decide +kernel
theorem dX7_balanceByPages_11 : decode cX7_balanceByPages 11 = .ok (.iconst 0, 1) := by decide +kernel
theorem dX7_balanceByPages_12 : decode cX7_balanceByPages 12 = .ok (.istore_n 3, 1) := by decide +kernel
theorem dX7_balanceByPages_13 : decode cX7_balanceByPages 13 = .ok (.iconst 0, 1) := by decide +kernel
theorem dX7_balanceByPages_14 : decode cX7_balanceByPages 14 = .ok (.istore 4, 2) := by decide +kernel
theorem dX7_balanceByPages_16 : decode cX7_balanceByPages 16 = .ok (.iconst 0, 1) := by decide +kernel
theorem dX7_balanceByPages_17 : decode cX7_balanceByPages 17 = .ok (.istore 5, 2) := by decide +kernel
theorem dX7_balanceByPages_19 : decode cX7_balanceByPages 19 = .ok (.iload 5, 2) := by decide +kernel
theorem dX7_balanceByPages_21 : decode cX7_balanceByPages 21 = .ok (.aload_n 0, 1) := by decide +kernel
theorem dX7_balanceByPages_22 : decode cX7_balanceByPages 22 = .ok (.getfield 88, 3) := by decide +kernel
theorem dX7_balanceByPages_25 : decode cX7_balanceByPages 25 = .ok (.if_icmp .ge 84, 3) := by decide +kernel
theorem dX7_balanceByPages_28 : decode cX7_balanceByPages 28 = .ok (.iload 4, 2) := by decide +kernel
theorem dX7_balanceByPages_30 : decode cX7_balanceByPages 30 = .ok (.ifCond .ne 25, 3) := by decide +kernel
theorem dX7_balanceByPages_33 : decode cX7_balanceByPages 33 = .ok (.aload_n 0, 1) := by decide +kernel
theorem dX7_balanceByPages_34 : decode cX7_balanceByPages 34 = .ok (.getfield 16, 3) := by decide +kernel
theorem dX7_balanceByPages_37 : decode cX7_balanceByPages 37 = .ok (.iload 5, 2) := by decide +kernel
theorem dX7_balanceByPages_39 : decode cX7_balanceByPages 39 = .ok (.iaload, 1) := by decide +kernel
theorem dX7_balanceByPages_40 : decode cX7_balanceByPages 40 = .ok (.iload_n 2, 1) := by decide +kernel
theorem dX7_balanceByPages_41 : decode cX7_balanceByPages 41 = .ok (.if_icmp .gt 18, 3) := by decide +kernel
theorem dX7_balanceByPages_44 : decode cX7_balanceByPages 44 = .ok (.aload_n 0, 1) := by decide +kernel
theorem dX7_balanceByPages_45 : decode cX7_balanceByPages 45 = .ok (.getfield 34, 3) := by decide +kernel
theorem dX7_balanceByPages_48 : decode cX7_balanceByPages 48 = .ok (.iload 5, 2) := by decide +kernel
theorem dX7_balanceByPages_50 : decode cX7_balanceByPages 50 = .ok (.iaload, 1) := by decide +kernel
theorem dX7_balanceByPages_51 : decode cX7_balanceByPages 51 = .ok (.iconst 1, 1) := by decide +kernel
theorem dX7_balanceByPages_52 : decode cX7_balanceByPages 52 = .ok (.if_icmp .ne 7, 3) := by decide +kernel
theorem dX7_balanceByPages_55 : decode cX7_balanceByPages 55 = .ok (.iconst 1, 1) := by decide +kernel
theorem dX7_balanceByPages_56 : decode cX7_balanceByPages 56 = .ok (.goto 4, 3) := by decide +kernel
theorem dX7_balanceByPages_59 : decode cX7_balanceByPages 59 = .ok (.iconst 0, 1) := by decide +kernel
theorem dX7_balanceByPages_60 : decode cX7_balanceByPages 60 = .ok (.istore 4, 2) := by decide +kernel
theorem dX7_balanceByPages_62 : decode cX7_balanceByPages 62 = .ok (.iload_n 3, 1) := by decide +kernel
theorem dX7_balanceByPages_63 : decode cX7_balanceByPages 63 = .ok (.aload_n 0, 1) := by decide +kernel
theorem dX7_balanceByPages_64 : decode cX7_balanceByPages 64 = .ok (.getfield 16, 3) := by decide +kernel
theorem dX7_balanceByPages_67 : decode cX7_balanceByPages 67 = .ok (.iload 5, 2) := by decide +kernel
theorem dX7_balanceByPages_69 : decode cX7_balanceByPages 69 = .ok (.iaload, 1) := by decide +kernel
theorem dX7_balanceByPages_70 : decode cX7_balanceByPages 70 = .ok (.iload_n 2, 1) := by decide +kernel
theorem dX7_balanceByPages_71 : decode cX7_balanceByPages 71 = .ok (.if_icmp .gt 29, 3) := by decide +kernel
theorem dX7_balanceByPages_74 : decode cX7_balanceByPages 74 = .ok (.aload_n 0, 1) := by decide +kernel
theorem dX7_balanceByPages_75 : decode cX7_balanceByPages 75 = .ok (.iload 5, 2) := by decide +kernel
theorem dX7_balanceByPages_77 : decode cX7_balanceByPages 77 = .ok (.iload_n 1, 1) := by decide +kernel
theorem dX7_balanceByPages_78 : decode cX7_balanceByPages 78 = .ok (.aload_n 0, 1) := by decide +kernel
theorem dX7_balanceByPages_79 : decode cX7_balanceByPages 79 = .ok (.getfield 34, 3) := by decide +kernel
theorem dX7_balanceByPages_82 : decode cX7_balanceByPages 82 = .ok (.iload 5, 2) := by decide +kernel
theorem dX7_balanceByPages_84 : decode cX7_balanceByPages 84 = .ok (.iaload, 1) := by decide +kernel
theorem dX7_balanceByPages_85 : decode cX7_balanceByPages 85 = .ok (.iconst 2, 1) := by decide +kernel
theorem dX7_balanceByPages_86 : decode cX7_balanceByPages 86 = .ok (.if_icmp .ne 7, 3) := by decide +kernel
theorem dX7_balanceByPages_89 : decode cX7_balanceByPages 89 = .ok (.iconst 1, 1) := by decide +kernel
theorem dX7_balanceByPages_90 : decode cX7_balanceByPages 90 = .ok (.goto 4, 3) := by decide +kernel
theorem dX7_balanceByPages_93 : decode cX7_balanceByPages 93 = .ok (.iconst 0, 1) := by decide +kernel
theorem dX7_balanceByPages_94 : decode cX7_balanceByPages 94 = .ok (.invokevirtual 189, 3) := by decide +kernel
theorem dX7_balanceByPages_97 : decode cX7_balanceByPages 97 = .ok (.goto 4, 3) := by decide +kernel
theorem dX7_balanceByPages_100 : decode cX7_balanceByPages 100 = .ok (.iconst 0, 1) := by decide +kernel
theorem dX7_balanceByPages_101 : decode cX7_balanceByPages 101 = .ok (.iadd, 1) := by decide +kernel
theorem dX7_balanceByPages_102 : decode cX7_balanceByPages 102 = .ok (.istore_n 3, 1) := by decide +kernel
theorem dX7_balanceByPages_103 : decode cX7_balanceByPages 103 = .ok (.iinc 5 1, 3) := by decide +kernel
theorem dX7_balanceByPages_106 : decode cX7_balanceByPages 106 = .ok (.goto (-87), 3) := by decide +kernel
theorem dX7_balanceByPages_109 : decode cX7_balanceByPages 109 = .ok (.aload_n 0, 1) := by decide +kernel
theorem dX7_balanceByPages_110 : decode cX7_balanceByPages 110 = .ok (.iload 4, 2) := by decide +kernel
theorem dX7_balanceByPages_112 : decode cX7_balanceByPages 112 = .ok (.ifCond .eq 7, 3) := by decide +kernel
theorem dX7_balanceByPages_115 : decode cX7_balanceByPages 115 = .ok (.iconst 3, 1) := by decide +kernel
theorem dX7_balanceByPages_116 : decode cX7_balanceByPages 116 = .ok (.goto 4, 3) := by decide +kernel
theorem dX7_balanceByPages_119 : decode cX7_balanceByPages 119 = .ok (.iconst 0, 1) := by decide +kernel
theorem dX7_balanceByPages_120 : decode cX7_balanceByPages 120 = .ok (.invokevirtual 104, 3) := by decide +kernel
theorem dX7_balanceByPages_123 : decode cX7_balanceByPages 123 = .ok (.ifCond .eq 7, 3) := by decide +kernel
theorem dX7_balanceByPages_126 : decode cX7_balanceByPages 126 = .ok (.iconst 0, 1) := by decide +kernel
theorem dX7_balanceByPages_127 : decode cX7_balanceByPages 127 = .ok (.goto 4, 3) := by decide +kernel
theorem dX7_balanceByPages_130 : decode cX7_balanceByPages 130 = .ok (.iload_n 3, 1) := by decide +kernel
theorem dX7_balanceByPages_131 : decode cX7_balanceByPages 131 = .ok (.ireturn, 1) := by decide +kernel
set_option maxRecDepth 20000 in
theorem ggX7_isFound_X7_isTrueIn : GoodIn wsX7_isFound wsX7_isTrueIn := goodIn_r _ [8, 9, 10, 11, 12, 13, 14, 7, 15, 16, 17, 18, 19, 20, 21, 22, 23, 24, 25, 26, 27, 28, 29, 30, 31, 32, 33, 34, 35, 36, 37, 38, 39, 40, 41, 42, 43, 44, 45, 46, 47, 48, 49, 50, 51, 52] (by decide +kernel) (by decide +kernel)
set_option maxRecDepth 20000 in
theorem gX7_isFound_X7_isTrueIn : GoodIn wsX7_isFound (wsV RX7 164 RX7 yX7_isTrueIn wsX7_isTrueIn) := goodIn_app (goodIn_of _ (by decide +kernel)) ggX7_isFound_X7_isTrueIn
theorem dX7_isFound_0 : decode cX7_isFound 0 = .ok (.iconst 0, 1) := by decide +kernel
theorem dX7_isFound_1 : decode cX7_isFound 1 = .ok (.istore_n 3, 1) := by decide +kernel
theorem dX7_isFound_2 : decode cX7_isFound 2 = .ok (.iconst 0, 1) := by decide +kernel
theorem dX7_isFound_3 : decode cX7_isFound 3 = .ok (.istore 4, 2) := by decide +kernel
theorem dX7_isFound_5 : decode cX7_isFound 5 = .ok (.iload 4, 2) := by decide +kernel
theorem dX7_isFound_7 : decode cX7_isFound 7 = .ok (.aload_n 0, 1) := by decide +kernel
theorem dX7_isFound_8 : decode cX7_isFound 8 = .ok (.getfield 91, 3) := by decide +kernel
theorem dX7_isFound_11 : decode cX7_isFound 11 = .ok (.if_icmp .ge 53, 3) := by decide +kernel
theorem dX7_isFound_14 : decode cX7_isFound 14 = .ok (.iload_n 3, 1) := by decide +kernel
theorem dX7_isFound_15 : decode cX7_isFound 15 = .ok (.ifCond .ne 37, 3) := by decide +kernel
theorem dX7_isFound_18 : decode cX7_isFound 18 = .ok (.aload_n 0, 1) := by decide +kernel
theorem dX7_isFound_19 : decode cX7_isFound 19 = .ok (.getfield 53, 3) := by decide +kernel
theorem dX7_isFound_22 : decode cX7_isFound 22 = .ok (.iload 4, 2) := by decide +kernel
theorem dX7_isFound_24 : decode cX7_isFound 24 = .ok (.baload, 1) := by decide +kernel
theorem dX7_isFound_25 : decode cX7_isFound 25 = .ok (.ifCond .ne 31, 3) := by decide +kernel
theorem dX7_isFound_28 : decode cX7_isFound 28 = .ok (.iload_n 2, 1) := by decide +kernel
theorem dX7_isFound_29 : decode cX7_isFound 29 = .ok (.ifCond .eq 13, 3) := by decide +kernel
theorem dX7_isFound_32 : decode cX7_isFound 32 = .ok (.aload_n 0, 1) := by decide +kernel
theorem dX7_isFound_33 : decode cX7_isFound 33 = .ok (.getfield 56, 3) := by decide +kernel
theorem dX7_isFound_36 : decode cX7_isFound 36 = .ok (.iload 4, 2) := by decide +kernel
theorem dX7_isFound_38 : decode cX7_isFound 38 = .ok (.baload, 1) := by decide +kernel
theorem dX7_isFound_39 : decode cX7_isFound 39 = .ok (.ifCond .ne 17, 3) := by decide +kernel
theorem dX7_isFound_42 : decode cX7_isFound 42 = .ok (.aload_n 0, 1) := by decide +kernel
theorem dX7_isFound_43 : decode cX7_isFound 43 = .ok (.iload 4, 2) := by decide +kernel
theorem dX7_isFound_45 : decode cX7_isFound 45 = .ok (.iload_n 1, 1) := by decide +kernel
theorem dX7_isFound_46 : decode cX7_isFound 46 = .ok (.invokevirtual 164, 3) := by decide +kernel
theorem dX7_isFound_49 : decode cX7_isFound 49 = .ok (.ifCond .eq 7, 3) := by decide +kernel
theorem dX7_isFound_52 : decode cX7_isFound 52 = .ok (.iconst 1, 1) := by decide +kernel
theorem dX7_isFound_53 : decode cX7_isFound 53 = .ok (.goto 4, 3) := by decide +kernel
theorem dX7_isFound_56 : decode cX7_isFound 56 = .ok (.iconst 0, 1) := by decide +kernel
theorem dX7_isFound_57 : decode cX7_isFound 57 = .ok (.istore_n 3, 1) := by decide +kernel
theorem dX7_isFound_58 : decode cX7_isFound 58 = .ok (.iinc 4 1, 3) := by decide +kernel
theorem dX7_isFound_61 : decode cX7_isFound 61 = .ok (.goto (-56), 3) := by decide +kernel
theorem dX7_isFound_64 : decode cX7_isFound 64 = .ok (.iload_n 3, 1) := by decide +kernel
theorem dX7_isFound_65 : decode cX7_isFound 65 = .ok (.ireturn, 1) := by decide +kernel
set_option maxRecDepth 20000 in
theorem ggX7_balanceByCopies_X7_noBalance : GoodIn wsX7_balanceByCopies wsX7_noBalance := goodIn_r _ [8, 9, 10, 11, 7, 12, 13, 14, 15, 16, 17, 18, 19, 20, 60, 61, 62, 63, 64, 65, 66, 67, 68, 69, 70, 71, 72, 73, 74, 75, 76, 77, 78, 79, 80, 81, 82, 83, 84, 85, 86, 87, 88, 89] (by decide +kernel) (by decide +kernel)
set_option maxRecDepth 20000 in
theorem gX7_balanceByCopies_X7_noBalance : GoodIn wsX7_balanceByCopies (wsV RX7 193 RX7 yX7_noBalance wsX7_noBalance) := goodIn_app (goodIn_of _ (by decide +kernel)) ggX7_balanceByCopies_X7_noBalance
set_option maxRecDepth 20000 in
theorem ggX7_balanceByCopies_X7_isTrueInBook : GoodIn wsX7_balanceByCopies wsX7_isTrueInBook := goodIn_r _ [24, 3, 25, 26, 27, 60, 61, 62, 63, 64, 65, 66, 67, 68, 69, 70, 71, 72, 73, 74, 75, 76, 77, 78, 79, 80, 81, 82, 83, 84, 85, 86, 87, 88, 89] (by decide +kernel) (by decide +kernel)
set_option maxRecDepth 20000 in
theorem gX7_balanceByCopies_X7_isTrueInBook : GoodIn wsX7_balanceByCopies (wsV RX7 129 RX7 yX7_isTrueInBook wsX7_isTrueInBook) := goodIn_app (goodIn_of _ (by decide +kernel)) ggX7_balanceByCopies_X7_isTrueInBook
set_option maxRecDepth 20000 in
theorem ggX7_balanceByCopies_X7_isFound : GoodIn wsX7_balanceByCopies wsX7_isFound := goodIn_r _ [31, 32, 33, 34, 35, 36, 37, 7, 38, 25, 39, 27, 40, 41, 42, 43, 44, 45, 46, 47, 48, 49, 50, 60, 61, 62, 63, 64, 65, 66, 67, 68, 69, 70, 71, 72, 73, 74, 75, 76, 77, 78, 79, 80, 81, 82, 83, 84, 85, 86, 87, 88, 89] (by decide +kernel) (by decide +kernel)
set_option maxRecDepth 20000 in
theorem gX7_balanceByCopies_X7_isFound : GoodIn wsX7_balanceByCopies (wsV RX7 199 RX7 yX7_isFound wsX7_isFound) := goodIn_app (goodIn_of _ (by decide +kernel)) ggX7_balanceByCopies_X7_isFound
set_option maxRecDepth 20000 in
theorem ggX7_balanceByCopies_X7_refused : GoodIn wsX7_balanceByCopies wsX7_refused := goodIn_r _ [19, 20, 60, 61, 62, 63, 64, 65, 66, 67, 68, 69, 70, 71, 72, 73, 74, 75, 76, 77, 78, 79, 80, 81, 82, 83, 84, 85, 86, 87, 88, 89] (by decide +kernel) (by decide +kernel)
set_option maxRecDepth 20000 in
theorem gX7_balanceByCopies_X7_refused : GoodIn wsX7_balanceByCopies (wsV RX7 104 RX7 yX7_refused wsX7_refused) := goodIn_app (goodIn_of _ (by decide +kernel)) ggX7_balanceByCopies_X7_refused
set_option maxRecDepth 20000 in
theorem ggX7_balanceByCopies_X7_balanceOf : GoodIn wsX7_balanceByCopies wsX7_balanceOf := goodIn_r _ [54, 1, 2, 55, 56, 57, 7, 58, 25, 27, 26, 59, 60, 61, 62, 63, 64, 65, 66, 67, 68, 69, 70, 71, 72, 73, 74, 75, 76, 77, 78, 79, 80, 81, 82, 83, 84, 85, 86, 87, 88, 89] (by decide +kernel) (by decide +kernel)
set_option maxRecDepth 20000 in
theorem gX7_balanceByCopies_X7_balanceOf : GoodIn wsX7_balanceByCopies (wsV RX7 196 RX7 yX7_balanceOf wsX7_balanceOf) := goodIn_app (goodIn_of _ (by decide +kernel)) ggX7_balanceByCopies_X7_balanceOf
theorem dX7_balanceByCopies_0 : decode cX7_balanceByCopies 0 = .ok (.aload_n 0, 1) := by decide +kernel
theorem dX7_balanceByCopies_1 : decode cX7_balanceByCopies 1 = .ok (.iload_n 1, 1) := by decide +kernel
theorem dX7_balanceByCopies_2 : decode cX7_balanceByCopies 2 = .ok (.iload_n 2, 1) := by decide +kernel
theorem dX7_balanceByCopies_3 : decode cX7_balanceByCopies 3 = .ok (.invokevirtual 193, 3) := by decide +kernel
theorem dX7_balanceByCopies_6 : decode cX7_balanceByCopies 6 = .ok (.ifCond .eq 5, 3) := by decide +kernel
theorem dX7_balanceByCopies_9 : decode cX7_balanceByCopies 9 = .ok (.iconst 0, 1) := by decide +kernel
theorem dX7_balanceByCopies_10 : decode cX7_balanceByCopies 10 = .ok (.ireturn, 1) := by decide +kernel
theorem dX7_balanceByCopies_11 : decode cX7_balanceByCopies 11 = .ok (.iconst 1, 1) := by decide +kernel
theorem dX7_balanceByCopies_12 : decode cX7_balanceByCopies 12 = .ok (.istore_n 3, 1) := by decide +kernel
theorem dX7_balanceByCopies_13 : decode cX7_balanceByCopies 13 = .ok (.iconst 0, 1) := by decide +kernel
theorem dX7_balanceByCopies_14 : decode cX7_balanceByCopies 14 = .ok (.istore 4, 2) := by decide +kernel
theorem dX7_balanceByCopies_16 : decode cX7_balanceByCopies 16 = .ok (.iload 4, 2) := by decide +kernel
theorem dX7_balanceByCopies_18 : decode cX7_balanceByCopies 18 = .ok (.aload_n 0, 1) := by decide +kernel
theorem dX7_balanceByCopies_19 : decode cX7_balanceByCopies 19 = .ok (.getfield 88, 3) := by decide +kernel
theorem dX7_balanceByCopies_22 : decode cX7_balanceByCopies 22 = .ok (.if_icmp .ge 60, 3) := by decide +kernel
theorem dX7_balanceByCopies_25 : decode cX7_balanceByCopies 25 = .ok (.iload_n 3, 1) := by decide +kernel
theorem dX7_balanceByCopies_26 : decode cX7_balanceByCopies 26 = .ok (.ifCond .eq 48, 3) := by decide +kernel
theorem dX7_balanceByCopies_29 : decode cX7_balanceByCopies 29 = .ok (.aload_n 0, 1) := by decide +kernel
theorem dX7_balanceByCopies_30 : decode cX7_balanceByCopies 30 = .ok (.getfield 16, 3) := by decide +kernel
theorem dX7_balanceByCopies_33 : decode cX7_balanceByCopies 33 = .ok (.iload 4, 2) := by decide +kernel
theorem dX7_balanceByCopies_35 : decode cX7_balanceByCopies 35 = .ok (.iaload, 1) := by decide +kernel
theorem dX7_balanceByCopies_36 : decode cX7_balanceByCopies 36 = .ok (.iload_n 2, 1) := by decide +kernel
theorem dX7_balanceByCopies_37 : decode cX7_balanceByCopies 37 = .ok (.if_icmp .gt 33, 3) := by decide +kernel
theorem dX7_balanceByCopies_40 : decode cX7_balanceByCopies 40 = .ok (.aload_n 0, 1) := by decide +kernel
theorem dX7_balanceByCopies_41 : decode cX7_balanceByCopies 41 = .ok (.getfield 34, 3) := by decide +kernel
theorem dX7_balanceByCopies_44 : decode cX7_balanceByCopies 44 = .ok (.iload 4, 2) := by decide +kernel
theorem dX7_balanceByCopies_46 : decode cX7_balanceByCopies 46 = .ok (.iaload, 1) := by decide +kernel
theorem dX7_balanceByCopies_47 : decode cX7_balanceByCopies 47 = .ok (.iconst 2, 1) := by decide +kernel
theorem dX7_balanceByCopies_48 : decode cX7_balanceByCopies 48 = .ok (.if_icmp .eq 22, 3) := by decide +kernel
theorem dX7_balanceByCopies_51 : decode cX7_balanceByCopies 51 = .ok (.aload_n 0, 1) := by decide +kernel
theorem dX7_balanceByCopies_52 : decode cX7_balanceByCopies 52 = .ok (.iload 4, 2) := by decide +kernel
theorem dX7_balanceByCopies_54 : decode cX7_balanceByCopies 54 = .ok (.invokevirtual 129, 3) := by decide +kernel
theorem dX7_balanceByCopies_57 : decode cX7_balanceByCopies 57 = .ok (.ifCond .ne 13, 3) := by decide +kernel
theorem dX7_balanceByCopies_60 : decode cX7_balanceByCopies 60 = .ok (.aload_n 0, 1) := by decide +kernel
theorem dX7_balanceByCopies_61 : decode cX7_balanceByCopies 61 = .ok (.iload 4, 2) := by decide +kernel
theorem dX7_balanceByCopies_63 : decode cX7_balanceByCopies 63 = .ok (.iconst 1, 1) := by decide +kernel
theorem dX7_balanceByCopies_64 : decode cX7_balanceByCopies 64 = .ok (.invokevirtual 199, 3) := by decide +kernel
theorem dX7_balanceByCopies_67 : decode cX7_balanceByCopies 67 = .ok (.ifCond .eq 7, 3) := by decide +kernel
theorem dX7_balanceByCopies_70 : decode cX7_balanceByCopies 70 = .ok (.iconst 1, 1) := by decide +kernel
theorem dX7_balanceByCopies_71 : decode cX7_balanceByCopies 71 = .ok (.goto 4, 3) := by decide +kernel
theorem dX7_balanceByCopies_74 : decode cX7_balanceByCopies 74 = .ok (.iconst 0, 1) := by decide +kernel
theorem dX7_balanceByCopies_75 : decode cX7_balanceByCopies 75 = .ok (.istore_n 3, 1) := by decide +kernel
theorem dX7_balanceByCopies_76 : decode cX7_balanceByCopies 76 = .ok (.iinc 4 1, 3) := by decide +kernel
theorem dX7_balanceByCopies_79 : decode cX7_balanceByCopies 79 = .ok (.goto (-63), 3) := by decide +kernel
theorem dX7_balanceByCopies_82 : decode cX7_balanceByCopies 82 = .ok (.aload_n 0, 1) := by decide +kernel
theorem dX7_balanceByCopies_83 : decode cX7_balanceByCopies 83 = .ok (.iload_n 3, 1) := by decide +kernel
theorem dX7_balanceByCopies_84 : decode cX7_balanceByCopies 84 = .ok (.ifCond .eq 7, 3) := by decide +kernel
theorem dX7_balanceByCopies_87 : decode cX7_balanceByCopies 87 = .ok (.iconst 0, 1) := by decide +kernel
theorem dX7_balanceByCopies_88 : decode cX7_balanceByCopies 88 = .ok (.goto 4, 3) := by decide +kernel
theorem dX7_balanceByCopies_91 : decode cX7_balanceByCopies 91 = .ok (.iconst 3, 1) := by decide +kernel
theorem dX7_balanceByCopies_92 : decode cX7_balanceByCopies 92 = .ok (.invokevirtual 104, 3) := by decide +kernel
theorem dX7_balanceByCopies_95 : decode cX7_balanceByCopies 95 = .ok (.ifCond .eq 7, 3) := by decide +kernel
theorem dX7_balanceByCopies_98 : decode cX7_balanceByCopies 98 = .ok (.iconst 0, 1) := by decide +kernel
theorem dX7_balanceByCopies_99 : decode cX7_balanceByCopies 99 = .ok (.goto 9, 3) := by decide +kernel
theorem dX7_balanceByCopies_102 : decode cX7_balanceByCopies 102 = .ok (.aload_n 0, 1) := by decide +kernel
theorem dX7_balanceByCopies_103 : decode cX7_balanceByCopies 103 = .ok (.iload_n 1, 1) := by decide +kernel
theorem dX7_balanceByCopies_104 : decode cX7_balanceByCopies 104 = .ok (.iload_n 2, 1) := by decide +kernel
theorem dX7_balanceByCopies_105 : decode cX7_balanceByCopies 105 = .ok (.invokevirtual 196, 3) := by decide +kernel
theorem dX7_balanceByCopies_108 : decode cX7_balanceByCopies 108 = .ok (.ireturn, 1) := by decide +kernel
set_option maxRecDepth 20000 in
theorem ggX7_copies_X7_copiesThere : GoodIn wsX7_copies wsX7_copiesThere := goodIn_r _ [5, 6, 7, 13, 14, 15, 16, 17, 18, 19, 20, 21, 22, 23, 24, 25, 26, 27, 28, 29, 30, 31, 32, 33, 34, 35, 36, 37, 38, 39, 40, 41, 42] (by decide +kernel) (by decide +kernel)
set_option maxRecDepth 20000 in
theorem gX7_copies_X7_copiesThere : GoodIn wsX7_copies (wsV RX7 158 RX7 yX7_copiesThere wsX7_copiesThere) := goodIn_app (goodIn_of _ (by decide +kernel)) ggX7_copies_X7_copiesThere
set_option maxRecDepth 20000 in
theorem ggX7_copies_X7_fine : GoodIn wsX7_copies wsX7_fine := goodIn_r _ [11, 12, 13, 14, 15, 16, 17, 18, 19, 20, 21, 22, 23, 24, 25, 26, 27, 28, 29, 30, 31, 32, 33, 34, 35, 36, 37, 38, 39, 40, 41, 42] (by decide +kernel) (by decide +kernel)
set_option maxRecDepth 20000 in
theorem gX7_copies_X7_fine : GoodIn wsX7_copies (wsV RX7 107 RX7 yX7_fine wsX7_fine) := goodIn_app (goodIn_of _ (by decide +kernel)) ggX7_copies_X7_fine
theorem dX7_copies_0 : decode cX7_copies 0 = .ok (.aload_n 0, 1) := by decide +kernel
theorem dX7_copies_1 : decode cX7_copies 1 = .ok (.aload_n 0, 1) := by decide +kernel
theorem dX7_copies_2 : decode cX7_copies 2 = .ok (.invokevirtual 158, 3) := by decide +kernel
theorem dX7_copies_5 : decode cX7_copies 5 = .ok (.invokevirtual 107, 3) := by decide +kernel
theorem dX7_copies_8 : decode cX7_copies 8 = .ok (.ireturn, 1) := by decide +kernel
set_option maxRecDepth 20000 in
theorem ggX7_noCopy_X7_isCopy : GoodIn wsX7_noCopy wsX7_isCopy := goodIn_r _ [5, 6, 7, 8, 9, 4, 10, 16, 17, 18, 19, 20, 21, 22, 23, 24, 25, 26, 27, 28, 29, 30, 31, 32, 33, 34, 35, 36, 37, 38, 39, 40, 41, 42, 43, 44, 45] (by decide +kernel) (by decide +kernel)
set_option maxRecDepth 20000 in
theorem gX7_noCopy_X7_isCopy : GoodIn wsX7_noCopy (wsV RX7 139 RX7 yX7_isCopy wsX7_isCopy) := goodIn_app (goodIn_of _ (by decide +kernel)) ggX7_noCopy_X7_isCopy
set_option maxRecDepth 20000 in
theorem ggX7_noCopy_X7_refused : GoodIn wsX7_noCopy wsX7_refused := goodIn_r _ [14, 15, 16, 17, 18, 19, 20, 21, 22, 23, 24, 25, 26, 27, 28, 29, 30, 31, 32, 33, 34, 35, 36, 37, 38, 39, 40, 41, 42, 43, 44, 45] (by decide +kernel) (by decide +kernel)
set_option maxRecDepth 20000 in
theorem gX7_noCopy_X7_refused : GoodIn wsX7_noCopy (wsV RX7 104 RX7 yX7_refused wsX7_refused) := goodIn_app (goodIn_of _ (by decide +kernel)) ggX7_noCopy_X7_refused
theorem dX7_noCopy_0 : decode cX7_noCopy 0 = .ok (.aload_n 0, 1) := by decide +kernel
theorem dX7_noCopy_1 : decode cX7_noCopy 1 = .ok (.aload_n 0, 1) := by decide +kernel
theorem dX7_noCopy_2 : decode cX7_noCopy 2 = .ok (.iload_n 1, 1) := by decide +kernel
theorem dX7_noCopy_3 : decode cX7_noCopy 3 = .ok (.invokevirtual 139, 3) := by decide +kernel
theorem dX7_noCopy_6 : decode cX7_noCopy 6 = .ok (.ifCond .eq 7, 3) := by decide +kernel
theorem dX7_noCopy_9 : decode cX7_noCopy 9 = .ok (.iconst 0, 1) := by decide +kernel
theorem dX7_noCopy_10 : decode cX7_noCopy 10 = .ok (.goto 4, 3) := by decide +kernel
theorem dX7_noCopy_13 : decode cX7_noCopy 13 = .ok (.iconst 1, 1) := by decide +kernel
theorem dX7_noCopy_14 : decode cX7_noCopy 14 = .ok (.invokevirtual 104, 3) := by decide +kernel
theorem dX7_noCopy_17 : decode cX7_noCopy 17 = .ok (.ireturn, 1) := by decide +kernel
set_option maxRecDepth 20000 in
theorem ggX7_size_X7_noCopy : GoodIn wsX7_size wsX7_noCopy := goodIn_r _ [7, 8, 9, 10, 6, 11, 12, 13, 14, 15, 16, 17, 18, 19, 20, 21, 22, 23, 24, 25, 26, 27, 28, 29, 30, 31, 32, 33, 34, 35, 36, 37, 38, 39, 40, 41, 42, 43, 44, 45, 46, 47, 48, 49, 50, 51] (by decide +kernel) (by decide +kernel)
set_option maxRecDepth 20000 in
theorem gX7_size_X7_noCopy : GoodIn wsX7_size (wsV RX7 203 RX7 yX7_noCopy wsX7_noCopy) := goodIn_app (goodIn_of _ (by decide +kernel)) ggX7_size_X7_noCopy
theorem dX7_size_0 : decode cX7_size 0 = .ok (.aload_n 0, 1) := by decide +kernel
theorem dX7_size_1 : decode cX7_size 1 = .ok (.iload_n 1, 1) := by decide +kernel
theorem dX7_size_2 : decode cX7_size 2 = .ok (.invokevirtual 203, 3) := by decide +kernel
theorem dX7_size_5 : decode cX7_size 5 = .ok (.ifCond .eq 7, 3) := by decide +kernel
theorem dX7_size_8 : decode cX7_size 8 = .ok (.iconst 0, 1) := by decide +kernel
theorem dX7_size_9 : decode cX7_size 9 = .ok (.goto 16, 3) := by decide +kernel
theorem dX7_size_12 : decode cX7_size 12 = .ok (.aload_n 0, 1) := by decide +kernel
theorem dX7_size_13 : decode cX7_size 13 = .ok (.getfield 50, 3) := by decide +kernel
theorem dX7_size_16 : decode cX7_size 16 = .ok (.iload_n 1, 1) := by decide +kernel
theorem dX7_size_17 : decode cX7_size 17 = .ok (.iaload, 1) := by decide +kernel
theorem dX7_size_18 : decode cX7_size 18 = .ok (.aload_n 0, 1) := by decide +kernel
theorem dX7_size_19 : decode cX7_size 19 = .ok (.getfield 47, 3) := by decide +kernel
theorem dX7_size_22 : decode cX7_size 22 = .ok (.iload_n 1, 1) := by decide +kernel
theorem dX7_size_23 : decode cX7_size 23 = .ok (.iaload, 1) := by decide +kernel
theorem dX7_size_24 : decode cX7_size 24 = .ok (.isub, 1) := by decide +kernel
theorem dX7_size_25 : decode cX7_size 25 = .ok (.ireturn, 1) := by decide +kernel
set_option maxRecDepth 20000 in
theorem ggX7_isInVault_X7_noCopy : GoodIn wsX7_isInVault wsX7_noCopy := goodIn_r _ [6, 7, 8, 9, 5, 10, 11, 12, 13, 14, 15, 16, 17, 18, 19, 20, 21, 22, 23, 24, 25, 26, 27, 28, 29, 30, 31, 32, 33, 34, 35, 36, 37, 38, 39, 40, 41, 42, 43, 44, 45, 46, 47, 48, 49, 50] (by decide +kernel) (by decide +kernel)
set_option maxRecDepth 20000 in
theorem gX7_isInVault_X7_noCopy : GoodIn wsX7_isInVault (wsV RX7 203 RX7 yX7_noCopy wsX7_noCopy) := goodIn_app (goodIn_of _ (by decide +kernel)) ggX7_isInVault_X7_noCopy
theorem dX7_isInVault_0 : decode cX7_isInVault 0 = .ok (.aload_n 0, 1) := by decide +kernel
theorem dX7_isInVault_1 : decode cX7_isInVault 1 = .ok (.iload_n 1, 1) := by decide +kernel
theorem dX7_isInVault_2 : decode cX7_isInVault 2 = .ok (.invokevirtual 203, 3) := by decide +kernel
theorem dX7_isInVault_5 : decode cX7_isInVault 5 = .ok (.ifCond .ne 16, 3) := by decide +kernel
theorem dX7_isInVault_8 : decode cX7_isInVault 8 = .ok (.aload_n 0, 1) := by decide +kernel
theorem dX7_isInVault_9 : decode cX7_isInVault 9 = .ok (.getfield 56, 3) := by decide +kernel
theorem dX7_isInVault_12 : decode cX7_isInVault 12 = .ok (.iload_n 1, 1) := by decide +kernel
theorem dX7_isInVault_13 : decode cX7_isInVault 13 = .ok (.baload, 1) := by decide +kernel
theorem dX7_isInVault_14 : decode cX7_isInVault 14 = .ok (.ifCond .ne 7, 3) := by decide +kernel
theorem dX7_isInVault_17 : decode cX7_isInVault 17 = .ok (.iconst 1, 1) := by decide +kernel
theorem dX7_isInVault_18 : decode cX7_isInVault 18 = .ok (.goto 4, 3) := by decide +kernel
theorem dX7_isInVault_21 : decode cX7_isInVault 21 = .ok (.iconst 0, 1) := by decide +kernel
theorem dX7_isInVault_22 : decode cX7_isInVault 22 = .ok (.ireturn, 1) := by decide +kernel
set_option maxRecDepth 20000 in
theorem ggX7_stands_X7_areBoth : GoodIn wsX7_stands wsX7_areBoth := goodIn_r _ [5, 6, 7, 8, 4, 9, 10, 11, 12, 13, 14, 15, 16, 17, 18, 19, 20, 21, 22, 23, 24, 25, 36, 37, 38, 39, 40, 41, 42, 43, 44, 45, 46, 47, 48, 49, 50, 51, 52, 53, 54, 55, 56, 57, 58, 59, 60, 61, 62, 63, 64, 65] (by decide +kernel) (by decide +kernel)
set_option maxRecDepth 20000 in
theorem gX7_stands_X7_areBoth : GoodIn wsX7_stands (wsV RX7 149 RX7 yX7_areBoth wsX7_areBoth) := goodIn_app (goodIn_of _ (by decide +kernel)) ggX7_stands_X7_areBoth
set_option maxRecDepth 20000 in
theorem ggX7_stands_X7_refused : GoodIn wsX7_stands wsX7_refused := goodIn_r _ [29, 30, 36, 37, 38, 39, 40, 41, 42, 43, 44, 45, 46, 47, 48, 49, 50, 51, 52, 53, 54, 55, 56, 57, 58, 59, 60, 61, 62, 63, 64, 65] (by decide +kernel) (by decide +kernel)
set_option maxRecDepth 20000 in
theorem gX7_stands_X7_refused : GoodIn wsX7_stands (wsV RX7 104 RX7 yX7_refused wsX7_refused) := goodIn_app (goodIn_of _ (by decide +kernel)) ggX7_stands_X7_refused
set_option maxRecDepth 20000 in
theorem ggX7_stands_X7_standsIn : GoodIn wsX7_stands wsX7_standsIn := goodIn_r _ [34, 35, 20, 21, 22, 4, 23, 24, 25, 36, 37, 38, 39, 40, 41, 42, 43, 44, 45, 46, 47, 48, 49, 50, 51, 52, 53, 54, 55, 56, 57, 58, 59, 60, 61, 62, 63, 64, 65] (by decide +kernel) (by decide +kernel)
set_option maxRecDepth 20000 in
theorem gX7_stands_X7_standsIn : GoodIn wsX7_stands (wsV RX7 146 RX7 yX7_standsIn wsX7_standsIn) := goodIn_app (goodIn_of _ (by decide +kernel)) ggX7_stands_X7_standsIn
theorem dX7_stands_0 : decode cX7_stands 0 = .ok (.aload_n 0, 1) := by decide +kernel
theorem dX7_stands_1 : decode cX7_stands 1 = .ok (.aload_n 0, 1) := by decide +kernel
theorem dX7_stands_2 : decode cX7_stands 2 = .ok (.iload_n 1, 1) := by decide +kernel
theorem dX7_stands_3 : decode cX7_stands 3 = .ok (.iload_n 2, 1) := by decide +kernel
theorem dX7_stands_4 : decode cX7_stands 4 = .ok (.invokevirtual 149, 3) := by decide +kernel
theorem dX7_stands_7 : decode cX7_stands 7 = .ok (.ifCond .eq 7, 3) := by decide +kernel
theorem dX7_stands_10 : decode cX7_stands 10 = .ok (.iconst 0, 1) := by decide +kernel
theorem dX7_stands_11 : decode cX7_stands 11 = .ok (.goto 4, 3) := by decide +kernel
theorem dX7_stands_14 : decode cX7_stands 14 = .ok (.iconst 1, 1) := by decide +kernel
theorem dX7_stands_15 : decode cX7_stands 15 = .ok (.invokevirtual 104, 3) := by decide +kernel
theorem dX7_stands_18 : decode cX7_stands 18 = .ok (.ifCond .ne 16, 3) := by decide +kernel
theorem dX7_stands_21 : decode cX7_stands 21 = .ok (.aload_n 0, 1) := by decide +kernel
theorem dX7_stands_22 : decode cX7_stands 22 = .ok (.iload_n 1, 1) := by decide +kernel
theorem dX7_stands_23 : decode cX7_stands 23 = .ok (.iload_n 2, 1) := by decide +kernel
theorem dX7_stands_24 : decode cX7_stands 24 = .ok (.invokevirtual 146, 3) := by decide +kernel
theorem dX7_stands_27 : decode cX7_stands 27 = .ok (.ifCond .eq 7, 3) := by decide +kernel
theorem dX7_stands_30 : decode cX7_stands 30 = .ok (.iconst 1, 1) := by decide +kernel
theorem dX7_stands_31 : decode cX7_stands 31 = .ok (.goto 4, 3) := by decide +kernel
theorem dX7_stands_34 : decode cX7_stands 34 = .ok (.iconst 0, 1) := by decide +kernel
theorem dX7_stands_35 : decode cX7_stands 35 = .ok (.ireturn, 1) := by decide +kernel
set_option maxRecDepth 20000 in
theorem ggX7_copiesOf_X7_noPage : GoodIn wsX7_copiesOf wsX7_noPage := goodIn_r _ [7, 8, 9, 10, 6, 11, 12, 13, 14, 15, 16, 17, 18, 19, 20, 32, 33, 34, 35, 36, 37, 38, 39, 40, 41, 42, 43, 44, 45, 46, 47, 48, 49, 50, 51, 52, 53, 54, 55, 56, 57, 58, 59, 60, 61] (by decide +kernel) (by decide +kernel)
set_option maxRecDepth 20000 in
theorem gX7_copiesOf_X7_noPage : GoodIn wsX7_copiesOf (wsV RX7 179 RX7 yX7_noPage wsX7_noPage) := goodIn_app (goodIn_of _ (by decide +kernel)) ggX7_copiesOf_X7_noPage
set_option maxRecDepth 20000 in
theorem ggX7_copiesOf_X7_standsIn : GoodIn wsX7_copiesOf wsX7_standsIn := goodIn_r _ [24, 25, 26, 27, 28, 6, 29, 30, 31, 32, 33, 34, 35, 36, 37, 38, 39, 40, 41, 42, 43, 44, 45, 46, 47, 48, 49, 50, 51, 52, 53, 54, 55, 56, 57, 58, 59, 60, 61] (by decide +kernel) (by decide +kernel)
set_option maxRecDepth 20000 in
theorem gX7_copiesOf_X7_standsIn : GoodIn wsX7_copiesOf (wsV RX7 146 RX7 yX7_standsIn wsX7_standsIn) := goodIn_app (goodIn_of _ (by decide +kernel)) ggX7_copiesOf_X7_standsIn
theorem dX7_copiesOf_0 : decode cX7_copiesOf 0 = .ok (.aload_n 0, 1) := by decide +kernel
theorem dX7_copiesOf_1 : decode cX7_copiesOf 1 = .ok (.iload_n 1, 1) := by decide +kernel
theorem dX7_copiesOf_2 : decode cX7_copiesOf 2 = .ok (.invokevirtual 179, 3) := by decide +kernel
theorem dX7_copiesOf_5 : decode cX7_copiesOf 5 = .ok (.ifCond .eq 5, 3) := by decide +kernel
theorem dX7_copiesOf_8 : decode cX7_copiesOf 8 = .ok (.iconst 0, 1) := by decide +kernel
theorem dX7_copiesOf_9 : decode cX7_copiesOf 9 = .ok (.ireturn, 1) := by decide +kernel
theorem dX7_copiesOf_10 : decode cX7_copiesOf 10 = .ok (.iconst 0, 1) := by decide +kernel
theorem dX7_copiesOf_11 : decode cX7_copiesOf 11 = .ok (.istore_n 2, 1) := by decide +kernel
theorem dX7_copiesOf_12 : decode cX7_copiesOf 12 = .ok (.iconst 0, 1) := by decide +kernel
theorem dX7_copiesOf_13 : decode cX7_copiesOf 13 = .ok (.istore_n 3, 1) := by decide +kernel
theorem dX7_copiesOf_14 : decode cX7_copiesOf 14 = .ok (.iload_n 3, 1) := by decide +kernel
theorem dX7_copiesOf_15 : decode cX7_copiesOf 15 = .ok (.aload_n 0, 1) := by decide +kernel
theorem dX7_copiesOf_16 : decode cX7_copiesOf 16 = .ok (.getfield 91, 3) := by decide +kernel
theorem dX7_copiesOf_19 : decode cX7_copiesOf 19 = .ok (.if_icmp .ge 35, 3) := by decide +kernel
theorem dX7_copiesOf_22 : decode cX7_copiesOf 22 = .ok (.iload_n 2, 1) := by decide +kernel
theorem dX7_copiesOf_23 : decode cX7_copiesOf 23 = .ok (.aload_n 0, 1) := by decide +kernel
theorem dX7_copiesOf_24 : decode cX7_copiesOf 24 = .ok (.getfield 53, 3) := by decide +kernel
theorem dX7_copiesOf_27 : decode cX7_copiesOf 27 = .ok (.iload_n 3, 1) := by decide +kernel
theorem dX7_copiesOf_28 : decode cX7_copiesOf 28 = .ok (.baload, 1) := by decide +kernel
theorem dX7_copiesOf_29 : decode cX7_copiesOf 29 = .ok (.ifCond .ne 16, 3) := by decide +kernel
theorem dX7_copiesOf_32 : decode cX7_copiesOf 32 = .ok (.aload_n 0, 1) := by decide +kernel
theorem dX7_copiesOf_33 : decode cX7_copiesOf 33 = .ok (.iload_n 3, 1) := by decide +kernel
theorem dX7_copiesOf_34 : decode cX7_copiesOf 34 = .ok (.iload_n 1, 1) := by decide +kernel
theorem dX7_copiesOf_35 : decode cX7_copiesOf 35 = .ok (.invokevirtual 146, 3) := by decide +kernel
theorem dX7_copiesOf_38 : decode cX7_copiesOf 38 = .ok (.ifCond .eq 7, 3) := by decide +kernel
theorem dX7_copiesOf_41 : decode cX7_copiesOf 41 = .ok (.iconst 1, 1) := by decide +kernel
theorem dX7_copiesOf_42 : decode cX7_copiesOf 42 = .ok (.goto 4, 3) := by decide +kernel
theorem dX7_copiesOf_45 : decode cX7_copiesOf 45 = .ok (.iconst 0, 1) := by decide +kernel
theorem dX7_copiesOf_46 : decode cX7_copiesOf 46 = .ok (.iadd, 1) := by decide +kernel
theorem dX7_copiesOf_47 : decode cX7_copiesOf 47 = .ok (.istore_n 2, 1) := by decide +kernel
theorem dX7_copiesOf_48 : decode cX7_copiesOf 48 = .ok (.iinc 3 1, 3) := by decide +kernel
theorem dX7_copiesOf_51 : decode cX7_copiesOf 51 = .ok (.goto (-37), 3) := by decide +kernel
theorem dX7_copiesOf_54 : decode cX7_copiesOf 54 = .ok (.iload_n 2, 1) := by decide +kernel
theorem dX7_copiesOf_55 : decode cX7_copiesOf 55 = .ok (.ireturn, 1) := by decide +kernel
set_option maxRecDepth 20000 in
theorem ggX7_canRestore_X7_noCopy : GoodIn wsX7_canRestore wsX7_noCopy := goodIn_r _ [5, 6, 7, 8, 4, 9, 10, 11, 12, 13, 14, 15, 16, 17, 18, 19, 26, 27, 28, 29, 30, 31, 32, 33, 34, 35, 36, 37, 38, 39, 40, 41, 42, 43, 44, 45, 46, 47, 48, 49, 50, 51, 52, 53, 54, 55] (by decide +kernel) (by decide +kernel)
set_option maxRecDepth 20000 in
theorem gX7_canRestore_X7_noCopy : GoodIn wsX7_canRestore (wsV RX7 203 RX7 yX7_noCopy wsX7_noCopy) := goodIn_app (goodIn_of _ (by decide +kernel)) ggX7_canRestore_X7_noCopy
set_option maxRecDepth 20000 in
theorem ggX7_canRestore_X7_isWhole : GoodIn wsX7_canRestore wsX7_isWhole := goodIn_r _ [23, 11, 24, 25, 26, 27, 28, 29, 30, 31, 32, 33, 34, 35, 36, 37, 38, 39, 40, 41, 42, 43, 44, 45, 46, 47, 48, 49, 50, 51, 52, 53, 54, 55] (by decide +kernel) (by decide +kernel)
set_option maxRecDepth 20000 in
theorem gX7_canRestore_X7_isWhole : GoodIn wsX7_canRestore (wsV RX7 161 RX7 yX7_isWhole wsX7_isWhole) := goodIn_app (goodIn_of _ (by decide +kernel)) ggX7_canRestore_X7_isWhole
theorem dX7_canRestore_0 : decode cX7_canRestore 0 = .ok (.aload_n 0, 1) := by decide +kernel
theorem dX7_canRestore_1 : decode cX7_canRestore 1 = .ok (.iload_n 1, 1) := by decide +kernel
theorem dX7_canRestore_2 : decode cX7_canRestore 2 = .ok (.invokevirtual 203, 3) := by decide +kernel
theorem dX7_canRestore_5 : decode cX7_canRestore 5 = .ok (.ifCond .ne 15, 3) := by decide +kernel
theorem dX7_canRestore_8 : decode cX7_canRestore 8 = .ok (.aload_n 0, 1) := by decide +kernel
theorem dX7_canRestore_9 : decode cX7_canRestore 9 = .ok (.iload_n 1, 1) := by decide +kernel
theorem dX7_canRestore_10 : decode cX7_canRestore 10 = .ok (.invokevirtual 161, 3) := by decide +kernel
theorem dX7_canRestore_13 : decode cX7_canRestore 13 = .ok (.ifCond .eq 7, 3) := by decide +kernel
theorem dX7_canRestore_16 : decode cX7_canRestore 16 = .ok (.iconst 1, 1) := by decide +kernel
theorem dX7_canRestore_17 : decode cX7_canRestore 17 = .ok (.goto 4, 3) := by decide +kernel
theorem dX7_canRestore_20 : decode cX7_canRestore 20 = .ok (.iconst 0, 1) := by decide +kernel
theorem dX7_canRestore_21 : decode cX7_canRestore 21 = .ok (.ireturn, 1) := by decide +kernel
set_option maxRecDepth 20000 in
theorem ggX7_gaps_X7_burnt : GoodIn wsX7_gaps wsX7_burnt := goodIn_r _ [5, 6, 7, 13, 14, 15, 16, 17, 18, 19, 20, 21, 22, 23, 24, 25, 26, 27, 28, 29, 30, 31, 32, 33, 34, 35, 36, 37, 38, 39, 40, 41, 42] (by decide +kernel) (by decide +kernel)
set_option maxRecDepth 20000 in
theorem gX7_gaps_X7_burnt : GoodIn wsX7_gaps (wsV RX7 132 RX7 yX7_burnt wsX7_burnt) := goodIn_app (goodIn_of _ (by decide +kernel)) ggX7_gaps_X7_burnt
set_option maxRecDepth 20000 in
theorem ggX7_gaps_X7_fine : GoodIn wsX7_gaps wsX7_fine := goodIn_r _ [11, 12, 13, 14, 15, 16, 17, 18, 19, 20, 21, 22, 23, 24, 25, 26, 27, 28, 29, 30, 31, 32, 33, 34, 35, 36, 37, 38, 39, 40, 41, 42] (by decide +kernel) (by decide +kernel)
set_option maxRecDepth 20000 in
theorem gX7_gaps_X7_fine : GoodIn wsX7_gaps (wsV RX7 107 RX7 yX7_fine wsX7_fine) := goodIn_app (goodIn_of _ (by decide +kernel)) ggX7_gaps_X7_fine
theorem dX7_gaps_0 : decode cX7_gaps 0 = .ok (.aload_n 0, 1) := by decide +kernel
theorem dX7_gaps_1 : decode cX7_gaps 1 = .ok (.aload_n 0, 1) := by decide +kernel
theorem dX7_gaps_2 : decode cX7_gaps 2 = .ok (.invokevirtual 132, 3) := by decide +kernel
theorem dX7_gaps_5 : decode cX7_gaps 5 = .ok (.invokevirtual 107, 3) := by decide +kernel
theorem dX7_gaps_8 : decode cX7_gaps 8 = .ok (.ireturn, 1) := by decide +kernel
set_option maxRecDepth 20000 in
theorem ggX7_lost_X7_isFound : GoodIn wsX7_lost wsX7_isFound := goodIn_r _ [7, 8, 9, 10, 11, 12, 13, 6, 14, 15, 16, 17, 18, 19, 20, 21, 22, 23, 24, 25, 26, 27, 28, 34, 35, 36, 37, 38, 39, 40, 41, 42, 43, 44, 45, 46, 47, 48, 49, 50, 51, 52, 53, 54, 55, 56, 57, 58, 59, 60, 61, 62, 63] (by decide +kernel) (by decide +kernel)
set_option maxRecDepth 20000 in
theorem gX7_lost_X7_isFound : GoodIn wsX7_lost (wsV RX7 199 RX7 yX7_isFound wsX7_isFound) := goodIn_app (goodIn_of _ (by decide +kernel)) ggX7_lost_X7_isFound
set_option maxRecDepth 20000 in
theorem ggX7_lost_X7_fine : GoodIn wsX7_lost wsX7_fine := goodIn_r _ [32, 33, 34, 35, 36, 37, 38, 39, 40, 41, 42, 43, 44, 45, 46, 47, 48, 49, 50, 51, 52, 53, 54, 55, 56, 57, 58, 59, 60, 61, 62, 63] (by decide +kernel) (by decide +kernel)
set_option maxRecDepth 20000 in
theorem gX7_lost_X7_fine : GoodIn wsX7_lost (wsV RX7 107 RX7 yX7_fine wsX7_fine) := goodIn_app (goodIn_of _ (by decide +kernel)) ggX7_lost_X7_fine
theorem dX7_lost_0 : decode cX7_lost 0 = .ok (.iconst 0, 1) := by decide +kernel
theorem dX7_lost_1 : decode cX7_lost 1 = .ok (.istore_n 1, 1) := by decide +kernel
theorem dX7_lost_2 : decode cX7_lost 2 = .ok (.iconst 0, 1) := by decide +kernel
theorem dX7_lost_3 : decode cX7_lost 3 = .ok (.istore_n 2, 1) := by decide +kernel
theorem dX7_lost_4 : decode cX7_lost 4 = .ok (.iload_n 2, 1) := by decide +kernel
theorem dX7_lost_5 : decode cX7_lost 5 = .ok (.aload_n 0, 1) := by decide +kernel
theorem dX7_lost_6 : decode cX7_lost 6 = .ok (.getfield 88, 3) := by decide +kernel
theorem dX7_lost_9 : decode cX7_lost 9 = .ok (.if_icmp .ge 36, 3) := by decide +kernel
theorem dX7_lost_12 : decode cX7_lost 12 = .ok (.iload_n 1, 1) := by decide +kernel
theorem dX7_lost_13 : decode cX7_lost 13 = .ok (.aload_n 0, 1) := by decide +kernel
theorem dX7_lost_14 : decode cX7_lost 14 = .ok (.getfield 34, 3) := by decide +kernel
theorem dX7_lost_17 : decode cX7_lost 17 = .ok (.iload_n 2, 1) := by decide +kernel
theorem dX7_lost_18 : decode cX7_lost 18 = .ok (.iaload, 1) := by decide +kernel
theorem dX7_lost_19 : decode cX7_lost 19 = .ok (.iconst 1, 1) := by decide +kernel
theorem dX7_lost_20 : decode cX7_lost 20 = .ok (.if_icmp .ne 16, 3) := by decide +kernel
theorem dX7_lost_23 : decode cX7_lost 23 = .ok (.aload_n 0, 1) := by decide +kernel
theorem dX7_lost_24 : decode cX7_lost 24 = .ok (.iload_n 2, 1) := by decide +kernel
theorem dX7_lost_25 : decode cX7_lost 25 = .ok (.iconst 0, 1) := by decide +kernel
theorem dX7_lost_26 : decode cX7_lost 26 = .ok (.invokevirtual 199, 3) := by decide +kernel
theorem dX7_lost_29 : decode cX7_lost 29 = .ok (.ifCond .ne 7, 3) := by decide +kernel
theorem dX7_lost_32 : decode cX7_lost 32 = .ok (.iconst 1, 1) := by decide +kernel
theorem dX7_lost_33 : decode cX7_lost 33 = .ok (.goto 4, 3) := by decide +kernel
theorem dX7_lost_36 : decode cX7_lost 36 = .ok (.iconst 0, 1) := by decide +kernel
theorem dX7_lost_37 : decode cX7_lost 37 = .ok (.iadd, 1) := by decide +kernel
theorem dX7_lost_38 : decode cX7_lost 38 = .ok (.istore_n 1, 1) := by decide +kernel
theorem dX7_lost_39 : decode cX7_lost 39 = .ok (.iinc 2 1, 3) := by decide +kernel
theorem dX7_lost_42 : decode cX7_lost 42 = .ok (.goto (-38), 3) := by decide +kernel
theorem dX7_lost_45 : decode cX7_lost 45 = .ok (.aload_n 0, 1) := by decide +kernel
theorem dX7_lost_46 : decode cX7_lost 46 = .ok (.iload_n 1, 1) := by decide +kernel
theorem dX7_lost_47 : decode cX7_lost 47 = .ok (.invokevirtual 107, 3) := by decide +kernel
theorem dX7_lost_50 : decode cX7_lost 50 = .ok (.ireturn, 1) := by decide +kernel
set_option maxRecDepth 20000 in
theorem ggX7_audit_X7_noCopy : GoodIn wsX7_audit wsX7_noCopy := goodIn_r _ [12, 13, 14, 15, 11, 16, 17, 18, 19, 20, 21, 22, 23, 24, 25, 26, 27, 28, 29, 30, 31, 32, 33, 34, 35, 36, 37, 38, 39, 40, 41, 42, 43, 44, 45, 46, 47, 48, 49, 50, 51, 52, 53, 54, 55, 56] (by decide +kernel) (by decide +kernel)
set_option maxRecDepth 20000 in
theorem gX7_audit_X7_noCopy : GoodIn wsX7_audit (wsV RX7 203 RX7 yX7_noCopy wsX7_noCopy) := goodIn_app (goodIn_of _ (by decide +kernel)) ggX7_audit_X7_noCopy
theorem dX7_audit_0 : decode cX7_audit 0 = .ok (.aload_n 0, 1) := by decide +kernel
theorem dX7_audit_1 : decode cX7_audit 1 = .ok (.iload_n 1, 1) := by decide +kernel
theorem dX7_audit_2 : decode cX7_audit 2 = .ok (.invokevirtual 203, 3) := by decide +kernel
theorem dX7_audit_5 : decode cX7_audit 5 = .ok (.ifCond .eq 5, 3) := by decide +kernel
theorem dX7_audit_8 : decode cX7_audit 8 = .ok (.iconst 0, 1) := by decide +kernel
theorem dX7_audit_9 : decode cX7_audit 9 = .ok (.ireturn, 1) := by decide +kernel
theorem dX7_audit_10 : decode cX7_audit 10 = .ok (.iconst 0, 1) := by decide +kernel
theorem dX7_audit_11 : decode cX7_audit 11 = .ok (.istore_n 2, 1) := by decide +kernel
theorem dX7_audit_12 : decode cX7_audit 12 = .ok (.aload_n 0, 1) := by decide +kernel
theorem dX7_audit_13 : decode cX7_audit 13 = .ok (.getfield 47, 3) := by decide +kernel
theorem dX7_audit_16 : decode cX7_audit 16 = .ok (.iload_n 1, 1) := by decide +kernel
theorem dX7_audit_17 : decode cX7_audit 17 = .ok (.iaload, 1) := by decide +kernel
theorem dX7_audit_18 : decode cX7_audit 18 = .ok (.istore_n 3, 1) := by decide +kernel
theorem dX7_audit_19 : decode cX7_audit 19 = .ok (.iload_n 3, 1) := by decide +kernel
theorem dX7_audit_20 : decode cX7_audit 20 = .ok (.aload_n 0, 1) := by decide +kernel
theorem dX7_audit_21 : decode cX7_audit 21 = .ok (.getfield 50, 3) := by decide +kernel
theorem dX7_audit_24 : decode cX7_audit 24 = .ok (.iload_n 1, 1) := by decide +kernel
theorem dX7_audit_25 : decode cX7_audit 25 = .ok (.iaload, 1) := by decide +kernel
theorem dX7_audit_26 : decode cX7_audit 26 = .ok (.if_icmp .ge 128, 3) := by decide +kernel
theorem dX7_audit_29 : decode cX7_audit 29 = .ok (.aload_n 0, 1) := by decide +kernel
theorem dX7_audit_30 : decode cX7_audit 30 = .ok (.getfield 34, 3) := by decide +kernel
theorem dX7_audit_33 : decode cX7_audit 33 = .ok (.iload_n 3, 1) := by decide +kernel
theorem dX7_audit_34 : decode cX7_audit 34 = .ok (.iaload, 1) := by decide +kernel
theorem dX7_audit_35 : decode cX7_audit 35 = .ok (.ifCond .ne 7, 3) := by decide +kernel
theorem dX7_audit_38 : decode cX7_audit 38 = .ok (.iconst 1, 1) := by decide +kernel
theorem dX7_audit_39 : decode cX7_audit 39 = .ok (.goto 4, 3) := by decide +kernel
theorem dX7_audit_42 : decode cX7_audit 42 = .ok (.iconst 0, 1) := by decide +kernel
theorem dX7_audit_43 : decode cX7_audit 43 = .ok (.istore 4, 2) := by decide +kernel
theorem dX7_audit_45 : decode cX7_audit 45 = .ok (.iload 4, 2) := by decide +kernel
theorem dX7_audit_47 : decode cX7_audit 47 = .ok (.aload_n 0, 1) := by decide +kernel
theorem dX7_audit_48 : decode cX7_audit 48 = .ok (.getfield 59, 3) := by decide +kernel
theorem dX7_audit_51 : decode cX7_audit 51 = .ok (.bipush 80, 2) := by decide +kernel
theorem dX7_audit_53 : decode cX7_audit 53 = .ok (.iload_n 1, 1) := by decide +kernel
theorem dX7_audit_54 : decode cX7_audit 54 = .ok (.imul, 1) := by decide +kernel
theorem dX7_audit_55 : decode cX7_audit 55 = .ok (.iload_n 3, 1) := by decide +kernel
theorem dX7_audit_56 : decode cX7_audit 56 = .ok (.iadd, 1) := by decide +kernel
theorem dX7_audit_57 : decode cX7_audit 57 = .ok (.baload, 1) := by decide +kernel
theorem dX7_audit_58 : decode cX7_audit 58 = .ok (.if_icmp .ne 7, 3) := by decide +kernel
theorem dX7_audit_61 : decode cX7_audit 61 = .ok (.iconst 1, 1) := by decide +kernel
theorem dX7_audit_62 : decode cX7_audit 62 = .ok (.goto 4, 3) := by decide +kernel
theorem dX7_audit_65 : decode cX7_audit 65 = .ok (.iconst 0, 1) := by decide +kernel
theorem dX7_audit_66 : decode cX7_audit 66 = .ok (.istore 5, 2) := by decide +kernel
theorem dX7_audit_68 : decode cX7_audit 68 = .ok (.iconst 0, 1) := by decide +kernel
theorem dX7_audit_69 : decode cX7_audit 69 = .ok (.istore 6, 2) := by decide +kernel
theorem dX7_audit_71 : decode cX7_audit 71 = .ok (.iload 6, 2) := by decide +kernel
theorem dX7_audit_73 : decode cX7_audit 73 = .ok (.aload_n 0, 1) := by decide +kernel
theorem dX7_audit_74 : decode cX7_audit 74 = .ok (.getfield 22, 3) := by decide +kernel
theorem dX7_audit_77 : decode cX7_audit 77 = .ok (.iload_n 3, 1) := by decide +kernel
theorem dX7_audit_78 : decode cX7_audit 78 = .ok (.iaload, 1) := by decide +kernel
theorem dX7_audit_79 : decode cX7_audit 79 = .ok (.if_icmp .ge 56, 3) := by decide +kernel
theorem dX7_audit_82 : decode cX7_audit 82 = .ok (.iload 4, 2) := by decide +kernel
theorem dX7_audit_84 : decode cX7_audit 84 = .ok (.ifCond .eq 51, 3) := by decide +kernel
theorem dX7_audit_87 : decode cX7_audit 87 = .ok (.iload 5, 2) := by decide +kernel
theorem dX7_audit_89 : decode cX7_audit 89 = .ok (.ifCond .eq 37, 3) := by decide +kernel
theorem dX7_audit_92 : decode cX7_audit 92 = .ok (.aload_n 0, 1) := by decide +kernel
theorem dX7_audit_93 : decode cX7_audit 93 = .ok (.getfield 62, 3) := by decide +kernel
theorem dX7_audit_96 : decode cX7_audit 96 = .ok (.iconst 4, 1) := by decide +kernel
theorem dX7_audit_97 : decode cX7_audit 97 = .ok (.bipush 80, 2) := by decide +kernel
theorem dX7_audit_99 : decode cX7_audit 99 = .ok (.iload_n 1, 1) := by decide +kernel
theorem dX7_audit_100 : decode cX7_audit 100 = .ok (.imul, 1) := by decide +kernel
theorem dX7_audit_101 : decode cX7_audit 101 = .ok (.iload_n 3, 1) := by decide +kernel
theorem dX7_audit_102 : decode cX7_audit 102 = .ok (.iadd, 1) := by decide +kernel
theorem dX7_audit_103 : decode cX7_audit 103 = .ok (.imul, 1) := by decide +kernel
theorem dX7_audit_104 : decode cX7_audit 104 = .ok (.iload 6, 2) := by decide +kernel
theorem dX7_audit_106 : decode cX7_audit 106 = .ok (.iadd, 1) := by decide +kernel
theorem dX7_audit_107 : decode cX7_audit 107 = .ok (.iaload, 1) := by decide +kernel
theorem dX7_audit_108 : decode cX7_audit 108 = .ok (.aload_n 0, 1) := by decide +kernel
theorem dX7_audit_109 : decode cX7_audit 109 = .ok (.getfield 31, 3) := by decide +kernel
theorem dX7_audit_112 : decode cX7_audit 112 = .ok (.iconst 4, 1) := by decide +kernel
theorem dX7_audit_113 : decode cX7_audit 113 = .ok (.iload_n 3, 1) := by decide +kernel
theorem dX7_audit_114 : decode cX7_audit 114 = .ok (.imul, 1) := by decide +kernel
theorem dX7_audit_115 : decode cX7_audit 115 = .ok (.iload 6, 2) := by decide +kernel
theorem dX7_audit_117 : decode cX7_audit 117 = .ok (.iadd, 1) := by decide +kernel
theorem dX7_audit_118 : decode cX7_audit 118 = .ok (.iaload, 1) := by decide +kernel
theorem dX7_audit_119 : decode cX7_audit 119 = .ok (.if_icmp .ne 7, 3) := by decide +kernel
theorem dX7_audit_122 : decode cX7_audit 122 = .ok (.iconst 1, 1) := by decide +kernel
theorem dX7_audit_123 : decode cX7_audit 123 = .ok (.goto 4, 3) := by decide +kernel
theorem dX7_audit_126 : decode cX7_audit 126 = .ok (.iconst 0, 1) := by decide +kernel
theorem dX7_audit_127 : decode cX7_audit 127 = .ok (.istore 5, 2) := by decide +kernel
theorem dX7_audit_129 : decode cX7_audit 129 = .ok (.iinc 6 1, 3) := by decide +kernel
theorem dX7_audit_132 : decode cX7_audit 132 = .ok (.goto (-61), 3) := by decide +kernel
theorem dX7_audit_135 : decode cX7_audit 135 = .ok (.iload_n 2, 1) := by decide +kernel
theorem dX7_audit_136 : decode cX7_audit 136 = .ok (.iload 5, 2) := by decide +kernel
theorem dX7_audit_138 : decode cX7_audit 138 = .ok (.ifCond .eq 7, 3) := by decide +kernel
theorem dX7_audit_141 : decode cX7_audit 141 = .ok (.iconst 0, 1) := by decide +kernel
theorem dX7_audit_142 : decode cX7_audit 142 = .ok (.goto 4, 3) := by decide +kernel
theorem dX7_audit_145 : decode cX7_audit 145 = .ok (.iconst 1, 1) := by decide +kernel
theorem dX7_audit_146 : decode cX7_audit 146 = .ok (.iadd, 1) := by decide +kernel
theorem dX7_audit_147 : decode cX7_audit 147 = .ok (.istore_n 2, 1) := by decide +kernel
theorem dX7_audit_148 : decode cX7_audit 148 = .ok (.iinc 3 1, 3) := by decide +kernel
theorem dX7_audit_151 : decode cX7_audit 151 = .ok (.goto (-132), 3) := by decide +kernel
theorem dX7_audit_154 : decode cX7_audit 154 = .ok (.iload_n 2, 1) := by decide +kernel
theorem dX7_audit_155 : decode cX7_audit 155 = .ok (.ireturn, 1) := by decide +kernel
set_option maxRecDepth 20000 in
theorem ggX7_noCase_X7_isCase : GoodIn wsX7_noCase wsX7_isCase := goodIn_r _ [5, 6, 7, 8, 4, 9, 15, 16, 17, 18, 19, 20, 21, 22, 23, 24, 25, 26, 27, 28, 29, 30, 31, 32, 33, 34, 35, 36, 37, 38, 39, 40, 41, 42, 43, 44] (by decide +kernel) (by decide +kernel)
set_option maxRecDepth 20000 in
theorem gX7_noCase_X7_isCase : GoodIn wsX7_noCase (wsV RX7 173 RX7 yX7_isCase wsX7_isCase) := goodIn_app (goodIn_of _ (by decide +kernel)) ggX7_noCase_X7_isCase
set_option maxRecDepth 20000 in
theorem ggX7_noCase_X7_refused : GoodIn wsX7_noCase wsX7_refused := goodIn_r _ [13, 14, 15, 16, 17, 18, 19, 20, 21, 22, 23, 24, 25, 26, 27, 28, 29, 30, 31, 32, 33, 34, 35, 36, 37, 38, 39, 40, 41, 42, 43, 44] (by decide +kernel) (by decide +kernel)
set_option maxRecDepth 20000 in
theorem gX7_noCase_X7_refused : GoodIn wsX7_noCase (wsV RX7 104 RX7 yX7_refused wsX7_refused) := goodIn_app (goodIn_of _ (by decide +kernel)) ggX7_noCase_X7_refused
theorem dX7_noCase_0 : decode cX7_noCase 0 = .ok (.aload_n 0, 1) := by decide +kernel
theorem dX7_noCase_1 : decode cX7_noCase 1 = .ok (.aload_n 0, 1) := by decide +kernel
theorem dX7_noCase_2 : decode cX7_noCase 2 = .ok (.iload_n 1, 1) := by decide +kernel
theorem dX7_noCase_3 : decode cX7_noCase 3 = .ok (.invokevirtual 173, 3) := by decide +kernel
theorem dX7_noCase_6 : decode cX7_noCase 6 = .ok (.ifCond .eq 7, 3) := by decide +kernel
theorem dX7_noCase_9 : decode cX7_noCase 9 = .ok (.iconst 0, 1) := by decide +kernel
theorem dX7_noCase_10 : decode cX7_noCase 10 = .ok (.goto 4, 3) := by decide +kernel
theorem dX7_noCase_13 : decode cX7_noCase 13 = .ok (.iconst 1, 1) := by decide +kernel
theorem dX7_noCase_14 : decode cX7_noCase 14 = .ok (.invokevirtual 104, 3) := by decide +kernel
theorem dX7_noCase_17 : decode cX7_noCase 17 = .ok (.ireturn, 1) := by decide +kernel
set_option maxRecDepth 20000 in
theorem ggX7_isOpen_X7_noCase : GoodIn wsX7_isOpen wsX7_noCase := goodIn_r _ [6, 7, 8, 9, 5, 10, 11, 12, 13, 14, 15, 16, 17, 18, 19, 20, 21, 22, 23, 24, 25, 26, 27, 28, 29, 30, 31, 32, 33, 34, 35, 36, 37, 38, 39, 40, 41, 42, 43, 44, 45, 46, 47, 48, 49] (by decide +kernel) (by decide +kernel)
set_option maxRecDepth 20000 in
theorem gX7_isOpen_X7_noCase : GoodIn wsX7_isOpen (wsV RX7 206 RX7 yX7_noCase wsX7_noCase) := goodIn_app (goodIn_of _ (by decide +kernel)) ggX7_isOpen_X7_noCase
theorem dX7_isOpen_0 : decode cX7_isOpen 0 = .ok (.aload_n 0, 1) := by decide +kernel
theorem dX7_isOpen_1 : decode cX7_isOpen 1 = .ok (.iload_n 1, 1) := by decide +kernel
theorem dX7_isOpen_2 : decode cX7_isOpen 2 = .ok (.invokevirtual 206, 3) := by decide +kernel
theorem dX7_isOpen_5 : decode cX7_isOpen 5 = .ok (.ifCond .ne 16, 3) := by decide +kernel
theorem dX7_isOpen_8 : decode cX7_isOpen 8 = .ok (.aload_n 0, 1) := by decide +kernel
theorem dX7_isOpen_9 : decode cX7_isOpen 9 = .ok (.getfield 65, 3) := by decide +kernel
theorem dX7_isOpen_12 : decode cX7_isOpen 12 = .ok (.iload_n 1, 1) := by decide +kernel
theorem dX7_isOpen_13 : decode cX7_isOpen 13 = .ok (.baload, 1) := by decide +kernel
theorem dX7_isOpen_14 : decode cX7_isOpen 14 = .ok (.ifCond .ne 7, 3) := by decide +kernel
theorem dX7_isOpen_17 : decode cX7_isOpen 17 = .ok (.iconst 1, 1) := by decide +kernel
theorem dX7_isOpen_18 : decode cX7_isOpen 18 = .ok (.goto 4, 3) := by decide +kernel
theorem dX7_isOpen_21 : decode cX7_isOpen 21 = .ok (.iconst 0, 1) := by decide +kernel
theorem dX7_isOpen_22 : decode cX7_isOpen 22 = .ok (.ireturn, 1) := by decide +kernel
set_option maxRecDepth 20000 in
theorem ggX7_holders_X7_noPage : GoodIn wsX7_holders wsX7_noPage := goodIn_r _ [5, 6, 7, 8, 4, 9, 10, 11, 12, 13, 14, 15, 16, 17, 18, 37, 38, 39, 40, 41, 42, 43, 44, 45, 46, 47, 48, 49, 50, 51, 52, 53, 54, 55, 56, 57, 58, 59, 60, 61, 62, 63, 64, 65, 66] (by decide +kernel) (by decide +kernel)
set_option maxRecDepth 20000 in
theorem gX7_holders_X7_noPage : GoodIn wsX7_holders (wsV RX7 179 RX7 yX7_noPage wsX7_noPage) := goodIn_app (goodIn_of _ (by decide +kernel)) ggX7_holders_X7_noPage
set_option maxRecDepth 20000 in
theorem ggX7_holders_X7_holdersOf : GoodIn wsX7_holders wsX7_holdersOf := goodIn_r _ [22, 23, 24, 25, 26, 27, 4, 28, 29, 30, 31, 32, 33, 34, 35, 36, 11, 12, 13, 37, 38, 39, 40, 41, 42, 43, 44, 45, 46, 47, 48, 49, 50, 51, 52, 53, 54, 55, 56, 57, 58, 59, 60, 61, 62, 63, 64, 65, 66] (by decide +kernel) (by decide +kernel)
set_option maxRecDepth 20000 in
theorem gX7_holders_X7_holdersOf : GoodIn wsX7_holders (wsV RX7 155 RX7 yX7_holdersOf wsX7_holdersOf) := goodIn_app (goodIn_of _ (by decide +kernel)) ggX7_holders_X7_holdersOf
theorem dX7_holders_0 : decode cX7_holders 0 = .ok (.aload_n 0, 1) := by decide +kernel
theorem dX7_holders_1 : decode cX7_holders 1 = .ok (.iload_n 1, 1) := by decide +kernel
theorem dX7_holders_2 : decode cX7_holders 2 = .ok (.invokevirtual 179, 3) := by decide +kernel
theorem dX7_holders_5 : decode cX7_holders 5 = .ok (.ifCond .eq 7, 3) := by decide +kernel
theorem dX7_holders_8 : decode cX7_holders 8 = .ok (.iconst 0, 1) := by decide +kernel
theorem dX7_holders_9 : decode cX7_holders 9 = .ok (.goto 8, 3) := by decide +kernel
theorem dX7_holders_12 : decode cX7_holders 12 = .ok (.aload_n 0, 1) := by decide +kernel
theorem dX7_holders_13 : decode cX7_holders 13 = .ok (.iload_n 1, 1) := by decide +kernel
theorem dX7_holders_14 : decode cX7_holders 14 = .ok (.invokevirtual 155, 3) := by decide +kernel
theorem dX7_holders_17 : decode cX7_holders 17 = .ok (.ireturn, 1) := by decide +kernel
set_option maxRecDepth 20000 in
theorem ggX7_canStrike_X7_isCase : GoodIn wsX7_canStrike wsX7_isCase := goodIn_r _ [5, 6, 7, 8, 4, 9, 48, 49, 50, 51, 52, 53, 54, 55, 56, 57, 58, 59, 60, 61, 62, 63, 64, 65, 66, 67, 68, 69, 70, 71, 72, 73, 74, 75, 76, 77] (by decide +kernel) (by decide +kernel)
set_option maxRecDepth 20000 in
theorem gX7_canStrike_X7_isCase : GoodIn wsX7_canStrike (wsV RX7 173 RX7 yX7_isCase wsX7_isCase) := goodIn_app (goodIn_of _ (by decide +kernel)) ggX7_canStrike_X7_isCase
set_option maxRecDepth 20000 in
theorem ggX7_canStrike_X7_isPage : GoodIn wsX7_canStrike wsX7_isPage := goodIn_r _ [13, 14, 7, 8, 4, 9, 48, 49, 50, 51, 52, 53, 54, 55, 56, 57, 58, 59, 60, 61, 62, 63, 64, 65, 66, 67, 68, 69, 70, 71, 72, 73, 74, 75, 76, 77] (by decide +kernel) (by decide +kernel)
set_option maxRecDepth 20000 in
theorem gX7_canStrike_X7_isPage : GoodIn wsX7_canStrike (wsV RX7 126 RX7 yX7_isPage wsX7_isPage) := goodIn_app (goodIn_of _ (by decide +kernel)) ggX7_canStrike_X7_isPage
set_option maxRecDepth 20000 in
theorem ggX7_canStrike_X7_refused : GoodIn wsX7_canStrike wsX7_refused := goodIn_r _ [18, 19, 48, 49, 50, 51, 52, 53, 54, 55, 56, 57, 58, 59, 60, 61, 62, 63, 64, 65, 66, 67, 68, 69, 70, 71, 72, 73, 74, 75, 76, 77] (by decide +kernel) (by decide +kernel)
set_option maxRecDepth 20000 in
theorem gX7_canStrike_X7_refused : GoodIn wsX7_canStrike (wsV RX7 104 RX7 yX7_refused wsX7_refused) := goodIn_app (goodIn_of _ (by decide +kernel)) ggX7_canStrike_X7_refused
set_option maxRecDepth 20000 in
theorem ggX7_canStrike_X7_may : GoodIn wsX7_canStrike wsX7_may := goodIn_r _ [23, 24, 25, 26, 27, 4, 28, 29, 30, 31, 32, 33, 34, 35, 36, 6, 37, 38, 39, 40, 41, 42, 43, 44, 45, 46, 47, 7, 8, 9, 48, 49, 50, 51, 52, 53, 54, 55, 56, 57, 58, 59, 60, 61, 62, 63, 64, 65, 66, 67, 68, 69, 70, 71, 72, 73, 74, 75, 76, 77] (by decide +kernel) (by decide +kernel)
set_option maxRecDepth 20000 in
theorem gX7_canStrike_X7_may : GoodIn wsX7_canStrike (wsV RX7 176 RX7 yX7_may wsX7_may) := goodIn_app (goodIn_of _ (by decide +kernel)) ggX7_canStrike_X7_may
theorem dX7_canStrike_0 : decode cX7_canStrike 0 = .ok (.aload_n 0, 1) := by decide +kernel
theorem dX7_canStrike_1 : decode cX7_canStrike 1 = .ok (.iload_n 1, 1) := by decide +kernel
theorem dX7_canStrike_2 : decode cX7_canStrike 2 = .ok (.invokevirtual 173, 3) := by decide +kernel
theorem dX7_canStrike_5 : decode cX7_canStrike 5 = .ok (.ifCond .eq 15, 3) := by decide +kernel
theorem dX7_canStrike_8 : decode cX7_canStrike 8 = .ok (.aload_n 0, 1) := by decide +kernel
theorem dX7_canStrike_9 : decode cX7_canStrike 9 = .ok (.iload_n 2, 1) := by decide +kernel
theorem dX7_canStrike_10 : decode cX7_canStrike 10 = .ok (.invokevirtual 126, 3) := by decide +kernel
theorem dX7_canStrike_13 : decode cX7_canStrike 13 = .ok (.ifCond .eq 7, 3) := by decide +kernel
theorem dX7_canStrike_16 : decode cX7_canStrike 16 = .ok (.iconst 1, 1) := by decide +kernel
theorem dX7_canStrike_17 : decode cX7_canStrike 17 = .ok (.goto 4, 3) := by decide +kernel
theorem dX7_canStrike_20 : decode cX7_canStrike 20 = .ok (.iconst 0, 1) := by decide +kernel
theorem dX7_canStrike_21 : decode cX7_canStrike 21 = .ok (.istore_n 3, 1) := by decide +kernel
theorem dX7_canStrike_22 : decode cX7_canStrike 22 = .ok (.aload_n 0, 1) := by decide +kernel
theorem dX7_canStrike_23 : decode cX7_canStrike 23 = .ok (.iload_n 3, 1) := by decide +kernel
theorem dX7_canStrike_24 : decode cX7_canStrike 24 = .ok (.ifCond .eq 7, 3) := by decide +kernel
theorem dX7_canStrike_27 : decode cX7_canStrike 27 = .ok (.iconst 0, 1) := by decide +kernel
theorem dX7_canStrike_28 : decode cX7_canStrike 28 = .ok (.goto 4, 3) := by decide +kernel
theorem dX7_canStrike_31 : decode cX7_canStrike 31 = .ok (.iconst 1, 1) := by decide +kernel
theorem dX7_canStrike_32 : decode cX7_canStrike 32 = .ok (.invokevirtual 104, 3) := by decide +kernel
theorem dX7_canStrike_35 : decode cX7_canStrike 35 = .ok (.ifCond .ne 16, 3) := by decide +kernel
theorem dX7_canStrike_38 : decode cX7_canStrike 38 = .ok (.aload_n 0, 1) := by decide +kernel
theorem dX7_canStrike_39 : decode cX7_canStrike 39 = .ok (.iload_n 1, 1) := by decide +kernel
theorem dX7_canStrike_40 : decode cX7_canStrike 40 = .ok (.iload_n 2, 1) := by decide +kernel
theorem dX7_canStrike_41 : decode cX7_canStrike 41 = .ok (.invokevirtual 176, 3) := by decide +kernel
theorem dX7_canStrike_44 : decode cX7_canStrike 44 = .ok (.ifCond .eq 7, 3) := by decide +kernel
theorem dX7_canStrike_47 : decode cX7_canStrike 47 = .ok (.iconst 1, 1) := by decide +kernel
theorem dX7_canStrike_48 : decode cX7_canStrike 48 = .ok (.goto 4, 3) := by decide +kernel
theorem dX7_canStrike_51 : decode cX7_canStrike 51 = .ok (.iconst 0, 1) := by decide +kernel
theorem dX7_canStrike_52 : decode cX7_canStrike 52 = .ok (.ireturn, 1) := by decide +kernel
