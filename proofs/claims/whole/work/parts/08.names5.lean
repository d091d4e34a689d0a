theorem dX8_staysOpen_75 : decode cX8_staysOpen 75 = .ok (.ireturn, 1) := by decide +kernel
set_option maxRecDepth 20000 in
theorem ggX8_toPress_X8_isBurner : GoodIn wsX8_toPress wsX8_isBurner := goodIn_r _ [6, 7, 8, 5, 9] (by decide +kernel) (by decide +kernel)
set_option maxRecDepth 20000 in
theorem gX8_toPress_X8_isBurner : GoodIn wsX8_toPress (va_wsS RX8 101 yX8_isBurner wsX8_isBurner) := goodIn_app (goodIn_of _ (by decide +kernel)) ggX8_toPress_X8_isBurner
set_option maxRecDepth 20000 in
theorem ggX8_toPress_X8_in : GoodIn wsX8_toPress wsX8_in := goodIn_r _ [9] (by decide +kernel) (by decide +kernel)
set_option maxRecDepth 20000 in
theorem gX8_toPress_X8_in : GoodIn wsX8_toPress (va_wsS RX8 35 yX8_in wsX8_in) := goodIn_app (goodIn_of _ (by decide +kernel)) ggX8_toPress_X8_in
set_option maxRecDepth 20000 in
theorem ggX8_toPress_X8_get : GoodIn wsX8_toPress wsX8_get := goodIn_r _ [13, 2, 29, 30, 31, 32, 33, 34, 35, 36, 37, 38, 39, 40, 41, 42] (by decide +kernel) (by decide +kernel)
set_option maxRecDepth 20000 in
theorem gX8_toPress_X8_get : GoodIn wsX8_toPress (wsV RX8 53 RX8 yX8_get wsX8_get) := goodIn_app (goodIn_of _ (by decide +kernel)) ggX8_toPress_X8_get
set_option maxRecDepth 20000 in
theorem ggX8_toPress_X8_heat : GoodIn wsX8_toPress wsX8_heat := goodIn_r _ [16, 17, 18, 5, 19] (by decide +kernel) (by decide +kernel)
set_option maxRecDepth 20000 in
theorem gX8_toPress_X8_heat : GoodIn wsX8_toPress (va_wsS RX8 79 yX8_heat wsX8_heat) := goodIn_app (goodIn_of _ (by decide +kernel)) ggX8_toPress_X8_heat
set_option maxRecDepth 20000 in
theorem ggX8_toPress_X8_byFlame : GoodIn wsX8_toPress wsX8_byFlame := goodIn_r _ [22, 23, 24, 5, 25, 17, 18, 19, 26, 27, 28] (by decide +kernel) (by decide +kernel)
set_option maxRecDepth 20000 in
theorem gX8_toPress_X8_byFlame : GoodIn wsX8_toPress (va_wsS RX8 82 yX8_byFlame wsX8_byFlame) := goodIn_app (goodIn_of _ (by decide +kernel)) ggX8_toPress_X8_byFlame
theorem dX8_toPress_0 : decode cX8_toPress 0 = .ok (.aload_n 0, 1) := by decide +kernel
theorem dX8_toPress_1 : decode cX8_toPress 1 = .ok (.iconst 0, 1) := by decide +kernel
theorem dX8_toPress_2 : decode cX8_toPress 2 = .ok (.putfield 31, 3) := by decide +kernel
theorem dX8_toPress_5 : decode cX8_toPress 5 = .ok (.iload_n 1, 1) := by decide +kernel
theorem dX8_toPress_6 : decode cX8_toPress 6 = .ok (.invokestatic 101, 3) := by decide +kernel
theorem dX8_toPress_9 : decode cX8_toPress 9 = .ok (.ifCond .ne 5, 3) := by decide +kernel
theorem dX8_toPress_12 : decode cX8_toPress 12 = .ok (.iconst (-1), 1) := by decide +kernel
theorem dX8_toPress_13 : decode cX8_toPress 13 = .ok (.ireturn, 1) := by decide +kernel
theorem dX8_toPress_14 : decode cX8_toPress 14 = .ok (.iload_n 2, 1) := by decide +kernel
theorem dX8_toPress_15 : decode cX8_toPress 15 = .ok (.iconst 1, 1) := by decide +kernel
theorem dX8_toPress_16 : decode cX8_toPress 16 = .ok (.iconst 2, 1) := by decide +kernel
theorem dX8_toPress_17 : decode cX8_toPress 17 = .ok (.invokestatic 35, 3) := by decide +kernel
theorem dX8_toPress_20 : decode cX8_toPress 20 = .ok (.ifCond .ne 6, 3) := by decide +kernel
theorem dX8_toPress_23 : decode cX8_toPress 23 = .ok (.bipush (-2), 2) := by decide +kernel
theorem dX8_toPress_25 : decode cX8_toPress 25 = .ok (.ireturn, 1) := by decide +kernel
theorem dX8_toPress_26 : decode cX8_toPress 26 = .ok (.aload_n 0, 1) := by decide +kernel
theorem dX8_toPress_27 : decode cX8_toPress 27 = .ok (.iload_n 1, 1) := by decide +kernel
theorem dX8_toPress_28 : decode cX8_toPress 28 = .ok (.iconst 0, 1) := by decide +kernel
theorem dX8_toPress_29 : decode cX8_toPress 29 = .ok (.invokevirtual 53, 3) := by decide +kernel
theorem dX8_toPress_32 : decode cX8_toPress 32 = .ok (.istore_n 3, 1) := by decide +kernel
theorem dX8_toPress_33 : decode cX8_toPress 33 = .ok (.iconst 0, 1) := by decide +kernel
theorem dX8_toPress_34 : decode cX8_toPress 34 = .ok (.istore 4, 2) := by decide +kernel
theorem dX8_toPress_36 : decode cX8_toPress 36 = .ok (.aload_n 0, 1) := by decide +kernel
theorem dX8_toPress_37 : decode cX8_toPress 37 = .ok (.iload_n 1, 1) := by decide +kernel
theorem dX8_toPress_38 : decode cX8_toPress 38 = .ok (.iconst 5, 1) := by decide +kernel
theorem dX8_toPress_39 : decode cX8_toPress 39 = .ok (.invokevirtual 53, 3) := by decide +kernel
theorem dX8_toPress_42 : decode cX8_toPress 42 = .ok (.istore 5, 2) := by decide +kernel
theorem dX8_toPress_44 : decode cX8_toPress 44 = .ok (.iload 5, 2) := by decide +kernel
theorem dX8_toPress_46 : decode cX8_toPress 46 = .ok (.aload_n 0, 1) := by decide +kernel
theorem dX8_toPress_47 : decode cX8_toPress 47 = .ok (.getfield 7, 3) := by decide +kernel
theorem dX8_toPress_50 : decode cX8_toPress 50 = .ok (.iconst 0, 1) := by decide +kernel
theorem dX8_toPress_51 : decode cX8_toPress 51 = .ok (.iaload, 1) := by decide +kernel
theorem dX8_toPress_52 : decode cX8_toPress 52 = .ok (.if_icmp .ge 22, 3) := by decide +kernel
theorem dX8_toPress_55 : decode cX8_toPress 55 = .ok (.iload_n 3, 1) := by decide +kernel
theorem dX8_toPress_56 : decode cX8_toPress 56 = .ok (.iload 5, 2) := by decide +kernel
theorem dX8_toPress_58 : decode cX8_toPress 58 = .ok (.iload_n 3, 1) := by decide +kernel
theorem dX8_toPress_59 : decode cX8_toPress 59 = .ok (.iload_n 2, 1) := by decide +kernel
theorem dX8_toPress_60 : decode cX8_toPress 60 = .ok (.invokestatic 79, 3) := by decide +kernel
theorem dX8_toPress_63 : decode cX8_toPress 63 = .ok (.invokestatic 82, 3) := by decide +kernel
theorem dX8_toPress_66 : decode cX8_toPress 66 = .ok (.istore 5, 2) := by decide +kernel
theorem dX8_toPress_68 : decode cX8_toPress 68 = .ok (.iinc 4 1, 3) := by decide +kernel
theorem dX8_toPress_71 : decode cX8_toPress 71 = .ok (.goto (-27), 3) := by decide +kernel
theorem dX8_toPress_74 : decode cX8_toPress 74 = .ok (.iload 4, 2) := by decide +kernel
theorem dX8_toPress_76 : decode cX8_toPress 76 = .ok (.ireturn, 1) := by decide +kernel
set_option maxRecDepth 20000 in
theorem ggX8_isClear_X8_isOpen : GoodIn wsX8_isClear wsX8_isOpen := goodIn_r _ [6, 1, 7, 8, 9, 5, 10, 11, 12, 13, 14, 15, 16, 17, 18, 19, 20, 21, 22, 23, 24] (by decide +kernel) (by decide +kernel)
set_option maxRecDepth 20000 in
theorem gX8_isClear_X8_isOpen : GoodIn wsX8_isClear (wsV RX8 60 RX8 yX8_isOpen wsX8_isOpen) := goodIn_app (goodIn_of _ (by decide +kernel)) ggX8_isClear_X8_isOpen
set_option maxRecDepth 20000 in
theorem ggX8_isClear_X8_get : GoodIn wsX8_isClear wsX8_get := goodIn_r _ [10, 1, 11, 12, 13, 14, 15, 16, 17, 18, 19, 20, 21, 22, 23, 24] (by decide +kernel) (by decide +kernel)
set_option maxRecDepth 20000 in
theorem gX8_isClear_X8_get : GoodIn wsX8_isClear (wsV RX8 53 RX8 yX8_get wsX8_get) := goodIn_app (goodIn_of _ (by decide +kernel)) ggX8_isClear_X8_get
theorem dX8_isClear_0 : decode cX8_isClear 0 = .ok (.aload_n 0, 1) := by decide +kernel
theorem dX8_isClear_1 : decode cX8_isClear 1 = .ok (.getfield 7, 3) := by decide +kernel
theorem dX8_isClear_4 : decode cX8_isClear 4 = .ok (.iconst 5, 1) := by decide +kernel
theorem dX8_isClear_5 : decode cX8_isClear 5 = .ok (.iaload, 1) := by decide +kernel
theorem dX8_isClear_6 : decode cX8_isClear 6 = .ok (.ifCond .ne 7, 3) := by decide +kernel
theorem dX8_isClear_9 : decode cX8_isClear 9 = .ok (.iconst 1, 1) := by decide +kernel
theorem dX8_isClear_10 : decode cX8_isClear 10 = .ok (.goto 4, 3) := by decide +kernel
theorem dX8_isClear_13 : decode cX8_isClear 13 = .ok (.iconst 0, 1) := by decide +kernel
theorem dX8_isClear_14 : decode cX8_isClear 14 = .ok (.istore_n 1, 1) := by decide +kernel
theorem dX8_isClear_15 : decode cX8_isClear 15 = .ok (.iconst 0, 1) := by decide +kernel
theorem dX8_isClear_16 : decode cX8_isClear 16 = .ok (.istore_n 2, 1) := by decide +kernel
theorem dX8_isClear_17 : decode cX8_isClear 17 = .ok (.iload_n 2, 1) := by decide +kernel
theorem dX8_isClear_18 : decode cX8_isClear 18 = .ok (.iconst 4, 1) := by decide +kernel
theorem dX8_isClear_19 : decode cX8_isClear 19 = .ok (.if_icmp .ge 36, 3) := by decide +kernel
theorem dX8_isClear_22 : decode cX8_isClear 22 = .ok (.iload_n 1, 1) := by decide +kernel
theorem dX8_isClear_23 : decode cX8_isClear 23 = .ok (.ifCond .eq 24, 3) := by decide +kernel
theorem dX8_isClear_26 : decode cX8_isClear 26 = .ok (.aload_n 0, 1) := by decide +kernel
theorem dX8_isClear_27 : decode cX8_isClear 27 = .ok (.iload_n 2, 1) := by decide +kernel
theorem dX8_isClear_28 : decode cX8_isClear 28 = .ok (.invokevirtual 60, 3) := by decide +kernel
theorem dX8_isClear_31 : decode cX8_isClear 31 = .ok (.ifCond .eq 12, 3) := by decide +kernel
theorem dX8_isClear_34 : decode cX8_isClear 34 = .ok (.aload_n 0, 1) := by decide +kernel
theorem dX8_isClear_35 : decode cX8_isClear 35 = .ok (.iload_n 2, 1) := by decide +kernel
theorem dX8_isClear_36 : decode cX8_isClear 36 = .ok (.iconst 4, 1) := by decide +kernel
theorem dX8_isClear_37 : decode cX8_isClear 37 = .ok (.invokevirtual 53, 3) := by decide +kernel
theorem dX8_isClear_40 : decode cX8_isClear 40 = .ok (.ifCond .eq 7, 3) := by decide +kernel
theorem dX8_isClear_43 : decode cX8_isClear 43 = .ok (.iconst 1, 1) := by decide +kernel
theorem dX8_isClear_44 : decode cX8_isClear 44 = .ok (.goto 4, 3) := by decide +kernel
theorem dX8_isClear_47 : decode cX8_isClear 47 = .ok (.iconst 0, 1) := by decide +kernel
theorem dX8_isClear_48 : decode cX8_isClear 48 = .ok (.istore_n 1, 1) := by decide +kernel
theorem dX8_isClear_49 : decode cX8_isClear 49 = .ok (.iinc 2 1, 3) := by decide +kernel
theorem dX8_isClear_52 : decode cX8_isClear 52 = .ok (.goto (-35), 3) := by decide +kernel
theorem dX8_isClear_55 : decode cX8_isClear 55 = .ok (.iload_n 1, 1) := by decide +kernel
theorem dX8_isClear_56 : decode cX8_isClear 56 = .ok (.ireturn, 1) := by decide +kernel
set_option maxRecDepth 20000 in
theorem ggX8_clearIn_X8_putAside : GoodIn wsX8_clearIn wsX8_putAside := goodIn_r _ [6, 7, 8, 74, 75, 76, 77, 78, 79, 80, 81, 82, 83, 84, 85, 86, 87] (by decide +kernel) (by decide +kernel)
set_option maxRecDepth 20000 in
theorem gX8_clearIn_X8_putAside : GoodIn wsX8_clearIn (wsV RX8 152 RX8 yX8_putAside wsX8_putAside) := goodIn_app (goodIn_of _ (by decide +kernel)) ggX8_clearIn_X8_putAside
set_option maxRecDepth 20000 in
theorem ggX8_clearIn_X8_isClear : GoodIn wsX8_clearIn wsX8_isClear := goodIn_r _ [12, 8, 13, 14, 15, 5, 16, 17, 18, 19, 20, 74, 75, 76, 77, 78, 79, 80, 81, 82, 83, 84, 85, 86, 87] (by decide +kernel) (by decide +kernel)
set_option maxRecDepth 20000 in
theorem gX8_clearIn_X8_isClear : GoodIn wsX8_clearIn (wsV RX8 155 RX8 yX8_isClear wsX8_isClear) := goodIn_app (goodIn_of _ (by decide +kernel)) ggX8_clearIn_X8_isClear
set_option maxRecDepth 20000 in
theorem ggX8_clearIn_X8_ticks : GoodIn wsX8_clearIn wsX8_ticks := goodIn_r _ [24, 8, 25, 26, 27, 5, 28, 29, 30, 31, 32, 17, 18, 19, 20, 13, 14, 15, 16, 33, 34, 35, 36, 37, 38, 39, 40, 41, 42, 43, 44, 45, 46, 47, 48, 49, 50, 51, 52, 53, 54, 55, 56, 57, 58, 59, 60, 61, 62, 63, 64, 65, 66, 67, 68, 69, 74, 75, 76, 77, 78, 79, 80, 81, 82, 83, 84, 85, 86, 87] (by decide +kernel) (by decide +kernel)
set_option maxRecDepth 20000 in
theorem gX8_clearIn_X8_ticks : GoodIn wsX8_clearIn (wsV RX8 146 RX8 yX8_ticks wsX8_ticks) := goodIn_app (goodIn_of _ (by decide +kernel)) ggX8_clearIn_X8_ticks
set_option maxRecDepth 20000 in
theorem ggX8_clearIn_X8_takeBack : GoodIn wsX8_clearIn wsX8_takeBack := goodIn_r _ [73, 8, 7, 74, 75, 76, 77, 78, 79, 80, 81, 82, 83, 84, 85, 86, 87] (by decide +kernel) (by decide +kernel)
set_option maxRecDepth 20000 in
theorem gX8_clearIn_X8_takeBack : GoodIn wsX8_clearIn (wsV RX8 159 RX8 yX8_takeBack wsX8_takeBack) := goodIn_app (goodIn_of _ (by decide +kernel)) ggX8_clearIn_X8_takeBack
theorem dX8_clearIn_0 : decode cX8_clearIn 0 = .ok (.aload_n 0, 1) := by decide +kernel
theorem dX8_clearIn_1 : decode cX8_clearIn 1 = .ok (.iconst 0, 1) := by decide +kernel
theorem dX8_clearIn_2 : decode cX8_clearIn 2 = .ok (.putfield 31, 3) := by decide +kernel
theorem dX8_clearIn_5 : decode cX8_clearIn 5 = .ok (.aload_n 0, 1) := by decide +kernel
theorem dX8_clearIn_6 : decode cX8_clearIn 6 = .ok (.invokevirtual 152, 3) := by decide +kernel
theorem dX8_clearIn_9 : decode cX8_clearIn 9 = .ok (.iconst 0, 1) := by decide +kernel
theorem dX8_clearIn_10 : decode cX8_clearIn 10 = .ok (.istore_n 1, 1) := by decide +kernel
theorem dX8_clearIn_11 : decode cX8_clearIn 11 = .ok (.iload_n 1, 1) := by decide +kernel
theorem dX8_clearIn_12 : decode cX8_clearIn 12 = .ok (.sipush 500, 3) := by decide +kernel
theorem dX8_clearIn_15 : decode cX8_clearIn 15 = .ok (.if_icmp .gt 20, 3) := by decide +kernel
theorem dX8_clearIn_18 : decode cX8_clearIn 18 = .ok (.aload_n 0, 1) := by decide +kernel
theorem dX8_clearIn_19 : decode cX8_clearIn 19 = .ok (.invokevirtual 155, 3) := by decide +kernel
theorem dX8_clearIn_22 : decode cX8_clearIn 22 = .ok (.ifCond .ne 13, 3) := by decide +kernel
theorem dX8_clearIn_25 : decode cX8_clearIn 25 = .ok (.aload_n 0, 1) := by decide +kernel
theorem dX8_clearIn_26 : decode cX8_clearIn 26 = .ok (.invokevirtual 146, 3) := by decide +kernel
theorem dX8_clearIn_29 : decode cX8_clearIn 29 = .ok (.iinc 1 1, 3) := by decide +kernel
theorem dX8_clearIn_32 : decode cX8_clearIn 32 = .ok (.goto (-21), 3) := by decide +kernel
theorem dX8_clearIn_35 : decode cX8_clearIn 35 = .ok (.aload_n 0, 1) := by decide +kernel
theorem dX8_clearIn_36 : decode cX8_clearIn 36 = .ok (.invokevirtual 159, 3) := by decide +kernel
theorem dX8_clearIn_39 : decode cX8_clearIn 39 = .ok (.iload_n 1, 1) := by decide +kernel
theorem dX8_clearIn_40 : decode cX8_clearIn 40 = .ok (.sipush 500, 3) := by decide +kernel
theorem dX8_clearIn_43 : decode cX8_clearIn 43 = .ok (.if_icmp .le 8, 3) := by decide +kernel
theorem dX8_clearIn_46 : decode cX8_clearIn 46 = .ok (.bipush (-5), 2) := by decide +kernel
theorem dX8_clearIn_48 : decode cX8_clearIn 48 = .ok (.goto 4, 3) := by decide +kernel
theorem dX8_clearIn_51 : decode cX8_clearIn 51 = .ok (.iload_n 1, 1) := by decide +kernel
theorem dX8_clearIn_52 : decode cX8_clearIn 52 = .ok (.ireturn, 1) := by decide +kernel
set_option maxRecDepth 20000 in
theorem ggX8_blownIn_X8_isBurner : GoodIn wsX8_blownIn wsX8_isBurner := goodIn_r _ [6, 7, 8, 5, 9] (by decide +kernel) (by decide +kernel)
set_option maxRecDepth 20000 in
theorem gX8_blownIn_X8_isBurner : GoodIn wsX8_blownIn (va_wsS RX8 101 yX8_isBurner wsX8_isBurner) := goodIn_app (goodIn_of _ (by decide +kernel)) ggX8_blownIn_X8_isBurner
set_option maxRecDepth 20000 in
theorem ggX8_blownIn_X8_get : GoodIn wsX8_blownIn wsX8_get := goodIn_r _ [13, 2, 28, 29, 30, 31, 32, 33, 34, 35, 36, 37, 38, 39, 40, 41] (by decide +kernel) (by decide +kernel)
set_option maxRecDepth 20000 in
theorem gX8_blownIn_X8_get : GoodIn wsX8_blownIn (wsV RX8 53 RX8 yX8_get wsX8_get) := goodIn_app (goodIn_of _ (by decide +kernel)) ggX8_blownIn_X8_get
set_option maxRecDepth 20000 in
theorem ggX8_blownIn_X8_draftAt : GoodIn wsX8_blownIn wsX8_draftAt := goodIn_r _ [17, 2, 28, 29, 30, 31, 32, 33, 34, 35, 36, 37, 38, 39, 40, 41] (by decide +kernel) (by decide +kernel)
set_option maxRecDepth 20000 in
theorem gX8_blownIn_X8_draftAt : GoodIn wsX8_blownIn (wsV RX8 88 RX8 yX8_draftAt wsX8_draftAt) := goodIn_app (goodIn_of _ (by decide +kernel)) ggX8_blownIn_X8_draftAt
set_option maxRecDepth 20000 in
theorem ggX8_blownIn_X8_strength : GoodIn wsX8_blownIn wsX8_strength := goodIn_r _ [21, 10, 11, 12, 5, 13, 2, 22, 23, 24, 25, 26, 27, 28, 29, 30, 31, 32, 33, 34, 35, 36, 37, 38, 39, 40, 41] (by decide +kernel) (by decide +kernel)
set_option maxRecDepth 20000 in
theorem gX8_blownIn_X8_strength : GoodIn wsX8_blownIn (wsV RX8 68 RX8 yX8_strength wsX8_strength) := goodIn_app (goodIn_of _ (by decide +kernel)) ggX8_blownIn_X8_strength
theorem dX8_blownIn_0 : decode cX8_blownIn 0 = .ok (.aload_n 0, 1) := by decide +kernel
theorem dX8_blownIn_1 : decode cX8_blownIn 1 = .ok (.iconst 0, 1) := by decide +kernel
theorem dX8_blownIn_2 : decode cX8_blownIn 2 = .ok (.putfield 31, 3) := by decide +kernel
theorem dX8_blownIn_5 : decode cX8_blownIn 5 = .ok (.iload_n 1, 1) := by decide +kernel
theorem dX8_blownIn_6 : decode cX8_blownIn 6 = .ok (.invokestatic 101, 3) := by decide +kernel
theorem dX8_blownIn_9 : decode cX8_blownIn 9 = .ok (.ifCond .ne 5, 3) := by decide +kernel
theorem dX8_blownIn_12 : decode cX8_blownIn 12 = .ok (.iconst (-1), 1) := by decide +kernel
theorem dX8_blownIn_13 : decode cX8_blownIn 13 = .ok (.ireturn, 1) := by decide +kernel
theorem dX8_blownIn_14 : decode cX8_blownIn 14 = .ok (.aload_n 0, 1) := by decide +kernel
theorem dX8_blownIn_15 : decode cX8_blownIn 15 = .ok (.iload_n 1, 1) := by decide +kernel
theorem dX8_blownIn_16 : decode cX8_blownIn 16 = .ok (.iconst 1, 1) := by decide +kernel
theorem dX8_blownIn_17 : decode cX8_blownIn 17 = .ok (.invokevirtual 53, 3) := by decide +kernel
theorem dX8_blownIn_20 : decode cX8_blownIn 20 = .ok (.ifCond .ne 6, 3) := by decide +kernel
theorem dX8_blownIn_23 : decode cX8_blownIn 23 = .ok (.bipush (-4), 2) := by decide +kernel
theorem dX8_blownIn_25 : decode cX8_blownIn 25 = .ok (.ireturn, 1) := by decide +kernel
theorem dX8_blownIn_26 : decode cX8_blownIn 26 = .ok (.iconst 0, 1) := by decide +kernel
theorem dX8_blownIn_27 : decode cX8_blownIn 27 = .ok (.istore_n 2, 1) := by decide +kernel
theorem dX8_blownIn_28 : decode cX8_blownIn 28 = .ok (.iload_n 2, 1) := by decide +kernel
theorem dX8_blownIn_29 : decode cX8_blownIn 29 = .ok (.sipush 500, 3) := by decide +kernel
theorem dX8_blownIn_32 : decode cX8_blownIn 32 = .ok (.if_icmp .gt 31, 3) := by decide +kernel
theorem dX8_blownIn_35 : decode cX8_blownIn 35 = .ok (.aload_n 0, 1) := by decide +kernel
theorem dX8_blownIn_36 : decode cX8_blownIn 36 = .ok (.aload_n 0, 1) := by decide +kernel
theorem dX8_blownIn_37 : decode cX8_blownIn 37 = .ok (.getfield 7, 3) := by decide +kernel
theorem dX8_blownIn_40 : decode cX8_blownIn 40 = .ok (.iconst 4, 1) := by decide +kernel
theorem dX8_blownIn_41 : decode cX8_blownIn 41 = .ok (.iaload, 1) := by decide +kernel
theorem dX8_blownIn_42 : decode cX8_blownIn 42 = .ok (.iload_n 2, 1) := by decide +kernel
theorem dX8_blownIn_43 : decode cX8_blownIn 43 = .ok (.iadd, 1) := by decide +kernel
theorem dX8_blownIn_44 : decode cX8_blownIn 44 = .ok (.invokevirtual 88, 3) := by decide +kernel
theorem dX8_blownIn_47 : decode cX8_blownIn 47 = .ok (.aload_n 0, 1) := by decide +kernel
theorem dX8_blownIn_48 : decode cX8_blownIn 48 = .ok (.iload_n 1, 1) := by decide +kernel
theorem dX8_blownIn_49 : decode cX8_blownIn 49 = .ok (.invokevirtual 68, 3) := by decide +kernel
theorem dX8_blownIn_52 : decode cX8_blownIn 52 = .ok (.if_icmp .le 5, 3) := by decide +kernel
theorem dX8_blownIn_55 : decode cX8_blownIn 55 = .ok (.iload_n 2, 1) := by decide +kernel
theorem dX8_blownIn_56 : decode cX8_blownIn 56 = .ok (.ireturn, 1) := by decide +kernel
theorem dX8_blownIn_57 : decode cX8_blownIn 57 = .ok (.iinc 2 1, 3) := by decide +kernel
theorem dX8_blownIn_60 : decode cX8_blownIn 60 = .ok (.goto (-32), 3) := by decide +kernel
theorem dX8_blownIn_63 : decode cX8_blownIn 63 = .ok (.bipush (-5), 2) := by decide +kernel
theorem dX8_blownIn_65 : decode cX8_blownIn 65 = .ok (.ireturn, 1) := by decide +kernel
set_option maxRecDepth 20000 in
theorem ggX8_entry_X8_in : GoodIn wsX8_entry wsX8_in := goodIn_r _ [6] (by decide +kernel) (by decide +kernel)
set_option maxRecDepth 20000 in
theorem gX8_entry_X8_in : GoodIn wsX8_entry (va_wsS RX8 35 yX8_in wsX8_in) := goodIn_app (goodIn_of _ (by decide +kernel)) ggX8_entry_X8_in
theorem dX8_entry_0 : decode cX8_entry 0 = .ok (.aload_n 0, 1) := by decide +kernel
theorem dX8_entry_1 : decode cX8_entry 1 = .ok (.iconst 0, 1) := by decide +kernel
theorem dX8_entry_2 : decode cX8_entry 2 = .ok (.putfield 31, 3) := by decide +kernel
theorem dX8_entry_5 : decode cX8_entry 5 = .ok (.iload_n 1, 1) := by decide +kernel
theorem dX8_entry_6 : decode cX8_entry 6 = .ok (.ifCond .lt 12, 3) := by decide +kernel
theorem dX8_entry_9 : decode cX8_entry 9 = .ok (.iload_n 2, 1) := by decide +kernel
theorem dX8_entry_10 : decode cX8_entry 10 = .ok (.iconst 0, 1) := by decide +kernel
theorem dX8_entry_11 : decode cX8_entry 11 = .ok (.iconst 1, 1) := by decide +kernel
theorem dX8_entry_12 : decode cX8_entry 12 = .ok (.invokestatic 35, 3) := by decide +kernel
theorem dX8_entry_15 : decode cX8_entry 15 = .ok (.ifCond .ne 6, 3) := by decide +kernel
theorem dX8_entry_18 : decode cX8_entry 18 = .ok (.bipush (-2), 2) := by decide +kernel
theorem dX8_entry_20 : decode cX8_entry 20 = .ok (.ireturn, 1) := by decide +kernel
theorem dX8_entry_21 : decode cX8_entry 21 = .ok (.iload_n 1, 1) := by decide +kernel
theorem dX8_entry_22 : decode cX8_entry 22 = .ok (.aload_n 0, 1) := by decide +kernel
theorem dX8_entry_23 : decode cX8_entry 23 = .ok (.getfield 7, 3) := by decide +kernel
theorem dX8_entry_26 : decode cX8_entry 26 = .ok (.bipush 43, 2) := by decide +kernel
theorem dX8_entry_28 : decode cX8_entry 28 = .ok (.iaload, 1) := by decide +kernel
theorem dX8_entry_29 : decode cX8_entry 29 = .ok (.if_icmp .ge 19, 3) := by decide +kernel
theorem dX8_entry_32 : decode cX8_entry 32 = .ok (.aload_n 0, 1) := by decide +kernel
theorem dX8_entry_33 : decode cX8_entry 33 = .ok (.getfield 7, 3) := by decide +kernel
theorem dX8_entry_36 : decode cX8_entry 36 = .ok (.bipush 44, 2) := by decide +kernel
theorem dX8_entry_38 : decode cX8_entry 38 = .ok (.iconst 2, 1) := by decide +kernel
theorem dX8_entry_39 : decode cX8_entry 39 = .ok (.iload_n 1, 1) := by decide +kernel
theorem dX8_entry_40 : decode cX8_entry 40 = .ok (.imul, 1) := by decide +kernel
theorem dX8_entry_41 : decode cX8_entry 41 = .ok (.iadd, 1) := by decide +kernel
theorem dX8_entry_42 : decode cX8_entry 42 = .ok (.iload_n 2, 1) := by decide +kernel
theorem dX8_entry_43 : decode cX8_entry 43 = .ok (.iadd, 1) := by decide +kernel
theorem dX8_entry_44 : decode cX8_entry 44 = .ok (.iaload, 1) := by decide +kernel
theorem dX8_entry_45 : decode cX8_entry 45 = .ok (.goto 5, 3) := by decide +kernel
theorem dX8_entry_48 : decode cX8_entry 48 = .ok (.bipush (-5), 2) := by decide +kernel
theorem dX8_entry_50 : decode cX8_entry 50 = .ok (.ireturn, 1) := by decide +kernel
set_option maxRecDepth 20000 in
theorem ggX8_event_X8_in : GoodIn wsX8_event wsX8_in := goodIn_r _ [6] (by decide +kernel) (by decide +kernel)
set_option maxRecDepth 20000 in
theorem gX8_event_X8_in : GoodIn wsX8_event (va_wsS RX8 35 yX8_in wsX8_in) := goodIn_app (goodIn_of _ (by decide +kernel)) ggX8_event_X8_in
theorem dX8_event_0 : decode cX8_event 0 = .ok (.aload_n 0, 1) := by decide +kernel
theorem dX8_event_1 : decode cX8_event 1 = .ok (.iconst 0, 1) := by decide +kernel
theorem dX8_event_2 : decode cX8_event 2 = .ok (.putfield 31, 3) := by decide +kernel
theorem dX8_event_5 : decode cX8_event 5 = .ok (.iload_n 1, 1) := by decide +kernel
theorem dX8_event_6 : decode cX8_event 6 = .ok (.ifCond .lt 12, 3) := by decide +kernel
theorem dX8_event_9 : decode cX8_event 9 = .ok (.iload_n 2, 1) := by decide +kernel
theorem dX8_event_10 : decode cX8_event 10 = .ok (.iconst 0, 1) := by decide +kernel
theorem dX8_event_11 : decode cX8_event 11 = .ok (.iconst 2, 1) := by decide +kernel
theorem dX8_event_12 : decode cX8_event 12 = .ok (.invokestatic 35, 3) := by decide +kernel
theorem dX8_event_15 : decode cX8_event 15 = .ok (.ifCond .ne 6, 3) := by decide +kernel
theorem dX8_event_18 : decode cX8_event 18 = .ok (.bipush (-2), 2) := by decide +kernel
theorem dX8_event_20 : decode cX8_event 20 = .ok (.ireturn, 1) := by decide +kernel
theorem dX8_event_21 : decode cX8_event 21 = .ok (.iload_n 1, 1) := by decide +kernel
theorem dX8_event_22 : decode cX8_event 22 = .ok (.aload_n 0, 1) := by decide +kernel
theorem dX8_event_23 : decode cX8_event 23 = .ok (.getfield 7, 3) := by decide +kernel
theorem dX8_event_26 : decode cX8_event 26 = .ok (.bipush 12, 2) := by decide +kernel
theorem dX8_event_28 : decode cX8_event 28 = .ok (.iaload, 1) := by decide +kernel
theorem dX8_event_29 : decode cX8_event 29 = .ok (.if_icmp .ge 29, 3) := by decide +kernel
theorem dX8_event_32 : decode cX8_event 32 = .ok (.aload_n 0, 1) := by decide +kernel
theorem dX8_event_33 : decode cX8_event 33 = .ok (.getfield 7, 3) := by decide +kernel
theorem dX8_event_36 : decode cX8_event 36 = .ok (.bipush 13, 2) := by decide +kernel
theorem dX8_event_38 : decode cX8_event 38 = .ok (.iconst 3, 1) := by decide +kernel
theorem dX8_event_39 : decode cX8_event 39 = .ok (.aload_n 0, 1) := by decide +kernel
theorem dX8_event_40 : decode cX8_event 40 = .ok (.getfield 7, 3) := by decide +kernel
theorem dX8_event_43 : decode cX8_event 43 = .ok (.bipush 12, 2) := by decide +kernel
theorem dX8_event_45 : decode cX8_event 45 = .ok (.iaload, 1) := by decide +kernel
theorem dX8_event_46 : decode cX8_event 46 = .ok (.iconst 1, 1) := by decide +kernel
theorem dX8_event_47 : decode cX8_event 47 = .ok (.isub, 1) := by decide +kernel
theorem dX8_event_48 : decode cX8_event 48 = .ok (.iload_n 1, 1) := by decide +kernel
theorem dX8_event_49 : decode cX8_event 49 = .ok (.isub, 1) := by decide +kernel
theorem dX8_event_50 : decode cX8_event 50 = .ok (.imul, 1) := by decide +kernel
theorem dX8_event_51 : decode cX8_event 51 = .ok (.iadd, 1) := by decide +kernel
theorem dX8_event_52 : decode cX8_event 52 = .ok (.iload_n 2, 1) := by decide +kernel
theorem dX8_event_53 : decode cX8_event 53 = .ok (.iadd, 1) := by decide +kernel
theorem dX8_event_54 : decode cX8_event 54 = .ok (.iaload, 1) := by decide +kernel
theorem dX8_event_55 : decode cX8_event 55 = .ok (.goto 5, 3) := by decide +kernel
theorem dX8_event_58 : decode cX8_event 58 = .ok (.bipush (-5), 2) := by decide +kernel
theorem dX8_event_60 : decode cX8_event 60 = .ok (.ireturn, 1) := by decide +kernel
set_option maxRecDepth 20000 in
theorem ggX8_openValves_X8_isOpen : GoodIn wsX8_openValves wsX8_isOpen := goodIn_r _ [5, 6, 7, 8, 9, 4, 10, 11, 12, 13, 14, 15, 16, 17, 18, 19, 20, 21, 22, 23, 24] (by decide +kernel) (by decide +kernel)
set_option maxRecDepth 20000 in
theorem gX8_openValves_X8_isOpen : GoodIn wsX8_openValves (wsV RX8 60 RX8 yX8_isOpen wsX8_isOpen) := goodIn_app (goodIn_of _ (by decide +kernel)) ggX8_openValves_X8_isOpen
theorem dX8_openValves_0 : decode cX8_openValves 0 = .ok (.iconst 0, 1) := by decide +kernel
theorem dX8_openValves_1 : decode cX8_openValves 1 = .ok (.istore_n 1, 1) := by decide +kernel
theorem dX8_openValves_2 : decode cX8_openValves 2 = .ok (.iconst 0, 1) := by decide +kernel
theorem dX8_openValves_3 : decode cX8_openValves 3 = .ok (.istore_n 2, 1) := by decide +kernel
theorem dX8_openValves_4 : decode cX8_openValves 4 = .ok (.iload_n 2, 1) := by decide +kernel
theorem dX8_openValves_5 : decode cX8_openValves 5 = .ok (.iconst 4, 1) := by decide +kernel
theorem dX8_openValves_6 : decode cX8_openValves 6 = .ok (.if_icmp .ge 25, 3) := by decide +kernel
theorem dX8_openValves_9 : decode cX8_openValves 9 = .ok (.iload_n 1, 1) := by decide +kernel
theorem dX8_openValves_10 : decode cX8_openValves 10 = .ok (.aload_n 0, 1) := by decide +kernel
theorem dX8_openValves_11 : decode cX8_openValves 11 = .ok (.iload_n 2, 1) := by decide +kernel
theorem dX8_openValves_12 : decode cX8_openValves 12 = .ok (.invokevirtual 60, 3) := by decide +kernel
theorem dX8_openValves_15 : decode cX8_openValves 15 = .ok (.ifCond .eq 7, 3) := by decide +kernel
theorem dX8_openValves_18 : decode cX8_openValves 18 = .ok (.iconst 1, 1) := by decide +kernel
theorem dX8_openValves_19 : decode cX8_openValves 19 = .ok (.goto 4, 3) := by decide +kernel
theorem dX8_openValves_22 : decode cX8_openValves 22 = .ok (.iconst 0, 1) := by decide +kernel
theorem dX8_openValves_23 : decode cX8_openValves 23 = .ok (.iadd, 1) := by decide +kernel
theorem dX8_openValves_24 : decode cX8_openValves 24 = .ok (.istore_n 1, 1) := by decide +kernel
theorem dX8_openValves_25 : decode cX8_openValves 25 = .ok (.iinc 2 1, 3) := by decide +kernel
theorem dX8_openValves_28 : decode cX8_openValves 28 = .ok (.goto (-24), 3) := by decide +kernel
theorem dX8_openValves_31 : decode cX8_openValves 31 = .ok (.iload_n 1, 1) := by decide +kernel
theorem dX8_openValves_32 : decode cX8_openValves 32 = .ok (.ireturn, 1) := by decide +kernel
set_option maxRecDepth 20000 in
theorem ggX8_count_X8_draftAt : GoodIn wsX8_count wsX8_draftAt := goodIn_r _ [9, 2, 29, 30, 31, 32, 33, 34, 35, 36, 37, 38, 39, 40, 41, 42] (by decide +kernel) (by decide +kernel)
set_option maxRecDepth 20000 in
theorem gX8_count_X8_draftAt : GoodIn wsX8_count (wsV RX8 88 RX8 yX8_draftAt wsX8_draftAt) := goodIn_app (goodIn_of _ (by decide +kernel)) ggX8_count_X8_draftAt
set_option maxRecDepth 20000 in
theorem ggX8_count_X8_sumOver : GoodIn wsX8_count wsX8_sumOver := goodIn_r _ [13, 14, 15, 16, 8, 17, 2, 29, 30, 31, 32, 33, 34, 35, 36, 37, 38, 39, 40, 41, 42] (by decide +kernel) (by decide +kernel)
set_option maxRecDepth 20000 in
theorem gX8_count_X8_sumOver : GoodIn wsX8_count (wsV RX8 139 RX8 yX8_sumOver wsX8_sumOver) := goodIn_app (goodIn_of _ (by decide +kernel)) ggX8_count_X8_sumOver
set_option maxRecDepth 20000 in
theorem ggX8_count_X8_openValves : GoodIn wsX8_count wsX8_openValves := goodIn_r _ [21, 22, 23, 24, 8, 25, 2, 14, 15, 16, 17, 29, 30, 31, 32, 33, 34, 35, 36, 37, 38, 39, 40, 41, 42] (by decide +kernel) (by decide +kernel)
set_option maxRecDepth 20000 in
theorem gX8_count_X8_openValves : GoodIn wsX8_count (wsV RX8 162 RX8 yX8_openValves wsX8_openValves) := goodIn_app (goodIn_of _ (by decide +kernel)) ggX8_count_X8_openValves
set_option maxRecDepth 20000 in
theorem ggX8_count_X8_in : GoodIn wsX8_count wsX8_in := goodIn_r _ [28] (by decide +kernel) (by decide +kernel)
set_option maxRecDepth 20000 in
theorem gX8_count_X8_in : GoodIn wsX8_count (va_wsS RX8 35 yX8_in wsX8_in) := goodIn_app (goodIn_of _ (by decide +kernel)) ggX8_count_X8_in
theorem dX8_count_0 : decode cX8_count 0 = .ok (.aload_n 0, 1) := by decide +kernel
theorem dX8_count_1 : decode cX8_count 1 = .ok (.iconst 0, 1) := by decide +kernel
theorem dX8_count_2 : decode cX8_count 2 = .ok (.putfield 31, 3) := by decide +kernel
theorem dX8_count_5 : decode cX8_count 5 = .ok (.iload_n 1, 1) := by decide +kernel
theorem dX8_count_6 : decode cX8_count 6 = .ok (.tableswitch 151 0 14 #[74, 81, 88, 99, 151, 151, 151, 151, 107, 113, 118, 125, 133, 141, 146], 74) := by decide +kernel
theorem dX8_count_80 : decode cX8_count 80 = .ok (.aload_n 0, 1) := by decide +kernel
theorem dX8_count_81 : decode cX8_count 81 = .ok (.getfield 7, 3) := by decide +kernel
theorem dX8_count_84 : decode cX8_count 84 = .ok (.iconst 4, 1) := by decide +kernel
theorem dX8_count_85 : decode cX8_count 85 = .ok (.iaload, 1) := by decide +kernel
theorem dX8_count_86 : decode cX8_count 86 = .ok (.ireturn, 1) := by decide +kernel
theorem dX8_count_87 : decode cX8_count 87 = .ok (.aload_n 0, 1) := by decide +kernel
theorem dX8_count_88 : decode cX8_count 88 = .ok (.getfield 7, 3) := by decide +kernel
theorem dX8_count_91 : decode cX8_count 91 = .ok (.iconst 5, 1) := by decide +kernel
theorem dX8_count_92 : decode cX8_count 92 = .ok (.iaload, 1) := by decide +kernel
theorem dX8_count_93 : decode cX8_count 93 = .ok (.ireturn, 1) := by decide +kernel
theorem dX8_count_94 : decode cX8_count 94 = .ok (.aload_n 0, 1) := by decide +kernel
theorem dX8_count_95 : decode cX8_count 95 = .ok (.aload_n 0, 1) := by decide +kernel
theorem dX8_count_96 : decode cX8_count 96 = .ok (.getfield 7, 3) := by decide +kernel
theorem dX8_count_99 : decode cX8_count 99 = .ok (.iconst 4, 1) := by decide +kernel
theorem dX8_count_100 : decode cX8_count 100 = .ok (.iaload, 1) := by decide +kernel
theorem dX8_count_101 : decode cX8_count 101 = .ok (.invokevirtual 88, 3) := by decide +kernel
theorem dX8_count_104 : decode cX8_count 104 = .ok (.ireturn, 1) := by decide +kernel
theorem dX8_count_105 : decode cX8_count 105 = .ok (.aload_n 0, 1) := by decide +kernel
theorem dX8_count_106 : decode cX8_count 106 = .ok (.getfield 7, 3) := by decide +kernel
theorem dX8_count_109 : decode cX8_count 109 = .ok (.bipush 43, 2) := by decide +kernel
theorem dX8_count_111 : decode cX8_count 111 = .ok (.iaload, 1) := by decide +kernel
theorem dX8_count_112 : decode cX8_count 112 = .ok (.ireturn, 1) := by decide +kernel
theorem dX8_count_113 : decode cX8_count 113 = .ok (.aload_n 0, 1) := by decide +kernel
theorem dX8_count_114 : decode cX8_count 114 = .ok (.iconst 4, 1) := by decide +kernel
theorem dX8_count_115 : decode cX8_count 115 = .ok (.invokevirtual 139, 3) := by decide +kernel
theorem dX8_count_118 : decode cX8_count 118 = .ok (.ireturn, 1) := by decide +kernel
theorem dX8_count_119 : decode cX8_count 119 = .ok (.aload_n 0, 1) := by decide +kernel
theorem dX8_count_120 : decode cX8_count 120 = .ok (.invokevirtual 162, 3) := by decide +kernel
theorem dX8_count_123 : decode cX8_count 123 = .ok (.ireturn, 1) := by decide +kernel
theorem dX8_count_124 : decode cX8_count 124 = .ok (.aload_n 0, 1) := by decide +kernel
theorem dX8_count_125 : decode cX8_count 125 = .ok (.bipush 6, 2) := by decide +kernel
theorem dX8_count_127 : decode cX8_count 127 = .ok (.invokevirtual 139, 3) := by decide +kernel
theorem dX8_count_130 : decode cX8_count 130 = .ok (.ireturn, 1) := by decide +kernel
theorem dX8_count_131 : decode cX8_count 131 = .ok (.aload_n 0, 1) := by decide +kernel
theorem dX8_count_132 : decode cX8_count 132 = .ok (.getfield 7, 3) := by decide +kernel
theorem dX8_count_135 : decode cX8_count 135 = .ok (.bipush 6, 2) := by decide +kernel
theorem dX8_count_137 : decode cX8_count 137 = .ok (.iaload, 1) := by decide +kernel
theorem dX8_count_138 : decode cX8_count 138 = .ok (.ireturn, 1) := by decide +kernel
theorem dX8_count_139 : decode cX8_count 139 = .ok (.aload_n 0, 1) := by decide +kernel
theorem dX8_count_140 : decode cX8_count 140 = .ok (.getfield 7, 3) := by decide +kernel
theorem dX8_count_143 : decode cX8_count 143 = .ok (.bipush 7, 2) := by decide +kernel
theorem dX8_count_145 : decode cX8_count 145 = .ok (.iaload, 1) := by decide +kernel
theorem dX8_count_146 : decode cX8_count 146 = .ok (.ireturn, 1) := by decide +kernel
theorem dX8_count_147 : decode cX8_count 147 = .ok (.aload_n 0, 1) := by decide +kernel
theorem dX8_count_148 : decode cX8_count 148 = .ok (.getfield 39, 3) := by decide +kernel
theorem dX8_count_151 : decode cX8_count 151 = .ok (.ireturn, 1) := by decide +kernel
theorem dX8_count_152 : decode cX8_count 152 = .ok (.aload_n 0, 1) := by decide +kernel
theorem dX8_count_153 : decode cX8_count 153 = .ok (.getfield 113, 3) := by decide +kernel
theorem dX8_count_156 : decode cX8_count 156 = .ok (.ireturn, 1) := by decide +kernel
theorem dX8_count_157 : decode cX8_count 157 = .ok (.iload_n 1, 1) := by decide +kernel
theorem dX8_count_158 : decode cX8_count 158 = .ok (.iconst 4, 1) := by decide +kernel
theorem dX8_count_159 : decode cX8_count 159 = .ok (.bipush 7, 2) := by decide +kernel
theorem dX8_count_161 : decode cX8_count 161 = .ok (.invokestatic 35, 3) := by decide +kernel
theorem dX8_count_164 : decode cX8_count 164 = .ok (.ifCond .eq 17, 3) := by decide +kernel
theorem dX8_count_167 : decode cX8_count 167 = .ok (.aload_n 0, 1) := by decide +kernel
theorem dX8_count_168 : decode cX8_count 168 = .ok (.getfield 7, 3) := by decide +kernel
theorem dX8_count_171 : decode cX8_count 171 = .ok (.bipush 8, 2) := by decide +kernel
theorem dX8_count_173 : decode cX8_count 173 = .ok (.iload_n 1, 1) := by decide +kernel
theorem dX8_count_174 : decode cX8_count 174 = .ok (.iadd, 1) := by decide +kernel
theorem dX8_count_175 : decode cX8_count 175 = .ok (.iconst 4, 1) := by decide +kernel
theorem dX8_count_176 : decode cX8_count 176 = .ok (.isub, 1) := by decide +kernel
theorem dX8_count_177 : decode cX8_count 177 = .ok (.iaload, 1) := by decide +kernel
theorem dX8_count_178 : decode cX8_count 178 = .ok (.goto 5, 3) := by decide +kernel
theorem dX8_count_181 : decode cX8_count 181 = .ok (.bipush (-2), 2) := by decide +kernel
theorem dX8_count_183 : decode cX8_count 183 = .ok (.ireturn, 1) := by decide +kernel
set_option maxRecDepth 20000 in
theorem ggX8_setting_X8_in : GoodIn wsX8_setting wsX8_in := goodIn_r _ [6] (by decide +kernel) (by decide +kernel)
set_option maxRecDepth 20000 in
theorem gX8_setting_X8_in : GoodIn wsX8_setting (va_wsS RX8 35 yX8_in wsX8_in) := goodIn_app (goodIn_of _ (by decide +kernel)) ggX8_setting_X8_in
theorem dX8_setting_0 : decode cX8_setting 0 = .ok (.aload_n 0, 1) := by decide +kernel
theorem dX8_setting_1 : decode cX8_setting 1 = .ok (.iconst 0, 1) := by decide +kernel
theorem dX8_setting_2 : decode cX8_setting 2 = .ok (.putfield 31, 3) := by decide +kernel
theorem dX8_setting_5 : decode cX8_setting 5 = .ok (.iload_n 1, 1) := by decide +kernel
theorem dX8_setting_6 : decode cX8_setting 6 = .ok (.iconst 0, 1) := by decide +kernel
theorem dX8_setting_7 : decode cX8_setting 7 = .ok (.iconst 3, 1) := by decide +kernel
theorem dX8_setting_8 : decode cX8_setting 8 = .ok (.invokestatic 35, 3) := by decide +kernel
theorem dX8_setting_11 : decode cX8_setting 11 = .ok (.ifCond .eq 12, 3) := by decide +kernel
theorem dX8_setting_14 : decode cX8_setting 14 = .ok (.aload_n 0, 1) := by decide +kernel
theorem dX8_setting_15 : decode cX8_setting 15 = .ok (.getfield 7, 3) := by decide +kernel
theorem dX8_setting_18 : decode cX8_setting 18 = .ok (.iload_n 1, 1) := by decide +kernel
theorem dX8_setting_19 : decode cX8_setting 19 = .ok (.iaload, 1) := by decide +kernel
theorem dX8_setting_20 : decode cX8_setting 20 = .ok (.goto 4, 3) := by decide +kernel
theorem dX8_setting_23 : decode cX8_setting 23 = .ok (.iconst (-1), 1) := by decide +kernel
theorem dX8_setting_24 : decode cX8_setting 24 = .ok (.ireturn, 1) := by decide +kernel
theorem dJ9_max_7cf53_0 : decode cJ9_max_7cf53 0 = .ok (.iload_n 0, 1) := by decide +kernel
theorem dJ9_max_7cf53_1 : decode cJ9_max_7cf53 1 = .ok (.iload_n 1, 1) := by decide +kernel
theorem dJ9_max_7cf53_2 : decode cJ9_max_7cf53 2 = .ok (.if_icmp .lt 7, 3) := by decide +kernel
theorem dJ9_max_7cf53_5 : decode cJ9_max_7cf53 5 = .ok (.iload_n 0, 1) := by decide +kernel
theorem dJ9_max_7cf53_6 : decode cJ9_max_7cf53 6 = .ok (.goto 4, 3) := by decide +kernel
theorem dJ9_max_7cf53_9 : decode cJ9_max_7cf53 9 = .ok (.iload_n 1, 1) := by decide +kernel
theorem dJ9_max_7cf53_10 : decode cJ9_max_7cf53 10 = .ok (.ireturn, 1) := by decide +kernel
theorem dJ9_min_7cf53_0 : decode cJ9_min_7cf53 0 = .ok (.iload_n 0, 1) := by decide +kernel
theorem dJ9_min_7cf53_1 : decode cJ9_min_7cf53 1 = .ok (.iload_n 1, 1) := by decide +kernel
theorem dJ9_min_7cf53_2 : decode cJ9_min_7cf53 2 = .ok (.if_icmp .gt 7, 3) := by decide +kernel
theorem dJ9_min_7cf53_5 : decode cJ9_min_7cf53 5 = .ok (.iload_n 0, 1) := by decide +kernel
theorem dJ9_min_7cf53_6 : decode cJ9_min_7cf53 6 = .ok (.goto 4, 3) := by decide +kernel
theorem dJ9_min_7cf53_9 : decode cJ9_min_7cf53 9 = .ok (.iload_n 1, 1) := by decide +kernel
theorem dJ9_min_7cf53_10 : decode cJ9_min_7cf53 10 = .ok (.ireturn, 1) := by decide +kernel
abbrev vwCl : List vw_C := [(RX0, TX0, 10), (RX1, TX1, 2), (RX2, TX2, 5), (RX3, TX3, 3), (RX4, TX4, 1), (RX5, TX5, 8), (RX6, TX6, 2), (RX7, TX7, 7), (RX8, TX8, 14)]
