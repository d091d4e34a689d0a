theorem dX0_init_0 : decode cX0_init 0 = .ok (.aload_n 0, 1) := by decide +kernel
theorem dX0_init_1 : decode cX0_init 1 = .ok (.invokespecial 1, 3) := by decide +kernel
theorem dX0_init_4 : decode cX0_init 4 = .ok (.aload_n 0, 1) := by decide +kernel
theorem dX0_init_5 : decode cX0_init 5 = .ok (.iload_n 1, 1) := by decide +kernel
theorem dX0_init_6 : decode cX0_init 6 = .ok (.putfield 7, 3) := by decide +kernel
theorem dX0_init_9 : decode cX0_init 9 = .ok (.return_, 1) := by decide +kernel
theorem dX0_copyFrom_0 : decode cX0_copyFrom 0 = .ok (.aload_n 0, 1) := by decide +kernel
theorem dX0_copyFrom_1 : decode cX0_copyFrom 1 = .ok (.aload_n 1, 1) := by decide +kernel
theorem dX0_copyFrom_2 : decode cX0_copyFrom 2 = .ok (.getfield 7, 3) := by decide +kernel
theorem dX0_copyFrom_5 : decode cX0_copyFrom 5 = .ok (.putfield 7, 3) := by decide +kernel
theorem dX0_copyFrom_8 : decode cX0_copyFrom 8 = .ok (.aload_n 0, 1) := by decide +kernel
theorem dX0_copyFrom_9 : decode cX0_copyFrom 9 = .ok (.aload_n 1, 1) := by decide +kernel
theorem dX0_copyFrom_10 : decode cX0_copyFrom 10 = .ok (.getfield 13, 3) := by decide +kernel
theorem dX0_copyFrom_13 : decode cX0_copyFrom 13 = .ok (.putfield 13, 3) := by decide +kernel
theorem dX0_copyFrom_16 : decode cX0_copyFrom 16 = .ok (.aload_n 0, 1) := by decide +kernel
theorem dX0_copyFrom_17 : decode cX0_copyFrom 17 = .ok (.aload_n 1, 1) := by decide +kernel
theorem dX0_copyFrom_18 : decode cX0_copyFrom 18 = .ok (.getfield 16, 3) := by decide +kernel
theorem dX0_copyFrom_21 : decode cX0_copyFrom 21 = .ok (.putfield 16, 3) := by decide +kernel
theorem dX0_copyFrom_24 : decode cX0_copyFrom 24 = .ok (.aload_n 0, 1) := by decide +kernel
theorem dX0_copyFrom_25 : decode cX0_copyFrom 25 = .ok (.aload_n 1, 1) := by decide +kernel
theorem dX0_copyFrom_26 : decode cX0_copyFrom 26 = .ok (.getfield 20, 3) := by decide +kernel
theorem dX0_copyFrom_29 : decode cX0_copyFrom 29 = .ok (.putfield 20, 3) := by decide +kernel
theorem dX0_copyFrom_32 : decode cX0_copyFrom 32 = .ok (.aload_n 0, 1) := by decide +kernel
theorem dX0_copyFrom_33 : decode cX0_copyFrom 33 = .ok (.aload_n 1, 1) := by decide +kernel
theorem dX0_copyFrom_34 : decode cX0_copyFrom 34 = .ok (.getfield 23, 3) := by decide +kernel
theorem dX0_copyFrom_37 : decode cX0_copyFrom 37 = .ok (.putfield 23, 3) := by decide +kernel
theorem dX0_copyFrom_40 : decode cX0_copyFrom 40 = .ok (.aload_n 0, 1) := by decide +kernel
theorem dX0_copyFrom_41 : decode cX0_copyFrom 41 = .ok (.aload_n 1, 1) := by decide +kernel
theorem dX0_copyFrom_42 : decode cX0_copyFrom 42 = .ok (.getfield 26, 3) := by decide +kernel
theorem dX0_copyFrom_45 : decode cX0_copyFrom 45 = .ok (.putfield 26, 3) := by decide +kernel
theorem dX0_copyFrom_48 : decode cX0_copyFrom 48 = .ok (.aload_n 0, 1) := by decide +kernel
theorem dX0_copyFrom_49 : decode cX0_copyFrom 49 = .ok (.aload_n 1, 1) := by decide +kernel
theorem dX0_copyFrom_50 : decode cX0_copyFrom 50 = .ok (.getfield 29, 3) := by decide +kernel
theorem dX0_copyFrom_53 : decode cX0_copyFrom 53 = .ok (.putfield 29, 3) := by decide +kernel
theorem dX0_copyFrom_56 : decode cX0_copyFrom 56 = .ok (.aload_n 0, 1) := by decide +kernel
theorem dX0_copyFrom_57 : decode cX0_copyFrom 57 = .ok (.aload_n 1, 1) := by decide +kernel
theorem dX0_copyFrom_58 : decode cX0_copyFrom 58 = .ok (.getfield 32, 3) := by decide +kernel
theorem dX0_copyFrom_61 : decode cX0_copyFrom 61 = .ok (.putfield 32, 3) := by decide +kernel
theorem dX0_copyFrom_64 : decode cX0_copyFrom 64 = .ok (.aload_n 0, 1) := by decide +kernel
theorem dX0_copyFrom_65 : decode cX0_copyFrom 65 = .ok (.aload_n 1, 1) := by decide +kernel
theorem dX0_copyFrom_66 : decode cX0_copyFrom 66 = .ok (.getfield 35, 3) := by decide +kernel
theorem dX0_copyFrom_69 : decode cX0_copyFrom 69 = .ok (.putfield 35, 3) := by decide +kernel
theorem dX0_copyFrom_72 : decode cX0_copyFrom 72 = .ok (.aload_n 0, 1) := by decide +kernel
theorem dX0_copyFrom_73 : decode cX0_copyFrom 73 = .ok (.aload_n 1, 1) := by decide +kernel
theorem dX0_copyFrom_74 : decode cX0_copyFrom 74 = .ok (.getfield 38, 3) := by decide +kernel
theorem dX0_copyFrom_77 : decode cX0_copyFrom 77 = .ok (.putfield 38, 3) := by decide +kernel
theorem dX0_copyFrom_80 : decode cX0_copyFrom 80 = .ok (.return_, 1) := by decide +kernel
set_option maxRecDepth 20000 in
theorem ggX0_flow_X0_told : GoodIn wsX0_flow wsX0_told := goodIn_r _ [7, 8, 9, 10, 11, 12, 13, 14, 15, 16, 17, 18, 19, 20, 21] (by decide +kernel) (by decide +kernel)
set_option maxRecDepth 20000 in
theorem gX0_flow_X0_told : GoodIn wsX0_flow (wsV RX0 45 RX0 yX0_told wsX0_told) := goodIn_app (goodIn_of _ (by decide +kernel)) ggX0_flow_X0_told
theorem dX0_flow_0 : decode cX0_flow 0 = .ok (.aload_n 0, 1) := by decide +kernel
theorem dX0_flow_1 : decode cX0_flow 1 = .ok (.getstatic 41, 3) := by decide +kernel
theorem dX0_flow_4 : decode cX0_flow 4 = .ok (.aload_n 0, 1) := by decide +kernel
theorem dX0_flow_5 : decode cX0_flow 5 = .ok (.getfield 13, 3) := by decide +kernel
theorem dX0_flow_8 : decode cX0_flow 8 = .ok (.invokevirtual 45, 3) := by decide +kernel
theorem dX0_flow_11 : decode cX0_flow 11 = .ok (.ireturn, 1) := by decide +kernel
set_option maxRecDepth 20000 in
theorem ggX0_strength_X0_told : GoodIn wsX0_strength wsX0_told := goodIn_r _ [7, 8, 9, 10, 11, 12, 13, 14, 15, 16, 17, 18, 19, 20, 21] (by decide +kernel) (by decide +kernel)
set_option maxRecDepth 20000 in
theorem gX0_strength_X0_told : GoodIn wsX0_strength (wsV RX0 45 RX0 yX0_told wsX0_told) := goodIn_app (goodIn_of _ (by decide +kernel)) ggX0_strength_X0_told
theorem dX0_strength_0 : decode cX0_strength 0 = .ok (.aload_n 0, 1) := by decide +kernel
theorem dX0_strength_1 : decode cX0_strength 1 = .ok (.getstatic 49, 3) := by decide +kernel
theorem dX0_strength_4 : decode cX0_strength 4 = .ok (.aload_n 0, 1) := by decide +kernel
theorem dX0_strength_5 : decode cX0_strength 5 = .ok (.getfield 13, 3) := by decide +kernel
theorem dX0_strength_8 : decode cX0_strength 8 = .ok (.invokevirtual 45, 3) := by decide +kernel
theorem dX0_strength_11 : decode cX0_strength 11 = .ok (.ireturn, 1) := by decide +kernel
set_option maxRecDepth 20000 in
theorem ggX0_heatAt_X0_told : GoodIn wsX0_heatAt wsX0_told := goodIn_r _ [6, 7, 8, 9, 10, 11, 12, 13, 14, 15, 16, 17, 18, 19, 20] (by decide +kernel) (by decide +kernel)
set_option maxRecDepth 20000 in
theorem gX0_heatAt_X0_told : GoodIn wsX0_heatAt (wsV RX0 45 RX0 yX0_told wsX0_told) := goodIn_app (goodIn_of _ (by decide +kernel)) ggX0_heatAt_X0_told
theorem dX0_heatAt_0 : decode cX0_heatAt 0 = .ok (.aload_n 0, 1) := by decide +kernel
theorem dX0_heatAt_1 : decode cX0_heatAt 1 = .ok (.getstatic 52, 3) := by decide +kernel
theorem dX0_heatAt_4 : decode cX0_heatAt 4 = .ok (.iload_n 1, 1) := by decide +kernel
theorem dX0_heatAt_5 : decode cX0_heatAt 5 = .ok (.invokevirtual 45, 3) := by decide +kernel
theorem dX0_heatAt_8 : decode cX0_heatAt 8 = .ok (.ireturn, 1) := by decide +kernel
theorem dX0_isOpen_0 : decode cX0_isOpen 0 = .ok (.aload_n 0, 1) := by decide +kernel
theorem dX0_isOpen_1 : decode cX0_isOpen 1 = .ok (.getfield 29, 3) := by decide +kernel
theorem dX0_isOpen_4 : decode cX0_isOpen 4 = .ok (.ifCond .ne 29, 3) := by decide +kernel
theorem dX0_isOpen_7 : decode cX0_isOpen 7 = .ok (.aload_n 0, 1) := by decide +kernel
theorem dX0_isOpen_8 : decode cX0_isOpen 8 = .ok (.getfield 13, 3) := by decide +kernel
theorem dX0_isOpen_11 : decode cX0_isOpen 11 = .ok (.ifCond .eq 22, 3) := by decide +kernel
theorem dX0_isOpen_14 : decode cX0_isOpen 14 = .ok (.aload_n 0, 1) := by decide +kernel
theorem dX0_isOpen_15 : decode cX0_isOpen 15 = .ok (.getfield 16, 3) := by decide +kernel
theorem dX0_isOpen_18 : decode cX0_isOpen 18 = .ok (.ifCond .ne 11, 3) := by decide +kernel
theorem dX0_isOpen_21 : decode cX0_isOpen 21 = .ok (.aload_n 0, 1) := by decide +kernel
theorem dX0_isOpen_22 : decode cX0_isOpen 22 = .ok (.getfield 26, 3) := by decide +kernel
theorem dX0_isOpen_25 : decode cX0_isOpen 25 = .ok (.iload_n 1, 1) := by decide +kernel
theorem dX0_isOpen_26 : decode cX0_isOpen 26 = .ok (.if_icmp .lt 7, 3) := by decide +kernel
theorem dX0_isOpen_29 : decode cX0_isOpen 29 = .ok (.iconst 1, 1) := by decide +kernel
theorem dX0_isOpen_30 : decode cX0_isOpen 30 = .ok (.goto 4, 3) := by decide +kernel
theorem dX0_isOpen_33 : decode cX0_isOpen 33 = .ok (.iconst 0, 1) := by decide +kernel
theorem dX0_isOpen_34 : decode cX0_isOpen 34 = .ok (.ireturn, 1) := by decide +kernel
set_option maxRecDepth 20000 in
theorem ggX0_warmOrCool_X0_heatAt : GoodIn wsX0_warmOrCool wsX0_heatAt := goodIn_r _ [8, 9, 10, 11, 12, 7, 13, 14, 15, 16, 17, 34, 35, 36, 37, 38, 39, 40, 41, 42, 43] (by decide +kernel) (by decide +kernel)
set_option maxRecDepth 20000 in
theorem gX0_warmOrCool_X0_heatAt : GoodIn wsX0_warmOrCool (wsV RX0 55 RX0 yX0_heatAt wsX0_heatAt) := goodIn_app (goodIn_of _ (by decide +kernel)) ggX0_warmOrCool_X0_heatAt
set_option maxRecDepth 20000 in
theorem ggX0_warmOrCool_X0_temperatureAfter : GoodIn wsX0_warmOrCool wsX0_temperatureAfter := goodIn_r _ [21, 22, 14, 23, 24, 25, 26, 27, 28, 29, 30, 15, 16, 17, 31, 32, 7, 33, 34, 35, 36, 37, 38, 39, 40, 41, 42, 43] (by decide +kernel) (by decide +kernel)
set_option maxRecDepth 20000 in
theorem gX0_warmOrCool_X0_temperatureAfter : GoodIn wsX0_warmOrCool (wsV RX0 59 RX0 yX0_temperatureAfter wsX0_temperatureAfter) := goodIn_app (goodIn_of _ (by decide +kernel)) ggX0_warmOrCool_X0_temperatureAfter
theorem dX0_warmOrCool_0 : decode cX0_warmOrCool 0 = .ok (.aload_n 0, 1) := by decide +kernel
theorem dX0_warmOrCool_1 : decode cX0_warmOrCool 1 = .ok (.aload_n 0, 1) := by decide +kernel
theorem dX0_warmOrCool_2 : decode cX0_warmOrCool 2 = .ok (.aload_n 0, 1) := by decide +kernel
theorem dX0_warmOrCool_3 : decode cX0_warmOrCool 3 = .ok (.getfield 26, 3) := by decide +kernel
theorem dX0_warmOrCool_6 : decode cX0_warmOrCool 6 = .ok (.aload_n 0, 1) := by decide +kernel
theorem dX0_warmOrCool_7 : decode cX0_warmOrCool 7 = .ok (.getfield 23, 3) := by decide +kernel
theorem dX0_warmOrCool_10 : decode cX0_warmOrCool 10 = .ok (.ifCond .eq 14, 3) := by decide +kernel
theorem dX0_warmOrCool_13 : decode cX0_warmOrCool 13 = .ok (.aload_n 0, 1) := by decide +kernel
theorem dX0_warmOrCool_14 : decode cX0_warmOrCool 14 = .ok (.aload_n 0, 1) := by decide +kernel
theorem dX0_warmOrCool_15 : decode cX0_warmOrCool 15 = .ok (.getfield 13, 3) := by decide +kernel
theorem dX0_warmOrCool_18 : decode cX0_warmOrCool 18 = .ok (.invokevirtual 55, 3) := by decide +kernel
theorem dX0_warmOrCool_21 : decode cX0_warmOrCool 21 = .ok (.goto 4, 3) := by decide +kernel
theorem dX0_warmOrCool_24 : decode cX0_warmOrCool 24 = .ok (.iconst 0, 1) := by decide +kernel
theorem dX0_warmOrCool_25 : decode cX0_warmOrCool 25 = .ok (.invokevirtual 59, 3) := by decide +kernel
theorem dX0_warmOrCool_28 : decode cX0_warmOrCool 28 = .ok (.putfield 26, 3) := by decide +kernel
theorem dX0_warmOrCool_31 : decode cX0_warmOrCool 31 = .ok (.return_, 1) := by decide +kernel
set_option maxRecDepth 20000 in
theorem ggX0_temperatureAfter_X7_elementAt : GoodIn wsX0_temperatureAfter wsX7_elementAt := goodIn_r _ [13] (by decide +kernel) (by decide +kernel)
set_option maxRecDepth 20000 in
theorem gX0_temperatureAfter_X7_elementAt_n66 : GoodIn wsX0_temperatureAfter (wsX7_elementAt) := ggX0_temperatureAfter_X7_elementAt
set_option maxRecDepth 20000 in
theorem ggX0_temperatureAfter_X0_quotient : GoodIn wsX0_temperatureAfter wsX0_quotient := goodIn_r _ [17] (by decide +kernel) (by decide +kernel)
set_option maxRecDepth 20000 in
theorem gX0_temperatureAfter_X0_quotient : GoodIn wsX0_temperatureAfter (va_wsS RX0 71 yX0_quotient wsX0_quotient) := goodIn_app (goodIn_of _ (by decide +kernel)) ggX0_temperatureAfter_X0_quotient
theorem dX0_temperatureAfter_0 : decode cX0_temperatureAfter 0 = .ok (.iload_n 1, 1) := by decide +kernel
theorem dX0_temperatureAfter_1 : decode cX0_temperatureAfter 1 = .ok (.iload_n 2, 1) := by decide +kernel
theorem dX0_temperatureAfter_2 : decode cX0_temperatureAfter 2 = .ok (.if_icmp .ge 28, 3) := by decide +kernel
theorem dX0_temperatureAfter_5 : decode cX0_temperatureAfter 5 = .ok (.iload_n 2, 1) := by decide +kernel
theorem dX0_temperatureAfter_6 : decode cX0_temperatureAfter 6 = .ok (.iload_n 1, 1) := by decide +kernel
theorem dX0_temperatureAfter_7 : decode cX0_temperatureAfter 7 = .ok (.iload_n 2, 1) := by decide +kernel
theorem dX0_temperatureAfter_8 : decode cX0_temperatureAfter 8 = .ok (.iload_n 1, 1) := by decide +kernel
theorem dX0_temperatureAfter_9 : decode cX0_temperatureAfter 9 = .ok (.isub, 1) := by decide +kernel
theorem dX0_temperatureAfter_10 : decode cX0_temperatureAfter 10 = .ok (.getstatic 63, 3) := by decide +kernel
theorem dX0_temperatureAfter_13 : decode cX0_temperatureAfter 13 = .ok (.aload_n 0, 1) := by decide +kernel
theorem dX0_temperatureAfter_14 : decode cX0_temperatureAfter 14 = .ok (.getfield 7, 3) := by decide +kernel
theorem dX0_temperatureAfter_17 : decode cX0_temperatureAfter 17 = .ok (.invokestatic 66, 3) := by decide +kernel
theorem dX0_temperatureAfter_20 : decode cX0_temperatureAfter 20 = .ok (.invokestatic 71, 3) := by decide +kernel
theorem dX0_temperatureAfter_23 : decode cX0_temperatureAfter 23 = .ok (.iadd, 1) := by decide +kernel
theorem dX0_temperatureAfter_24 : decode cX0_temperatureAfter 24 = .ok (.iconst 1, 1) := by decide +kernel
theorem dX0_temperatureAfter_25 : decode cX0_temperatureAfter 25 = .ok (.iadd, 1) := by decide +kernel
theorem dX0_temperatureAfter_26 : decode cX0_temperatureAfter 26 = .ok (.invokestatic 74, 3) := by decide +kernel
theorem dX0_temperatureAfter_29 : decode cX0_temperatureAfter 29 = .ok (.ireturn, 1) := by decide +kernel
theorem dX0_temperatureAfter_30 : decode cX0_temperatureAfter 30 = .ok (.iload_n 1, 1) := by decide +kernel
theorem dX0_temperatureAfter_31 : decode cX0_temperatureAfter 31 = .ok (.iload_n 2, 1) := by decide +kernel
theorem dX0_temperatureAfter_32 : decode cX0_temperatureAfter 32 = .ok (.if_icmp .le 26, 3) := by decide +kernel
theorem dX0_temperatureAfter_35 : decode cX0_temperatureAfter 35 = .ok (.iload_n 2, 1) := by decide +kernel
theorem dX0_temperatureAfter_36 : decode cX0_temperatureAfter 36 = .ok (.iload_n 1, 1) := by decide +kernel
theorem dX0_temperatureAfter_37 : decode cX0_temperatureAfter 37 = .ok (.iload_n 1, 1) := by decide +kernel
theorem dX0_temperatureAfter_38 : decode cX0_temperatureAfter 38 = .ok (.getstatic 79, 3) := by decide +kernel
theorem dX0_temperatureAfter_41 : decode cX0_temperatureAfter 41 = .ok (.aload_n 0, 1) := by decide +kernel
theorem dX0_temperatureAfter_42 : decode cX0_temperatureAfter 42 = .ok (.getfield 7, 3) := by decide +kernel
theorem dX0_temperatureAfter_45 : decode cX0_temperatureAfter 45 = .ok (.invokestatic 66, 3) := by decide +kernel
theorem dX0_temperatureAfter_48 : decode cX0_temperatureAfter 48 = .ok (.invokestatic 71, 3) := by decide +kernel
theorem dX0_temperatureAfter_51 : decode cX0_temperatureAfter 51 = .ok (.isub, 1) := by decide +kernel
theorem dX0_temperatureAfter_52 : decode cX0_temperatureAfter 52 = .ok (.iconst 1, 1) := by decide +kernel
theorem dX0_temperatureAfter_53 : decode cX0_temperatureAfter 53 = .ok (.isub, 1) := by decide +kernel
theorem dX0_temperatureAfter_54 : decode cX0_temperatureAfter 54 = .ok (.invokestatic 82, 3) := by decide +kernel
theorem dX0_temperatureAfter_57 : decode cX0_temperatureAfter 57 = .ok (.ireturn, 1) := by decide +kernel
theorem dX0_temperatureAfter_58 : decode cX0_temperatureAfter 58 = .ok (.iload_n 1, 1) := by decide +kernel
theorem dX0_temperatureAfter_59 : decode cX0_temperatureAfter 59 = .ok (.ireturn, 1) := by decide +kernel
set_option maxRecDepth 20000 in
theorem ggX0_told_X7_elementAt : GoodIn wsX0_told wsX7_elementAt := goodIn_r _ [4] (by decide +kernel) (by decide +kernel)
set_option maxRecDepth 20000 in
theorem gX0_told_X7_elementAt_n66 : GoodIn wsX0_told (wsX7_elementAt) := ggX0_told_X7_elementAt
theorem dX0_told_0 : decode cX0_told 0 = .ok (.iload_n 2, 1) := by decide +kernel
theorem dX0_told_1 : decode cX0_told 1 = .ok (.ifCond .ne 5, 3) := by decide +kernel
theorem dX0_told_4 : decode cX0_told 4 = .ok (.iconst 0, 1) := by decide +kernel
theorem dX0_told_5 : decode cX0_told 5 = .ok (.ireturn, 1) := by decide +kernel
theorem dX0_told_6 : decode cX0_told 6 = .ok (.aload_n 1, 1) := by decide +kernel
theorem dX0_told_7 : decode cX0_told 7 = .ok (.aload_n 0, 1) := by decide +kernel
theorem dX0_told_8 : decode cX0_told 8 = .ok (.getfield 7, 3) := by decide +kernel
theorem dX0_told_11 : decode cX0_told 11 = .ok (.iconst 2, 1) := by decide +kernel
theorem dX0_told_12 : decode cX0_told 12 = .ok (.imul, 1) := by decide +kernel
theorem dX0_told_13 : decode cX0_told 13 = .ok (.iload_n 2, 1) := by decide +kernel
theorem dX0_told_14 : decode cX0_told 14 = .ok (.iadd, 1) := by decide +kernel
theorem dX0_told_15 : decode cX0_told 15 = .ok (.iconst 1, 1) := by decide +kernel
theorem dX0_told_16 : decode cX0_told 16 = .ok (.isub, 1) := by decide +kernel
theorem dX0_told_17 : decode cX0_told 17 = .ok (.invokestatic 66, 3) := by decide +kernel
theorem dX0_told_20 : decode cX0_told 20 = .ok (.ireturn, 1) := by decide +kernel
theorem dX0_quotient_0 : decode cX0_quotient 0 = .ok (.iload_n 1, 1) := by decide +kernel
theorem dX0_quotient_1 : decode cX0_quotient 1 = .ok (.ifCond .le 9, 3) := by decide +kernel
theorem dX0_quotient_4 : decode cX0_quotient 4 = .ok (.iload_n 0, 1) := by decide +kernel
theorem dX0_quotient_5 : decode cX0_quotient 5 = .ok (.iload_n 1, 1) := by decide +kernel
theorem dX0_quotient_6 : decode cX0_quotient 6 = .ok (.idiv, 1) := by decide +kernel
theorem dX0_quotient_7 : decode cX0_quotient 7 = .ok (.goto 4, 3) := by decide +kernel
theorem dX0_quotient_10 : decode cX0_quotient 10 = .ok (.iconst 0, 1) := by decide +kernel
theorem dX0_quotient_11 : decode cX0_quotient 11 = .ok (.ireturn, 1) := by decide +kernel
set_option maxRecDepth 20000 in
theorem ggX1_init_X5_init : GoodIn wsX1_init wsX5_init := goodIn_r _ [11, 12, 2, 3, 13, 14, 15, 16, 17, 18, 19, 20, 21, 22, 23, 24, 25, 26, 27, 28, 29, 30, 31, 32, 33, 34, 35, 36, 37, 38, 39, 40, 41, 42, 43, 44, 45, 46, 47, 48, 49, 50, 51, 52, 53, 54, 55, 56, 57, 68, 60, 61, 62, 63, 64, 65, 66, 67, 69, 70, 71, 72, 73, 74, 75, 76, 77, 78, 79, 80, 81, 82, 83, 84, 85, 86] (by decide +kernel) (by decide +kernel)
set_option maxRecDepth 20000 in
theorem gX1_init_X5_init : GoodIn wsX1_init (wsX5_init) := ggX1_init_X5_init
theorem dX1_init_0 : decode cX1_init 0 = .ok (.aload_n 0, 1) := by decide +kernel
theorem dX1_init_1 : decode cX1_init 1 = .ok (.invokespecial 1, 3) := by decide +kernel
theorem dX1_init_4 : decode cX1_init 4 = .ok (.aload_n 0, 1) := by decide +kernel
theorem dX1_init_5 : decode cX1_init 5 = .ok (.iconst 4, 1) := by decide +kernel
theorem dX1_init_6 : decode cX1_init 6 = .ok (.anewarray 9, 3) := by decide +kernel
theorem dX1_init_9 : decode cX1_init 9 = .ok (.putfield 11, 3) := by decide +kernel
theorem dX1_init_12 : decode cX1_init 12 = .ok (.iconst 0, 1) := by decide +kernel
theorem dX1_init_13 : decode cX1_init 13 = .ok (.istore_n 1, 1) := by decide +kernel
theorem dX1_init_14 : decode cX1_init 14 = .ok (.iload_n 1, 1) := by decide +kernel
theorem dX1_init_15 : decode cX1_init 15 = .ok (.iconst 4, 1) := by decide +kernel
theorem dX1_init_16 : decode cX1_init 16 = .ok (.if_icmp .ge 22, 3) := by decide +kernel
theorem dX1_init_19 : decode cX1_init 19 = .ok (.aload_n 0, 1) := by decide +kernel
theorem dX1_init_20 : decode cX1_init 20 = .ok (.getfield 11, 3) := by decide +kernel
theorem dX1_init_23 : decode cX1_init 23 = .ok (.iload_n 1, 1) := by decide +kernel
theorem dX1_init_24 : decode cX1_init 24 = .ok (.new 9, 3) := by decide +kernel
theorem dX1_init_27 : decode cX1_init 27 = .ok (.dup, 1) := by decide +kernel
theorem dX1_init_28 : decode cX1_init 28 = .ok (.invokespecial 15, 3) := by decide +kernel
theorem dX1_init_31 : decode cX1_init 31 = .ok (.aastore, 1) := by decide +kernel
theorem dX1_init_32 : decode cX1_init 32 = .ok (.iinc 1 1, 3) := by decide +kernel
theorem dX1_init_35 : decode cX1_init 35 = .ok (.goto (-21), 3) := by decide +kernel
theorem dX1_init_38 : decode cX1_init 38 = .ok (.aload_n 0, 1) := by decide +kernel
theorem dX1_init_39 : decode cX1_init 39 = .ok (.iconst 0, 1) := by decide +kernel
theorem dX1_init_40 : decode cX1_init 40 = .ok (.putfield 16, 3) := by decide +kernel
theorem dX1_init_43 : decode cX1_init 43 = .ok (.return_, 1) := by decide +kernel
set_option maxRecDepth 20000 in
theorem ggX1_record_X1_dropOldest : GoodIn wsX1_record wsX1_dropOldest := goodIn_r _ [7, 2, 1, 71, 72] (by decide +kernel) (by decide +kernel)
set_option maxRecDepth 20000 in
theorem gX1_record_X1_dropOldest : GoodIn wsX1_record (wsV RX1 20 RX1 yX1_dropOldest wsX1_dropOldest) := goodIn_app (goodIn_of _ (by decide +kernel)) ggX1_record_X1_dropOldest
set_option maxRecDepth 20000 in
theorem ggX1_record_X5_copyFrom : GoodIn wsX1_record wsX5_copyFrom := goodIn_r _ [12, 13, 14, 15, 16, 17, 18, 19, 20, 21, 22, 23, 24, 25, 26, 27, 28, 29, 30, 31, 32, 33, 34, 35, 36, 37, 38, 39, 40, 41, 42, 43, 44, 45, 46, 47, 48, 49, 50, 51, 52, 53, 54, 55, 56, 57, 58, 59, 60, 61, 62, 63, 64, 65, 66, 67, 68, 69, 70, 73, 74, 75, 76, 77, 78, 79, 80, 81, 82, 83, 84, 85, 86, 87, 88, 89, 90, 91, 92, 93, 94, 95, 96, 97, 98, 99] (by decide +kernel) (by decide +kernel)
set_option maxRecDepth 20000 in
theorem gX1_record_X5_copyFrom : GoodIn wsX1_record (wsV RX1 23 RX5 yX5_copyFrom wsX5_copyFrom) := goodIn_app (goodIn_of _ (by decide +kernel)) ggX1_record_X5_copyFrom
theorem dX1_record_0 : decode cX1_record 0 = .ok (.aload_n 0, 1) := by decide +kernel
theorem dX1_record_1 : decode cX1_record 1 = .ok (.getfield 16, 3) := by decide +kernel
theorem dX1_record_4 : decode cX1_record 4 = .ok (.iconst 4, 1) := by decide +kernel
theorem dX1_record_5 : decode cX1_record 5 = .ok (.if_icmp .lt 7, 3) := by decide +kernel
theorem dX1_record_8 : decode cX1_record 8 = .ok (.aload_n 0, 1) := by decide +kernel
theorem dX1_record_9 : decode cX1_record 9 = .ok (.invokevirtual 20, 3) := by decide +kernel
theorem dX1_record_12 : decode cX1_record 12 = .ok (.aload_n 0, 1) := by decide +kernel
theorem dX1_record_13 : decode cX1_record 13 = .ok (.getfield 16, 3) := by decide +kernel
theorem dX1_record_16 : decode cX1_record 16 = .ok (.ifCond .lt 34, 3) := by decide +kernel
theorem dX1_record_19 : decode cX1_record 19 = .ok (.aload_n 0, 1) := by decide +kernel
theorem dX1_record_20 : decode cX1_record 20 = .ok (.getfield 16, 3) := by decide +kernel
theorem dX1_record_23 : decode cX1_record 23 = .ok (.iconst 4, 1) := by decide +kernel
theorem dX1_record_24 : decode cX1_record 24 = .ok (.if_icmp .ge 26, 3) := by decide +kernel
theorem dX1_record_27 : decode cX1_record 27 = .ok (.aload_n 0, 1) := by decide +kernel
theorem dX1_record_28 : decode cX1_record 28 = .ok (.getfield 11, 3) := by decide +kernel
theorem dX1_record_31 : decode cX1_record 31 = .ok (.aload_n 0, 1) := by decide +kernel
theorem dX1_record_32 : decode cX1_record 32 = .ok (.getfield 16, 3) := by decide +kernel
theorem dX1_record_35 : decode cX1_record 35 = .ok (.aaload, 1) := by decide +kernel
theorem dX1_record_36 : decode cX1_record 36 = .ok (.aload_n 1, 1) := by decide +kernel
theorem dX1_record_37 : decode cX1_record 37 = .ok (.invokevirtual 23, 3) := by decide +kernel
theorem dX1_record_40 : decode cX1_record 40 = .ok (.aload_n 0, 1) := by decide +kernel
theorem dX1_record_41 : decode cX1_record 41 = .ok (.dup, 1) := by decide +kernel
theorem dX1_record_42 : decode cX1_record 42 = .ok (.getfield 16, 3) := by decide +kernel
theorem dX1_record_45 : decode cX1_record 45 = .ok (.iconst 1, 1) := by decide +kernel
theorem dX1_record_46 : decode cX1_record 46 = .ok (.iadd, 1) := by decide +kernel
theorem dX1_record_47 : decode cX1_record 47 = .ok (.putfield 16, 3) := by decide +kernel
theorem dX1_record_50 : decode cX1_record 50 = .ok (.return_, 1) := by decide +kernel
set_option maxRecDepth 20000 in
theorem ggX1_takeBack_X5_copyFrom : GoodIn wsX1_takeBack wsX5_copyFrom := goodIn_r _ [7, 8, 9, 10, 11, 12, 13, 14, 15, 16, 17, 18, 19, 20, 21, 22, 23, 24, 25, 26, 27, 28, 29, 30, 31, 32, 33, 34, 35, 36, 37, 38, 39, 40, 41, 42, 43, 44, 45, 46, 47, 48, 49, 50, 51, 52, 53, 54, 55, 56, 57, 58, 59, 60, 61, 62, 63, 64, 65, 68, 69, 70, 71, 72, 73, 74, 75, 76, 77, 78, 79, 80, 81, 82, 83, 84, 85, 86, 87, 88, 89, 90, 91, 92, 93, 94] (by decide +kernel) (by decide +kernel)
set_option maxRecDepth 20000 in
theorem gX1_takeBack_X5_copyFrom : GoodIn wsX1_takeBack (wsV RX1 23 RX5 yX5_copyFrom wsX5_copyFrom) := goodIn_app (goodIn_of _ (by decide +kernel)) ggX1_takeBack_X5_copyFrom
theorem dX1_takeBack_0 : decode cX1_takeBack 0 = .ok (.aload_n 0, 1) := by decide +kernel
theorem dX1_takeBack_1 : decode cX1_takeBack 1 = .ok (.getfield 16, 3) := by decide +kernel
theorem dX1_takeBack_4 : decode cX1_takeBack 4 = .ok (.ifCond .le 11, 3) := by decide +kernel
theorem dX1_takeBack_7 : decode cX1_takeBack 7 = .ok (.aload_n 0, 1) := by decide +kernel
theorem dX1_takeBack_8 : decode cX1_takeBack 8 = .ok (.getfield 16, 3) := by decide +kernel
theorem dX1_takeBack_11 : decode cX1_takeBack 11 = .ok (.iconst 4, 1) := by decide +kernel
theorem dX1_takeBack_12 : decode cX1_takeBack 12 = .ok (.if_icmp .le 5, 3) := by decide +kernel
theorem dX1_takeBack_15 : decode cX1_takeBack 15 = .ok (.iconst 0, 1) := by decide +kernel
theorem dX1_takeBack_16 : decode cX1_takeBack 16 = .ok (.ireturn, 1) := by decide +kernel
theorem dX1_takeBack_17 : decode cX1_takeBack 17 = .ok (.aload_n 0, 1) := by decide +kernel
theorem dX1_takeBack_18 : decode cX1_takeBack 18 = .ok (.dup, 1) := by decide +kernel
theorem dX1_takeBack_19 : decode cX1_takeBack 19 = .ok (.getfield 16, 3) := by decide +kernel
theorem dX1_takeBack_22 : decode cX1_takeBack 22 = .ok (.iconst 1, 1) := by decide +kernel
theorem dX1_takeBack_23 : decode cX1_takeBack 23 = .ok (.isub, 1) := by decide +kernel
theorem dX1_takeBack_24 : decode cX1_takeBack 24 = .ok (.putfield 16, 3) := by decide +kernel
theorem dX1_takeBack_27 : decode cX1_takeBack 27 = .ok (.aload_n 1, 1) := by decide +kernel
theorem dX1_takeBack_28 : decode cX1_takeBack 28 = .ok (.aload_n 0, 1) := by decide +kernel
theorem dX1_takeBack_29 : decode cX1_takeBack 29 = .ok (.getfield 11, 3) := by decide +kernel
theorem dX1_takeBack_32 : decode cX1_takeBack 32 = .ok (.aload_n 0, 1) := by decide +kernel
theorem dX1_takeBack_33 : decode cX1_takeBack 33 = .ok (.getfield 16, 3) := by decide +kernel
theorem dX1_takeBack_36 : decode cX1_takeBack 36 = .ok (.aaload, 1) := by decide +kernel
theorem dX1_takeBack_37 : decode cX1_takeBack 37 = .ok (.invokevirtual 23, 3) := by decide +kernel
theorem dX1_takeBack_40 : decode cX1_takeBack 40 = .ok (.iconst 1, 1) := by decide +kernel
theorem dX1_takeBack_41 : decode cX1_takeBack 41 = .ok (.ireturn, 1) := by decide +kernel
theorem dX1_dropOldest_0 : decode cX1_dropOldest 0 = .ok (.aload_n 0, 1) := by decide +kernel
theorem dX1_dropOldest_1 : decode cX1_dropOldest 1 = .ok (.getfield 11, 3) := by decide +kernel
theorem dX1_dropOldest_4 : decode cX1_dropOldest 4 = .ok (.iconst 0, 1) := by decide +kernel
theorem dX1_dropOldest_5 : decode cX1_dropOldest 5 = .ok (.aaload, 1) := by decide +kernel
theorem dX1_dropOldest_6 : decode cX1_dropOldest 6 = .ok (.astore_n 1, 1) := by decide +kernel
theorem dX1_dropOldest_7 : decode cX1_dropOldest 7 = .ok (.iconst 1, 1) := by decide +kernel
theorem dX1_dropOldest_8 : decode cX1_dropOldest 8 = .ok (.istore_n 2, 1) := by decide +kernel
theorem dX1_dropOldest_9 : decode cX1_dropOldest 9 = .ok (.iload_n 2, 1) := by decide +kernel
theorem dX1_dropOldest_10 : decode cX1_dropOldest 10 = .ok (.iconst 4, 1) := by decide +kernel
theorem dX1_dropOldest_11 : decode cX1_dropOldest 11 = .ok (.if_icmp .ge 23, 3) := by decide +kernel
theorem dX1_dropOldest_14 : decode cX1_dropOldest 14 = .ok (.aload_n 0, 1) := by decide +kernel
theorem dX1_dropOldest_15 : decode cX1_dropOldest 15 = .ok (.getfield 11, 3) := by decide +kernel
theorem dX1_dropOldest_18 : decode cX1_dropOldest 18 = .ok (.iload_n 2, 1) := by decide +kernel
theorem dX1_dropOldest_19 : decode cX1_dropOldest 19 = .ok (.iconst 1, 1) := by decide +kernel
theorem dX1_dropOldest_20 : decode cX1_dropOldest 20 = .ok (.isub, 1) := by decide +kernel
theorem dX1_dropOldest_21 : decode cX1_dropOldest 21 = .ok (.aload_n 0, 1) := by decide +kernel
theorem dX1_dropOldest_22 : decode cX1_dropOldest 22 = .ok (.getfield 11, 3) := by decide +kernel
theorem dX1_dropOldest_25 : decode cX1_dropOldest 25 = .ok (.iload_n 2, 1) := by decide +kernel
theorem dX1_dropOldest_26 : decode cX1_dropOldest 26 = .ok (.aaload, 1) := by decide +kernel
theorem dX1_dropOldest_27 : decode cX1_dropOldest 27 = .ok (.aastore, 1) := by decide +kernel
theorem dX1_dropOldest_28 : decode cX1_dropOldest 28 = .ok (.iinc 2 1, 3) := by decide +kernel
theorem dX1_dropOldest_31 : decode cX1_dropOldest 31 = .ok (.goto (-22), 3) := by decide +kernel
theorem dX1_dropOldest_34 : decode cX1_dropOldest 34 = .ok (.aload_n 0, 1) := by decide +kernel
theorem dX1_dropOldest_35 : decode cX1_dropOldest 35 = .ok (.getfield 11, 3) := by decide +kernel
theorem dX1_dropOldest_38 : decode cX1_dropOldest 38 = .ok (.iconst 3, 1) := by decide +kernel
theorem dX1_dropOldest_39 : decode cX1_dropOldest 39 = .ok (.aload_n 1, 1) := by decide +kernel
theorem dX1_dropOldest_40 : decode cX1_dropOldest 40 = .ok (.aastore, 1) := by decide +kernel
theorem dX1_dropOldest_41 : decode cX1_dropOldest 41 = .ok (.aload_n 0, 1) := by decide +kernel
theorem dX1_dropOldest_42 : decode cX1_dropOldest 42 = .ok (.iconst 3, 1) := by decide +kernel
theorem dX1_dropOldest_43 : decode cX1_dropOldest 43 = .ok (.putfield 16, 3) := by decide +kernel
theorem dX1_dropOldest_46 : decode cX1_dropOldest 46 = .ok (.return_, 1) := by decide +kernel
theorem dX2_init_0 : decode cX2_init 0 = .ok (.aload_n 0, 1) := by decide +kernel
theorem dX2_init_1 : decode cX2_init 1 = .ok (.invokespecial 1, 3) := by decide +kernel
theorem dX2_init_4 : decode cX2_init 4 = .ok (.aload_n 0, 1) := by decide +kernel
theorem dX2_init_5 : decode cX2_init 5 = .ok (.bipush 10, 2) := by decide +kernel
theorem dX2_init_7 : decode cX2_init 7 = .ok (.newarray .int, 2) := by decide +kernel
theorem dX2_init_9 : decode cX2_init 9 = .ok (.putfield 9, 3) := by decide +kernel
theorem dX2_init_12 : decode cX2_init 12 = .ok (.aload_n 0, 1) := by decide +kernel
theorem dX2_init_13 : decode cX2_init 13 = .ok (.bipush 10, 2) := by decide +kernel
theorem dX2_init_15 : decode cX2_init 15 = .ok (.newarray .int, 2) := by decide +kernel
theorem dX2_init_17 : decode cX2_init 17 = .ok (.putfield 13, 3) := by decide +kernel
theorem dX2_init_20 : decode cX2_init 20 = .ok (.aload_n 0, 1) := by decide +kernel
theorem dX2_init_21 : decode cX2_init 21 = .ok (.bipush 10, 2) := by decide +kernel
theorem dX2_init_23 : decode cX2_init 23 = .ok (.newarray .int, 2) := by decide +kernel
theorem dX2_init_25 : decode cX2_init 25 = .ok (.putfield 16, 3) := by decide +kernel
theorem dX2_init_28 : decode cX2_init 28 = .ok (.aload_n 0, 1) := by decide +kernel
theorem dX2_init_29 : decode cX2_init 29 = .ok (.iconst 4, 1) := by decide +kernel
theorem dX2_init_30 : decode cX2_init 30 = .ok (.newarray .int, 2) := by decide +kernel
theorem dX2_init_32 : decode cX2_init 32 = .ok (.putfield 19, 3) := by decide +kernel
theorem dX2_init_35 : decode cX2_init 35 = .ok (.aload_n 0, 1) := by decide +kernel
theorem dX2_init_36 : decode cX2_init 36 = .ok (.iconst 0, 1) := by decide +kernel
theorem dX2_init_37 : decode cX2_init 37 = .ok (.putfield 22, 3) := by decide +kernel
theorem dX2_init_40 : decode cX2_init 40 = .ok (.return_, 1) := by decide +kernel
set_option maxRecDepth 20000 in
theorem ggX2_copyFrom_X7_copyRow : GoodIn wsX2_copyFrom wsX7_copyRow := goodIn_r _ [8, 9, 10, 11, 12, 13, 14, 15, 16] (by decide +kernel) (by decide +kernel)
set_option maxRecDepth 20000 in
theorem gX2_copyFrom_X7_copyRow_n26 : GoodIn wsX2_copyFrom (wsX7_copyRow) := ggX2_copyFrom_X7_copyRow
theorem dX2_copyFrom_0 : decode cX2_copyFrom 0 = .ok (.aload_n 1, 1) := by decide +kernel
theorem dX2_copyFrom_1 : decode cX2_copyFrom 1 = .ok (.getfield 9, 3) := by decide +kernel
theorem dX2_copyFrom_4 : decode cX2_copyFrom 4 = .ok (.aload_n 0, 1) := by decide +kernel
theorem dX2_copyFrom_5 : decode cX2_copyFrom 5 = .ok (.getfield 9, 3) := by decide +kernel
theorem dX2_copyFrom_8 : decode cX2_copyFrom 8 = .ok (.invokestatic 26, 3) := by decide +kernel
theorem dX2_copyFrom_11 : decode cX2_copyFrom 11 = .ok (.aload_n 1, 1) := by decide +kernel
theorem dX2_copyFrom_12 : decode cX2_copyFrom 12 = .ok (.getfield 13, 3) := by decide +kernel
theorem dX2_copyFrom_15 : decode cX2_copyFrom 15 = .ok (.aload_n 0, 1) := by decide +kernel
theorem dX2_copyFrom_16 : decode cX2_copyFrom 16 = .ok (.getfield 13, 3) := by decide +kernel
theorem dX2_copyFrom_19 : decode cX2_copyFrom 19 = .ok (.invokestatic 26, 3) := by decide +kernel
theorem dX2_copyFrom_22 : decode cX2_copyFrom 22 = .ok (.aload_n 1, 1) := by decide +kernel
theorem dX2_copyFrom_23 : decode cX2_copyFrom 23 = .ok (.getfield 16, 3) := by decide +kernel
theorem dX2_copyFrom_26 : decode cX2_copyFrom 26 = .ok (.aload_n 0, 1) := by decide +kernel
theorem dX2_copyFrom_27 : decode cX2_copyFrom 27 = .ok (.getfield 16, 3) := by decide +kernel
theorem dX2_copyFrom_30 : decode cX2_copyFrom 30 = .ok (.invokestatic 26, 3) := by decide +kernel
theorem dX2_copyFrom_33 : decode cX2_copyFrom 33 = .ok (.aload_n 1, 1) := by decide +kernel
theorem dX2_copyFrom_34 : decode cX2_copyFrom 34 = .ok (.getfield 19, 3) := by decide +kernel
theorem dX2_copyFrom_37 : decode cX2_copyFrom 37 = .ok (.aload_n 0, 1) := by decide +kernel
theorem dX2_copyFrom_38 : decode cX2_copyFrom 38 = .ok (.getfield 19, 3) := by decide +kernel
theorem dX2_copyFrom_41 : decode cX2_copyFrom 41 = .ok (.invokestatic 26, 3) := by decide +kernel
theorem dX2_copyFrom_44 : decode cX2_copyFrom 44 = .ok (.aload_n 0, 1) := by decide +kernel
theorem dX2_copyFrom_45 : decode cX2_copyFrom 45 = .ok (.aload_n 1, 1) := by decide +kernel
theorem dX2_copyFrom_46 : decode cX2_copyFrom 46 = .ok (.getfield 22, 3) := by decide +kernel
theorem dX2_copyFrom_49 : decode cX2_copyFrom 49 = .ok (.putfield 22, 3) := by decide +kernel
theorem dX2_copyFrom_52 : decode cX2_copyFrom 52 = .ok (.return_, 1) := by decide +kernel
set_option maxRecDepth 20000 in
theorem ggX2_note_X2_putFirst : GoodIn wsX2_note wsX2_putFirst := goodIn_r _ [13, 14, 15, 16, 17] (by decide +kernel) (by decide +kernel)
set_option maxRecDepth 20000 in
theorem gX2_note_X2_putFirst : GoodIn wsX2_note (va_wsS RX2 32 yX2_putFirst wsX2_putFirst) := goodIn_app (goodIn_of _ (by decide +kernel)) ggX2_note_X2_putFirst
set_option maxRecDepth 20000 in
theorem ggX2_note_X7_isWithin : GoodIn wsX2_note wsX7_isWithin := goodIn_r _ [20] (by decide +kernel) (by decide +kernel)
set_option maxRecDepth 20000 in
theorem gX2_note_X7_isWithin_n42 : GoodIn wsX2_note (wsX7_isWithin) := ggX2_note_X7_isWithin
theorem dX2_note_0 : decode cX2_note 0 = .ok (.aload_n 0, 1) := by decide +kernel
theorem dX2_note_1 : decode cX2_note 1 = .ok (.getfield 9, 3) := by decide +kernel
theorem dX2_note_4 : decode cX2_note 4 = .ok (.iload_n 1, 1) := by decide +kernel
theorem dX2_note_5 : decode cX2_note 5 = .ok (.invokestatic 32, 3) := by decide +kernel
theorem dX2_note_8 : decode cX2_note 8 = .ok (.aload_n 0, 1) := by decide +kernel
theorem dX2_note_9 : decode cX2_note 9 = .ok (.getfield 13, 3) := by decide +kernel
theorem dX2_note_12 : decode cX2_note 12 = .ok (.iload_n 2, 1) := by decide +kernel
theorem dX2_note_13 : decode cX2_note 13 = .ok (.invokestatic 32, 3) := by decide +kernel
theorem dX2_note_16 : decode cX2_note 16 = .ok (.aload_n 0, 1) := by decide +kernel
theorem dX2_note_17 : decode cX2_note 17 = .ok (.getfield 16, 3) := by decide +kernel
theorem dX2_note_20 : decode cX2_note 20 = .ok (.iload_n 3, 1) := by decide +kernel
theorem dX2_note_21 : decode cX2_note 21 = .ok (.invokestatic 32, 3) := by decide +kernel
theorem dX2_note_24 : decode cX2_note 24 = .ok (.aload_n 0, 1) := by decide +kernel
theorem dX2_note_25 : decode cX2_note 25 = .ok (.aload_n 0, 1) := by decide +kernel
theorem dX2_note_26 : decode cX2_note 26 = .ok (.getfield 22, 3) := by decide +kernel
theorem dX2_note_29 : decode cX2_note 29 = .ok (.iconst 1, 1) := by decide +kernel
theorem dX2_note_30 : decode cX2_note 30 = .ok (.iadd, 1) := by decide +kernel
theorem dX2_note_31 : decode cX2_note 31 = .ok (.bipush 10, 2) := by decide +kernel
theorem dX2_note_33 : decode cX2_note 33 = .ok (.invokestatic 36, 3) := by decide +kernel
theorem dX2_note_36 : decode cX2_note 36 = .ok (.putfield 22, 3) := by decide +kernel
theorem dX2_note_39 : decode cX2_note 39 = .ok (.iload_n 1, 1) := by decide +kernel
theorem dX2_note_40 : decode cX2_note 40 = .ok (.iconst 0, 1) := by decide +kernel
theorem dX2_note_41 : decode cX2_note 41 = .ok (.iconst 3, 1) := by decide +kernel
theorem dX2_note_42 : decode cX2_note 42 = .ok (.invokestatic 42, 3) := by decide +kernel
theorem dX2_note_45 : decode cX2_note 45 = .ok (.ifCond .eq 13, 3) := by decide +kernel
theorem dX2_note_48 : decode cX2_note 48 = .ok (.aload_n 0, 1) := by decide +kernel
theorem dX2_note_49 : decode cX2_note 49 = .ok (.getfield 19, 3) := by decide +kernel
theorem dX2_note_52 : decode cX2_note 52 = .ok (.iload_n 1, 1) := by decide +kernel
theorem dX2_note_53 : decode cX2_note 53 = .ok (.dup2, 1) := by decide +kernel
theorem dX2_note_54 : decode cX2_note 54 = .ok (.iaload, 1) := by decide +kernel
theorem dX2_note_55 : decode cX2_note 55 = .ok (.iconst 1, 1) := by decide +kernel
theorem dX2_note_56 : decode cX2_note 56 = .ok (.iadd, 1) := by decide +kernel
theorem dX2_note_57 : decode cX2_note 57 = .ok (.iastore, 1) := by decide +kernel
theorem dX2_note_58 : decode cX2_note 58 = .ok (.return_, 1) := by decide +kernel
theorem dX2_total_0 : decode cX2_total 0 = .ok (.iconst 0, 1) := by decide +kernel
theorem dX2_total_1 : decode cX2_total 1 = .ok (.istore_n 1, 1) := by decide +kernel
theorem dX2_total_2 : decode cX2_total 2 = .ok (.aload_n 0, 1) := by decide +kernel
theorem dX2_total_3 : decode cX2_total 3 = .ok (.getfield 19, 3) := by decide +kernel
theorem dX2_total_6 : decode cX2_total 6 = .ok (.astore_n 2, 1) := by decide +kernel
theorem dX2_total_7 : decode cX2_total 7 = .ok (.aload_n 2, 1) := by decide +kernel
theorem dX2_total_8 : decode cX2_total 8 = .ok (.arraylength, 1) := by decide +kernel
theorem dX2_total_9 : decode cX2_total 9 = .ok (.istore_n 3, 1) := by decide +kernel
theorem dX2_total_10 : decode cX2_total 10 = .ok (.iconst 0, 1) := by decide +kernel
theorem dX2_total_11 : decode cX2_total 11 = .ok (.istore 4, 2) := by decide +kernel
theorem dX2_total_13 : decode cX2_total 13 = .ok (.iload 4, 2) := by decide +kernel
theorem dX2_total_15 : decode cX2_total 15 = .ok (.iload_n 3, 1) := by decide +kernel
theorem dX2_total_16 : decode cX2_total 16 = .ok (.if_icmp .ge 20, 3) := by decide +kernel
theorem dX2_total_19 : decode cX2_total 19 = .ok (.aload_n 2, 1) := by decide +kernel
theorem dX2_total_20 : decode cX2_total 20 = .ok (.iload 4, 2) := by decide +kernel
theorem dX2_total_22 : decode cX2_total 22 = .ok (.iaload, 1) := by decide +kernel
theorem dX2_total_23 : decode cX2_total 23 = .ok (.istore 5, 2) := by decide +kernel
theorem dX2_total_25 : decode cX2_total 25 = .ok (.iload_n 1, 1) := by decide +kernel
theorem dX2_total_26 : decode cX2_total 26 = .ok (.iload 5, 2) := by decide +kernel
theorem dX2_total_28 : decode cX2_total 28 = .ok (.iadd, 1) := by decide +kernel
theorem dX2_total_29 : decode cX2_total 29 = .ok (.istore_n 1, 1) := by decide +kernel
theorem dX2_total_30 : decode cX2_total 30 = .ok (.iinc 4 1, 3) := by decide +kernel
theorem dX2_total_33 : decode cX2_total 33 = .ok (.goto (-20), 3) := by decide +kernel
theorem dX2_total_36 : decode cX2_total 36 = .ok (.iload_n 1, 1) := by decide +kernel
theorem dX2_total_37 : decode cX2_total 37 = .ok (.ireturn, 1) := by decide +kernel
theorem dX2_putFirst_0 : decode cX2_putFirst 0 = .ok (.aload_n 0, 1) := by decide +kernel
theorem dX2_putFirst_1 : decode cX2_putFirst 1 = .ok (.arraylength, 1) := by decide +kernel
theorem dX2_putFirst_2 : decode cX2_putFirst 2 = .ok (.ifCond .le 18, 3) := by decide +kernel
theorem dX2_putFirst_5 : decode cX2_putFirst 5 = .ok (.aload_n 0, 1) := by decide +kernel
theorem dX2_putFirst_6 : decode cX2_putFirst 6 = .ok (.iconst 0, 1) := by decide +kernel
theorem dX2_putFirst_7 : decode cX2_putFirst 7 = .ok (.aload_n 0, 1) := by decide +kernel
theorem dX2_putFirst_8 : decode cX2_putFirst 8 = .ok (.iconst 1, 1) := by decide +kernel
theorem dX2_putFirst_9 : decode cX2_putFirst 9 = .ok (.aload_n 0, 1) := by decide +kernel
theorem dX2_putFirst_10 : decode cX2_putFirst 10 = .ok (.arraylength, 1) := by decide +kernel
theorem dX2_putFirst_11 : decode cX2_putFirst 11 = .ok (.iconst 1, 1) := by decide +kernel
theorem dX2_putFirst_12 : decode cX2_putFirst 12 = .ok (.isub, 1) := by decide +kernel
theorem dX2_putFirst_13 : decode cX2_putFirst 13 = .ok (.invokestatic 46, 3) := by decide +kernel
theorem dX2_putFirst_16 : decode cX2_putFirst 16 = .ok (.aload_n 0, 1) := by decide +kernel
theorem dX2_putFirst_17 : decode cX2_putFirst 17 = .ok (.iconst 0, 1) := by decide +kernel
theorem dX2_putFirst_18 : decode cX2_putFirst 18 = .ok (.iload_n 1, 1) := by decide +kernel
theorem dX2_putFirst_19 : decode cX2_putFirst 19 = .ok (.iastore, 1) := by decide +kernel
theorem dX2_putFirst_20 : decode cX2_putFirst 20 = .ok (.return_, 1) := by decide +kernel
theorem dX3_init_0 : decode cX3_init 0 = .ok (.aload_n 0, 1) := by decide +kernel
theorem dX3_init_1 : decode cX3_init 1 = .ok (.invokespecial 1, 3) := by decide +kernel
theorem dX3_init_4 : decode cX3_init 4 = .ok (.aload_n 0, 1) := by decide +kernel
theorem dX3_init_5 : decode cX3_init 5 = .ok (.bipush 12, 2) := by decide +kernel
theorem dX3_init_7 : decode cX3_init 7 = .ok (.newarray .int, 2) := by decide +kernel
theorem dX3_init_9 : decode cX3_init 9 = .ok (.putfield 9, 3) := by decide +kernel
theorem dX3_init_12 : decode cX3_init 12 = .ok (.aload_n 0, 1) := by decide +kernel
theorem dX3_init_13 : decode cX3_init 13 = .ok (.bipush 12, 2) := by decide +kernel
theorem dX3_init_15 : decode cX3_init 15 = .ok (.newarray .int, 2) := by decide +kernel
theorem dX3_init_17 : decode cX3_init 17 = .ok (.putfield 13, 3) := by decide +kernel
theorem dX3_init_20 : decode cX3_init 20 = .ok (.aload_n 0, 1) := by decide +kernel
theorem dX3_init_21 : decode cX3_init 21 = .ok (.iconst 0, 1) := by decide +kernel
theorem dX3_init_22 : decode cX3_init 22 = .ok (.putfield 16, 3) := by decide +kernel
theorem dX3_init_25 : decode cX3_init 25 = .ok (.return_, 1) := by decide +kernel
set_option maxRecDepth 20000 in
theorem ggX3_copyFrom_X7_copyRow : GoodIn wsX3_copyFrom wsX7_copyRow := goodIn_r _ [6, 7, 8, 9, 10, 11, 12, 13, 14] (by decide +kernel) (by decide +kernel)
set_option maxRecDepth 20000 in
theorem gX3_copyFrom_X7_copyRow_n20 : GoodIn wsX3_copyFrom (wsX7_copyRow) := ggX3_copyFrom_X7_copyRow
theorem dX3_copyFrom_0 : decode cX3_copyFrom 0 = .ok (.aload_n 1, 1) := by decide +kernel
theorem dX3_copyFrom_1 : decode cX3_copyFrom 1 = .ok (.getfield 9, 3) := by decide +kernel
theorem dX3_copyFrom_4 : decode cX3_copyFrom 4 = .ok (.aload_n 0, 1) := by decide +kernel
theorem dX3_copyFrom_5 : decode cX3_copyFrom 5 = .ok (.getfield 9, 3) := by decide +kernel
theorem dX3_copyFrom_8 : decode cX3_copyFrom 8 = .ok (.invokestatic 20, 3) := by decide +kernel
theorem dX3_copyFrom_11 : decode cX3_copyFrom 11 = .ok (.aload_n 1, 1) := by decide +kernel
theorem dX3_copyFrom_12 : decode cX3_copyFrom 12 = .ok (.getfield 13, 3) := by decide +kernel
theorem dX3_copyFrom_15 : decode cX3_copyFrom 15 = .ok (.aload_n 0, 1) := by decide +kernel
theorem dX3_copyFrom_16 : decode cX3_copyFrom 16 = .ok (.getfield 13, 3) := by decide +kernel
theorem dX3_copyFrom_19 : decode cX3_copyFrom 19 = .ok (.invokestatic 20, 3) := by decide +kernel
theorem dX3_copyFrom_22 : decode cX3_copyFrom 22 = .ok (.aload_n 0, 1) := by decide +kernel
theorem dX3_copyFrom_23 : decode cX3_copyFrom 23 = .ok (.aload_n 1, 1) := by decide +kernel
theorem dX3_copyFrom_24 : decode cX3_copyFrom 24 = .ok (.getfield 16, 3) := by decide +kernel
theorem dX3_copyFrom_27 : decode cX3_copyFrom 27 = .ok (.putfield 16, 3) := by decide +kernel
theorem dX3_copyFrom_30 : decode cX3_copyFrom 30 = .ok (.return_, 1) := by decide +kernel
set_option maxRecDepth 20000 in
theorem ggX3_hasRoomFor_X3_placeOf : GoodIn wsX3_hasRoomFor wsX3_placeOf := goodIn_r _ [6, 1, 7, 8, 9, 10] (by decide +kernel) (by decide +kernel)
set_option maxRecDepth 20000 in
theorem gX3_hasRoomFor_X3_placeOf : GoodIn wsX3_hasRoomFor (wsV RX3 26 RX3 yX3_placeOf wsX3_placeOf) := goodIn_app (goodIn_of _ (by decide +kernel)) ggX3_hasRoomFor_X3_placeOf
theorem dX3_hasRoomFor_0 : decode cX3_hasRoomFor 0 = .ok (.aload_n 0, 1) := by decide +kernel
theorem dX3_hasRoomFor_1 : decode cX3_hasRoomFor 1 = .ok (.getfield 16, 3) := by decide +kernel
theorem dX3_hasRoomFor_4 : decode cX3_hasRoomFor 4 = .ok (.bipush 12, 2) := by decide +kernel
theorem dX3_hasRoomFor_6 : decode cX3_hasRoomFor 6 = .ok (.if_icmp .lt 15, 3) := by decide +kernel
theorem dX3_hasRoomFor_9 : decode cX3_hasRoomFor 9 = .ok (.aload_n 0, 1) := by decide +kernel
theorem dX3_hasRoomFor_10 : decode cX3_hasRoomFor 10 = .ok (.iload_n 1, 1) := by decide +kernel
theorem dX3_hasRoomFor_11 : decode cX3_hasRoomFor 11 = .ok (.invokevirtual 26, 3) := by decide +kernel
theorem dX3_hasRoomFor_14 : decode cX3_hasRoomFor 14 = .ok (.aload_n 0, 1) := by decide +kernel
theorem dX3_hasRoomFor_15 : decode cX3_hasRoomFor 15 = .ok (.getfield 16, 3) := by decide +kernel
theorem dX3_hasRoomFor_18 : decode cX3_hasRoomFor 18 = .ok (.if_icmp .ge 7, 3) := by decide +kernel
theorem dX3_hasRoomFor_21 : decode cX3_hasRoomFor 21 = .ok (.iconst 1, 1) := by decide +kernel
theorem dX3_hasRoomFor_22 : decode cX3_hasRoomFor 22 = .ok (.goto 4, 3) := by decide +kernel
theorem dX3_hasRoomFor_25 : decode cX3_hasRoomFor 25 = .ok (.iconst 0, 1) := by decide +kernel
theorem dX3_hasRoomFor_26 : decode cX3_hasRoomFor 26 = .ok (.ireturn, 1) := by decide +kernel
set_option maxRecDepth 20000 in
theorem ggX3_holds_X3_placeOf : GoodIn wsX3_holds wsX3_placeOf := goodIn_r _ [7, 1, 8, 12, 13, 14] (by decide +kernel) (by decide +kernel)
set_option maxRecDepth 20000 in
theorem gX3_holds_X3_placeOf : GoodIn wsX3_holds (wsV RX3 26 RX3 yX3_placeOf wsX3_placeOf) := goodIn_app (goodIn_of _ (by decide +kernel)) ggX3_holds_X3_placeOf
set_option maxRecDepth 20000 in
theorem ggX3_holds_X7_elementAt : GoodIn wsX3_holds wsX7_elementAt := goodIn_r _ [11] (by decide +kernel) (by decide +kernel)
set_option maxRecDepth 20000 in
theorem gX3_holds_X7_elementAt_n30 : GoodIn wsX3_holds (wsX7_elementAt) := ggX3_holds_X7_elementAt
theorem dX3_holds_0 : decode cX3_holds 0 = .ok (.aload_n 0, 1) := by decide +kernel
theorem dX3_holds_1 : decode cX3_holds 1 = .ok (.iload_n 1, 1) := by decide +kernel
theorem dX3_holds_2 : decode cX3_holds 2 = .ok (.invokevirtual 26, 3) := by decide +kernel
theorem dX3_holds_5 : decode cX3_holds 5 = .ok (.istore_n 3, 1) := by decide +kernel
theorem dX3_holds_6 : decode cX3_holds 6 = .ok (.iload_n 3, 1) := by decide +kernel
theorem dX3_holds_7 : decode cX3_holds 7 = .ok (.aload_n 0, 1) := by decide +kernel
theorem dX3_holds_8 : decode cX3_holds 8 = .ok (.getfield 16, 3) := by decide +kernel
theorem dX3_holds_11 : decode cX3_holds 11 = .ok (.if_icmp .ge 19, 3) := by decide +kernel
theorem dX3_holds_14 : decode cX3_holds 14 = .ok (.aload_n 0, 1) := by decide +kernel
theorem dX3_holds_15 : decode cX3_holds 15 = .ok (.getfield 13, 3) := by decide +kernel
theorem dX3_holds_18 : decode cX3_holds 18 = .ok (.iload_n 3, 1) := by decide +kernel
theorem dX3_holds_19 : decode cX3_holds 19 = .ok (.invokestatic 30, 3) := by decide +kernel
theorem dX3_holds_22 : decode cX3_holds 22 = .ok (.iload_n 2, 1) := by decide +kernel
theorem dX3_holds_23 : decode cX3_holds 23 = .ok (.if_icmp .ne 7, 3) := by decide +kernel
theorem dX3_holds_26 : decode cX3_holds 26 = .ok (.iconst 1, 1) := by decide +kernel
theorem dX3_holds_27 : decode cX3_holds 27 = .ok (.goto 4, 3) := by decide +kernel
theorem dX3_holds_30 : decode cX3_holds 30 = .ok (.iconst 0, 1) := by decide +kernel
theorem dX3_holds_31 : decode cX3_holds 31 = .ok (.ireturn, 1) := by decide +kernel
set_option maxRecDepth 20000 in
theorem ggX3_put_X3_hasRoomFor : GoodIn wsX3_put wsX3_hasRoomFor := goodIn_r _ [8, 1, 9, 10, 11, 7, 12, 2, 17, 18, 19] (by decide +kernel) (by decide +kernel)
set_option maxRecDepth 20000 in
theorem gX3_put_X3_hasRoomFor : GoodIn wsX3_put (wsV RX3 34 RX3 yX3_hasRoomFor wsX3_hasRoomFor) := goodIn_app (goodIn_of _ (by decide +kernel)) ggX3_put_X3_hasRoomFor
set_option maxRecDepth 20000 in
theorem ggX3_put_X3_placeOf : GoodIn wsX3_put wsX3_placeOf := goodIn_r _ [12, 1, 2, 17, 18, 19] (by decide +kernel) (by decide +kernel)
set_option maxRecDepth 20000 in
theorem gX3_put_X3_placeOf : GoodIn wsX3_put (wsV RX3 26 RX3 yX3_placeOf wsX3_placeOf) := goodIn_app (goodIn_of _ (by decide +kernel)) ggX3_put_X3_placeOf
set_option maxRecDepth 20000 in
theorem ggX3_put_X3_makePlaceFor : GoodIn wsX3_put wsX3_makePlaceFor := goodIn_r _ [16, 1, 2, 3, 17, 18, 19] (by decide +kernel) (by decide +kernel)
set_option maxRecDepth 20000 in
theorem gX3_put_X3_makePlaceFor : GoodIn wsX3_put (wsV RX3 38 RX3 yX3_makePlaceFor wsX3_makePlaceFor) := goodIn_app (goodIn_of _ (by decide +kernel)) ggX3_put_X3_makePlaceFor
theorem dX3_put_0 : decode cX3_put 0 = .ok (.aload_n 0, 1) := by decide +kernel
theorem dX3_put_1 : decode cX3_put 1 = .ok (.iload_n 1, 1) := by decide +kernel
theorem dX3_put_2 : decode cX3_put 2 = .ok (.invokevirtual 34, 3) := by decide +kernel
theorem dX3_put_5 : decode cX3_put 5 = .ok (.ifCond .ne 5, 3) := by decide +kernel
theorem dX3_put_8 : decode cX3_put 8 = .ok (.iconst 0, 1) := by decide +kernel
theorem dX3_put_9 : decode cX3_put 9 = .ok (.ireturn, 1) := by decide +kernel
theorem dX3_put_10 : decode cX3_put 10 = .ok (.aload_n 0, 1) := by decide +kernel
theorem dX3_put_11 : decode cX3_put 11 = .ok (.iload_n 1, 1) := by decide +kernel
theorem dX3_put_12 : decode cX3_put 12 = .ok (.invokevirtual 26, 3) := by decide +kernel
theorem dX3_put_15 : decode cX3_put 15 = .ok (.istore_n 3, 1) := by decide +kernel
theorem dX3_put_16 : decode cX3_put 16 = .ok (.iload_n 3, 1) := by decide +kernel
theorem dX3_put_17 : decode cX3_put 17 = .ok (.aload_n 0, 1) := by decide +kernel
theorem dX3_put_18 : decode cX3_put 18 = .ok (.getfield 16, 3) := by decide +kernel
theorem dX3_put_21 : decode cX3_put 21 = .ok (.if_icmp .ne 9, 3) := by decide +kernel
theorem dX3_put_24 : decode cX3_put 24 = .ok (.aload_n 0, 1) := by decide +kernel
theorem dX3_put_25 : decode cX3_put 25 = .ok (.iload_n 1, 1) := by decide +kernel
theorem dX3_put_26 : decode cX3_put 26 = .ok (.invokevirtual 38, 3) := by decide +kernel
theorem dX3_put_29 : decode cX3_put 29 = .ok (.istore_n 3, 1) := by decide +kernel
theorem dX3_put_30 : decode cX3_put 30 = .ok (.iload_n 3, 1) := by decide +kernel
theorem dX3_put_31 : decode cX3_put 31 = .ok (.ifCond .lt 23, 3) := by decide +kernel
theorem dX3_put_34 : decode cX3_put 34 = .ok (.iload_n 3, 1) := by decide +kernel
theorem dX3_put_35 : decode cX3_put 35 = .ok (.bipush 12, 2) := by decide +kernel
theorem dX3_put_37 : decode cX3_put 37 = .ok (.if_icmp .ge 17, 3) := by decide +kernel
theorem dX3_put_40 : decode cX3_put 40 = .ok (.aload_n 0, 1) := by decide +kernel
theorem dX3_put_41 : decode cX3_put 41 = .ok (.getfield 9, 3) := by decide +kernel
theorem dX3_put_44 : decode cX3_put 44 = .ok (.iload_n 3, 1) := by decide +kernel
theorem dX3_put_45 : decode cX3_put 45 = .ok (.iload_n 1, 1) := by decide +kernel
theorem dX3_put_46 : decode cX3_put 46 = .ok (.iastore, 1) := by decide +kernel
theorem dX3_put_47 : decode cX3_put 47 = .ok (.aload_n 0, 1) := by decide +kernel
theorem dX3_put_48 : decode cX3_put 48 = .ok (.getfield 13, 3) := by decide +kernel
theorem dX3_put_51 : decode cX3_put 51 = .ok (.iload_n 3, 1) := by decide +kernel
theorem dX3_put_52 : decode cX3_put 52 = .ok (.iload_n 2, 1) := by decide +kernel
theorem dX3_put_53 : decode cX3_put 53 = .ok (.iastore, 1) := by decide +kernel
theorem dX3_put_54 : decode cX3_put 54 = .ok (.iconst 1, 1) := by decide +kernel
theorem dX3_put_55 : decode cX3_put 55 = .ok (.ireturn, 1) := by decide +kernel
theorem dX3_draftIn_0 : decode cX3_draftIn 0 = .ok (.iconst 0, 1) := by decide +kernel
theorem dX3_draftIn_1 : decode cX3_draftIn 1 = .ok (.istore_n 2, 1) := by decide +kernel
theorem dX3_draftIn_2 : decode cX3_draftIn 2 = .ok (.iconst 0, 1) := by decide +kernel
theorem dX3_draftIn_3 : decode cX3_draftIn 3 = .ok (.istore_n 3, 1) := by decide +kernel
theorem dX3_draftIn_4 : decode cX3_draftIn 4 = .ok (.iload_n 3, 1) := by decide +kernel
theorem dX3_draftIn_5 : decode cX3_draftIn 5 = .ok (.aload_n 0, 1) := by decide +kernel
theorem dX3_draftIn_6 : decode cX3_draftIn 6 = .ok (.getfield 16, 3) := by decide +kernel
theorem dX3_draftIn_9 : decode cX3_draftIn 9 = .ok (.if_icmp .ge 32, 3) := by decide +kernel
theorem dX3_draftIn_12 : decode cX3_draftIn 12 = .ok (.iload_n 3, 1) := by decide +kernel
theorem dX3_draftIn_13 : decode cX3_draftIn 13 = .ok (.bipush 12, 2) := by decide +kernel
theorem dX3_draftIn_15 : decode cX3_draftIn 15 = .ok (.if_icmp .ge 26, 3) := by decide +kernel
theorem dX3_draftIn_18 : decode cX3_draftIn 18 = .ok (.aload_n 0, 1) := by decide +kernel
theorem dX3_draftIn_19 : decode cX3_draftIn 19 = .ok (.getfield 9, 3) := by decide +kernel
theorem dX3_draftIn_22 : decode cX3_draftIn 22 = .ok (.iload_n 3, 1) := by decide +kernel
theorem dX3_draftIn_23 : decode cX3_draftIn 23 = .ok (.iaload, 1) := by decide +kernel
theorem dX3_draftIn_24 : decode cX3_draftIn 24 = .ok (.iload_n 1, 1) := by decide +kernel
theorem dX3_draftIn_25 : decode cX3_draftIn 25 = .ok (.if_icmp .gt 10, 3) := by decide +kernel
theorem dX3_draftIn_28 : decode cX3_draftIn 28 = .ok (.aload_n 0, 1) := by decide +kernel
theorem dX3_draftIn_29 : decode cX3_draftIn 29 = .ok (.getfield 13, 3) := by decide +kernel
theorem dX3_draftIn_32 : decode cX3_draftIn 32 = .ok (.iload_n 3, 1) := by decide +kernel
theorem dX3_draftIn_33 : decode cX3_draftIn 33 = .ok (.iaload, 1) := by decide +kernel
theorem dX3_draftIn_34 : decode cX3_draftIn 34 = .ok (.istore_n 2, 1) := by decide +kernel
theorem dX3_draftIn_35 : decode cX3_draftIn 35 = .ok (.iinc 3 1, 3) := by decide +kernel
theorem dX3_draftIn_38 : decode cX3_draftIn 38 = .ok (.goto (-34), 3) := by decide +kernel
theorem dX3_draftIn_41 : decode cX3_draftIn 41 = .ok (.iload_n 2, 1) := by decide +kernel
theorem dX3_draftIn_42 : decode cX3_draftIn 42 = .ok (.ireturn, 1) := by decide +kernel
theorem dX3_placeOf_0 : decode cX3_placeOf 0 = .ok (.iconst 0, 1) := by decide +kernel
theorem dX3_placeOf_1 : decode cX3_placeOf 1 = .ok (.istore_n 2, 1) := by decide +kernel
theorem dX3_placeOf_2 : decode cX3_placeOf 2 = .ok (.iload_n 2, 1) := by decide +kernel
theorem dX3_placeOf_3 : decode cX3_placeOf 3 = .ok (.aload_n 0, 1) := by decide +kernel
theorem dX3_placeOf_4 : decode cX3_placeOf 4 = .ok (.getfield 16, 3) := by decide +kernel
theorem dX3_placeOf_7 : decode cX3_placeOf 7 = .ok (.if_icmp .ge 27, 3) := by decide +kernel
theorem dX3_placeOf_10 : decode cX3_placeOf 10 = .ok (.iload_n 2, 1) := by decide +kernel
theorem dX3_placeOf_11 : decode cX3_placeOf 11 = .ok (.bipush 12, 2) := by decide +kernel
theorem dX3_placeOf_13 : decode cX3_placeOf 13 = .ok (.if_icmp .ge 21, 3) := by decide +kernel
theorem dX3_placeOf_16 : decode cX3_placeOf 16 = .ok (.aload_n 0, 1) := by decide +kernel
theorem dX3_placeOf_17 : decode cX3_placeOf 17 = .ok (.getfield 9, 3) := by decide +kernel
theorem dX3_placeOf_20 : decode cX3_placeOf 20 = .ok (.iload_n 2, 1) := by decide +kernel
theorem dX3_placeOf_21 : decode cX3_placeOf 21 = .ok (.iaload, 1) := by decide +kernel
theorem dX3_placeOf_22 : decode cX3_placeOf 22 = .ok (.iload_n 1, 1) := by decide +kernel
theorem dX3_placeOf_23 : decode cX3_placeOf 23 = .ok (.if_icmp .ne 5, 3) := by decide +kernel
theorem dX3_placeOf_26 : decode cX3_placeOf 26 = .ok (.iload_n 2, 1) := by decide +kernel
theorem dX3_placeOf_27 : decode cX3_placeOf 27 = .ok (.ireturn, 1) := by decide +kernel
theorem dX3_placeOf_28 : decode cX3_placeOf 28 = .ok (.iinc 2 1, 3) := by decide +kernel
theorem dX3_placeOf_31 : decode cX3_placeOf 31 = .ok (.goto (-29), 3) := by decide +kernel
theorem dX3_placeOf_34 : decode cX3_placeOf 34 = .ok (.aload_n 0, 1) := by decide +kernel
theorem dX3_placeOf_35 : decode cX3_placeOf 35 = .ok (.getfield 16, 3) := by decide +kernel
theorem dX3_placeOf_38 : decode cX3_placeOf 38 = .ok (.ireturn, 1) := by decide +kernel
theorem dX3_makePlaceFor_0 : decode cX3_makePlaceFor 0 = .ok (.aload_n 0, 1) := by decide +kernel
theorem dX3_makePlaceFor_1 : decode cX3_makePlaceFor 1 = .ok (.getfield 16, 3) := by decide +kernel
theorem dX3_makePlaceFor_4 : decode cX3_makePlaceFor 4 = .ok (.istore_n 2, 1) := by decide +kernel
theorem dX3_makePlaceFor_5 : decode cX3_makePlaceFor 5 = .ok (.iload_n 2, 1) := by decide +kernel
theorem dX3_makePlaceFor_6 : decode cX3_makePlaceFor 6 = .ok (.ifCond .le 55, 3) := by decide +kernel
theorem dX3_makePlaceFor_9 : decode cX3_makePlaceFor 9 = .ok (.iload_n 2, 1) := by decide +kernel
theorem dX3_makePlaceFor_10 : decode cX3_makePlaceFor 10 = .ok (.bipush 12, 2) := by decide +kernel
theorem dX3_makePlaceFor_12 : decode cX3_makePlaceFor 12 = .ok (.if_icmp .ge 49, 3) := by decide +kernel
theorem dX3_makePlaceFor_15 : decode cX3_makePlaceFor 15 = .ok (.aload_n 0, 1) := by decide +kernel
theorem dX3_makePlaceFor_16 : decode cX3_makePlaceFor 16 = .ok (.getfield 9, 3) := by decide +kernel
theorem dX3_makePlaceFor_19 : decode cX3_makePlaceFor 19 = .ok (.iload_n 2, 1) := by decide +kernel
theorem dX3_makePlaceFor_20 : decode cX3_makePlaceFor 20 = .ok (.iconst 1, 1) := by decide +kernel
theorem dX3_makePlaceFor_21 : decode cX3_makePlaceFor 21 = .ok (.isub, 1) := by decide +kernel
theorem dX3_makePlaceFor_22 : decode cX3_makePlaceFor 22 = .ok (.iaload, 1) := by decide +kernel
theorem dX3_makePlaceFor_23 : decode cX3_makePlaceFor 23 = .ok (.iload_n 1, 1) := by decide +kernel
theorem dX3_makePlaceFor_24 : decode cX3_makePlaceFor 24 = .ok (.if_icmp .le 37, 3) := by decide +kernel
theorem dX3_makePlaceFor_27 : decode cX3_makePlaceFor 27 = .ok (.aload_n 0, 1) := by decide +kernel
theorem dX3_makePlaceFor_28 : decode cX3_makePlaceFor 28 = .ok (.getfield 9, 3) := by decide +kernel
theorem dX3_makePlaceFor_31 : decode cX3_makePlaceFor 31 = .ok (.iload_n 2, 1) := by decide +kernel
theorem dX3_makePlaceFor_32 : decode cX3_makePlaceFor 32 = .ok (.aload_n 0, 1) := by decide +kernel
theorem dX3_makePlaceFor_33 : decode cX3_makePlaceFor 33 = .ok (.getfield 9, 3) := by decide +kernel
theorem dX3_makePlaceFor_36 : decode cX3_makePlaceFor 36 = .ok (.iload_n 2, 1) := by decide +kernel
theorem dX3_makePlaceFor_37 : decode cX3_makePlaceFor 37 = .ok (.iconst 1, 1) := by decide +kernel
theorem dX3_makePlaceFor_38 : decode cX3_makePlaceFor 38 = .ok (.isub, 1) := by decide +kernel
theorem dX3_makePlaceFor_39 : decode cX3_makePlaceFor 39 = .ok (.iaload, 1) := by decide +kernel
theorem dX3_makePlaceFor_40 : decode cX3_makePlaceFor 40 = .ok (.iastore, 1) := by decide +kernel
theorem dX3_makePlaceFor_41 : decode cX3_makePlaceFor 41 = .ok (.aload_n 0, 1) := by decide +kernel
theorem dX3_makePlaceFor_42 : decode cX3_makePlaceFor 42 = .ok (.getfield 13, 3) := by decide +kernel
theorem dX3_makePlaceFor_45 : decode cX3_makePlaceFor 45 = .ok (.iload_n 2, 1) := by decide +kernel
theorem dX3_makePlaceFor_46 : decode cX3_makePlaceFor 46 = .ok (.aload_n 0, 1) := by decide +kernel
theorem dX3_makePlaceFor_47 : decode cX3_makePlaceFor 47 = .ok (.getfield 13, 3) := by decide +kernel
theorem dX3_makePlaceFor_50 : decode cX3_makePlaceFor 50 = .ok (.iload_n 2, 1) := by decide +kernel
theorem dX3_makePlaceFor_51 : decode cX3_makePlaceFor 51 = .ok (.iconst 1, 1) := by decide +kernel
theorem dX3_makePlaceFor_52 : decode cX3_makePlaceFor 52 = .ok (.isub, 1) := by decide +kernel
theorem dX3_makePlaceFor_53 : decode cX3_makePlaceFor 53 = .ok (.iaload, 1) := by decide +kernel
theorem dX3_makePlaceFor_54 : decode cX3_makePlaceFor 54 = .ok (.iastore, 1) := by decide +kernel
theorem dX3_makePlaceFor_55 : decode cX3_makePlaceFor 55 = .ok (.iinc 2 (-1), 3) := by decide +kernel
theorem dX3_makePlaceFor_58 : decode cX3_makePlaceFor 58 = .ok (.goto (-53), 3) := by decide +kernel
theorem dX3_makePlaceFor_61 : decode cX3_makePlaceFor 61 = .ok (.aload_n 0, 1) := by decide +kernel
theorem dX3_makePlaceFor_62 : decode cX3_makePlaceFor 62 = .ok (.dup, 1) := by decide +kernel
theorem dX3_makePlaceFor_63 : decode cX3_makePlaceFor 63 = .ok (.getfield 16, 3) := by decide +kernel
theorem dX3_makePlaceFor_66 : decode cX3_makePlaceFor 66 = .ok (.iconst 1, 1) := by decide +kernel
theorem dX3_makePlaceFor_67 : decode cX3_makePlaceFor 67 = .ok (.iadd, 1) := by decide +kernel
theorem dX3_makePlaceFor_68 : decode cX3_makePlaceFor 68 = .ok (.putfield 16, 3) := by decide +kernel
theorem dX3_makePlaceFor_71 : decode cX3_makePlaceFor 71 = .ok (.iload_n 2, 1) := by decide +kernel
theorem dX3_makePlaceFor_72 : decode cX3_makePlaceFor 72 = .ok (.ireturn, 1) := by decide +kernel
theorem dX4_init_0 : decode cX4_init 0 = .ok (.aload_n 0, 1) := by decide +kernel
theorem dX4_init_1 : decode cX4_init 1 = .ok (.invokespecial 1, 3) := by decide +kernel
theorem dX4_init_4 : decode cX4_init 4 = .ok (.aload_n 0, 1) := by decide +kernel
theorem dX4_init_5 : decode cX4_init 5 = .ok (.getstatic 7, 3) := by decide +kernel
theorem dX4_init_8 : decode cX4_init 8 = .ok (.arraylength, 1) := by decide +kernel
theorem dX4_init_9 : decode cX4_init 9 = .ok (.newarray .int, 2) := by decide +kernel
theorem dX4_init_11 : decode cX4_init 11 = .ok (.putfield 13, 3) := by decide +kernel
theorem dX4_init_14 : decode cX4_init 14 = .ok (.iconst 0, 1) := by decide +kernel
theorem dX4_init_15 : decode cX4_init 15 = .ok (.istore_n 1, 1) := by decide +kernel
theorem dX4_init_16 : decode cX4_init 16 = .ok (.iload_n 1, 1) := by decide +kernel
theorem dX4_init_17 : decode cX4_init 17 = .ok (.getstatic 7, 3) := by decide +kernel
theorem dX4_init_20 : decode cX4_init 20 = .ok (.arraylength, 1) := by decide +kernel
theorem dX4_init_21 : decode cX4_init 21 = .ok (.if_icmp .ge 20, 3) := by decide +kernel
theorem dX4_init_24 : decode cX4_init 24 = .ok (.aload_n 0, 1) := by decide +kernel
theorem dX4_init_25 : decode cX4_init 25 = .ok (.getfield 13, 3) := by decide +kernel
theorem dX4_init_28 : decode cX4_init 28 = .ok (.iload_n 1, 1) := by decide +kernel
theorem dX4_init_29 : decode cX4_init 29 = .ok (.getstatic 7, 3) := by decide +kernel
theorem dX4_init_32 : decode cX4_init 32 = .ok (.iload_n 1, 1) := by decide +kernel
theorem dX4_init_33 : decode cX4_init 33 = .ok (.iaload, 1) := by decide +kernel
theorem dX4_init_34 : decode cX4_init 34 = .ok (.iastore, 1) := by decide +kernel
theorem dX4_init_35 : decode cX4_init 35 = .ok (.iinc 1 1, 3) := by decide +kernel
theorem dX4_init_38 : decode cX4_init 38 = .ok (.goto (-22), 3) := by decide +kernel
theorem dX4_init_41 : decode cX4_init 41 = .ok (.return_, 1) := by decide +kernel
set_option maxRecDepth 20000 in
theorem ggX4_isOne_X7_isWithin : GoodIn wsX4_isOne wsX7_isWithin := goodIn_r _ [4] (by decide +kernel) (by decide +kernel)
set_option maxRecDepth 20000 in
theorem gX4_isOne_X7_isWithin_n16 : GoodIn wsX4_isOne (wsX7_isWithin) := ggX4_isOne_X7_isWithin
theorem dX4_isOne_0 : decode cX4_isOne 0 = .ok (.iload_n 0, 1) := by decide +kernel
theorem dX4_isOne_1 : decode cX4_isOne 1 = .ok (.iconst 0, 1) := by decide +kernel
theorem dX4_isOne_2 : decode cX4_isOne 2 = .ok (.getstatic 7, 3) := by decide +kernel
theorem dX4_isOne_5 : decode cX4_isOne 5 = .ok (.arraylength, 1) := by decide +kernel
theorem dX4_isOne_6 : decode cX4_isOne 6 = .ok (.iconst 1, 1) := by decide +kernel
theorem dX4_isOne_7 : decode cX4_isOne 7 = .ok (.isub, 1) := by decide +kernel
theorem dX4_isOne_8 : decode cX4_isOne 8 = .ok (.invokestatic 16, 3) := by decide +kernel
theorem dX4_isOne_11 : decode cX4_isOne 11 = .ok (.ireturn, 1) := by decide +kernel
set_option maxRecDepth 20000 in
theorem ggX4_allows_X7_elementAt : GoodIn wsX4_allows wsX7_elementAt := goodIn_r _ [5] (by decide +kernel) (by decide +kernel)
set_option maxRecDepth 20000 in
theorem gX4_allows_X7_elementAt_n25 : GoodIn wsX4_allows (wsX7_elementAt) := ggX4_allows_X7_elementAt
set_option maxRecDepth 20000 in
theorem ggX4_allows_X7_isWithin : GoodIn wsX4_allows wsX7_isWithin := goodIn_r _ [7] (by decide +kernel) (by decide +kernel)
set_option maxRecDepth 20000 in
theorem gX4_allows_X7_isWithin_n16 : GoodIn wsX4_allows (wsX7_isWithin) := ggX4_allows_X7_isWithin
theorem dX4_allows_0 : decode cX4_allows 0 = .ok (.iload_n 1, 1) := by decide +kernel
theorem dX4_allows_1 : decode cX4_allows 1 = .ok (.getstatic 22, 3) := by decide +kernel
theorem dX4_allows_4 : decode cX4_allows 4 = .ok (.iload_n 0, 1) := by decide +kernel
theorem dX4_allows_5 : decode cX4_allows 5 = .ok (.invokestatic 25, 3) := by decide +kernel
theorem dX4_allows_8 : decode cX4_allows 8 = .ok (.getstatic 29, 3) := by decide +kernel
theorem dX4_allows_11 : decode cX4_allows 11 = .ok (.iload_n 0, 1) := by decide +kernel
theorem dX4_allows_12 : decode cX4_allows 12 = .ok (.invokestatic 25, 3) := by decide +kernel
theorem dX4_allows_15 : decode cX4_allows 15 = .ok (.invokestatic 16, 3) := by decide +kernel
theorem dX4_allows_18 : decode cX4_allows 18 = .ok (.ireturn, 1) := by decide +kernel
set_option maxRecDepth 20000 in
theorem ggX4_valueOf_X7_elementAt : GoodIn wsX4_valueOf wsX7_elementAt := goodIn_r _ [4] (by decide +kernel) (by decide +kernel)
set_option maxRecDepth 20000 in
theorem gX4_valueOf_X7_elementAt_n25 : GoodIn wsX4_valueOf (wsX7_elementAt) := ggX4_valueOf_X7_elementAt
theorem dX4_valueOf_0 : decode cX4_valueOf 0 = .ok (.aload_n 0, 1) := by decide +kernel
theorem dX4_valueOf_1 : decode cX4_valueOf 1 = .ok (.getfield 13, 3) := by decide +kernel
theorem dX4_valueOf_4 : decode cX4_valueOf 4 = .ok (.iload_n 1, 1) := by decide +kernel
theorem dX4_valueOf_5 : decode cX4_valueOf 5 = .ok (.invokestatic 25, 3) := by decide +kernel
theorem dX4_valueOf_8 : decode cX4_valueOf 8 = .ok (.ireturn, 1) := by decide +kernel
set_option maxRecDepth 20000 in
theorem ggX4_change_X4_isOne : GoodIn wsX4_change wsX4_isOne := goodIn_r _ [5, 6, 7, 8, 9] (by decide +kernel) (by decide +kernel)
set_option maxRecDepth 20000 in
theorem gX4_change_X4_isOne : GoodIn wsX4_change (va_wsS RX4 32 yX4_isOne wsX4_isOne) := goodIn_app (goodIn_of _ (by decide +kernel)) ggX4_change_X4_isOne
theorem dX4_change_0 : decode cX4_change 0 = .ok (.iload_n 1, 1) := by decide +kernel
theorem dX4_change_1 : decode cX4_change 1 = .ok (.invokestatic 32, 3) := by decide +kernel
theorem dX4_change_4 : decode cX4_change 4 = .ok (.ifCond .eq 10, 3) := by decide +kernel
theorem dX4_change_7 : decode cX4_change 7 = .ok (.aload_n 0, 1) := by decide +kernel
theorem dX4_change_8 : decode cX4_change 8 = .ok (.getfield 13, 3) := by decide +kernel
theorem dX4_change_11 : decode cX4_change 11 = .ok (.iload_n 1, 1) := by decide +kernel
theorem dX4_change_12 : decode cX4_change 12 = .ok (.iload_n 2, 1) := by decide +kernel
theorem dX4_change_13 : decode cX4_change 13 = .ok (.iastore, 1) := by decide +kernel
theorem dX4_change_14 : decode cX4_change 14 = .ok (.return_, 1) := by decide +kernel
set_option maxRecDepth 20000 in
theorem ggX4_copyFrom_X7_copyRow : GoodIn wsX4_copyFrom wsX7_copyRow := goodIn_r _ [4, 5, 6, 7, 8, 9, 10, 11, 12] (by decide +kernel) (by decide +kernel)
set_option maxRecDepth 20000 in
theorem gX4_copyFrom_X7_copyRow_n36 : GoodIn wsX4_copyFrom (wsX7_copyRow) := ggX4_copyFrom_X7_copyRow
theorem dX4_copyFrom_0 : decode cX4_copyFrom 0 = .ok (.aload_n 1, 1) := by decide +kernel
theorem dX4_copyFrom_1 : decode cX4_copyFrom 1 = .ok (.getfield 13, 3) := by decide +kernel
theorem dX4_copyFrom_4 : decode cX4_copyFrom 4 = .ok (.aload_n 0, 1) := by decide +kernel
theorem dX4_copyFrom_5 : decode cX4_copyFrom 5 = .ok (.getfield 13, 3) := by decide +kernel
theorem dX4_copyFrom_8 : decode cX4_copyFrom 8 = .ok (.invokestatic 36, 3) := by decide +kernel
theorem dX4_copyFrom_11 : decode cX4_copyFrom 11 = .ok (.return_, 1) := by decide +kernel
set_option maxRecDepth 20000 in
theorem ggX5_init_X4_init : GoodIn wsX5_init wsX4_init := goodIn_r _ [23, 24, 2, 3, 25, 26, 27, 49] (by decide +kernel) (by decide +kernel)
set_option maxRecDepth 20000 in
theorem gX5_init_X4_init : GoodIn wsX5_init (wsX4_init) := ggX5_init_X4_init
set_option maxRecDepth 20000 in
theorem ggX5_init_X0_init : GoodIn wsX5_init wsX0_init := goodIn_r _ [30, 31, 2, 3, 32, 58, 59, 60, 61, 62, 63, 64, 65, 66, 67] (by decide +kernel) (by decide +kernel)
set_option maxRecDepth 20000 in
theorem gX5_init_X0_init : GoodIn wsX5_init (wsX0_init) := ggX5_init_X0_init
set_option maxRecDepth 20000 in
theorem ggX5_init_X3_init : GoodIn wsX5_init wsX3_init := goodIn_r _ [35, 36, 2, 3, 26, 37, 38, 39, 68, 69, 70] (by decide +kernel) (by decide +kernel)
set_option maxRecDepth 20000 in
theorem gX5_init_X3_init : GoodIn wsX5_init (wsX3_init) := ggX5_init_X3_init
set_option maxRecDepth 20000 in
theorem ggX5_init_X2_init : GoodIn wsX5_init wsX2_init := goodIn_r _ [42, 43, 2, 3, 26, 44, 45, 46, 47, 48, 71, 72, 73, 74, 75] (by decide +kernel) (by decide +kernel)
set_option maxRecDepth 20000 in
theorem gX5_init_X2_init : GoodIn wsX5_init (wsX2_init) := ggX5_init_X2_init
theorem dX5_init_0 : decode cX5_init 0 = .ok (.aload_n 0, 1) := by decide +kernel
theorem dX5_init_1 : decode cX5_init 1 = .ok (.invokespecial 1, 3) := by decide +kernel
theorem dX5_init_4 : decode cX5_init 4 = .ok (.aload_n 0, 1) := by decide +kernel
theorem dX5_init_5 : decode cX5_init 5 = .ok (.new 7, 3) := by decide +kernel
theorem dX5_init_8 : decode cX5_init 8 = .ok (.dup, 1) := by decide +kernel
theorem dX5_init_9 : decode cX5_init 9 = .ok (.invokespecial 9, 3) := by decide +kernel
theorem dX5_init_12 : decode cX5_init 12 = .ok (.putfield 10, 3) := by decide +kernel
theorem dX5_init_15 : decode cX5_init 15 = .ok (.aload_n 0, 1) := by decide +kernel
theorem dX5_init_16 : decode cX5_init 16 = .ok (.getstatic 16, 3) := by decide +kernel
theorem dX5_init_19 : decode cX5_init 19 = .ok (.arraylength, 1) := by decide +kernel
theorem dX5_init_20 : decode cX5_init 20 = .ok (.anewarray 20, 3) := by decide +kernel
theorem dX5_init_23 : decode cX5_init 23 = .ok (.putfield 22, 3) := by decide +kernel
theorem dX5_init_26 : decode cX5_init 26 = .ok (.iconst 0, 1) := by decide +kernel
theorem dX5_init_27 : decode cX5_init 27 = .ok (.istore_n 1, 1) := by decide +kernel
theorem dX5_init_28 : decode cX5_init 28 = .ok (.iload_n 1, 1) := by decide +kernel
theorem dX5_init_29 : decode cX5_init 29 = .ok (.getstatic 16, 3) := by decide +kernel
theorem dX5_init_32 : decode cX5_init 32 = .ok (.arraylength, 1) := by decide +kernel
theorem dX5_init_33 : decode cX5_init 33 = .ok (.if_icmp .ge 27, 3) := by decide +kernel
theorem dX5_init_36 : decode cX5_init 36 = .ok (.aload_n 0, 1) := by decide +kernel
theorem dX5_init_37 : decode cX5_init 37 = .ok (.getfield 22, 3) := by decide +kernel
theorem dX5_init_40 : decode cX5_init 40 = .ok (.iload_n 1, 1) := by decide +kernel
theorem dX5_init_41 : decode cX5_init 41 = .ok (.new 20, 3) := by decide +kernel
theorem dX5_init_44 : decode cX5_init 44 = .ok (.dup, 1) := by decide +kernel
theorem dX5_init_45 : decode cX5_init 45 = .ok (.getstatic 16, 3) := by decide +kernel
theorem dX5_init_48 : decode cX5_init 48 = .ok (.iload_n 1, 1) := by decide +kernel
theorem dX5_init_49 : decode cX5_init 49 = .ok (.iaload, 1) := by decide +kernel
theorem dX5_init_50 : decode cX5_init 50 = .ok (.invokespecial 26, 3) := by decide +kernel
theorem dX5_init_53 : decode cX5_init 53 = .ok (.aastore, 1) := by decide +kernel
theorem dX5_init_54 : decode cX5_init 54 = .ok (.iinc 1 1, 3) := by decide +kernel
theorem dX5_init_57 : decode cX5_init 57 = .ok (.goto (-29), 3) := by decide +kernel
theorem dX5_init_60 : decode cX5_init 60 = .ok (.aload_n 0, 1) := by decide +kernel
theorem dX5_init_61 : decode cX5_init 61 = .ok (.new 29, 3) := by decide +kernel
theorem dX5_init_64 : decode cX5_init 64 = .ok (.dup, 1) := by decide +kernel
theorem dX5_init_65 : decode cX5_init 65 = .ok (.invokespecial 31, 3) := by decide +kernel
theorem dX5_init_68 : decode cX5_init 68 = .ok (.putfield 32, 3) := by decide +kernel
theorem dX5_init_71 : decode cX5_init 71 = .ok (.aload_n 0, 1) := by decide +kernel
theorem dX5_init_72 : decode cX5_init 72 = .ok (.new 36, 3) := by decide +kernel
theorem dX5_init_75 : decode cX5_init 75 = .ok (.dup, 1) := by decide +kernel
theorem dX5_init_76 : decode cX5_init 76 = .ok (.invokespecial 38, 3) := by decide +kernel
theorem dX5_init_79 : decode cX5_init 79 = .ok (.putfield 39, 3) := by decide +kernel
theorem dX5_init_82 : decode cX5_init 82 = .ok (.return_, 1) := by decide +kernel
set_option maxRecDepth 20000 in
theorem ggX5_copyFrom_X4_copyFrom : GoodIn wsX5_copyFrom wsX4_copyFrom := goodIn_r _ [13, 14, 15, 16, 17, 18, 19, 20, 21, 22, 23, 24, 25, 67] (by decide +kernel) (by decide +kernel)
set_option maxRecDepth 20000 in
theorem gX5_copyFrom_X4_copyFrom : GoodIn wsX5_copyFrom (wsV RX5 43 RX4 yX4_copyFrom wsX4_copyFrom) := goodIn_app (goodIn_of _ (by decide +kernel)) ggX5_copyFrom_X4_copyFrom
set_option maxRecDepth 20000 in
theorem ggX5_copyFrom_X0_copyFrom : GoodIn wsX5_copyFrom wsX0_copyFrom := goodIn_r _ [30, 31, 32, 33, 34, 35, 36, 37, 38, 39, 40, 68, 69, 70, 71, 72, 73, 74, 75, 76, 77] (by decide +kernel) (by decide +kernel)
set_option maxRecDepth 20000 in
theorem gX5_copyFrom_X0_copyFrom : GoodIn wsX5_copyFrom (wsV RX5 47 RX0 yX0_copyFrom wsX0_copyFrom) := goodIn_app (goodIn_of _ (by decide +kernel)) ggX5_copyFrom_X0_copyFrom
set_option maxRecDepth 20000 in
theorem ggX5_copyFrom_X3_copyFrom : GoodIn wsX5_copyFrom wsX3_copyFrom := goodIn_r _ [45, 46, 47, 48, 15, 16, 17, 18, 19, 20, 21, 22, 23, 24, 25, 78, 79, 80] (by decide +kernel) (by decide +kernel)
set_option maxRecDepth 20000 in
theorem gX5_copyFrom_X3_copyFrom : GoodIn wsX5_copyFrom (wsV RX5 50 RX3 yX3_copyFrom wsX3_copyFrom) := goodIn_app (goodIn_of _ (by decide +kernel)) ggX5_copyFrom_X3_copyFrom
set_option maxRecDepth 20000 in
theorem ggX5_copyFrom_X2_copyFrom : GoodIn wsX5_copyFrom wsX2_copyFrom := goodIn_r _ [53, 54, 55, 56, 57, 58, 15, 16, 17, 18, 19, 20, 21, 22, 23, 24, 25, 81, 82, 83, 84, 85] (by decide +kernel) (by decide +kernel)
set_option maxRecDepth 20000 in
theorem gX5_copyFrom_X2_copyFrom : GoodIn wsX5_copyFrom (wsV RX5 53 RX2 yX2_copyFrom wsX2_copyFrom) := goodIn_app (goodIn_of _ (by decide +kernel)) ggX5_copyFrom_X2_copyFrom
theorem dX5_copyFrom_0 : decode cX5_copyFrom 0 = .ok (.aload_n 0, 1) := by decide +kernel
theorem dX5_copyFrom_1 : decode cX5_copyFrom 1 = .ok (.getfield 10, 3) := by decide +kernel
theorem dX5_copyFrom_4 : decode cX5_copyFrom 4 = .ok (.aload_n 1, 1) := by decide +kernel
theorem dX5_copyFrom_5 : decode cX5_copyFrom 5 = .ok (.getfield 10, 3) := by decide +kernel
theorem dX5_copyFrom_8 : decode cX5_copyFrom 8 = .ok (.invokevirtual 43, 3) := by decide +kernel
theorem dX5_copyFrom_11 : decode cX5_copyFrom 11 = .ok (.iconst 0, 1) := by decide +kernel
theorem dX5_copyFrom_12 : decode cX5_copyFrom 12 = .ok (.istore_n 2, 1) := by decide +kernel
theorem dX5_copyFrom_13 : decode cX5_copyFrom 13 = .ok (.iload_n 2, 1) := by decide +kernel
theorem dX5_copyFrom_14 : decode cX5_copyFrom 14 = .ok (.aload_n 0, 1) := by decide +kernel
theorem dX5_copyFrom_15 : decode cX5_copyFrom 15 = .ok (.getfield 22, 3) := by decide +kernel
theorem dX5_copyFrom_18 : decode cX5_copyFrom 18 = .ok (.arraylength, 1) := by decide +kernel
theorem dX5_copyFrom_19 : decode cX5_copyFrom 19 = .ok (.if_icmp .ge 33, 3) := by decide +kernel
theorem dX5_copyFrom_22 : decode cX5_copyFrom 22 = .ok (.iload_n 2, 1) := by decide +kernel
theorem dX5_copyFrom_23 : decode cX5_copyFrom 23 = .ok (.aload_n 1, 1) := by decide +kernel
theorem dX5_copyFrom_24 : decode cX5_copyFrom 24 = .ok (.getfield 22, 3) := by decide +kernel
theorem dX5_copyFrom_27 : decode cX5_copyFrom 27 = .ok (.arraylength, 1) := by decide +kernel
theorem dX5_copyFrom_28 : decode cX5_copyFrom 28 = .ok (.if_icmp .ge 24, 3) := by decide +kernel
theorem dX5_copyFrom_31 : decode cX5_copyFrom 31 = .ok (.aload_n 0, 1) := by decide +kernel
theorem dX5_copyFrom_32 : decode cX5_copyFrom 32 = .ok (.getfield 22, 3) := by decide +kernel
theorem dX5_copyFrom_35 : decode cX5_copyFrom 35 = .ok (.iload_n 2, 1) := by decide +kernel
theorem dX5_copyFrom_36 : decode cX5_copyFrom 36 = .ok (.aaload, 1) := by decide +kernel
theorem dX5_copyFrom_37 : decode cX5_copyFrom 37 = .ok (.aload_n 1, 1) := by decide +kernel
theorem dX5_copyFrom_38 : decode cX5_copyFrom 38 = .ok (.getfield 22, 3) := by decide +kernel
theorem dX5_copyFrom_41 : decode cX5_copyFrom 41 = .ok (.iload_n 2, 1) := by decide +kernel
theorem dX5_copyFrom_42 : decode cX5_copyFrom 42 = .ok (.aaload, 1) := by decide +kernel
theorem dX5_copyFrom_43 : decode cX5_copyFrom 43 = .ok (.invokevirtual 47, 3) := by decide +kernel
theorem dX5_copyFrom_46 : decode cX5_copyFrom 46 = .ok (.iinc 2 1, 3) := by decide +kernel
theorem dX5_copyFrom_49 : decode cX5_copyFrom 49 = .ok (.goto (-36), 3) := by decide +kernel
theorem dX5_copyFrom_52 : decode cX5_copyFrom 52 = .ok (.aload_n 0, 1) := by decide +kernel
theorem dX5_copyFrom_53 : decode cX5_copyFrom 53 = .ok (.getfield 32, 3) := by decide +kernel
theorem dX5_copyFrom_56 : decode cX5_copyFrom 56 = .ok (.aload_n 1, 1) := by decide +kernel
theorem dX5_copyFrom_57 : decode cX5_copyFrom 57 = .ok (.getfield 32, 3) := by decide +kernel
theorem dX5_copyFrom_60 : decode cX5_copyFrom 60 = .ok (.invokevirtual 50, 3) := by decide +kernel
theorem dX5_copyFrom_63 : decode cX5_copyFrom 63 = .ok (.aload_n 0, 1) := by decide +kernel
theorem dX5_copyFrom_64 : decode cX5_copyFrom 64 = .ok (.getfield 39, 3) := by decide +kernel
theorem dX5_copyFrom_67 : decode cX5_copyFrom 67 = .ok (.aload_n 1, 1) := by decide +kernel
theorem dX5_copyFrom_68 : decode cX5_copyFrom 68 = .ok (.getfield 39, 3) := by decide +kernel
theorem dX5_copyFrom_71 : decode cX5_copyFrom 71 = .ok (.invokevirtual 53, 3) := by decide +kernel
theorem dX5_copyFrom_74 : decode cX5_copyFrom 74 = .ok (.aload_n 0, 1) := by decide +kernel
theorem dX5_copyFrom_75 : decode cX5_copyFrom 75 = .ok (.aload_n 1, 1) := by decide +kernel
theorem dX5_copyFrom_76 : decode cX5_copyFrom 76 = .ok (.getfield 56, 3) := by decide +kernel
theorem dX5_copyFrom_79 : decode cX5_copyFrom 79 = .ok (.putfield 56, 3) := by decide +kernel
theorem dX5_copyFrom_82 : decode cX5_copyFrom 82 = .ok (.aload_n 0, 1) := by decide +kernel
theorem dX5_copyFrom_83 : decode cX5_copyFrom 83 = .ok (.aload_n 1, 1) := by decide +kernel
theorem dX5_copyFrom_84 : decode cX5_copyFrom 84 = .ok (.getfield 60, 3) := by decide +kernel
theorem dX5_copyFrom_87 : decode cX5_copyFrom 87 = .ok (.putfield 60, 3) := by decide +kernel
theorem dX5_copyFrom_90 : decode cX5_copyFrom 90 = .ok (.aload_n 0, 1) := by decide +kernel
theorem dX5_copyFrom_91 : decode cX5_copyFrom 91 = .ok (.aload_n 1, 1) := by decide +kernel
theorem dX5_copyFrom_92 : decode cX5_copyFrom 92 = .ok (.getfield 63, 3) := by decide +kernel
theorem dX5_copyFrom_95 : decode cX5_copyFrom 95 = .ok (.putfield 63, 3) := by decide +kernel
theorem dX5_copyFrom_98 : decode cX5_copyFrom 98 = .ok (.aload_n 0, 1) := by decide +kernel
theorem dX5_copyFrom_99 : decode cX5_copyFrom 99 = .ok (.aload_n 1, 1) := by decide +kernel
theorem dX5_copyFrom_100 : decode cX5_copyFrom 100 = .ok (.getfield 66, 3) := by decide +kernel
theorem dX5_copyFrom_103 : decode cX5_copyFrom 103 = .ok (.putfield 66, 3) := by decide +kernel
theorem dX5_copyFrom_106 : decode cX5_copyFrom 106 = .ok (.return_, 1) := by decide +kernel
theorem dX5_find_0 : decode cX5_find 0 = .ok (.iload_n 1, 1) := by decide +kernel
theorem dX5_find_1 : decode cX5_find 1 = .ok (.ifCond .lt 21, 3) := by decide +kernel
theorem dX5_find_4 : decode cX5_find 4 = .ok (.iload_n 1, 1) := by decide +kernel
theorem dX5_find_5 : decode cX5_find 5 = .ok (.aload_n 0, 1) := by decide +kernel
theorem dX5_find_6 : decode cX5_find 6 = .ok (.getfield 22, 3) := by decide +kernel
theorem dX5_find_9 : decode cX5_find 9 = .ok (.arraylength, 1) := by decide +kernel
theorem dX5_find_10 : decode cX5_find 10 = .ok (.if_icmp .ge 12, 3) := by decide +kernel
theorem dX5_find_13 : decode cX5_find 13 = .ok (.aload_n 0, 1) := by decide +kernel
theorem dX5_find_14 : decode cX5_find 14 = .ok (.getfield 22, 3) := by decide +kernel
theorem dX5_find_17 : decode cX5_find 17 = .ok (.iload_n 1, 1) := by decide +kernel
theorem dX5_find_18 : decode cX5_find 18 = .ok (.aaload, 1) := by decide +kernel
theorem dX5_find_19 : decode cX5_find 19 = .ok (.goto 4, 3) := by decide +kernel
theorem dX5_find_22 : decode cX5_find 22 = .ok (.aconst_null, 1) := by decide +kernel
theorem dX5_find_23 : decode cX5_find 23 = .ok (.areturn, 1) := by decide +kernel
set_option maxRecDepth 20000 in
theorem ggX5_isOpen_X4_valueOf : GoodIn wsX5_isOpen wsX4_valueOf := goodIn_r _ [6, 7, 8, 9, 10, 28] (by decide +kernel) (by decide +kernel)
set_option maxRecDepth 20000 in
theorem gX5_isOpen_X4_valueOf : GoodIn wsX5_isOpen (wsV RX5 69 RX4 yX4_valueOf wsX4_valueOf) := goodIn_app (goodIn_of _ (by decide +kernel)) ggX5_isOpen_X4_valueOf
set_option maxRecDepth 20000 in
theorem ggX5_isOpen_X0_isOpen : GoodIn wsX5_isOpen wsX0_isOpen := goodIn_r _ [15, 16, 17, 18, 19, 29, 30, 31, 32, 33, 34, 35, 36, 37, 38] (by decide +kernel) (by decide +kernel)
set_option maxRecDepth 20000 in
theorem gX5_isOpen_X0_isOpen : GoodIn wsX5_isOpen (wsV RX5 73 RX0 yX0_isOpen wsX0_isOpen) := goodIn_app (goodIn_of _ (by decide +kernel)) ggX5_isOpen_X0_isOpen
theorem dX5_isOpen_0 : decode cX5_isOpen 0 = .ok (.aload_n 1, 1) := by decide +kernel
theorem dX5_isOpen_1 : decode cX5_isOpen 1 = .ok (.aload_n 0, 1) := by decide +kernel
theorem dX5_isOpen_2 : decode cX5_isOpen 2 = .ok (.getfield 10, 3) := by decide +kernel
theorem dX5_isOpen_5 : decode cX5_isOpen 5 = .ok (.iconst 0, 1) := by decide +kernel
theorem dX5_isOpen_6 : decode cX5_isOpen 6 = .ok (.invokevirtual 69, 3) := by decide +kernel
theorem dX5_isOpen_9 : decode cX5_isOpen 9 = .ok (.invokevirtual 73, 3) := by decide +kernel
theorem dX5_isOpen_12 : decode cX5_isOpen 12 = .ok (.ireturn, 1) := by decide +kernel
set_option maxRecDepth 20000 in
theorem ggX5_allowsFire_X4_valueOf : GoodIn wsX5_allowsFire wsX4_valueOf := goodIn_r _ [7, 8, 9, 10, 11, 20] (by decide +kernel) (by decide +kernel)
set_option maxRecDepth 20000 in
theorem gX5_allowsFire_X4_valueOf : GoodIn wsX5_allowsFire (wsV RX5 69 RX4 yX4_valueOf wsX4_valueOf) := goodIn_app (goodIn_of _ (by decide +kernel)) ggX5_allowsFire_X4_valueOf
theorem dX5_allowsFire_0 : decode cX5_allowsFire 0 = .ok (.aload_n 0, 1) := by decide +kernel
theorem dX5_allowsFire_1 : decode cX5_allowsFire 1 = .ok (.getfield 60, 3) := by decide +kernel
theorem dX5_allowsFire_4 : decode cX5_allowsFire 4 = .ok (.aload_n 0, 1) := by decide +kernel
theorem dX5_allowsFire_5 : decode cX5_allowsFire 5 = .ok (.getfield 10, 3) := by decide +kernel
theorem dX5_allowsFire_8 : decode cX5_allowsFire 8 = .ok (.iconst 3, 1) := by decide +kernel
theorem dX5_allowsFire_9 : decode cX5_allowsFire 9 = .ok (.invokevirtual 69, 3) := by decide +kernel
theorem dX5_allowsFire_12 : decode cX5_allowsFire 12 = .ok (.if_icmp .ge 7, 3) := by decide +kernel
theorem dX5_allowsFire_15 : decode cX5_allowsFire 15 = .ok (.iconst 1, 1) := by decide +kernel
theorem dX5_allowsFire_16 : decode cX5_allowsFire 16 = .ok (.goto 4, 3) := by decide +kernel
theorem dX5_allowsFire_19 : decode cX5_allowsFire 19 = .ok (.iconst 0, 1) := by decide +kernel
theorem dX5_allowsFire_20 : decode cX5_allowsFire 20 = .ok (.ireturn, 1) := by decide +kernel
set_option maxRecDepth 20000 in
theorem ggX5_draft_X3_draftIn : GoodIn wsX5_draft wsX3_draftIn := goodIn_r _ [7, 8, 9, 10, 19, 20, 21] (by decide +kernel) (by decide +kernel)
set_option maxRecDepth 20000 in
theorem gX5_draft_X3_draftIn : GoodIn wsX5_draft (wsV RX5 77 RX3 yX3_draftIn wsX3_draftIn) := goodIn_app (goodIn_of _ (by decide +kernel)) ggX5_draft_X3_draftIn
theorem dX5_draft_0 : decode cX5_draft 0 = .ok (.aload_n 0, 1) := by decide +kernel
theorem dX5_draft_1 : decode cX5_draft 1 = .ok (.getfield 32, 3) := by decide +kernel
theorem dX5_draft_4 : decode cX5_draft 4 = .ok (.aload_n 0, 1) := by decide +kernel
theorem dX5_draft_5 : decode cX5_draft 5 = .ok (.getfield 56, 3) := by decide +kernel
theorem dX5_draft_8 : decode cX5_draft 8 = .ok (.invokevirtual 77, 3) := by decide +kernel
theorem dX5_draft_11 : decode cX5_draft 11 = .ok (.ireturn, 1) := by decide +kernel
set_option maxRecDepth 20000 in
theorem ggX5_kindle_X2_note : GoodIn wsX5_kindle wsX2_note := goodIn_r _ [9, 10, 11, 12, 13, 14, 15, 16, 17, 18, 19, 20, 8, 21, 22, 23, 24, 25, 26, 27, 28, 47, 48, 49, 50, 51] (by decide +kernel) (by decide +kernel)
set_option maxRecDepth 20000 in
theorem gX5_kindle_X2_note : GoodIn wsX5_kindle (wsV RX5 87 RX2 yX2_note wsX2_note) := goodIn_app (goodIn_of _ (by decide +kernel)) ggX5_kindle_X2_note
theorem dX5_kindle_0 : decode cX5_kindle 0 = .ok (.aload_n 2, 1) := by decide +kernel
theorem dX5_kindle_1 : decode cX5_kindle 1 = .ok (.iconst 1, 1) := by decide +kernel
theorem dX5_kindle_2 : decode cX5_kindle 2 = .ok (.putfield 80, 3) := by decide +kernel
theorem dX5_kindle_5 : decode cX5_kindle 5 = .ok (.aload_n 2, 1) := by decide +kernel
theorem dX5_kindle_6 : decode cX5_kindle 6 = .ok (.iconst 0, 1) := by decide +kernel
theorem dX5_kindle_7 : decode cX5_kindle 7 = .ok (.putfield 84, 3) := by decide +kernel
theorem dX5_kindle_10 : decode cX5_kindle 10 = .ok (.aload_n 0, 1) := by decide +kernel
theorem dX5_kindle_11 : decode cX5_kindle 11 = .ok (.getfield 39, 3) := by decide +kernel
theorem dX5_kindle_14 : decode cX5_kindle 14 = .ok (.iconst 0, 1) := by decide +kernel
theorem dX5_kindle_15 : decode cX5_kindle 15 = .ok (.iload_n 1, 1) := by decide +kernel
theorem dX5_kindle_16 : decode cX5_kindle 16 = .ok (.aload_n 0, 1) := by decide +kernel
theorem dX5_kindle_17 : decode cX5_kindle 17 = .ok (.getfield 56, 3) := by decide +kernel
theorem dX5_kindle_20 : decode cX5_kindle 20 = .ok (.invokevirtual 87, 3) := by decide +kernel
theorem dX5_kindle_23 : decode cX5_kindle 23 = .ok (.return_, 1) := by decide +kernel
set_option maxRecDepth 20000 in
theorem ggX5_passTick_X5_draft : GoodIn wsX5_passTick wsX5_draft := goodIn_r _ [14, 15, 9, 16, 17, 18, 19, 20, 21, 22, 23, 140, 141, 142, 143, 144, 145, 146, 147, 148, 149, 150] (by decide +kernel) (by decide +kernel)
set_option maxRecDepth 20000 in
theorem gX5_passTick_X5_draft : GoodIn wsX5_passTick (wsV RX5 91 RX5 yX5_draft wsX5_draft) := goodIn_app (goodIn_of _ (by decide +kernel)) ggX5_passTick_X5_draft
set_option maxRecDepth 20000 in
theorem ggX5_passTick_X5_allowsFire : GoodIn wsX5_passTick wsX5_allowsFire := goodIn_r _ [27, 3, 8, 28, 29, 30, 31, 32, 33, 34, 35, 36, 140, 141, 142, 143, 144, 145, 146, 147, 151] (by decide +kernel) (by decide +kernel)
set_option maxRecDepth 20000 in
theorem gX5_passTick_X5_allowsFire : GoodIn wsX5_passTick (wsV RX5 95 RX5 yX5_allowsFire wsX5_allowsFire) := goodIn_app (goodIn_of _ (by decide +kernel)) ggX5_passTick_X5_allowsFire
set_option maxRecDepth 20000 in
theorem ggX5_passTick_X5_blow : GoodIn wsX5_passTick wsX5_blow := goodIn_r _ [40, 41, 42, 9, 43, 44, 45, 13, 46, 8, 28, 29, 30, 31, 32, 33, 34, 35, 36, 47, 48, 49, 50, 51, 52, 53, 54, 55, 56, 57, 58, 59, 60, 61, 62, 63, 64, 65, 66, 67, 68, 69, 70, 71, 72, 73, 74, 75, 76, 6, 77, 78, 79, 80, 81, 82, 83, 84, 85, 86, 87, 152, 153, 154, 155, 156, 157, 158, 159, 160, 161, 140, 141, 142, 143, 144, 145, 146, 147, 151, 162, 163, 164, 165, 166] (by decide +kernel) (by decide +kernel)
set_option maxRecDepth 20000 in
theorem gX5_passTick_X5_blow : GoodIn wsX5_passTick (wsV RX5 99 RX5 yX5_blow wsX5_blow) := goodIn_app (goodIn_of _ (by decide +kernel)) ggX5_passTick_X5_blow
set_option maxRecDepth 20000 in
theorem ggX5_passTick_X5_spark : GoodIn wsX5_passTick wsX5_spark := goodIn_r _ [91, 41, 92, 93, 8, 94, 42, 9, 43, 44, 45, 13, 46, 28, 29, 30, 31, 32, 33, 34, 35, 36, 47, 48, 49, 50, 51, 52, 53, 54, 55, 56, 57, 58, 59, 60, 61, 62, 63, 64, 65, 95, 96, 97, 98, 66, 67, 68, 69, 70, 71, 72, 73, 74, 75, 76, 6, 77, 78, 79, 80, 81, 82, 83, 84, 85, 86, 87, 152, 153, 154, 155, 156, 157, 158, 159, 160, 161, 140, 141, 142, 143, 144, 145, 146, 147, 151, 162, 163, 164, 165, 166] (by decide +kernel) (by decide +kernel)
set_option maxRecDepth 20000 in
theorem gX5_passTick_X5_spark : GoodIn wsX5_passTick (wsV RX5 103 RX5 yX5_spark wsX5_spark) := goodIn_app (goodIn_of _ (by decide +kernel)) ggX5_passTick_X5_spark
set_option maxRecDepth 20000 in
theorem ggX5_passTick_X5_warmOrDrop : GoodIn wsX5_passTick wsX5_warmOrDrop := goodIn_r _ [102, 41, 42, 9, 43, 44, 45, 13, 46, 8, 28, 29, 30, 31, 32, 33, 34, 35, 36, 47, 48, 49, 50, 51, 52, 53, 54, 55, 103, 104, 105, 106, 107, 108, 109, 110, 111, 112, 61, 62, 63, 64, 65, 113, 114, 115, 116, 117, 118, 76, 6, 77, 119, 120, 5, 7, 121, 122, 123, 66, 67, 68, 69, 70, 71, 72, 73, 74, 75, 78, 79, 80, 81, 82, 83, 84, 85, 86, 87, 152, 153, 154, 155, 156, 157, 158, 159, 160, 161, 140, 141, 142, 143, 144, 145, 146, 147, 151, 162, 163, 164, 165, 166] (by decide +kernel) (by decide +kernel)
set_option maxRecDepth 20000 in
theorem gX5_passTick_X5_warmOrDrop : GoodIn wsX5_passTick (wsV RX5 106 RX5 yX5_warmOrDrop wsX5_warmOrDrop) := goodIn_app (goodIn_of _ (by decide +kernel)) ggX5_passTick_X5_warmOrDrop
set_option maxRecDepth 20000 in
theorem ggX5_passTick_X5_flow : GoodIn wsX5_passTick wsX5_flow := goodIn_r _ [127, 128, 3, 129, 130, 4, 5, 6, 7, 131, 132, 133, 13, 134, 41, 43, 44, 45, 46, 8, 28, 29, 30, 31, 32, 33, 34, 35, 36, 47, 48, 49, 50, 51, 52, 53, 54, 55, 135, 136, 137, 138, 139, 61, 62, 63, 64, 65, 152, 153, 154, 155, 156, 157, 158, 159, 160, 161, 140, 141, 142, 143, 144, 145, 146, 147, 151] (by decide +kernel) (by decide +kernel)
set_option maxRecDepth 20000 in
theorem gX5_passTick_X5_flow : GoodIn wsX5_passTick (wsV RX5 110 RX5 yX5_flow wsX5_flow) := goodIn_app (goodIn_of _ (by decide +kernel)) ggX5_passTick_X5_flow
set_option maxRecDepth 20000 in
theorem ggX5_passTick_X4_valueOf : GoodIn wsX5_passTick wsX4_valueOf := goodIn_r _ [32, 33, 34, 35, 36, 151] (by decide +kernel) (by decide +kernel)
set_option maxRecDepth 20000 in
theorem gX5_passTick_X4_valueOf : GoodIn wsX5_passTick (wsV RX5 69 RX4 yX4_valueOf wsX4_valueOf) := goodIn_app (goodIn_of _ (by decide +kernel)) ggX5_passTick_X4_valueOf
theorem dX5_passTick_0 : decode cX5_passTick 0 = .ok (.aload_n 0, 1) := by decide +kernel
theorem dX5_passTick_1 : decode cX5_passTick 1 = .ok (.invokevirtual 91, 3) := by decide +kernel
theorem dX5_passTick_4 : decode cX5_passTick 4 = .ok (.istore_n 1, 1) := by decide +kernel
theorem dX5_passTick_5 : decode cX5_passTick 5 = .ok (.aload_n 0, 1) := by decide +kernel
theorem dX5_passTick_6 : decode cX5_passTick 6 = .ok (.invokevirtual 95, 3) := by decide +kernel
theorem dX5_passTick_9 : decode cX5_passTick 9 = .ok (.istore_n 2, 1) := by decide +kernel
theorem dX5_passTick_10 : decode cX5_passTick 10 = .ok (.iconst 0, 1) := by decide +kernel
theorem dX5_passTick_11 : decode cX5_passTick 11 = .ok (.istore_n 3, 1) := by decide +kernel
theorem dX5_passTick_12 : decode cX5_passTick 12 = .ok (.iload_n 3, 1) := by decide +kernel
theorem dX5_passTick_13 : decode cX5_passTick 13 = .ok (.aload_n 0, 1) := by decide +kernel
theorem dX5_passTick_14 : decode cX5_passTick 14 = .ok (.getfield 22, 3) := by decide +kernel
theorem dX5_passTick_17 : decode cX5_passTick 17 = .ok (.arraylength, 1) := by decide +kernel
theorem dX5_passTick_18 : decode cX5_passTick 18 = .ok (.if_icmp .ge 50, 3) := by decide +kernel
theorem dX5_passTick_21 : decode cX5_passTick 21 = .ok (.aload_n 0, 1) := by decide +kernel
theorem dX5_passTick_22 : decode cX5_passTick 22 = .ok (.getfield 22, 3) := by decide +kernel
theorem dX5_passTick_25 : decode cX5_passTick 25 = .ok (.iload_n 3, 1) := by decide +kernel
theorem dX5_passTick_26 : decode cX5_passTick 26 = .ok (.aaload, 1) := by decide +kernel
theorem dX5_passTick_27 : decode cX5_passTick 27 = .ok (.astore 4, 2) := by decide +kernel
theorem dX5_passTick_29 : decode cX5_passTick 29 = .ok (.aload_n 0, 1) := by decide +kernel
theorem dX5_passTick_30 : decode cX5_passTick 30 = .ok (.iload_n 3, 1) := by decide +kernel
theorem dX5_passTick_31 : decode cX5_passTick 31 = .ok (.aload 4, 2) := by decide +kernel
theorem dX5_passTick_33 : decode cX5_passTick 33 = .ok (.iload_n 1, 1) := by decide +kernel
theorem dX5_passTick_34 : decode cX5_passTick 34 = .ok (.invokevirtual 99, 3) := by decide +kernel
theorem dX5_passTick_37 : decode cX5_passTick 37 = .ok (.iload_n 2, 1) := by decide +kernel
theorem dX5_passTick_38 : decode cX5_passTick 38 = .ok (.ifCond .eq 11, 3) := by decide +kernel
theorem dX5_passTick_41 : decode cX5_passTick 41 = .ok (.aload_n 0, 1) := by decide +kernel
theorem dX5_passTick_42 : decode cX5_passTick 42 = .ok (.iload_n 3, 1) := by decide +kernel
theorem dX5_passTick_43 : decode cX5_passTick 43 = .ok (.aload 4, 2) := by decide +kernel
theorem dX5_passTick_45 : decode cX5_passTick 45 = .ok (.iload_n 1, 1) := by decide +kernel
theorem dX5_passTick_46 : decode cX5_passTick 46 = .ok (.invokevirtual 103, 3) := by decide +kernel
theorem dX5_passTick_49 : decode cX5_passTick 49 = .ok (.aload_n 0, 1) := by decide +kernel
theorem dX5_passTick_50 : decode cX5_passTick 50 = .ok (.iload_n 3, 1) := by decide +kernel
theorem dX5_passTick_51 : decode cX5_passTick 51 = .ok (.aload 4, 2) := by decide +kernel
theorem dX5_passTick_53 : decode cX5_passTick 53 = .ok (.invokevirtual 106, 3) := by decide +kernel
theorem dX5_passTick_56 : decode cX5_passTick 56 = .ok (.aload_n 0, 1) := by decide +kernel
theorem dX5_passTick_57 : decode cX5_passTick 57 = .ok (.aload 4, 2) := by decide +kernel
theorem dX5_passTick_59 : decode cX5_passTick 59 = .ok (.invokevirtual 110, 3) := by decide +kernel
theorem dX5_passTick_62 : decode cX5_passTick 62 = .ok (.iinc 3 1, 3) := by decide +kernel
theorem dX5_passTick_65 : decode cX5_passTick 65 = .ok (.goto (-53), 3) := by decide +kernel
theorem dX5_passTick_68 : decode cX5_passTick 68 = .ok (.aload_n 0, 1) := by decide +kernel
theorem dX5_passTick_69 : decode cX5_passTick 69 = .ok (.aload_n 0, 1) := by decide +kernel
theorem dX5_passTick_70 : decode cX5_passTick 70 = .ok (.getfield 63, 3) := by decide +kernel
theorem dX5_passTick_73 : decode cX5_passTick 73 = .ok (.aload_n 0, 1) := by decide +kernel
theorem dX5_passTick_74 : decode cX5_passTick 74 = .ok (.getfield 60, 3) := by decide +kernel
theorem dX5_passTick_77 : decode cX5_passTick 77 = .ok (.invokestatic 113, 3) := by decide +kernel
theorem dX5_passTick_80 : decode cX5_passTick 80 = .ok (.putfield 63, 3) := by decide +kernel
theorem dX5_passTick_83 : decode cX5_passTick 83 = .ok (.aload_n 0, 1) := by decide +kernel
theorem dX5_passTick_84 : decode cX5_passTick 84 = .ok (.iconst 0, 1) := by decide +kernel
theorem dX5_passTick_85 : decode cX5_passTick 85 = .ok (.aload_n 0, 1) := by decide +kernel
theorem dX5_passTick_86 : decode cX5_passTick 86 = .ok (.getfield 60, 3) := by decide +kernel
theorem dX5_passTick_89 : decode cX5_passTick 89 = .ok (.aload_n 0, 1) := by decide +kernel
theorem dX5_passTick_90 : decode cX5_passTick 90 = .ok (.getfield 10, 3) := by decide +kernel
theorem dX5_passTick_93 : decode cX5_passTick 93 = .ok (.iconst 2, 1) := by decide +kernel
theorem dX5_passTick_94 : decode cX5_passTick 94 = .ok (.invokevirtual 69, 3) := by decide +kernel
theorem dX5_passTick_97 : decode cX5_passTick 97 = .ok (.isub, 1) := by decide +kernel
theorem dX5_passTick_98 : decode cX5_passTick 98 = .ok (.iload_n 1, 1) := by decide +kernel
theorem dX5_passTick_99 : decode cX5_passTick 99 = .ok (.isub, 1) := by decide +kernel
theorem dX5_passTick_100 : decode cX5_passTick 100 = .ok (.invokestatic 113, 3) := by decide +kernel
theorem dX5_passTick_103 : decode cX5_passTick 103 = .ok (.putfield 60, 3) := by decide +kernel
theorem dX5_passTick_106 : decode cX5_passTick 106 = .ok (.aload_n 0, 1) := by decide +kernel
theorem dX5_passTick_107 : decode cX5_passTick 107 = .ok (.dup, 1) := by decide +kernel
theorem dX5_passTick_108 : decode cX5_passTick 108 = .ok (.getfield 56, 3) := by decide +kernel
theorem dX5_passTick_111 : decode cX5_passTick 111 = .ok (.iconst 1, 1) := by decide +kernel
theorem dX5_passTick_112 : decode cX5_passTick 112 = .ok (.iadd, 1) := by decide +kernel
theorem dX5_passTick_113 : decode cX5_passTick 113 = .ok (.putfield 56, 3) := by decide +kernel
theorem dX5_passTick_116 : decode cX5_passTick 116 = .ok (.return_, 1) := by decide +kernel
set_option maxRecDepth 20000 in
theorem ggX5_isClear_X5_flowsUnburnt : GoodIn wsX5_isClear wsX5_flowsUnburnt := goodIn_r _ [7, 8, 9, 10, 11, 6, 12, 13, 14, 15, 16, 17, 18, 19, 20, 21, 22, 23, 24, 25, 26, 27, 28, 29, 30, 31, 40, 41, 42, 43, 44, 45, 46, 47, 48, 49, 32, 33, 34, 35, 36, 37, 38, 39, 50] (by decide +kernel) (by decide +kernel)
set_option maxRecDepth 20000 in
theorem gX5_isClear_X5_flowsUnburnt : GoodIn wsX5_isClear (wsV RX5 119 RX5 yX5_flowsUnburnt wsX5_flowsUnburnt) := goodIn_app (goodIn_of _ (by decide +kernel)) ggX5_isClear_X5_flowsUnburnt
theorem dX5_isClear_0 : decode cX5_isClear 0 = .ok (.aload_n 0, 1) := by decide +kernel
theorem dX5_isClear_1 : decode cX5_isClear 1 = .ok (.getfield 60, 3) := by decide +kernel
theorem dX5_isClear_4 : decode cX5_isClear 4 = .ok (.ifCond .le 5, 3) := by decide +kernel
theorem dX5_isClear_7 : decode cX5_isClear 7 = .ok (.iconst 0, 1) := by decide +kernel
theorem dX5_isClear_8 : decode cX5_isClear 8 = .ok (.ireturn, 1) := by decide +kernel
theorem dX5_isClear_9 : decode cX5_isClear 9 = .ok (.aload_n 0, 1) := by decide +kernel
theorem dX5_isClear_10 : decode cX5_isClear 10 = .ok (.getfield 22, 3) := by decide +kernel
theorem dX5_isClear_13 : decode cX5_isClear 13 = .ok (.astore_n 1, 1) := by decide +kernel
theorem dX5_isClear_14 : decode cX5_isClear 14 = .ok (.aload_n 1, 1) := by decide +kernel
theorem dX5_isClear_15 : decode cX5_isClear 15 = .ok (.arraylength, 1) := by decide +kernel
theorem dX5_isClear_16 : decode cX5_isClear 16 = .ok (.istore_n 2, 1) := by decide +kernel
theorem dX5_isClear_17 : decode cX5_isClear 17 = .ok (.iconst 0, 1) := by decide +kernel
theorem dX5_isClear_18 : decode cX5_isClear 18 = .ok (.istore_n 3, 1) := by decide +kernel
theorem dX5_isClear_19 : decode cX5_isClear 19 = .ok (.iload_n 3, 1) := by decide +kernel
theorem dX5_isClear_20 : decode cX5_isClear 20 = .ok (.iload_n 2, 1) := by decide +kernel
theorem dX5_isClear_21 : decode cX5_isClear 21 = .ok (.if_icmp .ge 25, 3) := by decide +kernel
theorem dX5_isClear_24 : decode cX5_isClear 24 = .ok (.aload_n 1, 1) := by decide +kernel
theorem dX5_isClear_25 : decode cX5_isClear 25 = .ok (.iload_n 3, 1) := by decide +kernel
theorem dX5_isClear_26 : decode cX5_isClear 26 = .ok (.aaload, 1) := by decide +kernel
theorem dX5_isClear_27 : decode cX5_isClear 27 = .ok (.astore 4, 2) := by decide +kernel
theorem dX5_isClear_29 : decode cX5_isClear 29 = .ok (.aload_n 0, 1) := by decide +kernel
theorem dX5_isClear_30 : decode cX5_isClear 30 = .ok (.aload 4, 2) := by decide +kernel
theorem dX5_isClear_32 : decode cX5_isClear 32 = .ok (.invokevirtual 119, 3) := by decide +kernel
theorem dX5_isClear_35 : decode cX5_isClear 35 = .ok (.ifCond .eq 5, 3) := by decide +kernel
theorem dX5_isClear_38 : decode cX5_isClear 38 = .ok (.iconst 0, 1) := by decide +kernel
theorem dX5_isClear_39 : decode cX5_isClear 39 = .ok (.ireturn, 1) := by decide +kernel
theorem dX5_isClear_40 : decode cX5_isClear 40 = .ok (.iinc 3 1, 3) := by decide +kernel
theorem dX5_isClear_43 : decode cX5_isClear 43 = .ok (.goto (-24), 3) := by decide +kernel
theorem dX5_isClear_46 : decode cX5_isClear 46 = .ok (.iconst 1, 1) := by decide +kernel
theorem dX5_isClear_47 : decode cX5_isClear 47 = .ok (.ireturn, 1) := by decide +kernel
set_option maxRecDepth 20000 in
theorem ggX5_ignitersOn_X7_oneIf : GoodIn wsX5_ignitersOn wsX7_oneIf := goodIn_r _ [5] (by decide +kernel) (by decide +kernel)
set_option maxRecDepth 20000 in
theorem gX5_ignitersOn_X7_oneIf_n126 : GoodIn wsX5_ignitersOn (wsX7_oneIf) := ggX5_ignitersOn_X7_oneIf
theorem dX5_ignitersOn_0 : decode cX5_ignitersOn 0 = .ok (.iconst 0, 1) := by decide +kernel
theorem dX5_ignitersOn_1 : decode cX5_ignitersOn 1 = .ok (.istore_n 1, 1) := by decide +kernel
theorem dX5_ignitersOn_2 : decode cX5_ignitersOn 2 = .ok (.aload_n 0, 1) := by decide +kernel
theorem dX5_ignitersOn_3 : decode cX5_ignitersOn 3 = .ok (.getfield 22, 3) := by decide +kernel
theorem dX5_ignitersOn_6 : decode cX5_ignitersOn 6 = .ok (.astore_n 2, 1) := by decide +kernel
theorem dX5_ignitersOn_7 : decode cX5_ignitersOn 7 = .ok (.aload_n 2, 1) := by decide +kernel
theorem dX5_ignitersOn_8 : decode cX5_ignitersOn 8 = .ok (.arraylength, 1) := by decide +kernel
theorem dX5_ignitersOn_9 : decode cX5_ignitersOn 9 = .ok (.istore_n 3, 1) := by decide +kernel
theorem dX5_ignitersOn_10 : decode cX5_ignitersOn 10 = .ok (.iconst 0, 1) := by decide +kernel
theorem dX5_ignitersOn_11 : decode cX5_ignitersOn 11 = .ok (.istore 4, 2) := by decide +kernel
theorem dX5_ignitersOn_13 : decode cX5_ignitersOn 13 = .ok (.iload 4, 2) := by decide +kernel
theorem dX5_ignitersOn_15 : decode cX5_ignitersOn 15 = .ok (.iload_n 3, 1) := by decide +kernel
theorem dX5_ignitersOn_16 : decode cX5_ignitersOn 16 = .ok (.if_icmp .ge 26, 3) := by decide +kernel
theorem dX5_ignitersOn_19 : decode cX5_ignitersOn 19 = .ok (.aload_n 2, 1) := by decide +kernel
theorem dX5_ignitersOn_20 : decode cX5_ignitersOn 20 = .ok (.iload 4, 2) := by decide +kernel
theorem dX5_ignitersOn_22 : decode cX5_ignitersOn 22 = .ok (.aaload, 1) := by decide +kernel
theorem dX5_ignitersOn_23 : decode cX5_ignitersOn 23 = .ok (.astore 5, 2) := by decide +kernel
theorem dX5_ignitersOn_25 : decode cX5_ignitersOn 25 = .ok (.iload_n 1, 1) := by decide +kernel
theorem dX5_ignitersOn_26 : decode cX5_ignitersOn 26 = .ok (.aload 5, 2) := by decide +kernel
theorem dX5_ignitersOn_28 : decode cX5_ignitersOn 28 = .ok (.getfield 123, 3) := by decide +kernel
theorem dX5_ignitersOn_31 : decode cX5_ignitersOn 31 = .ok (.invokestatic 126, 3) := by decide +kernel
theorem dX5_ignitersOn_34 : decode cX5_ignitersOn 34 = .ok (.iadd, 1) := by decide +kernel
theorem dX5_ignitersOn_35 : decode cX5_ignitersOn 35 = .ok (.istore_n 1, 1) := by decide +kernel
theorem dX5_ignitersOn_36 : decode cX5_ignitersOn 36 = .ok (.iinc 4 1, 3) := by decide +kernel
theorem dX5_ignitersOn_39 : decode cX5_ignitersOn 39 = .ok (.goto (-26), 3) := by decide +kernel
theorem dX5_ignitersOn_42 : decode cX5_ignitersOn 42 = .ok (.iload_n 1, 1) := by decide +kernel
theorem dX5_ignitersOn_43 : decode cX5_ignitersOn 43 = .ok (.ireturn, 1) := by decide +kernel
set_option maxRecDepth 20000 in
theorem ggX5_flames_X7_oneIf : GoodIn wsX5_flames wsX7_oneIf := goodIn_r _ [5] (by decide +kernel) (by decide +kernel)
set_option maxRecDepth 20000 in
theorem gX5_flames_X7_oneIf_n126 : GoodIn wsX5_flames (wsX7_oneIf) := ggX5_flames_X7_oneIf
theorem dX5_flames_0 : decode cX5_flames 0 = .ok (.iconst 0, 1) := by decide +kernel
theorem dX5_flames_1 : decode cX5_flames 1 = .ok (.istore_n 1, 1) := by decide +kernel
theorem dX5_flames_2 : decode cX5_flames 2 = .ok (.aload_n 0, 1) := by decide +kernel
theorem dX5_flames_3 : decode cX5_flames 3 = .ok (.getfield 22, 3) := by decide +kernel
theorem dX5_flames_6 : decode cX5_flames 6 = .ok (.astore_n 2, 1) := by decide +kernel
theorem dX5_flames_7 : decode cX5_flames 7 = .ok (.aload_n 2, 1) := by decide +kernel
theorem dX5_flames_8 : decode cX5_flames 8 = .ok (.arraylength, 1) := by decide +kernel
theorem dX5_flames_9 : decode cX5_flames 9 = .ok (.istore_n 3, 1) := by decide +kernel
theorem dX5_flames_10 : decode cX5_flames 10 = .ok (.iconst 0, 1) := by decide +kernel
theorem dX5_flames_11 : decode cX5_flames 11 = .ok (.istore 4, 2) := by decide +kernel
theorem dX5_flames_13 : decode cX5_flames 13 = .ok (.iload 4, 2) := by decide +kernel
theorem dX5_flames_15 : decode cX5_flames 15 = .ok (.iload_n 3, 1) := by decide +kernel
theorem dX5_flames_16 : decode cX5_flames 16 = .ok (.if_icmp .ge 26, 3) := by decide +kernel
theorem dX5_flames_19 : decode cX5_flames 19 = .ok (.aload_n 2, 1) := by decide +kernel
theorem dX5_flames_20 : decode cX5_flames 20 = .ok (.iload 4, 2) := by decide +kernel
theorem dX5_flames_22 : decode cX5_flames 22 = .ok (.aaload, 1) := by decide +kernel
theorem dX5_flames_23 : decode cX5_flames 23 = .ok (.astore 5, 2) := by decide +kernel
theorem dX5_flames_25 : decode cX5_flames 25 = .ok (.iload_n 1, 1) := by decide +kernel
theorem dX5_flames_26 : decode cX5_flames 26 = .ok (.aload 5, 2) := by decide +kernel
theorem dX5_flames_28 : decode cX5_flames 28 = .ok (.getfield 80, 3) := by decide +kernel
theorem dX5_flames_31 : decode cX5_flames 31 = .ok (.invokestatic 126, 3) := by decide +kernel
theorem dX5_flames_34 : decode cX5_flames 34 = .ok (.iadd, 1) := by decide +kernel
theorem dX5_flames_35 : decode cX5_flames 35 = .ok (.istore_n 1, 1) := by decide +kernel
theorem dX5_flames_36 : decode cX5_flames 36 = .ok (.iinc 4 1, 3) := by decide +kernel
theorem dX5_flames_39 : decode cX5_flames 39 = .ok (.goto (-26), 3) := by decide +kernel
theorem dX5_flames_42 : decode cX5_flames 42 = .ok (.iload_n 1, 1) := by decide +kernel
theorem dX5_flames_43 : decode cX5_flames 43 = .ok (.ireturn, 1) := by decide +kernel
set_option maxRecDepth 20000 in
theorem ggX5_openValves_X5_isOpen : GoodIn wsX5_openValves wsX5_isOpen := goodIn_r _ [6, 7, 8, 9, 10, 11, 12, 13, 14, 15, 16, 17, 18, 19, 20, 21, 22, 23, 24, 25, 28, 29, 30, 31, 32, 33, 34, 35, 36, 37, 38, 39, 40, 41, 42, 43, 44, 45, 46] (by decide +kernel) (by decide +kernel)
set_option maxRecDepth 20000 in
theorem gX5_openValves_X5_isOpen : GoodIn wsX5_openValves (wsV RX5 132 RX5 yX5_isOpen wsX5_isOpen) := goodIn_app (goodIn_of _ (by decide +kernel)) ggX5_openValves_X5_isOpen
set_option maxRecDepth 20000 in
theorem ggX5_openValves_X7_oneIf : GoodIn wsX5_openValves wsX7_oneIf := goodIn_r _ [27] (by decide +kernel) (by decide +kernel)
set_option maxRecDepth 20000 in
theorem gX5_openValves_X7_oneIf_n126 : GoodIn wsX5_openValves (wsX7_oneIf) := ggX5_openValves_X7_oneIf
theorem dX5_openValves_0 : decode cX5_openValves 0 = .ok (.iconst 0, 1) := by decide +kernel
theorem dX5_openValves_1 : decode cX5_openValves 1 = .ok (.istore_n 1, 1) := by decide +kernel
theorem dX5_openValves_2 : decode cX5_openValves 2 = .ok (.aload_n 0, 1) := by decide +kernel
theorem dX5_openValves_3 : decode cX5_openValves 3 = .ok (.getfield 22, 3) := by decide +kernel
theorem dX5_openValves_6 : decode cX5_openValves 6 = .ok (.astore_n 2, 1) := by decide +kernel
theorem dX5_openValves_7 : decode cX5_openValves 7 = .ok (.aload_n 2, 1) := by decide +kernel
theorem dX5_openValves_8 : decode cX5_openValves 8 = .ok (.arraylength, 1) := by decide +kernel
theorem dX5_openValves_9 : decode cX5_openValves 9 = .ok (.istore_n 3, 1) := by decide +kernel
theorem dX5_openValves_10 : decode cX5_openValves 10 = .ok (.iconst 0, 1) := by decide +kernel
theorem dX5_openValves_11 : decode cX5_openValves 11 = .ok (.istore 4, 2) := by decide +kernel
theorem dX5_openValves_13 : decode cX5_openValves 13 = .ok (.iload 4, 2) := by decide +kernel
theorem dX5_openValves_15 : decode cX5_openValves 15 = .ok (.iload_n 3, 1) := by decide +kernel
theorem dX5_openValves_16 : decode cX5_openValves 16 = .ok (.if_icmp .ge 27, 3) := by decide +kernel
theorem dX5_openValves_19 : decode cX5_openValves 19 = .ok (.aload_n 2, 1) := by decide +kernel
theorem dX5_openValves_20 : decode cX5_openValves 20 = .ok (.iload 4, 2) := by decide +kernel
theorem dX5_openValves_22 : decode cX5_openValves 22 = .ok (.aaload, 1) := by decide +kernel
theorem dX5_openValves_23 : decode cX5_openValves 23 = .ok (.astore 5, 2) := by decide +kernel
theorem dX5_openValves_25 : decode cX5_openValves 25 = .ok (.iload_n 1, 1) := by decide +kernel
theorem dX5_openValves_26 : decode cX5_openValves 26 = .ok (.aload_n 0, 1) := by decide +kernel
theorem dX5_openValves_27 : decode cX5_openValves 27 = .ok (.aload 5, 2) := by decide +kernel
theorem dX5_openValves_29 : decode cX5_openValves 29 = .ok (.invokevirtual 132, 3) := by decide +kernel
theorem dX5_openValves_32 : decode cX5_openValves 32 = .ok (.invokestatic 126, 3) := by decide +kernel
theorem dX5_openValves_35 : decode cX5_openValves 35 = .ok (.iadd, 1) := by decide +kernel
theorem dX5_openValves_36 : decode cX5_openValves 36 = .ok (.istore_n 1, 1) := by decide +kernel
theorem dX5_openValves_37 : decode cX5_openValves 37 = .ok (.iinc 4 1, 3) := by decide +kernel
theorem dX5_openValves_40 : decode cX5_openValves 40 = .ok (.goto (-27), 3) := by decide +kernel
theorem dX5_openValves_43 : decode cX5_openValves 43 = .ok (.iload_n 1, 1) := by decide +kernel
theorem dX5_openValves_44 : decode cX5_openValves 44 = .ok (.ireturn, 1) := by decide +kernel
set_option maxRecDepth 20000 in
theorem ggX5_lockedBurners_X7_oneIf : GoodIn wsX5_lockedBurners wsX7_oneIf := goodIn_r _ [5] (by decide +kernel) (by decide +kernel)
set_option maxRecDepth 20000 in
theorem gX5_lockedBurners_X7_oneIf_n126 : GoodIn wsX5_lockedBurners (wsX7_oneIf) := ggX5_lockedBurners_X7_oneIf
theorem dX5_lockedBurners_0 : decode cX5_lockedBurners 0 = .ok (.iconst 0, 1) := by decide +kernel
theorem dX5_lockedBurners_1 : decode cX5_lockedBurners 1 = .ok (.istore_n 1, 1) := by decide +kernel
theorem dX5_lockedBurners_2 : decode cX5_lockedBurners 2 = .ok (.aload_n 0, 1) := by decide +kernel
theorem dX5_lockedBurners_3 : decode cX5_lockedBurners 3 = .ok (.getfield 22, 3) := by decide +kernel
theorem dX5_lockedBurners_6 : decode cX5_lockedBurners 6 = .ok (.astore_n 2, 1) := by decide +kernel
theorem dX5_lockedBurners_7 : decode cX5_lockedBurners 7 = .ok (.aload_n 2, 1) := by decide +kernel
theorem dX5_lockedBurners_8 : decode cX5_lockedBurners 8 = .ok (.arraylength, 1) := by decide +kernel
theorem dX5_lockedBurners_9 : decode cX5_lockedBurners 9 = .ok (.istore_n 3, 1) := by decide +kernel
theorem dX5_lockedBurners_10 : decode cX5_lockedBurners 10 = .ok (.iconst 0, 1) := by decide +kernel
theorem dX5_lockedBurners_11 : decode cX5_lockedBurners 11 = .ok (.istore 4, 2) := by decide +kernel
theorem dX5_lockedBurners_13 : decode cX5_lockedBurners 13 = .ok (.iload 4, 2) := by decide +kernel
theorem dX5_lockedBurners_15 : decode cX5_lockedBurners 15 = .ok (.iload_n 3, 1) := by decide +kernel
theorem dX5_lockedBurners_16 : decode cX5_lockedBurners 16 = .ok (.if_icmp .ge 26, 3) := by decide +kernel
theorem dX5_lockedBurners_19 : decode cX5_lockedBurners 19 = .ok (.aload_n 2, 1) := by decide +kernel
theorem dX5_lockedBurners_20 : decode cX5_lockedBurners 20 = .ok (.iload 4, 2) := by decide +kernel
theorem dX5_lockedBurners_22 : decode cX5_lockedBurners 22 = .ok (.aaload, 1) := by decide +kernel
theorem dX5_lockedBurners_23 : decode cX5_lockedBurners 23 = .ok (.astore 5, 2) := by decide +kernel
theorem dX5_lockedBurners_25 : decode cX5_lockedBurners 25 = .ok (.iload_n 1, 1) := by decide +kernel
theorem dX5_lockedBurners_26 : decode cX5_lockedBurners 26 = .ok (.aload 5, 2) := by decide +kernel
theorem dX5_lockedBurners_28 : decode cX5_lockedBurners 28 = .ok (.getfield 134, 3) := by decide +kernel
theorem dX5_lockedBurners_31 : decode cX5_lockedBurners 31 = .ok (.invokestatic 126, 3) := by decide +kernel
theorem dX5_lockedBurners_34 : decode cX5_lockedBurners 34 = .ok (.iadd, 1) := by decide +kernel
theorem dX5_lockedBurners_35 : decode cX5_lockedBurners 35 = .ok (.istore_n 1, 1) := by decide +kernel
theorem dX5_lockedBurners_36 : decode cX5_lockedBurners 36 = .ok (.iinc 4 1, 3) := by decide +kernel
theorem dX5_lockedBurners_39 : decode cX5_lockedBurners 39 = .ok (.goto (-26), 3) := by decide +kernel
theorem dX5_lockedBurners_42 : decode cX5_lockedBurners 42 = .ok (.iload_n 1, 1) := by decide +kernel
theorem dX5_lockedBurners_43 : decode cX5_lockedBurners 43 = .ok (.ireturn, 1) := by decide +kernel
set_option maxRecDepth 20000 in
theorem ggX5_blow_X5_isOpen : GoodIn wsX5_blow wsX5_isOpen := goodIn_r _ [8, 9, 10, 11, 12, 13, 14, 15, 16, 17, 18, 19, 20, 21, 22, 23, 24, 25, 26, 27, 71, 72, 73, 74, 75, 76, 77, 78, 79, 61, 62, 63, 64, 65, 66, 67, 68, 69, 70] (by decide +kernel) (by decide +kernel)
set_option maxRecDepth 20000 in
theorem gX5_blow_X5_isOpen : GoodIn wsX5_blow (wsV RX5 132 RX5 yX5_isOpen wsX5_isOpen) := goodIn_app (goodIn_of _ (by decide +kernel)) ggX5_blow_X5_isOpen
set_option maxRecDepth 20000 in
theorem ggX5_blow_X0_strength : GoodIn wsX5_blow wsX0_strength := goodIn_r _ [31, 32, 25, 33, 34, 35, 22, 36, 37, 16, 17, 18, 61, 62, 63, 64, 65, 66, 67, 68, 69, 70] (by decide +kernel) (by decide +kernel)
set_option maxRecDepth 20000 in
theorem gX5_blow_X0_strength : GoodIn wsX5_blow (wsV RX5 137 RX0 yX0_strength wsX0_strength) := goodIn_app (goodIn_of _ (by decide +kernel)) ggX5_blow_X0_strength
set_option maxRecDepth 20000 in
theorem ggX5_blow_X2_note : GoodIn wsX5_blow wsX2_note := goodIn_r _ [42, 43, 44, 45, 46, 47, 48, 49, 50, 51, 52, 53, 41, 54, 55, 56, 57, 58, 59, 17, 60, 80, 81, 82, 83, 84] (by decide +kernel) (by decide +kernel)
set_option maxRecDepth 20000 in
theorem gX5_blow_X2_note : GoodIn wsX5_blow (wsV RX5 87 RX2 yX2_note wsX2_note) := goodIn_app (goodIn_of _ (by decide +kernel)) ggX5_blow_X2_note
theorem dX5_blow_0 : decode cX5_blow 0 = .ok (.aload_n 2, 1) := by decide +kernel
theorem dX5_blow_1 : decode cX5_blow 1 = .ok (.getfield 80, 3) := by decide +kernel
theorem dX5_blow_4 : decode cX5_blow 4 = .ok (.ifCond .ne 4, 3) := by decide +kernel
theorem dX5_blow_7 : decode cX5_blow 7 = .ok (.return_, 1) := by decide +kernel
theorem dX5_blow_8 : decode cX5_blow 8 = .ok (.aload_n 0, 1) := by decide +kernel
theorem dX5_blow_9 : decode cX5_blow 9 = .ok (.aload_n 2, 1) := by decide +kernel
theorem dX5_blow_10 : decode cX5_blow 10 = .ok (.invokevirtual 132, 3) := by decide +kernel
theorem dX5_blow_13 : decode cX5_blow 13 = .ok (.ifCond .ne 11, 3) := by decide +kernel
theorem dX5_blow_16 : decode cX5_blow 16 = .ok (.aload_n 2, 1) := by decide +kernel
theorem dX5_blow_17 : decode cX5_blow 17 = .ok (.iconst 0, 1) := by decide +kernel
theorem dX5_blow_18 : decode cX5_blow 18 = .ok (.putfield 80, 3) := by decide +kernel
theorem dX5_blow_21 : decode cX5_blow 21 = .ok (.goto 29, 3) := by decide +kernel
theorem dX5_blow_24 : decode cX5_blow 24 = .ok (.iload_n 3, 1) := by decide +kernel
theorem dX5_blow_25 : decode cX5_blow 25 = .ok (.aload_n 2, 1) := by decide +kernel
theorem dX5_blow_26 : decode cX5_blow 26 = .ok (.invokevirtual 137, 3) := by decide +kernel
theorem dX5_blow_29 : decode cX5_blow 29 = .ok (.if_icmp .le 21, 3) := by decide +kernel
theorem dX5_blow_32 : decode cX5_blow 32 = .ok (.aload_n 2, 1) := by decide +kernel
theorem dX5_blow_33 : decode cX5_blow 33 = .ok (.iconst 0, 1) := by decide +kernel
theorem dX5_blow_34 : decode cX5_blow 34 = .ok (.putfield 80, 3) := by decide +kernel
theorem dX5_blow_37 : decode cX5_blow 37 = .ok (.aload_n 0, 1) := by decide +kernel
theorem dX5_blow_38 : decode cX5_blow 38 = .ok (.getfield 39, 3) := by decide +kernel
theorem dX5_blow_41 : decode cX5_blow 41 = .ok (.iconst 1, 1) := by decide +kernel
theorem dX5_blow_42 : decode cX5_blow 42 = .ok (.iload_n 1, 1) := by decide +kernel
theorem dX5_blow_43 : decode cX5_blow 43 = .ok (.aload_n 0, 1) := by decide +kernel
theorem dX5_blow_44 : decode cX5_blow 44 = .ok (.getfield 56, 3) := by decide +kernel
theorem dX5_blow_47 : decode cX5_blow 47 = .ok (.invokevirtual 87, 3) := by decide +kernel
theorem dX5_blow_50 : decode cX5_blow 50 = .ok (.return_, 1) := by decide +kernel
set_option maxRecDepth 20000 in
theorem ggX5_spark_X5_isOpen : GoodIn wsX5_spark wsX5_isOpen := goodIn_r _ [12, 4, 13, 14, 15, 16, 17, 18, 19, 20, 21, 22, 23, 24, 25, 26, 27, 28, 29, 30, 78, 79, 80, 81, 82, 83, 84, 85, 86, 68, 69, 70, 71, 72, 73, 74, 75, 76, 77] (by decide +kernel) (by decide +kernel)
set_option maxRecDepth 20000 in
theorem gX5_spark_X5_isOpen : GoodIn wsX5_spark (wsV RX5 132 RX5 yX5_isOpen wsX5_isOpen) := goodIn_app (goodIn_of _ (by decide +kernel)) ggX5_spark_X5_isOpen
set_option maxRecDepth 20000 in
theorem ggX5_spark_X0_strength : GoodIn wsX5_spark wsX0_strength := goodIn_r _ [34, 35, 28, 36, 37, 38, 25, 39, 40, 19, 20, 21, 68, 69, 70, 71, 72, 73, 74, 75, 76, 77] (by decide +kernel) (by decide +kernel)
