theorem dX8_set_14 : decode cX8_set 14 = .ok (.iconst (-1), 1) := by decide +kernel
theorem dX8_set_15 : decode cX8_set 15 = .ok (.ireturn, 1) := by decide +kernel
theorem dX8_set_16 : decode cX8_set 16 = .ok (.iload_n 1, 1) := by decide +kernel
theorem dX8_set_17 : decode cX8_set 17 = .ok (.iload_n 2, 1) := by decide +kernel
theorem dX8_set_18 : decode cX8_set 18 = .ok (.invokestatic 94, 3) := by decide +kernel
theorem dX8_set_21 : decode cX8_set 21 = .ok (.ifCond .ne 6, 3) := by decide +kernel
theorem dX8_set_24 : decode cX8_set 24 = .ok (.bipush (-2), 2) := by decide +kernel
theorem dX8_set_26 : decode cX8_set 26 = .ok (.ireturn, 1) := by decide +kernel
theorem dX8_set_27 : decode cX8_set 27 = .ok (.aload_n 0, 1) := by decide +kernel
theorem dX8_set_28 : decode cX8_set 28 = .ok (.getfield 7, 3) := by decide +kernel
theorem dX8_set_31 : decode cX8_set 31 = .ok (.iload_n 1, 1) := by decide +kernel
theorem dX8_set_32 : decode cX8_set 32 = .ok (.iaload, 1) := by decide +kernel
theorem dX8_set_33 : decode cX8_set 33 = .ok (.istore_n 3, 1) := by decide +kernel
theorem dX8_set_34 : decode cX8_set 34 = .ok (.iload_n 3, 1) := by decide +kernel
theorem dX8_set_35 : decode cX8_set 35 = .ok (.iload_n 2, 1) := by decide +kernel
theorem dX8_set_36 : decode cX8_set 36 = .ok (.if_icmp .ne 6, 3) := by decide +kernel
theorem dX8_set_39 : decode cX8_set 39 = .ok (.bipush (-5), 2) := by decide +kernel
theorem dX8_set_41 : decode cX8_set 41 = .ok (.ireturn, 1) := by decide +kernel
theorem dX8_set_42 : decode cX8_set 42 = .ok (.aload_n 0, 1) := by decide +kernel
theorem dX8_set_43 : decode cX8_set 43 = .ok (.invokevirtual 98, 3) := by decide +kernel
theorem dX8_set_46 : decode cX8_set 46 = .ok (.aload_n 0, 1) := by decide +kernel
theorem dX8_set_47 : decode cX8_set 47 = .ok (.getfield 7, 3) := by decide +kernel
theorem dX8_set_50 : decode cX8_set 50 = .ok (.iload_n 1, 1) := by decide +kernel
theorem dX8_set_51 : decode cX8_set 51 = .ok (.iload_n 2, 1) := by decide +kernel
theorem dX8_set_52 : decode cX8_set 52 = .ok (.iastore, 1) := by decide +kernel
theorem dX8_set_53 : decode cX8_set 53 = .ok (.iload_n 3, 1) := by decide +kernel
theorem dX8_set_54 : decode cX8_set 54 = .ok (.ireturn, 1) := by decide +kernel
set_option maxRecDepth 20000 in
theorem ggX8_setKind_X8_isBurner : GoodIn wsX8_setKind wsX8_isBurner := goodIn_r _ [5, 6, 7, 4, 8] (by decide +kernel) (by decide +kernel)
set_option maxRecDepth 20000 in
theorem gX8_setKind_X8_isBurner : GoodIn wsX8_setKind (va_wsS RX8 101 yX8_isBurner wsX8_isBurner) := goodIn_app (goodIn_of _ (by decide +kernel)) ggX8_setKind_X8_isBurner
set_option maxRecDepth 20000 in
theorem ggX8_setKind_X8_in : GoodIn wsX8_setKind wsX8_in := goodIn_r _ [8] (by decide +kernel) (by decide +kernel)
set_option maxRecDepth 20000 in
theorem gX8_setKind_X8_in : GoodIn wsX8_setKind (va_wsS RX8 35 yX8_in wsX8_in) := goodIn_app (goodIn_of _ (by decide +kernel)) ggX8_setKind_X8_in
set_option maxRecDepth 20000 in
theorem ggX8_setKind_X8_get : GoodIn wsX8_setKind wsX8_get := goodIn_r _ [12, 13, 24, 25, 26, 27, 28, 29, 30, 31, 32, 33, 34, 35, 36, 37] (by decide +kernel) (by decide +kernel)
set_option maxRecDepth 20000 in
theorem gX8_setKind_X8_get : GoodIn wsX8_setKind (wsV RX8 53 RX8 yX8_get wsX8_get) := goodIn_app (goodIn_of _ (by decide +kernel)) ggX8_setKind_X8_get
set_option maxRecDepth 20000 in
theorem ggX8_setKind_X8_records : GoodIn wsX8_setKind wsX8_records := goodIn_r _ [17, 18, 19, 13, 24, 25, 26, 27, 28, 29, 30, 31, 32, 33, 34, 35, 36, 37] (by decide +kernel) (by decide +kernel)
set_option maxRecDepth 20000 in
theorem gX8_setKind_X8_records : GoodIn wsX8_setKind (wsV RX8 98 RX8 yX8_records wsX8_records) := goodIn_app (goodIn_of _ (by decide +kernel)) ggX8_setKind_X8_records
set_option maxRecDepth 20000 in
theorem ggX8_setKind_X8_lay : GoodIn wsX8_setKind wsX8_lay := goodIn_r _ [23, 13, 24, 25, 26, 27, 28, 29, 30, 31, 32, 33, 34, 35, 36, 37] (by decide +kernel) (by decide +kernel)
set_option maxRecDepth 20000 in
theorem gX8_setKind_X8_lay : GoodIn wsX8_setKind (wsV RX8 64 RX8 yX8_lay wsX8_lay) := goodIn_app (goodIn_of _ (by decide +kernel)) ggX8_setKind_X8_lay
theorem dX8_setKind_0 : decode cX8_setKind 0 = .ok (.aload_n 0, 1) := by decide +kernel
theorem dX8_setKind_1 : decode cX8_setKind 1 = .ok (.iconst 0, 1) := by decide +kernel
theorem dX8_setKind_2 : decode cX8_setKind 2 = .ok (.putfield 31, 3) := by decide +kernel
theorem dX8_setKind_5 : decode cX8_setKind 5 = .ok (.iload_n 1, 1) := by decide +kernel
theorem dX8_setKind_6 : decode cX8_setKind 6 = .ok (.invokestatic 101, 3) := by decide +kernel
theorem dX8_setKind_9 : decode cX8_setKind 9 = .ok (.ifCond .ne 5, 3) := by decide +kernel
theorem dX8_setKind_12 : decode cX8_setKind 12 = .ok (.iconst (-1), 1) := by decide +kernel
theorem dX8_setKind_13 : decode cX8_setKind 13 = .ok (.ireturn, 1) := by decide +kernel
theorem dX8_setKind_14 : decode cX8_setKind 14 = .ok (.iload_n 2, 1) := by decide +kernel
theorem dX8_setKind_15 : decode cX8_setKind 15 = .ok (.iconst 0, 1) := by decide +kernel
theorem dX8_setKind_16 : decode cX8_setKind 16 = .ok (.iconst 2, 1) := by decide +kernel
theorem dX8_setKind_17 : decode cX8_setKind 17 = .ok (.invokestatic 35, 3) := by decide +kernel
theorem dX8_setKind_20 : decode cX8_setKind 20 = .ok (.ifCond .ne 6, 3) := by decide +kernel
theorem dX8_setKind_23 : decode cX8_setKind 23 = .ok (.bipush (-2), 2) := by decide +kernel
theorem dX8_setKind_25 : decode cX8_setKind 25 = .ok (.ireturn, 1) := by decide +kernel
theorem dX8_setKind_26 : decode cX8_setKind 26 = .ok (.aload_n 0, 1) := by decide +kernel
theorem dX8_setKind_27 : decode cX8_setKind 27 = .ok (.iload_n 1, 1) := by decide +kernel
theorem dX8_setKind_28 : decode cX8_setKind 28 = .ok (.iconst 1, 1) := by decide +kernel
theorem dX8_setKind_29 : decode cX8_setKind 29 = .ok (.invokevirtual 53, 3) := by decide +kernel
theorem dX8_setKind_32 : decode cX8_setKind 32 = .ok (.ifCond .eq 6, 3) := by decide +kernel
theorem dX8_setKind_35 : decode cX8_setKind 35 = .ok (.bipush (-4), 2) := by decide +kernel
theorem dX8_setKind_37 : decode cX8_setKind 37 = .ok (.ireturn, 1) := by decide +kernel
theorem dX8_setKind_38 : decode cX8_setKind 38 = .ok (.aload_n 0, 1) := by decide +kernel
theorem dX8_setKind_39 : decode cX8_setKind 39 = .ok (.iload_n 1, 1) := by decide +kernel
theorem dX8_setKind_40 : decode cX8_setKind 40 = .ok (.iconst 0, 1) := by decide +kernel
theorem dX8_setKind_41 : decode cX8_setKind 41 = .ok (.invokevirtual 53, 3) := by decide +kernel
theorem dX8_setKind_44 : decode cX8_setKind 44 = .ok (.istore_n 3, 1) := by decide +kernel
theorem dX8_setKind_45 : decode cX8_setKind 45 = .ok (.iload_n 3, 1) := by decide +kernel
theorem dX8_setKind_46 : decode cX8_setKind 46 = .ok (.iload_n 2, 1) := by decide +kernel
theorem dX8_setKind_47 : decode cX8_setKind 47 = .ok (.if_icmp .ne 6, 3) := by decide +kernel
theorem dX8_setKind_50 : decode cX8_setKind 50 = .ok (.bipush (-5), 2) := by decide +kernel
theorem dX8_setKind_52 : decode cX8_setKind 52 = .ok (.ireturn, 1) := by decide +kernel
theorem dX8_setKind_53 : decode cX8_setKind 53 = .ok (.aload_n 0, 1) := by decide +kernel
theorem dX8_setKind_54 : decode cX8_setKind 54 = .ok (.invokevirtual 98, 3) := by decide +kernel
theorem dX8_setKind_57 : decode cX8_setKind 57 = .ok (.aload_n 0, 1) := by decide +kernel
theorem dX8_setKind_58 : decode cX8_setKind 58 = .ok (.iload_n 1, 1) := by decide +kernel
theorem dX8_setKind_59 : decode cX8_setKind 59 = .ok (.iconst 0, 1) := by decide +kernel
theorem dX8_setKind_60 : decode cX8_setKind 60 = .ok (.iload_n 2, 1) := by decide +kernel
theorem dX8_setKind_61 : decode cX8_setKind 61 = .ok (.invokevirtual 64, 3) := by decide +kernel
theorem dX8_setKind_64 : decode cX8_setKind 64 = .ok (.iload_n 3, 1) := by decide +kernel
theorem dX8_setKind_65 : decode cX8_setKind 65 = .ok (.ireturn, 1) := by decide +kernel
theorem dX8_entryAt_0 : decode cX8_entryAt 0 = .ok (.iconst 0, 1) := by decide +kernel
theorem dX8_entryAt_1 : decode cX8_entryAt 1 = .ok (.istore_n 2, 1) := by decide +kernel
theorem dX8_entryAt_2 : decode cX8_entryAt 2 = .ok (.iload_n 2, 1) := by decide +kernel
theorem dX8_entryAt_3 : decode cX8_entryAt 3 = .ok (.aload_n 0, 1) := by decide +kernel
theorem dX8_entryAt_4 : decode cX8_entryAt 4 = .ok (.getfield 7, 3) := by decide +kernel
theorem dX8_entryAt_7 : decode cX8_entryAt 7 = .ok (.bipush 43, 2) := by decide +kernel
theorem dX8_entryAt_9 : decode cX8_entryAt 9 = .ok (.iaload, 1) := by decide +kernel
theorem dX8_entryAt_10 : decode cX8_entryAt 10 = .ok (.if_icmp .ge 26, 3) := by decide +kernel
theorem dX8_entryAt_13 : decode cX8_entryAt 13 = .ok (.aload_n 0, 1) := by decide +kernel
theorem dX8_entryAt_14 : decode cX8_entryAt 14 = .ok (.getfield 7, 3) := by decide +kernel
theorem dX8_entryAt_17 : decode cX8_entryAt 17 = .ok (.bipush 44, 2) := by decide +kernel
theorem dX8_entryAt_19 : decode cX8_entryAt 19 = .ok (.iconst 2, 1) := by decide +kernel
theorem dX8_entryAt_20 : decode cX8_entryAt 20 = .ok (.iload_n 2, 1) := by decide +kernel
theorem dX8_entryAt_21 : decode cX8_entryAt 21 = .ok (.imul, 1) := by decide +kernel
theorem dX8_entryAt_22 : decode cX8_entryAt 22 = .ok (.iadd, 1) := by decide +kernel
theorem dX8_entryAt_23 : decode cX8_entryAt 23 = .ok (.iaload, 1) := by decide +kernel
theorem dX8_entryAt_24 : decode cX8_entryAt 24 = .ok (.iload_n 1, 1) := by decide +kernel
theorem dX8_entryAt_25 : decode cX8_entryAt 25 = .ok (.if_icmp .ne 5, 3) := by decide +kernel
theorem dX8_entryAt_28 : decode cX8_entryAt 28 = .ok (.iload_n 2, 1) := by decide +kernel
theorem dX8_entryAt_29 : decode cX8_entryAt 29 = .ok (.ireturn, 1) := by decide +kernel
theorem dX8_entryAt_30 : decode cX8_entryAt 30 = .ok (.iinc 2 1, 3) := by decide +kernel
theorem dX8_entryAt_33 : decode cX8_entryAt 33 = .ok (.goto (-31), 3) := by decide +kernel
theorem dX8_entryAt_36 : decode cX8_entryAt 36 = .ok (.bipush (-5), 2) := by decide +kernel
theorem dX8_entryAt_38 : decode cX8_entryAt 38 = .ok (.ireturn, 1) := by decide +kernel
set_option maxRecDepth 20000 in
theorem ggX8_plans_X8_entryAt : GoodIn wsX8_plans wsX8_entryAt := goodIn_r _ [6, 1, 7, 8, 9, 10, 11, 12, 13, 14, 15, 16, 17, 18, 19, 20] (by decide +kernel) (by decide +kernel)
set_option maxRecDepth 20000 in
theorem gX8_plans_X8_entryAt : GoodIn wsX8_plans (wsV RX8 104 RX8 yX8_entryAt wsX8_entryAt) := goodIn_app (goodIn_of _ (by decide +kernel)) ggX8_plans_X8_entryAt
theorem dX8_plans_0 : decode cX8_plans 0 = .ok (.aload_n 0, 1) := by decide +kernel
theorem dX8_plans_1 : decode cX8_plans 1 = .ok (.iload_n 1, 1) := by decide +kernel
theorem dX8_plans_2 : decode cX8_plans 2 = .ok (.invokevirtual 104, 3) := by decide +kernel
theorem dX8_plans_5 : decode cX8_plans 5 = .ok (.istore_n 3, 1) := by decide +kernel
theorem dX8_plans_6 : decode cX8_plans 6 = .ok (.iload_n 3, 1) := by decide +kernel
theorem dX8_plans_7 : decode cX8_plans 7 = .ok (.bipush (-5), 2) := by decide +kernel
theorem dX8_plans_9 : decode cX8_plans 9 = .ok (.if_icmp .ne 99, 3) := by decide +kernel
theorem dX8_plans_12 : decode cX8_plans 12 = .ok (.aload_n 0, 1) := by decide +kernel
theorem dX8_plans_13 : decode cX8_plans 13 = .ok (.getfield 7, 3) := by decide +kernel
theorem dX8_plans_16 : decode cX8_plans 16 = .ok (.bipush 43, 2) := by decide +kernel
theorem dX8_plans_18 : decode cX8_plans 18 = .ok (.iaload, 1) := by decide +kernel
theorem dX8_plans_19 : decode cX8_plans 19 = .ok (.istore_n 3, 1) := by decide +kernel
theorem dX8_plans_20 : decode cX8_plans 20 = .ok (.iload_n 3, 1) := by decide +kernel
theorem dX8_plans_21 : decode cX8_plans 21 = .ok (.ifCond .le 76, 3) := by decide +kernel
theorem dX8_plans_24 : decode cX8_plans 24 = .ok (.aload_n 0, 1) := by decide +kernel
theorem dX8_plans_25 : decode cX8_plans 25 = .ok (.getfield 7, 3) := by decide +kernel
theorem dX8_plans_28 : decode cX8_plans 28 = .ok (.bipush 44, 2) := by decide +kernel
theorem dX8_plans_30 : decode cX8_plans 30 = .ok (.iconst 2, 1) := by decide +kernel
theorem dX8_plans_31 : decode cX8_plans 31 = .ok (.iload_n 3, 1) := by decide +kernel
theorem dX8_plans_32 : decode cX8_plans 32 = .ok (.imul, 1) := by decide +kernel
theorem dX8_plans_33 : decode cX8_plans 33 = .ok (.iadd, 1) := by decide +kernel
theorem dX8_plans_34 : decode cX8_plans 34 = .ok (.iconst 2, 1) := by decide +kernel
theorem dX8_plans_35 : decode cX8_plans 35 = .ok (.isub, 1) := by decide +kernel
theorem dX8_plans_36 : decode cX8_plans 36 = .ok (.iaload, 1) := by decide +kernel
theorem dX8_plans_37 : decode cX8_plans 37 = .ok (.iload_n 1, 1) := by decide +kernel
theorem dX8_plans_38 : decode cX8_plans 38 = .ok (.if_icmp .le 59, 3) := by decide +kernel
theorem dX8_plans_41 : decode cX8_plans 41 = .ok (.aload_n 0, 1) := by decide +kernel
theorem dX8_plans_42 : decode cX8_plans 42 = .ok (.getfield 7, 3) := by decide +kernel
theorem dX8_plans_45 : decode cX8_plans 45 = .ok (.bipush 44, 2) := by decide +kernel
theorem dX8_plans_47 : decode cX8_plans 47 = .ok (.iconst 2, 1) := by decide +kernel
theorem dX8_plans_48 : decode cX8_plans 48 = .ok (.iload_n 3, 1) := by decide +kernel
theorem dX8_plans_49 : decode cX8_plans 49 = .ok (.imul, 1) := by decide +kernel
theorem dX8_plans_50 : decode cX8_plans 50 = .ok (.iadd, 1) := by decide +kernel
theorem dX8_plans_51 : decode cX8_plans 51 = .ok (.aload_n 0, 1) := by decide +kernel
theorem dX8_plans_52 : decode cX8_plans 52 = .ok (.getfield 7, 3) := by decide +kernel
theorem dX8_plans_55 : decode cX8_plans 55 = .ok (.bipush 44, 2) := by decide +kernel
theorem dX8_plans_57 : decode cX8_plans 57 = .ok (.iconst 2, 1) := by decide +kernel
theorem dX8_plans_58 : decode cX8_plans 58 = .ok (.iload_n 3, 1) := by decide +kernel
theorem dX8_plans_59 : decode cX8_plans 59 = .ok (.imul, 1) := by decide +kernel
theorem dX8_plans_60 : decode cX8_plans 60 = .ok (.iadd, 1) := by decide +kernel
theorem dX8_plans_61 : decode cX8_plans 61 = .ok (.iconst 2, 1) := by decide +kernel
theorem dX8_plans_62 : decode cX8_plans 62 = .ok (.isub, 1) := by decide +kernel
theorem dX8_plans_63 : decode cX8_plans 63 = .ok (.iaload, 1) := by decide +kernel
theorem dX8_plans_64 : decode cX8_plans 64 = .ok (.iastore, 1) := by decide +kernel
theorem dX8_plans_65 : decode cX8_plans 65 = .ok (.aload_n 0, 1) := by decide +kernel
theorem dX8_plans_66 : decode cX8_plans 66 = .ok (.getfield 7, 3) := by decide +kernel
theorem dX8_plans_69 : decode cX8_plans 69 = .ok (.bipush 44, 2) := by decide +kernel
theorem dX8_plans_71 : decode cX8_plans 71 = .ok (.iconst 2, 1) := by decide +kernel
theorem dX8_plans_72 : decode cX8_plans 72 = .ok (.iload_n 3, 1) := by decide +kernel
theorem dX8_plans_73 : decode cX8_plans 73 = .ok (.imul, 1) := by decide +kernel
theorem dX8_plans_74 : decode cX8_plans 74 = .ok (.iadd, 1) := by decide +kernel
theorem dX8_plans_75 : decode cX8_plans 75 = .ok (.iconst 1, 1) := by decide +kernel
theorem dX8_plans_76 : decode cX8_plans 76 = .ok (.iadd, 1) := by decide +kernel
theorem dX8_plans_77 : decode cX8_plans 77 = .ok (.aload_n 0, 1) := by decide +kernel
theorem dX8_plans_78 : decode cX8_plans 78 = .ok (.getfield 7, 3) := by decide +kernel
theorem dX8_plans_81 : decode cX8_plans 81 = .ok (.bipush 44, 2) := by decide +kernel
theorem dX8_plans_83 : decode cX8_plans 83 = .ok (.iconst 2, 1) := by decide +kernel
theorem dX8_plans_84 : decode cX8_plans 84 = .ok (.iload_n 3, 1) := by decide +kernel
theorem dX8_plans_85 : decode cX8_plans 85 = .ok (.imul, 1) := by decide +kernel
theorem dX8_plans_86 : decode cX8_plans 86 = .ok (.iadd, 1) := by decide +kernel
theorem dX8_plans_87 : decode cX8_plans 87 = .ok (.iconst 1, 1) := by decide +kernel
theorem dX8_plans_88 : decode cX8_plans 88 = .ok (.isub, 1) := by decide +kernel
theorem dX8_plans_89 : decode cX8_plans 89 = .ok (.iaload, 1) := by decide +kernel
theorem dX8_plans_90 : decode cX8_plans 90 = .ok (.iastore, 1) := by decide +kernel
theorem dX8_plans_91 : decode cX8_plans 91 = .ok (.iinc 3 (-1), 3) := by decide +kernel
theorem dX8_plans_94 : decode cX8_plans 94 = .ok (.goto (-74), 3) := by decide +kernel
theorem dX8_plans_97 : decode cX8_plans 97 = .ok (.aload_n 0, 1) := by decide +kernel
theorem dX8_plans_98 : decode cX8_plans 98 = .ok (.getfield 7, 3) := by decide +kernel
theorem dX8_plans_101 : decode cX8_plans 101 = .ok (.bipush 43, 2) := by decide +kernel
theorem dX8_plans_103 : decode cX8_plans 103 = .ok (.dup2, 1) := by decide +kernel
theorem dX8_plans_104 : decode cX8_plans 104 = .ok (.iaload, 1) := by decide +kernel
theorem dX8_plans_105 : decode cX8_plans 105 = .ok (.iconst 1, 1) := by decide +kernel
theorem dX8_plans_106 : decode cX8_plans 106 = .ok (.iadd, 1) := by decide +kernel
theorem dX8_plans_107 : decode cX8_plans 107 = .ok (.iastore, 1) := by decide +kernel
theorem dX8_plans_108 : decode cX8_plans 108 = .ok (.aload_n 0, 1) := by decide +kernel
theorem dX8_plans_109 : decode cX8_plans 109 = .ok (.getfield 7, 3) := by decide +kernel
theorem dX8_plans_112 : decode cX8_plans 112 = .ok (.bipush 44, 2) := by decide +kernel
theorem dX8_plans_114 : decode cX8_plans 114 = .ok (.iconst 2, 1) := by decide +kernel
theorem dX8_plans_115 : decode cX8_plans 115 = .ok (.iload_n 3, 1) := by decide +kernel
theorem dX8_plans_116 : decode cX8_plans 116 = .ok (.imul, 1) := by decide +kernel
theorem dX8_plans_117 : decode cX8_plans 117 = .ok (.iadd, 1) := by decide +kernel
theorem dX8_plans_118 : decode cX8_plans 118 = .ok (.iload_n 1, 1) := by decide +kernel
theorem dX8_plans_119 : decode cX8_plans 119 = .ok (.iastore, 1) := by decide +kernel
theorem dX8_plans_120 : decode cX8_plans 120 = .ok (.aload_n 0, 1) := by decide +kernel
theorem dX8_plans_121 : decode cX8_plans 121 = .ok (.getfield 7, 3) := by decide +kernel
theorem dX8_plans_124 : decode cX8_plans 124 = .ok (.bipush 44, 2) := by decide +kernel
theorem dX8_plans_126 : decode cX8_plans 126 = .ok (.iconst 2, 1) := by decide +kernel
theorem dX8_plans_127 : decode cX8_plans 127 = .ok (.iload_n 3, 1) := by decide +kernel
theorem dX8_plans_128 : decode cX8_plans 128 = .ok (.imul, 1) := by decide +kernel
theorem dX8_plans_129 : decode cX8_plans 129 = .ok (.iadd, 1) := by decide +kernel
theorem dX8_plans_130 : decode cX8_plans 130 = .ok (.iconst 1, 1) := by decide +kernel
theorem dX8_plans_131 : decode cX8_plans 131 = .ok (.iadd, 1) := by decide +kernel
theorem dX8_plans_132 : decode cX8_plans 132 = .ok (.iload_n 2, 1) := by decide +kernel
theorem dX8_plans_133 : decode cX8_plans 133 = .ok (.iastore, 1) := by decide +kernel
theorem dX8_plans_134 : decode cX8_plans 134 = .ok (.return_, 1) := by decide +kernel
set_option maxRecDepth 20000 in
theorem ggX8_plan_X8_in : GoodIn wsX8_plan wsX8_in := goodIn_r _ [6] (by decide +kernel) (by decide +kernel)
set_option maxRecDepth 20000 in
theorem gX8_plan_X8_in : GoodIn wsX8_plan (va_wsS RX8 35 yX8_in wsX8_in) := goodIn_app (goodIn_of _ (by decide +kernel)) ggX8_plan_X8_in
set_option maxRecDepth 20000 in
theorem ggX8_plan_X8_entryAt : GoodIn wsX8_plan wsX8_entryAt := goodIn_r _ [10, 2, 21, 22, 23, 24, 25, 26, 27, 28, 29, 30, 31, 32, 33, 34] (by decide +kernel) (by decide +kernel)
set_option maxRecDepth 20000 in
theorem gX8_plan_X8_entryAt : GoodIn wsX8_plan (wsV RX8 104 RX8 yX8_entryAt wsX8_entryAt) := goodIn_app (goodIn_of _ (by decide +kernel)) ggX8_plan_X8_entryAt
set_option maxRecDepth 20000 in
theorem ggX8_plan_X8_records : GoodIn wsX8_plan wsX8_records := goodIn_r _ [14, 15, 16, 2, 21, 22, 23, 24, 25, 26, 27, 28, 29, 30, 31, 32, 33, 34] (by decide +kernel) (by decide +kernel)
set_option maxRecDepth 20000 in
theorem gX8_plan_X8_records : GoodIn wsX8_plan (wsV RX8 98 RX8 yX8_records wsX8_records) := goodIn_app (goodIn_of _ (by decide +kernel)) ggX8_plan_X8_records
set_option maxRecDepth 20000 in
theorem ggX8_plan_X8_plans : GoodIn wsX8_plan wsX8_plans := goodIn_r _ [20, 2, 7, 8, 9, 5, 10, 21, 22, 23, 24, 25, 26, 27, 28, 29, 30, 31, 32, 33, 34] (by decide +kernel) (by decide +kernel)
set_option maxRecDepth 20000 in
theorem gX8_plan_X8_plans : GoodIn wsX8_plan (wsV RX8 107 RX8 yX8_plans wsX8_plans) := goodIn_app (goodIn_of _ (by decide +kernel)) ggX8_plan_X8_plans
theorem dX8_plan_0 : decode cX8_plan 0 = .ok (.aload_n 0, 1) := by decide +kernel
theorem dX8_plan_1 : decode cX8_plan 1 = .ok (.iconst 0, 1) := by decide +kernel
theorem dX8_plan_2 : decode cX8_plan 2 = .ok (.putfield 31, 3) := by decide +kernel
theorem dX8_plan_5 : decode cX8_plan 5 = .ok (.iload_n 1, 1) := by decide +kernel
theorem dX8_plan_6 : decode cX8_plan 6 = .ok (.iconst 0, 1) := by decide +kernel
theorem dX8_plan_7 : decode cX8_plan 7 = .ok (.sipush 9999, 3) := by decide +kernel
theorem dX8_plan_10 : decode cX8_plan 10 = .ok (.invokestatic 35, 3) := by decide +kernel
theorem dX8_plan_13 : decode cX8_plan 13 = .ok (.ifCond .eq 13, 3) := by decide +kernel
theorem dX8_plan_16 : decode cX8_plan 16 = .ok (.iload_n 2, 1) := by decide +kernel
theorem dX8_plan_17 : decode cX8_plan 17 = .ok (.iconst 0, 1) := by decide +kernel
theorem dX8_plan_18 : decode cX8_plan 18 = .ok (.bipush 9, 2) := by decide +kernel
theorem dX8_plan_20 : decode cX8_plan 20 = .ok (.invokestatic 35, 3) := by decide +kernel
theorem dX8_plan_23 : decode cX8_plan 23 = .ok (.ifCond .ne 6, 3) := by decide +kernel
theorem dX8_plan_26 : decode cX8_plan 26 = .ok (.bipush (-2), 2) := by decide +kernel
theorem dX8_plan_28 : decode cX8_plan 28 = .ok (.ireturn, 1) := by decide +kernel
theorem dX8_plan_29 : decode cX8_plan 29 = .ok (.aload_n 0, 1) := by decide +kernel
theorem dX8_plan_30 : decode cX8_plan 30 = .ok (.iload_n 1, 1) := by decide +kernel
theorem dX8_plan_31 : decode cX8_plan 31 = .ok (.invokevirtual 104, 3) := by decide +kernel
theorem dX8_plan_34 : decode cX8_plan 34 = .ok (.istore_n 3, 1) := by decide +kernel
theorem dX8_plan_35 : decode cX8_plan 35 = .ok (.iload_n 3, 1) := by decide +kernel
theorem dX8_plan_36 : decode cX8_plan 36 = .ok (.bipush (-5), 2) := by decide +kernel
theorem dX8_plan_38 : decode cX8_plan 38 = .ok (.if_icmp .ne 18, 3) := by decide +kernel
theorem dX8_plan_41 : decode cX8_plan 41 = .ok (.aload_n 0, 1) := by decide +kernel
theorem dX8_plan_42 : decode cX8_plan 42 = .ok (.getfield 7, 3) := by decide +kernel
theorem dX8_plan_45 : decode cX8_plan 45 = .ok (.bipush 43, 2) := by decide +kernel
theorem dX8_plan_47 : decode cX8_plan 47 = .ok (.iaload, 1) := by decide +kernel
theorem dX8_plan_48 : decode cX8_plan 48 = .ok (.bipush 12, 2) := by decide +kernel
theorem dX8_plan_50 : decode cX8_plan 50 = .ok (.if_icmp .ne 6, 3) := by decide +kernel
theorem dX8_plan_53 : decode cX8_plan 53 = .ok (.bipush (-3), 2) := by decide +kernel
theorem dX8_plan_55 : decode cX8_plan 55 = .ok (.ireturn, 1) := by decide +kernel
theorem dX8_plan_56 : decode cX8_plan 56 = .ok (.iload_n 3, 1) := by decide +kernel
theorem dX8_plan_57 : decode cX8_plan 57 = .ok (.bipush (-5), 2) := by decide +kernel
theorem dX8_plan_59 : decode cX8_plan 59 = .ok (.if_icmp .eq 23, 3) := by decide +kernel
theorem dX8_plan_62 : decode cX8_plan 62 = .ok (.aload_n 0, 1) := by decide +kernel
theorem dX8_plan_63 : decode cX8_plan 63 = .ok (.getfield 7, 3) := by decide +kernel
theorem dX8_plan_66 : decode cX8_plan 66 = .ok (.bipush 44, 2) := by decide +kernel
theorem dX8_plan_68 : decode cX8_plan 68 = .ok (.iconst 2, 1) := by decide +kernel
theorem dX8_plan_69 : decode cX8_plan 69 = .ok (.iload_n 3, 1) := by decide +kernel
theorem dX8_plan_70 : decode cX8_plan 70 = .ok (.imul, 1) := by decide +kernel
theorem dX8_plan_71 : decode cX8_plan 71 = .ok (.iadd, 1) := by decide +kernel
theorem dX8_plan_72 : decode cX8_plan 72 = .ok (.iconst 1, 1) := by decide +kernel
theorem dX8_plan_73 : decode cX8_plan 73 = .ok (.iadd, 1) := by decide +kernel
theorem dX8_plan_74 : decode cX8_plan 74 = .ok (.iaload, 1) := by decide +kernel
theorem dX8_plan_75 : decode cX8_plan 75 = .ok (.iload_n 2, 1) := by decide +kernel
theorem dX8_plan_76 : decode cX8_plan 76 = .ok (.if_icmp .ne 6, 3) := by decide +kernel
theorem dX8_plan_79 : decode cX8_plan 79 = .ok (.bipush (-5), 2) := by decide +kernel
theorem dX8_plan_81 : decode cX8_plan 81 = .ok (.ireturn, 1) := by decide +kernel
theorem dX8_plan_82 : decode cX8_plan 82 = .ok (.aload_n 0, 1) := by decide +kernel
theorem dX8_plan_83 : decode cX8_plan 83 = .ok (.invokevirtual 98, 3) := by decide +kernel
theorem dX8_plan_86 : decode cX8_plan 86 = .ok (.aload_n 0, 1) := by decide +kernel
theorem dX8_plan_87 : decode cX8_plan 87 = .ok (.iload_n 1, 1) := by decide +kernel
theorem dX8_plan_88 : decode cX8_plan 88 = .ok (.iload_n 2, 1) := by decide +kernel
theorem dX8_plan_89 : decode cX8_plan 89 = .ok (.invokevirtual 107, 3) := by decide +kernel
theorem dX8_plan_92 : decode cX8_plan 92 = .ok (.aload_n 0, 1) := by decide +kernel
theorem dX8_plan_93 : decode cX8_plan 93 = .ok (.getfield 7, 3) := by decide +kernel
theorem dX8_plan_96 : decode cX8_plan 96 = .ok (.bipush 43, 2) := by decide +kernel
theorem dX8_plan_98 : decode cX8_plan 98 = .ok (.iaload, 1) := by decide +kernel
theorem dX8_plan_99 : decode cX8_plan 99 = .ok (.ireturn, 1) := by decide +kernel
theorem dX8_sign_0 : decode cX8_sign 0 = .ok (.aload_n 0, 1) := by decide +kernel
theorem dX8_sign_1 : decode cX8_sign 1 = .ok (.getfield 110, 3) := by decide +kernel
theorem dX8_sign_4 : decode cX8_sign 4 = .ok (.aload_n 0, 1) := by decide +kernel
theorem dX8_sign_5 : decode cX8_sign 5 = .ok (.getfield 113, 3) := by decide +kernel
theorem dX8_sign_8 : decode cX8_sign 8 = .ok (.if_icmp .ge 15, 3) := by decide +kernel
theorem dX8_sign_11 : decode cX8_sign 11 = .ok (.aload_n 0, 1) := by decide +kernel
theorem dX8_sign_12 : decode cX8_sign 12 = .ok (.getfield 22, 3) := by decide +kernel
theorem dX8_sign_15 : decode cX8_sign 15 = .ok (.aload_n 0, 1) := by decide +kernel
theorem dX8_sign_16 : decode cX8_sign 16 = .ok (.getfield 110, 3) := by decide +kernel
theorem dX8_sign_19 : decode cX8_sign 19 = .ok (.iaload, 1) := by decide +kernel
theorem dX8_sign_20 : decode cX8_sign 20 = .ok (.goto 4, 3) := by decide +kernel
theorem dX8_sign_23 : decode cX8_sign 23 = .ok (.iconst 0, 1) := by decide +kernel
theorem dX8_sign_24 : decode cX8_sign 24 = .ok (.ireturn, 1) := by decide +kernel
set_option maxRecDepth 20000 in
theorem ggX8_takes_X8_sign : GoodIn wsX8_takes wsX8_sign := goodIn_r _ [7, 2, 8, 9, 13, 14, 15, 16, 17, 18, 19, 20, 21, 22, 23, 24, 25, 26] (by decide +kernel) (by decide +kernel)
set_option maxRecDepth 20000 in
theorem gX8_takes_X8_sign : GoodIn wsX8_takes (wsV RX8 120 RX8 yX8_sign wsX8_sign) := goodIn_app (goodIn_of _ (by decide +kernel)) ggX8_takes_X8_sign
set_option maxRecDepth 20000 in
theorem ggX8_takes_X8_in : GoodIn wsX8_takes wsX8_in := goodIn_r _ [12] (by decide +kernel) (by decide +kernel)
set_option maxRecDepth 20000 in
theorem gX8_takes_X8_in : GoodIn wsX8_takes (va_wsS RX8 35 yX8_in wsX8_in) := goodIn_app (goodIn_of _ (by decide +kernel)) ggX8_takes_X8_in
theorem dX8_takes_0 : decode cX8_takes 0 = .ok (.aload_n 0, 1) := by decide +kernel
theorem dX8_takes_1 : decode cX8_takes 1 = .ok (.aload_n 0, 1) := by decide +kernel
theorem dX8_takes_2 : decode cX8_takes 2 = .ok (.getfield 116, 3) := by decide +kernel
theorem dX8_takes_5 : decode cX8_takes 5 = .ok (.ifCond .eq 19, 3) := by decide +kernel
theorem dX8_takes_8 : decode cX8_takes 8 = .ok (.aload_n 0, 1) := by decide +kernel
theorem dX8_takes_9 : decode cX8_takes 9 = .ok (.invokevirtual 120, 3) := by decide +kernel
theorem dX8_takes_12 : decode cX8_takes 12 = .ok (.iload_n 1, 1) := by decide +kernel
theorem dX8_takes_13 : decode cX8_takes 13 = .ok (.iload_n 2, 1) := by decide +kernel
theorem dX8_takes_14 : decode cX8_takes 14 = .ok (.invokestatic 35, 3) := by decide +kernel
theorem dX8_takes_17 : decode cX8_takes 17 = .ok (.ifCond .eq 7, 3) := by decide +kernel
theorem dX8_takes_20 : decode cX8_takes 20 = .ok (.iconst 1, 1) := by decide +kernel
theorem dX8_takes_21 : decode cX8_takes 21 = .ok (.goto 4, 3) := by decide +kernel
theorem dX8_takes_24 : decode cX8_takes 24 = .ok (.iconst 0, 1) := by decide +kernel
theorem dX8_takes_25 : decode cX8_takes 25 = .ok (.putfield 116, 3) := by decide +kernel
theorem dX8_takes_28 : decode cX8_takes 28 = .ok (.aload_n 0, 1) := by decide +kernel
theorem dX8_takes_29 : decode cX8_takes 29 = .ok (.invokevirtual 120, 3) := by decide +kernel
theorem dX8_takes_32 : decode cX8_takes 32 = .ok (.iload_n 1, 1) := by decide +kernel
theorem dX8_takes_33 : decode cX8_takes 33 = .ok (.isub, 1) := by decide +kernel
theorem dX8_takes_34 : decode cX8_takes 34 = .ok (.istore_n 3, 1) := by decide +kernel
theorem dX8_takes_35 : decode cX8_takes 35 = .ok (.aload_n 0, 1) := by decide +kernel
theorem dX8_takes_36 : decode cX8_takes 36 = .ok (.dup, 1) := by decide +kernel
theorem dX8_takes_37 : decode cX8_takes 37 = .ok (.getfield 110, 3) := by decide +kernel
theorem dX8_takes_40 : decode cX8_takes 40 = .ok (.aload_n 0, 1) := by decide +kernel
theorem dX8_takes_41 : decode cX8_takes 41 = .ok (.getfield 116, 3) := by decide +kernel
theorem dX8_takes_44 : decode cX8_takes 44 = .ok (.ifCond .eq 7, 3) := by decide +kernel
theorem dX8_takes_47 : decode cX8_takes 47 = .ok (.iconst 1, 1) := by decide +kernel
theorem dX8_takes_48 : decode cX8_takes 48 = .ok (.goto 4, 3) := by decide +kernel
theorem dX8_takes_51 : decode cX8_takes 51 = .ok (.iconst 0, 1) := by decide +kernel
theorem dX8_takes_52 : decode cX8_takes 52 = .ok (.iadd, 1) := by decide +kernel
theorem dX8_takes_53 : decode cX8_takes 53 = .ok (.putfield 110, 3) := by decide +kernel
theorem dX8_takes_56 : decode cX8_takes 56 = .ok (.iload_n 3, 1) := by decide +kernel
theorem dX8_takes_57 : decode cX8_takes 57 = .ok (.ireturn, 1) := by decide +kernel
set_option maxRecDepth 20000 in
theorem ggX8_readsEntry_X8_takes : GoodIn wsX8_readsEntry wsX8_takes := goodIn_r _ [9, 1, 10, 11, 12, 13, 8, 14, 15, 16, 17, 18, 19, 20, 21, 22, 23, 24, 25, 26, 27, 28, 29, 30, 31, 32, 33] (by decide +kernel) (by decide +kernel)
set_option maxRecDepth 20000 in
theorem gX8_readsEntry_X8_takes : GoodIn wsX8_readsEntry (wsV RX8 124 RX8 yX8_takes wsX8_takes) := goodIn_app (goodIn_of _ (by decide +kernel)) ggX8_readsEntry_X8_takes
set_option maxRecDepth 20000 in
theorem ggX8_readsEntry_X8_sign : GoodIn wsX8_readsEntry wsX8_sign := goodIn_r _ [14, 10, 15, 16, 20, 21, 22, 23, 24, 25, 26, 27, 28, 29, 30, 31, 32, 33] (by decide +kernel) (by decide +kernel)
set_option maxRecDepth 20000 in
theorem gX8_readsEntry_X8_sign : GoodIn wsX8_readsEntry (wsV RX8 120 RX8 yX8_sign wsX8_sign) := goodIn_app (goodIn_of _ (by decide +kernel)) ggX8_readsEntry_X8_sign
set_option maxRecDepth 20000 in
theorem ggX8_readsEntry_X8_in : GoodIn wsX8_readsEntry wsX8_in := goodIn_r _ [19] (by decide +kernel) (by decide +kernel)
set_option maxRecDepth 20000 in
theorem gX8_readsEntry_X8_in : GoodIn wsX8_readsEntry (va_wsS RX8 35 yX8_in wsX8_in) := goodIn_app (goodIn_of _ (by decide +kernel)) ggX8_readsEntry_X8_in
theorem dX8_readsEntry_0 : decode cX8_readsEntry 0 = .ok (.aload_n 0, 1) := by decide +kernel
theorem dX8_readsEntry_1 : decode cX8_readsEntry 1 = .ok (.bipush 48, 2) := by decide +kernel
theorem dX8_readsEntry_3 : decode cX8_readsEntry 3 = .ok (.bipush 57, 2) := by decide +kernel
theorem dX8_readsEntry_5 : decode cX8_readsEntry 5 = .ok (.invokevirtual 124, 3) := by decide +kernel
theorem dX8_readsEntry_8 : decode cX8_readsEntry 8 = .ok (.istore_n 1, 1) := by decide +kernel
theorem dX8_readsEntry_9 : decode cX8_readsEntry 9 = .ok (.iconst 1, 1) := by decide +kernel
theorem dX8_readsEntry_10 : decode cX8_readsEntry 10 = .ok (.istore_n 2, 1) := by decide +kernel
theorem dX8_readsEntry_11 : decode cX8_readsEntry 11 = .ok (.iload_n 2, 1) := by decide +kernel
theorem dX8_readsEntry_12 : decode cX8_readsEntry 12 = .ok (.iconst 4, 1) := by decide +kernel
theorem dX8_readsEntry_13 : decode cX8_readsEntry 13 = .ok (.if_icmp .ge 48, 3) := by decide +kernel
theorem dX8_readsEntry_16 : decode cX8_readsEntry 16 = .ok (.aload_n 0, 1) := by decide +kernel
theorem dX8_readsEntry_17 : decode cX8_readsEntry 17 = .ok (.getfield 116, 3) := by decide +kernel
theorem dX8_readsEntry_20 : decode cX8_readsEntry 20 = .ok (.ifCond .eq 41, 3) := by decide +kernel
theorem dX8_readsEntry_23 : decode cX8_readsEntry 23 = .ok (.iload_n 1, 1) := by decide +kernel
theorem dX8_readsEntry_24 : decode cX8_readsEntry 24 = .ok (.ifCond .le 37, 3) := by decide +kernel
theorem dX8_readsEntry_27 : decode cX8_readsEntry 27 = .ok (.aload_n 0, 1) := by decide +kernel
theorem dX8_readsEntry_28 : decode cX8_readsEntry 28 = .ok (.invokevirtual 120, 3) := by decide +kernel
theorem dX8_readsEntry_31 : decode cX8_readsEntry 31 = .ok (.bipush 48, 2) := by decide +kernel
theorem dX8_readsEntry_33 : decode cX8_readsEntry 33 = .ok (.bipush 57, 2) := by decide +kernel
theorem dX8_readsEntry_35 : decode cX8_readsEntry 35 = .ok (.invokestatic 35, 3) := by decide +kernel
theorem dX8_readsEntry_38 : decode cX8_readsEntry 38 = .ok (.ifCond .eq 23, 3) := by decide +kernel
theorem dX8_readsEntry_41 : decode cX8_readsEntry 41 = .ok (.bipush 10, 2) := by decide +kernel
theorem dX8_readsEntry_43 : decode cX8_readsEntry 43 = .ok (.iload_n 1, 1) := by decide +kernel
theorem dX8_readsEntry_44 : decode cX8_readsEntry 44 = .ok (.imul, 1) := by decide +kernel
theorem dX8_readsEntry_45 : decode cX8_readsEntry 45 = .ok (.aload_n 0, 1) := by decide +kernel
theorem dX8_readsEntry_46 : decode cX8_readsEntry 46 = .ok (.bipush 48, 2) := by decide +kernel
theorem dX8_readsEntry_48 : decode cX8_readsEntry 48 = .ok (.bipush 57, 2) := by decide +kernel
theorem dX8_readsEntry_50 : decode cX8_readsEntry 50 = .ok (.invokevirtual 124, 3) := by decide +kernel
theorem dX8_readsEntry_53 : decode cX8_readsEntry 53 = .ok (.iadd, 1) := by decide +kernel
theorem dX8_readsEntry_54 : decode cX8_readsEntry 54 = .ok (.istore_n 1, 1) := by decide +kernel
theorem dX8_readsEntry_55 : decode cX8_readsEntry 55 = .ok (.iinc 2 1, 3) := by decide +kernel
theorem dX8_readsEntry_58 : decode cX8_readsEntry 58 = .ok (.goto (-47), 3) := by decide +kernel
theorem dX8_readsEntry_61 : decode cX8_readsEntry 61 = .ok (.aload_n 0, 1) := by decide +kernel
theorem dX8_readsEntry_62 : decode cX8_readsEntry 62 = .ok (.bipush 58, 2) := by decide +kernel
theorem dX8_readsEntry_64 : decode cX8_readsEntry 64 = .ok (.bipush 58, 2) := by decide +kernel
theorem dX8_readsEntry_66 : decode cX8_readsEntry 66 = .ok (.invokevirtual 124, 3) := by decide +kernel
theorem dX8_readsEntry_69 : decode cX8_readsEntry 69 = .ok (.pop, 1) := by decide +kernel
theorem dX8_readsEntry_70 : decode cX8_readsEntry 70 = .ok (.aload_n 0, 1) := by decide +kernel
theorem dX8_readsEntry_71 : decode cX8_readsEntry 71 = .ok (.bipush 48, 2) := by decide +kernel
theorem dX8_readsEntry_73 : decode cX8_readsEntry 73 = .ok (.bipush 57, 2) := by decide +kernel
theorem dX8_readsEntry_75 : decode cX8_readsEntry 75 = .ok (.invokevirtual 124, 3) := by decide +kernel
theorem dX8_readsEntry_78 : decode cX8_readsEntry 78 = .ok (.istore_n 2, 1) := by decide +kernel
theorem dX8_readsEntry_79 : decode cX8_readsEntry 79 = .ok (.aload_n 0, 1) := by decide +kernel
theorem dX8_readsEntry_80 : decode cX8_readsEntry 80 = .ok (.getfield 116, 3) := by decide +kernel
theorem dX8_readsEntry_83 : decode cX8_readsEntry 83 = .ok (.ifCond .eq 33, 3) := by decide +kernel
theorem dX8_readsEntry_86 : decode cX8_readsEntry 86 = .ok (.aload_n 0, 1) := by decide +kernel
theorem dX8_readsEntry_87 : decode cX8_readsEntry 87 = .ok (.getfield 25, 3) := by decide +kernel
theorem dX8_readsEntry_90 : decode cX8_readsEntry 90 = .ok (.aload_n 0, 1) := by decide +kernel
theorem dX8_readsEntry_91 : decode cX8_readsEntry 91 = .ok (.getfield 127, 3) := by decide +kernel
theorem dX8_readsEntry_94 : decode cX8_readsEntry 94 = .ok (.iload_n 1, 1) := by decide +kernel
theorem dX8_readsEntry_95 : decode cX8_readsEntry 95 = .ok (.iastore, 1) := by decide +kernel
theorem dX8_readsEntry_96 : decode cX8_readsEntry 96 = .ok (.aload_n 0, 1) := by decide +kernel
theorem dX8_readsEntry_97 : decode cX8_readsEntry 97 = .ok (.getfield 28, 3) := by decide +kernel
theorem dX8_readsEntry_100 : decode cX8_readsEntry 100 = .ok (.aload_n 0, 1) := by decide +kernel
theorem dX8_readsEntry_101 : decode cX8_readsEntry 101 = .ok (.getfield 127, 3) := by decide +kernel
theorem dX8_readsEntry_104 : decode cX8_readsEntry 104 = .ok (.iload_n 2, 1) := by decide +kernel
theorem dX8_readsEntry_105 : decode cX8_readsEntry 105 = .ok (.iastore, 1) := by decide +kernel
theorem dX8_readsEntry_106 : decode cX8_readsEntry 106 = .ok (.aload_n 0, 1) := by decide +kernel
theorem dX8_readsEntry_107 : decode cX8_readsEntry 107 = .ok (.dup, 1) := by decide +kernel
theorem dX8_readsEntry_108 : decode cX8_readsEntry 108 = .ok (.getfield 127, 3) := by decide +kernel
theorem dX8_readsEntry_111 : decode cX8_readsEntry 111 = .ok (.iconst 1, 1) := by decide +kernel
theorem dX8_readsEntry_112 : decode cX8_readsEntry 112 = .ok (.iadd, 1) := by decide +kernel
theorem dX8_readsEntry_113 : decode cX8_readsEntry 113 = .ok (.putfield 127, 3) := by decide +kernel
theorem dX8_readsEntry_116 : decode cX8_readsEntry 116 = .ok (.return_, 1) := by decide +kernel
set_option maxRecDepth 20000 in
theorem ggX8_reads_X8_readsEntry : GoodIn wsX8_reads wsX8_readsEntry := goodIn_r _ [9, 2, 10, 3, 11, 12, 13, 14, 8, 15, 1, 16, 17, 18, 19, 4, 20, 21, 22, 23, 24, 25, 26, 27, 28, 29, 30, 31, 32, 33, 34, 35, 36, 37] (by decide +kernel) (by decide +kernel)
set_option maxRecDepth 20000 in
theorem gX8_reads_X8_readsEntry : GoodIn wsX8_reads (wsV RX8 130 RX8 yX8_readsEntry wsX8_readsEntry) := goodIn_app (goodIn_of _ (by decide +kernel)) ggX8_reads_X8_readsEntry
set_option maxRecDepth 20000 in
theorem ggX8_reads_X8_takes : GoodIn wsX8_reads wsX8_takes := goodIn_r _ [15, 2, 1, 16, 17, 18, 8, 19, 4, 20, 21, 22, 23, 24, 25, 26, 27, 28, 29, 30, 31, 32, 33, 34, 35, 36, 37] (by decide +kernel) (by decide +kernel)
set_option maxRecDepth 20000 in
theorem gX8_reads_X8_takes : GoodIn wsX8_reads (wsV RX8 124 RX8 yX8_takes wsX8_takes) := goodIn_app (goodIn_of _ (by decide +kernel)) ggX8_reads_X8_takes
theorem dX8_reads_0 : decode cX8_reads 0 = .ok (.aload_n 0, 1) := by decide +kernel
theorem dX8_reads_1 : decode cX8_reads 1 = .ok (.iconst 0, 1) := by decide +kernel
theorem dX8_reads_2 : decode cX8_reads 2 = .ok (.putfield 110, 3) := by decide +kernel
theorem dX8_reads_5 : decode cX8_reads 5 = .ok (.aload_n 0, 1) := by decide +kernel
theorem dX8_reads_6 : decode cX8_reads 6 = .ok (.iconst 1, 1) := by decide +kernel
theorem dX8_reads_7 : decode cX8_reads 7 = .ok (.putfield 116, 3) := by decide +kernel
theorem dX8_reads_10 : decode cX8_reads 10 = .ok (.aload_n 0, 1) := by decide +kernel
theorem dX8_reads_11 : decode cX8_reads 11 = .ok (.iconst 0, 1) := by decide +kernel
theorem dX8_reads_12 : decode cX8_reads 12 = .ok (.putfield 127, 3) := by decide +kernel
theorem dX8_reads_15 : decode cX8_reads 15 = .ok (.aload_n 0, 1) := by decide +kernel
theorem dX8_reads_16 : decode cX8_reads 16 = .ok (.invokevirtual 130, 3) := by decide +kernel
theorem dX8_reads_19 : decode cX8_reads 19 = .ok (.aload_n 0, 1) := by decide +kernel
theorem dX8_reads_20 : decode cX8_reads 20 = .ok (.getfield 116, 3) := by decide +kernel
theorem dX8_reads_23 : decode cX8_reads 23 = .ok (.ifCond .eq 37, 3) := by decide +kernel
theorem dX8_reads_26 : decode cX8_reads 26 = .ok (.aload_n 0, 1) := by decide +kernel
theorem dX8_reads_27 : decode cX8_reads 27 = .ok (.getfield 110, 3) := by decide +kernel
theorem dX8_reads_30 : decode cX8_reads 30 = .ok (.aload_n 0, 1) := by decide +kernel
theorem dX8_reads_31 : decode cX8_reads 31 = .ok (.getfield 113, 3) := by decide +kernel
theorem dX8_reads_34 : decode cX8_reads 34 = .ok (.if_icmp .ge 26, 3) := by decide +kernel
theorem dX8_reads_37 : decode cX8_reads 37 = .ok (.aload_n 0, 1) := by decide +kernel
theorem dX8_reads_38 : decode cX8_reads 38 = .ok (.bipush 44, 2) := by decide +kernel
theorem dX8_reads_40 : decode cX8_reads 40 = .ok (.bipush 44, 2) := by decide +kernel
theorem dX8_reads_42 : decode cX8_reads 42 = .ok (.invokevirtual 124, 3) := by decide +kernel
theorem dX8_reads_45 : decode cX8_reads 45 = .ok (.pop, 1) := by decide +kernel
theorem dX8_reads_46 : decode cX8_reads 46 = .ok (.aload_n 0, 1) := by decide +kernel
theorem dX8_reads_47 : decode cX8_reads 47 = .ok (.getfield 116, 3) := by decide +kernel
theorem dX8_reads_50 : decode cX8_reads 50 = .ok (.ifCond .eq (-31), 3) := by decide +kernel
theorem dX8_reads_53 : decode cX8_reads 53 = .ok (.aload_n 0, 1) := by decide +kernel
theorem dX8_reads_54 : decode cX8_reads 54 = .ok (.invokevirtual 130, 3) := by decide +kernel
theorem dX8_reads_57 : decode cX8_reads 57 = .ok (.goto (-38), 3) := by decide +kernel
theorem dX8_reads_60 : decode cX8_reads 60 = .ok (.aload_n 0, 1) := by decide +kernel
theorem dX8_reads_61 : decode cX8_reads 61 = .ok (.getfield 116, 3) := by decide +kernel
theorem dX8_reads_64 : decode cX8_reads 64 = .ok (.ifCond .eq 8, 3) := by decide +kernel
theorem dX8_reads_67 : decode cX8_reads 67 = .ok (.bipush (-5), 2) := by decide +kernel
theorem dX8_reads_69 : decode cX8_reads 69 = .ok (.goto 7, 3) := by decide +kernel
theorem dX8_reads_72 : decode cX8_reads 72 = .ok (.aload_n 0, 1) := by decide +kernel
theorem dX8_reads_73 : decode cX8_reads 73 = .ok (.getfield 110, 3) := by decide +kernel
theorem dX8_reads_76 : decode cX8_reads 76 = .ok (.ireturn, 1) := by decide +kernel
theorem dX8_unlikeTicks_0 : decode cX8_unlikeTicks 0 = .ok (.iconst 0, 1) := by decide +kernel
theorem dX8_unlikeTicks_1 : decode cX8_unlikeTicks 1 = .ok (.istore_n 1, 1) := by decide +kernel
theorem dX8_unlikeTicks_2 : decode cX8_unlikeTicks 2 = .ok (.iconst 0, 1) := by decide +kernel
theorem dX8_unlikeTicks_3 : decode cX8_unlikeTicks 3 = .ok (.istore_n 2, 1) := by decide +kernel
theorem dX8_unlikeTicks_4 : decode cX8_unlikeTicks 4 = .ok (.iload_n 2, 1) := by decide +kernel
theorem dX8_unlikeTicks_5 : decode cX8_unlikeTicks 5 = .ok (.aload_n 0, 1) := by decide +kernel
theorem dX8_unlikeTicks_6 : decode cX8_unlikeTicks 6 = .ok (.getfield 127, 3) := by decide +kernel
theorem dX8_unlikeTicks_9 : decode cX8_unlikeTicks 9 = .ok (.if_icmp .ge 64, 3) := by decide +kernel
theorem dX8_unlikeTicks_12 : decode cX8_unlikeTicks 12 = .ok (.iconst 1, 1) := by decide +kernel
theorem dX8_unlikeTicks_13 : decode cX8_unlikeTicks 13 = .ok (.istore_n 3, 1) := by decide +kernel
theorem dX8_unlikeTicks_14 : decode cX8_unlikeTicks 14 = .ok (.iconst 0, 1) := by decide +kernel
theorem dX8_unlikeTicks_15 : decode cX8_unlikeTicks 15 = .ok (.istore 4, 2) := by decide +kernel
theorem dX8_unlikeTicks_17 : decode cX8_unlikeTicks 17 = .ok (.iload 4, 2) := by decide +kernel
theorem dX8_unlikeTicks_19 : decode cX8_unlikeTicks 19 = .ok (.iload_n 2, 1) := by decide +kernel
theorem dX8_unlikeTicks_20 : decode cX8_unlikeTicks 20 = .ok (.if_icmp .ge 35, 3) := by decide +kernel
theorem dX8_unlikeTicks_23 : decode cX8_unlikeTicks 23 = .ok (.iload_n 3, 1) := by decide +kernel
theorem dX8_unlikeTicks_24 : decode cX8_unlikeTicks 24 = .ok (.ifCond .eq 23, 3) := by decide +kernel
theorem dX8_unlikeTicks_27 : decode cX8_unlikeTicks 27 = .ok (.aload_n 0, 1) := by decide +kernel
theorem dX8_unlikeTicks_28 : decode cX8_unlikeTicks 28 = .ok (.getfield 25, 3) := by decide +kernel
theorem dX8_unlikeTicks_31 : decode cX8_unlikeTicks 31 = .ok (.iload 4, 2) := by decide +kernel
theorem dX8_unlikeTicks_33 : decode cX8_unlikeTicks 33 = .ok (.iaload, 1) := by decide +kernel
theorem dX8_unlikeTicks_34 : decode cX8_unlikeTicks 34 = .ok (.aload_n 0, 1) := by decide +kernel
theorem dX8_unlikeTicks_35 : decode cX8_unlikeTicks 35 = .ok (.getfield 25, 3) := by decide +kernel
theorem dX8_unlikeTicks_38 : decode cX8_unlikeTicks 38 = .ok (.iload_n 2, 1) := by decide +kernel
theorem dX8_unlikeTicks_39 : decode cX8_unlikeTicks 39 = .ok (.iaload, 1) := by decide +kernel
theorem dX8_unlikeTicks_40 : decode cX8_unlikeTicks 40 = .ok (.if_icmp .eq 7, 3) := by decide +kernel
theorem dX8_unlikeTicks_43 : decode cX8_unlikeTicks 43 = .ok (.iconst 1, 1) := by decide +kernel
theorem dX8_unlikeTicks_44 : decode cX8_unlikeTicks 44 = .ok (.goto 4, 3) := by decide +kernel
theorem dX8_unlikeTicks_47 : decode cX8_unlikeTicks 47 = .ok (.iconst 0, 1) := by decide +kernel
theorem dX8_unlikeTicks_48 : decode cX8_unlikeTicks 48 = .ok (.istore_n 3, 1) := by decide +kernel
theorem dX8_unlikeTicks_49 : decode cX8_unlikeTicks 49 = .ok (.iinc 4 1, 3) := by decide +kernel
theorem dX8_unlikeTicks_52 : decode cX8_unlikeTicks 52 = .ok (.goto (-35), 3) := by decide +kernel
theorem dX8_unlikeTicks_55 : decode cX8_unlikeTicks 55 = .ok (.iload_n 1, 1) := by decide +kernel
theorem dX8_unlikeTicks_56 : decode cX8_unlikeTicks 56 = .ok (.iload_n 3, 1) := by decide +kernel
theorem dX8_unlikeTicks_57 : decode cX8_unlikeTicks 57 = .ok (.ifCond .eq 7, 3) := by decide +kernel
theorem dX8_unlikeTicks_60 : decode cX8_unlikeTicks 60 = .ok (.iconst 1, 1) := by decide +kernel
theorem dX8_unlikeTicks_61 : decode cX8_unlikeTicks 61 = .ok (.goto 4, 3) := by decide +kernel
theorem dX8_unlikeTicks_64 : decode cX8_unlikeTicks 64 = .ok (.iconst 0, 1) := by decide +kernel
theorem dX8_unlikeTicks_65 : decode cX8_unlikeTicks 65 = .ok (.iadd, 1) := by decide +kernel
theorem dX8_unlikeTicks_66 : decode cX8_unlikeTicks 66 = .ok (.istore_n 1, 1) := by decide +kernel
theorem dX8_unlikeTicks_67 : decode cX8_unlikeTicks 67 = .ok (.iinc 2 1, 3) := by decide +kernel
theorem dX8_unlikeTicks_70 : decode cX8_unlikeTicks 70 = .ok (.goto (-66), 3) := by decide +kernel
theorem dX8_unlikeTicks_73 : decode cX8_unlikeTicks 73 = .ok (.iload_n 1, 1) := by decide +kernel
theorem dX8_unlikeTicks_74 : decode cX8_unlikeTicks 74 = .ok (.ireturn, 1) := by decide +kernel
set_option maxRecDepth 20000 in
theorem ggX8_readPlan_X8_reads : GoodIn wsX8_readPlan wsX8_reads := goodIn_r _ [10, 11, 12, 3, 13, 14, 15, 16, 9, 17, 4, 5, 18, 19, 20, 21, 22, 23, 24, 25, 26, 27, 28, 29, 48, 49, 50, 51, 52, 53, 54, 55, 56, 57, 58, 59, 60, 61] (by decide +kernel) (by decide +kernel)
set_option maxRecDepth 20000 in
theorem gX8_readPlan_X8_reads : GoodIn wsX8_readPlan (wsV RX8 133 RX8 yX8_reads wsX8_reads) := goodIn_app (goodIn_of _ (by decide +kernel)) ggX8_readPlan_X8_reads
set_option maxRecDepth 20000 in
theorem ggX8_readPlan_X8_unlikeTicks : GoodIn wsX8_readPlan wsX8_unlikeTicks := goodIn_r _ [33, 3, 4, 48, 49, 50, 51, 52, 53, 54, 55, 56, 57, 58, 59, 60, 61] (by decide +kernel) (by decide +kernel)
set_option maxRecDepth 20000 in
theorem gX8_readPlan_X8_unlikeTicks : GoodIn wsX8_readPlan (wsV RX8 136 RX8 yX8_unlikeTicks wsX8_unlikeTicks) := goodIn_app (goodIn_of _ (by decide +kernel)) ggX8_readPlan_X8_unlikeTicks
set_option maxRecDepth 20000 in
theorem ggX8_readPlan_X8_records : GoodIn wsX8_readPlan wsX8_records := goodIn_r _ [37, 38, 39, 2, 48, 49, 50, 51, 52, 53, 54, 55, 56, 57, 58, 59, 60, 61] (by decide +kernel) (by decide +kernel)
set_option maxRecDepth 20000 in
theorem gX8_readPlan_X8_records : GoodIn wsX8_readPlan (wsV RX8 98 RX8 yX8_records wsX8_records) := goodIn_app (goodIn_of _ (by decide +kernel)) ggX8_readPlan_X8_records
set_option maxRecDepth 20000 in
theorem ggX8_readPlan_X8_plans : GoodIn wsX8_readPlan wsX8_plans := goodIn_r _ [43, 2, 44, 45, 46, 9, 47, 48, 49, 50, 51, 52, 53, 54, 55, 56, 57, 58, 59, 60, 61] (by decide +kernel) (by decide +kernel)
set_option maxRecDepth 20000 in
theorem gX8_readPlan_X8_plans : GoodIn wsX8_readPlan (wsV RX8 107 RX8 yX8_plans wsX8_plans) := goodIn_app (goodIn_of _ (by decide +kernel)) ggX8_readPlan_X8_plans
theorem dX8_readPlan_0 : decode cX8_readPlan 0 = .ok (.aload_n 0, 1) := by decide +kernel
theorem dX8_readPlan_1 : decode cX8_readPlan 1 = .ok (.iconst 0, 1) := by decide +kernel
theorem dX8_readPlan_2 : decode cX8_readPlan 2 = .ok (.putfield 31, 3) := by decide +kernel
theorem dX8_readPlan_5 : decode cX8_readPlan 5 = .ok (.aload_n 0, 1) := by decide +kernel
theorem dX8_readPlan_6 : decode cX8_readPlan 6 = .ok (.invokevirtual 133, 3) := by decide +kernel
theorem dX8_readPlan_9 : decode cX8_readPlan 9 = .ok (.istore_n 1, 1) := by decide +kernel
theorem dX8_readPlan_10 : decode cX8_readPlan 10 = .ok (.iload_n 1, 1) := by decide +kernel
theorem dX8_readPlan_11 : decode cX8_readPlan 11 = .ok (.bipush (-5), 2) := by decide +kernel
theorem dX8_readPlan_13 : decode cX8_readPlan 13 = .ok (.if_icmp .eq 8, 3) := by decide +kernel
theorem dX8_readPlan_16 : decode cX8_readPlan 16 = .ok (.bipush (-100), 2) := by decide +kernel
theorem dX8_readPlan_18 : decode cX8_readPlan 18 = .ok (.iload_n 1, 1) := by decide +kernel
theorem dX8_readPlan_19 : decode cX8_readPlan 19 = .ok (.isub, 1) := by decide +kernel
theorem dX8_readPlan_20 : decode cX8_readPlan 20 = .ok (.ireturn, 1) := by decide +kernel
theorem dX8_readPlan_21 : decode cX8_readPlan 21 = .ok (.aload_n 0, 1) := by decide +kernel
theorem dX8_readPlan_22 : decode cX8_readPlan 22 = .ok (.invokevirtual 136, 3) := by decide +kernel
theorem dX8_readPlan_25 : decode cX8_readPlan 25 = .ok (.bipush 12, 2) := by decide +kernel
theorem dX8_readPlan_27 : decode cX8_readPlan 27 = .ok (.if_icmp .le 6, 3) := by decide +kernel
theorem dX8_readPlan_30 : decode cX8_readPlan 30 = .ok (.bipush (-3), 2) := by decide +kernel
theorem dX8_readPlan_32 : decode cX8_readPlan 32 = .ok (.ireturn, 1) := by decide +kernel
theorem dX8_readPlan_33 : decode cX8_readPlan 33 = .ok (.aload_n 0, 1) := by decide +kernel
theorem dX8_readPlan_34 : decode cX8_readPlan 34 = .ok (.invokevirtual 98, 3) := by decide +kernel
theorem dX8_readPlan_37 : decode cX8_readPlan 37 = .ok (.iconst 0, 1) := by decide +kernel
theorem dX8_readPlan_38 : decode cX8_readPlan 38 = .ok (.istore_n 2, 1) := by decide +kernel
theorem dX8_readPlan_39 : decode cX8_readPlan 39 = .ok (.iload_n 2, 1) := by decide +kernel
theorem dX8_readPlan_40 : decode cX8_readPlan 40 = .ok (.bipush 24, 2) := by decide +kernel
theorem dX8_readPlan_42 : decode cX8_readPlan 42 = .ok (.if_icmp .ge 19, 3) := by decide +kernel
theorem dX8_readPlan_45 : decode cX8_readPlan 45 = .ok (.aload_n 0, 1) := by decide +kernel
theorem dX8_readPlan_46 : decode cX8_readPlan 46 = .ok (.getfield 7, 3) := by decide +kernel
theorem dX8_readPlan_49 : decode cX8_readPlan 49 = .ok (.bipush 44, 2) := by decide +kernel
theorem dX8_readPlan_51 : decode cX8_readPlan 51 = .ok (.iload_n 2, 1) := by decide +kernel
theorem dX8_readPlan_52 : decode cX8_readPlan 52 = .ok (.iadd, 1) := by decide +kernel
theorem dX8_readPlan_53 : decode cX8_readPlan 53 = .ok (.iconst 0, 1) := by decide +kernel
theorem dX8_readPlan_54 : decode cX8_readPlan 54 = .ok (.iastore, 1) := by decide +kernel
theorem dX8_readPlan_55 : decode cX8_readPlan 55 = .ok (.iinc 2 1, 3) := by decide +kernel
theorem dX8_readPlan_58 : decode cX8_readPlan 58 = .ok (.goto (-19), 3) := by decide +kernel
theorem dX8_readPlan_61 : decode cX8_readPlan 61 = .ok (.aload_n 0, 1) := by decide +kernel
theorem dX8_readPlan_62 : decode cX8_readPlan 62 = .ok (.getfield 7, 3) := by decide +kernel
theorem dX8_readPlan_65 : decode cX8_readPlan 65 = .ok (.bipush 43, 2) := by decide +kernel
theorem dX8_readPlan_67 : decode cX8_readPlan 67 = .ok (.iconst 0, 1) := by decide +kernel
theorem dX8_readPlan_68 : decode cX8_readPlan 68 = .ok (.iastore, 1) := by decide +kernel
theorem dX8_readPlan_69 : decode cX8_readPlan 69 = .ok (.iconst 0, 1) := by decide +kernel
theorem dX8_readPlan_70 : decode cX8_readPlan 70 = .ok (.istore_n 2, 1) := by decide +kernel
theorem dX8_readPlan_71 : decode cX8_readPlan 71 = .ok (.iload_n 2, 1) := by decide +kernel
theorem dX8_readPlan_72 : decode cX8_readPlan 72 = .ok (.aload_n 0, 1) := by decide +kernel
theorem dX8_readPlan_73 : decode cX8_readPlan 73 = .ok (.getfield 127, 3) := by decide +kernel
theorem dX8_readPlan_76 : decode cX8_readPlan 76 = .ok (.if_icmp .ge 25, 3) := by decide +kernel
theorem dX8_readPlan_79 : decode cX8_readPlan 79 = .ok (.aload_n 0, 1) := by decide +kernel
theorem dX8_readPlan_80 : decode cX8_readPlan 80 = .ok (.aload_n 0, 1) := by decide +kernel
theorem dX8_readPlan_81 : decode cX8_readPlan 81 = .ok (.getfield 25, 3) := by decide +kernel
theorem dX8_readPlan_84 : decode cX8_readPlan 84 = .ok (.iload_n 2, 1) := by decide +kernel
theorem dX8_readPlan_85 : decode cX8_readPlan 85 = .ok (.iaload, 1) := by decide +kernel
theorem dX8_readPlan_86 : decode cX8_readPlan 86 = .ok (.aload_n 0, 1) := by decide +kernel
theorem dX8_readPlan_87 : decode cX8_readPlan 87 = .ok (.getfield 28, 3) := by decide +kernel
theorem dX8_readPlan_90 : decode cX8_readPlan 90 = .ok (.iload_n 2, 1) := by decide +kernel
theorem dX8_readPlan_91 : decode cX8_readPlan 91 = .ok (.iaload, 1) := by decide +kernel
theorem dX8_readPlan_92 : decode cX8_readPlan 92 = .ok (.invokevirtual 107, 3) := by decide +kernel
theorem dX8_readPlan_95 : decode cX8_readPlan 95 = .ok (.iinc 2 1, 3) := by decide +kernel
theorem dX8_readPlan_98 : decode cX8_readPlan 98 = .ok (.goto (-27), 3) := by decide +kernel
theorem dX8_readPlan_101 : decode cX8_readPlan 101 = .ok (.aload_n 0, 1) := by decide +kernel
theorem dX8_readPlan_102 : decode cX8_readPlan 102 = .ok (.getfield 7, 3) := by decide +kernel
theorem dX8_readPlan_105 : decode cX8_readPlan 105 = .ok (.bipush 43, 2) := by decide +kernel
theorem dX8_readPlan_107 : decode cX8_readPlan 107 = .ok (.iaload, 1) := by decide +kernel
theorem dX8_readPlan_108 : decode cX8_readPlan 108 = .ok (.ireturn, 1) := by decide +kernel
set_option maxRecDepth 20000 in
theorem ggX8_turn_X8_isBurner : GoodIn wsX8_turn wsX8_isBurner := goodIn_r _ [5, 6, 7, 4, 8] (by decide +kernel) (by decide +kernel)
set_option maxRecDepth 20000 in
theorem gX8_turn_X8_isBurner : GoodIn wsX8_turn (va_wsS RX8 101 yX8_isBurner wsX8_isBurner) := goodIn_app (goodIn_of _ (by decide +kernel)) ggX8_turn_X8_isBurner
set_option maxRecDepth 20000 in
theorem ggX8_turn_X8_in : GoodIn wsX8_turn wsX8_in := goodIn_r _ [8] (by decide +kernel) (by decide +kernel)
set_option maxRecDepth 20000 in
theorem gX8_turn_X8_in : GoodIn wsX8_turn (va_wsS RX8 35 yX8_in wsX8_in) := goodIn_app (goodIn_of _ (by decide +kernel)) ggX8_turn_X8_in
set_option maxRecDepth 20000 in
theorem ggX8_turn_X8_get : GoodIn wsX8_turn wsX8_get := goodIn_r _ [12, 13, 24, 25, 26, 27, 28, 29, 30, 31, 32, 33, 34, 35, 36, 37] (by decide +kernel) (by decide +kernel)
set_option maxRecDepth 20000 in
theorem gX8_turn_X8_get : GoodIn wsX8_turn (wsV RX8 53 RX8 yX8_get wsX8_get) := goodIn_app (goodIn_of _ (by decide +kernel)) ggX8_turn_X8_get
set_option maxRecDepth 20000 in
theorem ggX8_turn_X8_records : GoodIn wsX8_turn wsX8_records := goodIn_r _ [17, 18, 19, 13, 24, 25, 26, 27, 28, 29, 30, 31, 32, 33, 34, 35, 36, 37] (by decide +kernel) (by decide +kernel)
set_option maxRecDepth 20000 in
theorem gX8_turn_X8_records : GoodIn wsX8_turn (wsV RX8 98 RX8 yX8_records wsX8_records) := goodIn_app (goodIn_of _ (by decide +kernel)) ggX8_turn_X8_records
set_option maxRecDepth 20000 in
theorem ggX8_turn_X8_lay : GoodIn wsX8_turn wsX8_lay := goodIn_r _ [23, 13, 24, 25, 26, 27, 28, 29, 30, 31, 32, 33, 34, 35, 36, 37] (by decide +kernel) (by decide +kernel)
set_option maxRecDepth 20000 in
theorem gX8_turn_X8_lay : GoodIn wsX8_turn (wsV RX8 64 RX8 yX8_lay wsX8_lay) := goodIn_app (goodIn_of _ (by decide +kernel)) ggX8_turn_X8_lay
theorem dX8_turn_0 : decode cX8_turn 0 = .ok (.aload_n 0, 1) := by decide +kernel
theorem dX8_turn_1 : decode cX8_turn 1 = .ok (.iconst 0, 1) := by decide +kernel
theorem dX8_turn_2 : decode cX8_turn 2 = .ok (.putfield 31, 3) := by decide +kernel
theorem dX8_turn_5 : decode cX8_turn 5 = .ok (.iload_n 1, 1) := by decide +kernel
theorem dX8_turn_6 : decode cX8_turn 6 = .ok (.invokestatic 101, 3) := by decide +kernel
theorem dX8_turn_9 : decode cX8_turn 9 = .ok (.ifCond .ne 5, 3) := by decide +kernel
theorem dX8_turn_12 : decode cX8_turn 12 = .ok (.iconst (-1), 1) := by decide +kernel
theorem dX8_turn_13 : decode cX8_turn 13 = .ok (.ireturn, 1) := by decide +kernel
theorem dX8_turn_14 : decode cX8_turn 14 = .ok (.iload_n 2, 1) := by decide +kernel
theorem dX8_turn_15 : decode cX8_turn 15 = .ok (.iconst 0, 1) := by decide +kernel
theorem dX8_turn_16 : decode cX8_turn 16 = .ok (.iconst 2, 1) := by decide +kernel
theorem dX8_turn_17 : decode cX8_turn 17 = .ok (.invokestatic 35, 3) := by decide +kernel
theorem dX8_turn_20 : decode cX8_turn 20 = .ok (.ifCond .ne 6, 3) := by decide +kernel
theorem dX8_turn_23 : decode cX8_turn 23 = .ok (.bipush (-2), 2) := by decide +kernel
theorem dX8_turn_25 : decode cX8_turn 25 = .ok (.ireturn, 1) := by decide +kernel
theorem dX8_turn_26 : decode cX8_turn 26 = .ok (.aload_n 0, 1) := by decide +kernel
theorem dX8_turn_27 : decode cX8_turn 27 = .ok (.iload_n 1, 1) := by decide +kernel
theorem dX8_turn_28 : decode cX8_turn 28 = .ok (.iconst 1, 1) := by decide +kernel
theorem dX8_turn_29 : decode cX8_turn 29 = .ok (.invokevirtual 53, 3) := by decide +kernel
theorem dX8_turn_32 : decode cX8_turn 32 = .ok (.istore_n 3, 1) := by decide +kernel
theorem dX8_turn_33 : decode cX8_turn 33 = .ok (.iload_n 3, 1) := by decide +kernel
theorem dX8_turn_34 : decode cX8_turn 34 = .ok (.iload_n 2, 1) := by decide +kernel
theorem dX8_turn_35 : decode cX8_turn 35 = .ok (.if_icmp .ne 6, 3) := by decide +kernel
theorem dX8_turn_38 : decode cX8_turn 38 = .ok (.bipush (-5), 2) := by decide +kernel
theorem dX8_turn_40 : decode cX8_turn 40 = .ok (.ireturn, 1) := by decide +kernel
theorem dX8_turn_41 : decode cX8_turn 41 = .ok (.aload_n 0, 1) := by decide +kernel
theorem dX8_turn_42 : decode cX8_turn 42 = .ok (.invokevirtual 98, 3) := by decide +kernel
theorem dX8_turn_45 : decode cX8_turn 45 = .ok (.aload_n 0, 1) := by decide +kernel
theorem dX8_turn_46 : decode cX8_turn 46 = .ok (.iload_n 1, 1) := by decide +kernel
theorem dX8_turn_47 : decode cX8_turn 47 = .ok (.iconst 1, 1) := by decide +kernel
theorem dX8_turn_48 : decode cX8_turn 48 = .ok (.iload_n 2, 1) := by decide +kernel
theorem dX8_turn_49 : decode cX8_turn 49 = .ok (.invokevirtual 64, 3) := by decide +kernel
theorem dX8_turn_52 : decode cX8_turn 52 = .ok (.aload_n 0, 1) := by decide +kernel
theorem dX8_turn_53 : decode cX8_turn 53 = .ok (.iload_n 1, 1) := by decide +kernel
theorem dX8_turn_54 : decode cX8_turn 54 = .ok (.iconst 4, 1) := by decide +kernel
theorem dX8_turn_55 : decode cX8_turn 55 = .ok (.iload_n 2, 1) := by decide +kernel
theorem dX8_turn_56 : decode cX8_turn 56 = .ok (.ifCond .ne 7, 3) := by decide +kernel
theorem dX8_turn_59 : decode cX8_turn 59 = .ok (.iconst 0, 1) := by decide +kernel
theorem dX8_turn_60 : decode cX8_turn 60 = .ok (.goto 9, 3) := by decide +kernel
theorem dX8_turn_63 : decode cX8_turn 63 = .ok (.aload_n 0, 1) := by decide +kernel
theorem dX8_turn_64 : decode cX8_turn 64 = .ok (.iload_n 1, 1) := by decide +kernel
theorem dX8_turn_65 : decode cX8_turn 65 = .ok (.iconst 4, 1) := by decide +kernel
theorem dX8_turn_66 : decode cX8_turn 66 = .ok (.invokevirtual 53, 3) := by decide +kernel
theorem dX8_turn_69 : decode cX8_turn 69 = .ok (.invokevirtual 64, 3) := by decide +kernel
theorem dX8_turn_72 : decode cX8_turn 72 = .ok (.iload_n 3, 1) := by decide +kernel
theorem dX8_turn_73 : decode cX8_turn 73 = .ok (.ireturn, 1) := by decide +kernel
set_option maxRecDepth 20000 in
theorem ggX8_press_X8_isBurner : GoodIn wsX8_press wsX8_isBurner := goodIn_r _ [5, 6, 7, 4, 8] (by decide +kernel) (by decide +kernel)
set_option maxRecDepth 20000 in
theorem gX8_press_X8_isBurner : GoodIn wsX8_press (va_wsS RX8 101 yX8_isBurner wsX8_isBurner) := goodIn_app (goodIn_of _ (by decide +kernel)) ggX8_press_X8_isBurner
set_option maxRecDepth 20000 in
theorem ggX8_press_X8_get : GoodIn wsX8_press wsX8_get := goodIn_r _ [12, 13, 28, 29, 30, 31, 32, 33, 34, 35, 36, 37, 38, 39, 40, 41] (by decide +kernel) (by decide +kernel)
set_option maxRecDepth 20000 in
theorem gX8_press_X8_get : GoodIn wsX8_press (wsV RX8 53 RX8 yX8_get wsX8_get) := goodIn_app (goodIn_of _ (by decide +kernel)) ggX8_press_X8_get
set_option maxRecDepth 20000 in
theorem ggX8_press_X8_records : GoodIn wsX8_press wsX8_records := goodIn_r _ [17, 18, 19, 13, 28, 29, 30, 31, 32, 33, 34, 35, 36, 37, 38, 39, 40, 41] (by decide +kernel) (by decide +kernel)
set_option maxRecDepth 20000 in
theorem gX8_press_X8_records : GoodIn wsX8_press (wsV RX8 98 RX8 yX8_records wsX8_records) := goodIn_app (goodIn_of _ (by decide +kernel)) ggX8_press_X8_records
set_option maxRecDepth 20000 in
theorem ggX8_press_X8_lay : GoodIn wsX8_press wsX8_lay := goodIn_r _ [23, 13, 28, 29, 30, 31, 32, 33, 34, 35, 36, 37, 38, 39, 40, 41] (by decide +kernel) (by decide +kernel)
set_option maxRecDepth 20000 in
theorem gX8_press_X8_lay : GoodIn wsX8_press (wsV RX8 64 RX8 yX8_lay wsX8_lay) := goodIn_app (goodIn_of _ (by decide +kernel)) ggX8_press_X8_lay
set_option maxRecDepth 20000 in
theorem ggX8_press_X8_isOpen : GoodIn wsX8_press wsX8_isOpen := goodIn_r _ [27, 13, 9, 10, 11, 4, 12, 28, 29, 30, 31, 32, 33, 34, 35, 36, 37, 38, 39, 40, 41] (by decide +kernel) (by decide +kernel)
set_option maxRecDepth 20000 in
theorem gX8_press_X8_isOpen : GoodIn wsX8_press (wsV RX8 60 RX8 yX8_isOpen wsX8_isOpen) := goodIn_app (goodIn_of _ (by decide +kernel)) ggX8_press_X8_isOpen
theorem dX8_press_0 : decode cX8_press 0 = .ok (.aload_n 0, 1) := by decide +kernel
theorem dX8_press_1 : decode cX8_press 1 = .ok (.iconst 0, 1) := by decide +kernel
theorem dX8_press_2 : decode cX8_press 2 = .ok (.putfield 31, 3) := by decide +kernel
theorem dX8_press_5 : decode cX8_press 5 = .ok (.iload_n 1, 1) := by decide +kernel
theorem dX8_press_6 : decode cX8_press 6 = .ok (.invokestatic 101, 3) := by decide +kernel
theorem dX8_press_9 : decode cX8_press 9 = .ok (.ifCond .ne 5, 3) := by decide +kernel
theorem dX8_press_12 : decode cX8_press 12 = .ok (.iconst (-1), 1) := by decide +kernel
theorem dX8_press_13 : decode cX8_press 13 = .ok (.ireturn, 1) := by decide +kernel
theorem dX8_press_14 : decode cX8_press 14 = .ok (.aload_n 0, 1) := by decide +kernel
theorem dX8_press_15 : decode cX8_press 15 = .ok (.iload_n 1, 1) := by decide +kernel
theorem dX8_press_16 : decode cX8_press 16 = .ok (.iconst 2, 1) := by decide +kernel
theorem dX8_press_17 : decode cX8_press 17 = .ok (.invokevirtual 53, 3) := by decide +kernel
theorem dX8_press_20 : decode cX8_press 20 = .ok (.iload_n 2, 1) := by decide +kernel
theorem dX8_press_21 : decode cX8_press 21 = .ok (.ifCond .eq 7, 3) := by decide +kernel
theorem dX8_press_24 : decode cX8_press 24 = .ok (.iconst 1, 1) := by decide +kernel
theorem dX8_press_25 : decode cX8_press 25 = .ok (.goto 4, 3) := by decide +kernel
theorem dX8_press_28 : decode cX8_press 28 = .ok (.iconst 0, 1) := by decide +kernel
theorem dX8_press_29 : decode cX8_press 29 = .ok (.if_icmp .ne 6, 3) := by decide +kernel
theorem dX8_press_32 : decode cX8_press 32 = .ok (.bipush (-5), 2) := by decide +kernel
theorem dX8_press_34 : decode cX8_press 34 = .ok (.ireturn, 1) := by decide +kernel
theorem dX8_press_35 : decode cX8_press 35 = .ok (.aload_n 0, 1) := by decide +kernel
theorem dX8_press_36 : decode cX8_press 36 = .ok (.invokevirtual 98, 3) := by decide +kernel
theorem dX8_press_39 : decode cX8_press 39 = .ok (.aload_n 0, 1) := by decide +kernel
theorem dX8_press_40 : decode cX8_press 40 = .ok (.iload_n 1, 1) := by decide +kernel
theorem dX8_press_41 : decode cX8_press 41 = .ok (.iconst 2, 1) := by decide +kernel
theorem dX8_press_42 : decode cX8_press 42 = .ok (.iload_n 2, 1) := by decide +kernel
theorem dX8_press_43 : decode cX8_press 43 = .ok (.ifCond .eq 7, 3) := by decide +kernel
theorem dX8_press_46 : decode cX8_press 46 = .ok (.iconst 1, 1) := by decide +kernel
theorem dX8_press_47 : decode cX8_press 47 = .ok (.goto 4, 3) := by decide +kernel
theorem dX8_press_50 : decode cX8_press 50 = .ok (.iconst 0, 1) := by decide +kernel
theorem dX8_press_51 : decode cX8_press 51 = .ok (.invokevirtual 64, 3) := by decide +kernel
theorem dX8_press_54 : decode cX8_press 54 = .ok (.aload_n 0, 1) := by decide +kernel
theorem dX8_press_55 : decode cX8_press 55 = .ok (.iload_n 1, 1) := by decide +kernel
theorem dX8_press_56 : decode cX8_press 56 = .ok (.invokevirtual 60, 3) := by decide +kernel
theorem dX8_press_59 : decode cX8_press 59 = .ok (.ifCond .eq 7, 3) := by decide +kernel
theorem dX8_press_62 : decode cX8_press 62 = .ok (.iconst 1, 1) := by decide +kernel
theorem dX8_press_63 : decode cX8_press 63 = .ok (.goto 4, 3) := by decide +kernel
theorem dX8_press_66 : decode cX8_press 66 = .ok (.iconst 0, 1) := by decide +kernel
theorem dX8_press_67 : decode cX8_press 67 = .ok (.ireturn, 1) := by decide +kernel
set_option maxRecDepth 20000 in
theorem ggX8_sumOver_X8_get : GoodIn wsX8_sumOver wsX8_get := goodIn_r _ [5, 6, 7, 8, 9, 10, 11, 12, 13, 14, 15, 16, 17, 18, 19, 20] (by decide +kernel) (by decide +kernel)
set_option maxRecDepth 20000 in
theorem gX8_sumOver_X8_get : GoodIn wsX8_sumOver (wsV RX8 53 RX8 yX8_get wsX8_get) := goodIn_app (goodIn_of _ (by decide +kernel)) ggX8_sumOver_X8_get
theorem dX8_sumOver_0 : decode cX8_sumOver 0 = .ok (.iconst 0, 1) := by decide +kernel
theorem dX8_sumOver_1 : decode cX8_sumOver 1 = .ok (.istore_n 2, 1) := by decide +kernel
theorem dX8_sumOver_2 : decode cX8_sumOver 2 = .ok (.iconst 0, 1) := by decide +kernel
theorem dX8_sumOver_3 : decode cX8_sumOver 3 = .ok (.istore_n 3, 1) := by decide +kernel
theorem dX8_sumOver_4 : decode cX8_sumOver 4 = .ok (.iload_n 3, 1) := by decide +kernel
theorem dX8_sumOver_5 : decode cX8_sumOver 5 = .ok (.iconst 4, 1) := by decide +kernel
theorem dX8_sumOver_6 : decode cX8_sumOver 6 = .ok (.if_icmp .ge 18, 3) := by decide +kernel
theorem dX8_sumOver_9 : decode cX8_sumOver 9 = .ok (.iload_n 2, 1) := by decide +kernel
theorem dX8_sumOver_10 : decode cX8_sumOver 10 = .ok (.aload_n 0, 1) := by decide +kernel
theorem dX8_sumOver_11 : decode cX8_sumOver 11 = .ok (.iload_n 3, 1) := by decide +kernel
theorem dX8_sumOver_12 : decode cX8_sumOver 12 = .ok (.iload_n 1, 1) := by decide +kernel
theorem dX8_sumOver_13 : decode cX8_sumOver 13 = .ok (.invokevirtual 53, 3) := by decide +kernel
theorem dX8_sumOver_16 : decode cX8_sumOver 16 = .ok (.iadd, 1) := by decide +kernel
theorem dX8_sumOver_17 : decode cX8_sumOver 17 = .ok (.istore_n 2, 1) := by decide +kernel
theorem dX8_sumOver_18 : decode cX8_sumOver 18 = .ok (.iinc 3 1, 3) := by decide +kernel
theorem dX8_sumOver_21 : decode cX8_sumOver 21 = .ok (.goto (-17), 3) := by decide +kernel
theorem dX8_sumOver_24 : decode cX8_sumOver 24 = .ok (.iload_n 2, 1) := by decide +kernel
theorem dX8_sumOver_25 : decode cX8_sumOver 25 = .ok (.ireturn, 1) := by decide +kernel
set_option maxRecDepth 20000 in
theorem ggX8_igniter_X8_isBurner : GoodIn wsX8_igniter wsX8_isBurner := goodIn_r _ [5, 6, 7, 4, 8] (by decide +kernel) (by decide +kernel)
set_option maxRecDepth 20000 in
theorem gX8_igniter_X8_isBurner : GoodIn wsX8_igniter (va_wsS RX8 101 yX8_isBurner wsX8_isBurner) := goodIn_app (goodIn_of _ (by decide +kernel)) ggX8_igniter_X8_isBurner
set_option maxRecDepth 20000 in
theorem ggX8_igniter_X8_get : GoodIn wsX8_igniter wsX8_get := goodIn_r _ [12, 13, 28, 29, 30, 31, 32, 33, 34, 35, 36, 37, 38, 39, 40, 41] (by decide +kernel) (by decide +kernel)
set_option maxRecDepth 20000 in
theorem gX8_igniter_X8_get : GoodIn wsX8_igniter (wsV RX8 53 RX8 yX8_get wsX8_get) := goodIn_app (goodIn_of _ (by decide +kernel)) ggX8_igniter_X8_get
set_option maxRecDepth 20000 in
theorem ggX8_igniter_X8_records : GoodIn wsX8_igniter wsX8_records := goodIn_r _ [17, 18, 19, 13, 28, 29, 30, 31, 32, 33, 34, 35, 36, 37, 38, 39, 40, 41] (by decide +kernel) (by decide +kernel)
set_option maxRecDepth 20000 in
theorem gX8_igniter_X8_records : GoodIn wsX8_igniter (wsV RX8 98 RX8 yX8_records wsX8_records) := goodIn_app (goodIn_of _ (by decide +kernel)) ggX8_igniter_X8_records
set_option maxRecDepth 20000 in
theorem ggX8_igniter_X8_lay : GoodIn wsX8_igniter wsX8_lay := goodIn_r _ [23, 13, 28, 29, 30, 31, 32, 33, 34, 35, 36, 37, 38, 39, 40, 41] (by decide +kernel) (by decide +kernel)
set_option maxRecDepth 20000 in
theorem gX8_igniter_X8_lay : GoodIn wsX8_igniter (wsV RX8 64 RX8 yX8_lay wsX8_lay) := goodIn_app (goodIn_of _ (by decide +kernel)) ggX8_igniter_X8_lay
set_option maxRecDepth 20000 in
theorem ggX8_igniter_X8_sumOver : GoodIn wsX8_igniter wsX8_sumOver := goodIn_r _ [27, 9, 10, 11, 4, 12, 13, 28, 29, 30, 31, 32, 33, 34, 35, 36, 37, 38, 39, 40, 41] (by decide +kernel) (by decide +kernel)
set_option maxRecDepth 20000 in
theorem gX8_igniter_X8_sumOver : GoodIn wsX8_igniter (wsV RX8 139 RX8 yX8_sumOver wsX8_sumOver) := goodIn_app (goodIn_of _ (by decide +kernel)) ggX8_igniter_X8_sumOver
theorem dX8_igniter_0 : decode cX8_igniter 0 = .ok (.aload_n 0, 1) := by decide +kernel
theorem dX8_igniter_1 : decode cX8_igniter 1 = .ok (.iconst 0, 1) := by decide +kernel
theorem dX8_igniter_2 : decode cX8_igniter 2 = .ok (.putfield 31, 3) := by decide +kernel
theorem dX8_igniter_5 : decode cX8_igniter 5 = .ok (.iload_n 1, 1) := by decide +kernel
theorem dX8_igniter_6 : decode cX8_igniter 6 = .ok (.invokestatic 101, 3) := by decide +kernel
theorem dX8_igniter_9 : decode cX8_igniter 9 = .ok (.ifCond .ne 5, 3) := by decide +kernel
theorem dX8_igniter_12 : decode cX8_igniter 12 = .ok (.iconst (-1), 1) := by decide +kernel
theorem dX8_igniter_13 : decode cX8_igniter 13 = .ok (.ireturn, 1) := by decide +kernel
theorem dX8_igniter_14 : decode cX8_igniter 14 = .ok (.aload_n 0, 1) := by decide +kernel
theorem dX8_igniter_15 : decode cX8_igniter 15 = .ok (.iload_n 1, 1) := by decide +kernel
theorem dX8_igniter_16 : decode cX8_igniter 16 = .ok (.iconst 3, 1) := by decide +kernel
theorem dX8_igniter_17 : decode cX8_igniter 17 = .ok (.invokevirtual 53, 3) := by decide +kernel
theorem dX8_igniter_20 : decode cX8_igniter 20 = .ok (.iload_n 2, 1) := by decide +kernel
theorem dX8_igniter_21 : decode cX8_igniter 21 = .ok (.ifCond .eq 7, 3) := by decide +kernel
theorem dX8_igniter_24 : decode cX8_igniter 24 = .ok (.iconst 1, 1) := by decide +kernel
theorem dX8_igniter_25 : decode cX8_igniter 25 = .ok (.goto 4, 3) := by decide +kernel
theorem dX8_igniter_28 : decode cX8_igniter 28 = .ok (.iconst 0, 1) := by decide +kernel
theorem dX8_igniter_29 : decode cX8_igniter 29 = .ok (.if_icmp .ne 6, 3) := by decide +kernel
theorem dX8_igniter_32 : decode cX8_igniter 32 = .ok (.bipush (-5), 2) := by decide +kernel
theorem dX8_igniter_34 : decode cX8_igniter 34 = .ok (.ireturn, 1) := by decide +kernel
theorem dX8_igniter_35 : decode cX8_igniter 35 = .ok (.aload_n 0, 1) := by decide +kernel
theorem dX8_igniter_36 : decode cX8_igniter 36 = .ok (.invokevirtual 98, 3) := by decide +kernel
theorem dX8_igniter_39 : decode cX8_igniter 39 = .ok (.aload_n 0, 1) := by decide +kernel
theorem dX8_igniter_40 : decode cX8_igniter 40 = .ok (.iload_n 1, 1) := by decide +kernel
theorem dX8_igniter_41 : decode cX8_igniter 41 = .ok (.iconst 3, 1) := by decide +kernel
theorem dX8_igniter_42 : decode cX8_igniter 42 = .ok (.iload_n 2, 1) := by decide +kernel
theorem dX8_igniter_43 : decode cX8_igniter 43 = .ok (.ifCond .eq 7, 3) := by decide +kernel
theorem dX8_igniter_46 : decode cX8_igniter 46 = .ok (.iconst 1, 1) := by decide +kernel
theorem dX8_igniter_47 : decode cX8_igniter 47 = .ok (.goto 4, 3) := by decide +kernel
theorem dX8_igniter_50 : decode cX8_igniter 50 = .ok (.iconst 0, 1) := by decide +kernel
theorem dX8_igniter_51 : decode cX8_igniter 51 = .ok (.invokevirtual 64, 3) := by decide +kernel
theorem dX8_igniter_54 : decode cX8_igniter 54 = .ok (.aload_n 0, 1) := by decide +kernel
theorem dX8_igniter_55 : decode cX8_igniter 55 = .ok (.iconst 3, 1) := by decide +kernel
theorem dX8_igniter_56 : decode cX8_igniter 56 = .ok (.invokevirtual 139, 3) := by decide +kernel
theorem dX8_igniter_59 : decode cX8_igniter 59 = .ok (.ireturn, 1) := by decide +kernel
set_option maxRecDepth 20000 in
theorem ggX8_light_X8_isBurner : GoodIn wsX8_light wsX8_isBurner := goodIn_r _ [6, 7, 8, 5, 9] (by decide +kernel) (by decide +kernel)
set_option maxRecDepth 20000 in
theorem gX8_light_X8_isBurner : GoodIn wsX8_light (va_wsS RX8 101 yX8_isBurner wsX8_isBurner) := goodIn_app (goodIn_of _ (by decide +kernel)) ggX8_light_X8_isBurner
set_option maxRecDepth 20000 in
theorem ggX8_light_X8_isOpen : GoodIn wsX8_light wsX8_isOpen := goodIn_r _ [13, 2, 14, 15, 16, 5, 17, 46, 47, 48, 49, 50, 51, 52, 53, 54, 55, 56, 57, 58, 59] (by decide +kernel) (by decide +kernel)
set_option maxRecDepth 20000 in
theorem gX8_light_X8_isOpen : GoodIn wsX8_light (wsV RX8 60 RX8 yX8_isOpen wsX8_isOpen) := goodIn_app (goodIn_of _ (by decide +kernel)) ggX8_light_X8_isOpen
set_option maxRecDepth 20000 in
theorem ggX8_light_X8_get : GoodIn wsX8_light wsX8_get := goodIn_r _ [17, 2, 46, 47, 48, 49, 50, 51, 52, 53, 54, 55, 56, 57, 58, 59] (by decide +kernel) (by decide +kernel)
set_option maxRecDepth 20000 in
theorem gX8_light_X8_get : GoodIn wsX8_light (wsV RX8 53 RX8 yX8_get wsX8_get) := goodIn_app (goodIn_of _ (by decide +kernel)) ggX8_light_X8_get
set_option maxRecDepth 20000 in
theorem ggX8_light_X8_records : GoodIn wsX8_light wsX8_records := goodIn_r _ [21, 22, 23, 2, 46, 47, 48, 49, 50, 51, 52, 53, 54, 55, 56, 57, 58, 59] (by decide +kernel) (by decide +kernel)
set_option maxRecDepth 20000 in
theorem gX8_light_X8_records : GoodIn wsX8_light (wsV RX8 98 RX8 yX8_records wsX8_records) := goodIn_app (goodIn_of _ (by decide +kernel)) ggX8_light_X8_records
set_option maxRecDepth 20000 in
theorem ggX8_light_X8_draftAt : GoodIn wsX8_light wsX8_draftAt := goodIn_r _ [27, 2, 46, 47, 48, 49, 50, 51, 52, 53, 54, 55, 56, 57, 58, 59] (by decide +kernel) (by decide +kernel)
set_option maxRecDepth 20000 in
theorem gX8_light_X8_draftAt : GoodIn wsX8_light (wsV RX8 88 RX8 yX8_draftAt wsX8_draftAt) := goodIn_app (goodIn_of _ (by decide +kernel)) ggX8_light_X8_draftAt
set_option maxRecDepth 20000 in
theorem ggX8_light_X8_strength : GoodIn wsX8_light wsX8_strength := goodIn_r _ [31, 14, 15, 16, 5, 17, 2, 32, 33, 34, 35, 36, 37, 46, 47, 48, 49, 50, 51, 52, 53, 54, 55, 56, 57, 58, 59] (by decide +kernel) (by decide +kernel)
set_option maxRecDepth 20000 in
theorem gX8_light_X8_strength : GoodIn wsX8_light (wsV RX8 68 RX8 yX8_strength wsX8_strength) := goodIn_app (goodIn_of _ (by decide +kernel)) ggX8_light_X8_strength
set_option maxRecDepth 20000 in
theorem ggX8_light_X8_lay : GoodIn wsX8_light wsX8_lay := goodIn_r _ [41, 2, 46, 47, 48, 49, 50, 51, 52, 53, 54, 55, 56, 57, 58, 59] (by decide +kernel) (by decide +kernel)
set_option maxRecDepth 20000 in
theorem gX8_light_X8_lay : GoodIn wsX8_light (wsV RX8 64 RX8 yX8_lay wsX8_lay) := goodIn_app (goodIn_of _ (by decide +kernel)) ggX8_light_X8_lay
set_option maxRecDepth 20000 in
theorem ggX8_light_X8_tells : GoodIn wsX8_light wsX8_tells := goodIn_r _ [45, 2, 46, 47, 48, 49, 50, 51, 52, 53, 54, 55, 56, 57, 58, 59] (by decide +kernel) (by decide +kernel)
set_option maxRecDepth 20000 in
theorem gX8_light_X8_tells : GoodIn wsX8_light (wsV RX8 72 RX8 yX8_tells wsX8_tells) := goodIn_app (goodIn_of _ (by decide +kernel)) ggX8_light_X8_tells
theorem dX8_light_0 : decode cX8_light 0 = .ok (.aload_n 0, 1) := by decide +kernel
theorem dX8_light_1 : decode cX8_light 1 = .ok (.iconst 0, 1) := by decide +kernel
theorem dX8_light_2 : decode cX8_light 2 = .ok (.putfield 31, 3) := by decide +kernel
theorem dX8_light_5 : decode cX8_light 5 = .ok (.iload_n 1, 1) := by decide +kernel
theorem dX8_light_6 : decode cX8_light 6 = .ok (.invokestatic 101, 3) := by decide +kernel
theorem dX8_light_9 : decode cX8_light 9 = .ok (.ifCond .ne 5, 3) := by decide +kernel
theorem dX8_light_12 : decode cX8_light 12 = .ok (.iconst (-1), 1) := by decide +kernel
theorem dX8_light_13 : decode cX8_light 13 = .ok (.ireturn, 1) := by decide +kernel
theorem dX8_light_14 : decode cX8_light 14 = .ok (.aload_n 0, 1) := by decide +kernel
theorem dX8_light_15 : decode cX8_light 15 = .ok (.iload_n 1, 1) := by decide +kernel
theorem dX8_light_16 : decode cX8_light 16 = .ok (.invokevirtual 60, 3) := by decide +kernel
theorem dX8_light_19 : decode cX8_light 19 = .ok (.ifCond .eq 28, 3) := by decide +kernel
theorem dX8_light_22 : decode cX8_light 22 = .ok (.aload_n 0, 1) := by decide +kernel
theorem dX8_light_23 : decode cX8_light 23 = .ok (.iload_n 1, 1) := by decide +kernel
theorem dX8_light_24 : decode cX8_light 24 = .ok (.iconst 4, 1) := by decide +kernel
theorem dX8_light_25 : decode cX8_light 25 = .ok (.invokevirtual 53, 3) := by decide +kernel
theorem dX8_light_28 : decode cX8_light 28 = .ok (.iconst 1, 1) := by decide +kernel
theorem dX8_light_29 : decode cX8_light 29 = .ok (.if_icmp .eq 18, 3) := by decide +kernel
theorem dX8_light_32 : decode cX8_light 32 = .ok (.aload_n 0, 1) := by decide +kernel
theorem dX8_light_33 : decode cX8_light 33 = .ok (.getfield 7, 3) := by decide +kernel
theorem dX8_light_36 : decode cX8_light 36 = .ok (.iconst 5, 1) := by decide +kernel
theorem dX8_light_37 : decode cX8_light 37 = .ok (.iaload, 1) := by decide +kernel
theorem dX8_light_38 : decode cX8_light 38 = .ok (.aload_n 0, 1) := by decide +kernel
theorem dX8_light_39 : decode cX8_light 39 = .ok (.getfield 7, 3) := by decide +kernel
theorem dX8_light_42 : decode cX8_light 42 = .ok (.iconst 3, 1) := by decide +kernel
theorem dX8_light_43 : decode cX8_light 43 = .ok (.iaload, 1) := by decide +kernel
theorem dX8_light_44 : decode cX8_light 44 = .ok (.if_icmp .lt 6, 3) := by decide +kernel
theorem dX8_light_47 : decode cX8_light 47 = .ok (.bipush (-4), 2) := by decide +kernel
theorem dX8_light_49 : decode cX8_light 49 = .ok (.ireturn, 1) := by decide +kernel
theorem dX8_light_50 : decode cX8_light 50 = .ok (.aload_n 0, 1) := by decide +kernel
theorem dX8_light_51 : decode cX8_light 51 = .ok (.invokevirtual 98, 3) := by decide +kernel
theorem dX8_light_54 : decode cX8_light 54 = .ok (.aload_n 0, 1) := by decide +kernel
theorem dX8_light_55 : decode cX8_light 55 = .ok (.aload_n 0, 1) := by decide +kernel
theorem dX8_light_56 : decode cX8_light 56 = .ok (.getfield 7, 3) := by decide +kernel
theorem dX8_light_59 : decode cX8_light 59 = .ok (.iconst 4, 1) := by decide +kernel
theorem dX8_light_60 : decode cX8_light 60 = .ok (.iaload, 1) := by decide +kernel
theorem dX8_light_61 : decode cX8_light 61 = .ok (.invokevirtual 88, 3) := by decide +kernel
theorem dX8_light_64 : decode cX8_light 64 = .ok (.aload_n 0, 1) := by decide +kernel
theorem dX8_light_65 : decode cX8_light 65 = .ok (.iload_n 1, 1) := by decide +kernel
theorem dX8_light_66 : decode cX8_light 66 = .ok (.invokevirtual 68, 3) := by decide +kernel
theorem dX8_light_69 : decode cX8_light 69 = .ok (.if_icmp .le 5, 3) := by decide +kernel
theorem dX8_light_72 : decode cX8_light 72 = .ok (.iconst 0, 1) := by decide +kernel
theorem dX8_light_73 : decode cX8_light 73 = .ok (.ireturn, 1) := by decide +kernel
theorem dX8_light_74 : decode cX8_light 74 = .ok (.aload_n 0, 1) := by decide +kernel
theorem dX8_light_75 : decode cX8_light 75 = .ok (.iload_n 1, 1) := by decide +kernel
theorem dX8_light_76 : decode cX8_light 76 = .ok (.iconst 4, 1) := by decide +kernel
theorem dX8_light_77 : decode cX8_light 77 = .ok (.iconst 1, 1) := by decide +kernel
theorem dX8_light_78 : decode cX8_light 78 = .ok (.invokevirtual 64, 3) := by decide +kernel
theorem dX8_light_81 : decode cX8_light 81 = .ok (.aload_n 0, 1) := by decide +kernel
theorem dX8_light_82 : decode cX8_light 82 = .ok (.iload_n 1, 1) := by decide +kernel
theorem dX8_light_83 : decode cX8_light 83 = .ok (.bipush 7, 2) := by decide +kernel
theorem dX8_light_85 : decode cX8_light 85 = .ok (.iconst 0, 1) := by decide +kernel
theorem dX8_light_86 : decode cX8_light 86 = .ok (.invokevirtual 64, 3) := by decide +kernel
theorem dX8_light_89 : decode cX8_light 89 = .ok (.aload_n 0, 1) := by decide +kernel
theorem dX8_light_90 : decode cX8_light 90 = .ok (.iconst 0, 1) := by decide +kernel
theorem dX8_light_91 : decode cX8_light 91 = .ok (.iload_n 1, 1) := by decide +kernel
theorem dX8_light_92 : decode cX8_light 92 = .ok (.invokevirtual 72, 3) := by decide +kernel
theorem dX8_light_95 : decode cX8_light 95 = .ok (.iconst 1, 1) := by decide +kernel
theorem dX8_light_96 : decode cX8_light 96 = .ok (.ireturn, 1) := by decide +kernel
set_option maxRecDepth 20000 in
theorem ggX8_unlock_X8_isBurner : GoodIn wsX8_unlock wsX8_isBurner := goodIn_r _ [5, 6, 7, 4, 8] (by decide +kernel) (by decide +kernel)
set_option maxRecDepth 20000 in
theorem gX8_unlock_X8_isBurner : GoodIn wsX8_unlock (va_wsS RX8 101 yX8_isBurner wsX8_isBurner) := goodIn_app (goodIn_of _ (by decide +kernel)) ggX8_unlock_X8_isBurner
set_option maxRecDepth 20000 in
theorem ggX8_unlock_X8_get : GoodIn wsX8_unlock wsX8_get := goodIn_r _ [12, 13, 28, 29, 30, 31, 32, 33, 34, 35, 36, 37, 38, 39, 40, 41] (by decide +kernel) (by decide +kernel)
set_option maxRecDepth 20000 in
theorem gX8_unlock_X8_get : GoodIn wsX8_unlock (wsV RX8 53 RX8 yX8_get wsX8_get) := goodIn_app (goodIn_of _ (by decide +kernel)) ggX8_unlock_X8_get
set_option maxRecDepth 20000 in
theorem ggX8_unlock_X8_records : GoodIn wsX8_unlock wsX8_records := goodIn_r _ [17, 18, 19, 13, 28, 29, 30, 31, 32, 33, 34, 35, 36, 37, 38, 39, 40, 41] (by decide +kernel) (by decide +kernel)
set_option maxRecDepth 20000 in
theorem gX8_unlock_X8_records : GoodIn wsX8_unlock (wsV RX8 98 RX8 yX8_records wsX8_records) := goodIn_app (goodIn_of _ (by decide +kernel)) ggX8_unlock_X8_records
set_option maxRecDepth 20000 in
theorem ggX8_unlock_X8_lay : GoodIn wsX8_unlock wsX8_lay := goodIn_r _ [23, 13, 28, 29, 30, 31, 32, 33, 34, 35, 36, 37, 38, 39, 40, 41] (by decide +kernel) (by decide +kernel)
set_option maxRecDepth 20000 in
theorem gX8_unlock_X8_lay : GoodIn wsX8_unlock (wsV RX8 64 RX8 yX8_lay wsX8_lay) := goodIn_app (goodIn_of _ (by decide +kernel)) ggX8_unlock_X8_lay
set_option maxRecDepth 20000 in
theorem ggX8_unlock_X8_sumOver : GoodIn wsX8_unlock wsX8_sumOver := goodIn_r _ [27, 9, 10, 11, 4, 12, 13, 28, 29, 30, 31, 32, 33, 34, 35, 36, 37, 38, 39, 40, 41] (by decide +kernel) (by decide +kernel)
set_option maxRecDepth 20000 in
theorem gX8_unlock_X8_sumOver : GoodIn wsX8_unlock (wsV RX8 139 RX8 yX8_sumOver wsX8_sumOver) := goodIn_app (goodIn_of _ (by decide +kernel)) ggX8_unlock_X8_sumOver
theorem dX8_unlock_0 : decode cX8_unlock 0 = .ok (.aload_n 0, 1) := by decide +kernel
theorem dX8_unlock_1 : decode cX8_unlock 1 = .ok (.iconst 0, 1) := by decide +kernel
theorem dX8_unlock_2 : decode cX8_unlock 2 = .ok (.putfield 31, 3) := by decide +kernel
theorem dX8_unlock_5 : decode cX8_unlock 5 = .ok (.iload_n 1, 1) := by decide +kernel
theorem dX8_unlock_6 : decode cX8_unlock 6 = .ok (.invokestatic 101, 3) := by decide +kernel
theorem dX8_unlock_9 : decode cX8_unlock 9 = .ok (.ifCond .ne 5, 3) := by decide +kernel
theorem dX8_unlock_12 : decode cX8_unlock 12 = .ok (.iconst (-1), 1) := by decide +kernel
theorem dX8_unlock_13 : decode cX8_unlock 13 = .ok (.ireturn, 1) := by decide +kernel
theorem dX8_unlock_14 : decode cX8_unlock 14 = .ok (.aload_n 0, 1) := by decide +kernel
theorem dX8_unlock_15 : decode cX8_unlock 15 = .ok (.iload_n 1, 1) := by decide +kernel
theorem dX8_unlock_16 : decode cX8_unlock 16 = .ok (.bipush 6, 2) := by decide +kernel
theorem dX8_unlock_18 : decode cX8_unlock 18 = .ok (.invokevirtual 53, 3) := by decide +kernel
theorem dX8_unlock_21 : decode cX8_unlock 21 = .ok (.ifCond .eq 12, 3) := by decide +kernel
theorem dX8_unlock_24 : decode cX8_unlock 24 = .ok (.aload_n 0, 1) := by decide +kernel
theorem dX8_unlock_25 : decode cX8_unlock 25 = .ok (.iload_n 1, 1) := by decide +kernel
theorem dX8_unlock_26 : decode cX8_unlock 26 = .ok (.iconst 1, 1) := by decide +kernel
theorem dX8_unlock_27 : decode cX8_unlock 27 = .ok (.invokevirtual 53, 3) := by decide +kernel
theorem dX8_unlock_30 : decode cX8_unlock 30 = .ok (.ifCond .eq 6, 3) := by decide +kernel
theorem dX8_unlock_33 : decode cX8_unlock 33 = .ok (.bipush (-4), 2) := by decide +kernel
theorem dX8_unlock_35 : decode cX8_unlock 35 = .ok (.ireturn, 1) := by decide +kernel
theorem dX8_unlock_36 : decode cX8_unlock 36 = .ok (.aload_n 0, 1) := by decide +kernel
theorem dX8_unlock_37 : decode cX8_unlock 37 = .ok (.invokevirtual 98, 3) := by decide +kernel
theorem dX8_unlock_40 : decode cX8_unlock 40 = .ok (.aload_n 0, 1) := by decide +kernel
theorem dX8_unlock_41 : decode cX8_unlock 41 = .ok (.iload_n 1, 1) := by decide +kernel
theorem dX8_unlock_42 : decode cX8_unlock 42 = .ok (.bipush 6, 2) := by decide +kernel
theorem dX8_unlock_44 : decode cX8_unlock 44 = .ok (.iconst 0, 1) := by decide +kernel
theorem dX8_unlock_45 : decode cX8_unlock 45 = .ok (.invokevirtual 64, 3) := by decide +kernel
theorem dX8_unlock_48 : decode cX8_unlock 48 = .ok (.aload_n 0, 1) := by decide +kernel
theorem dX8_unlock_49 : decode cX8_unlock 49 = .ok (.iload_n 1, 1) := by decide +kernel
theorem dX8_unlock_50 : decode cX8_unlock 50 = .ok (.bipush 7, 2) := by decide +kernel
theorem dX8_unlock_52 : decode cX8_unlock 52 = .ok (.iconst 0, 1) := by decide +kernel
theorem dX8_unlock_53 : decode cX8_unlock 53 = .ok (.invokevirtual 64, 3) := by decide +kernel
theorem dX8_unlock_56 : decode cX8_unlock 56 = .ok (.aload_n 0, 1) := by decide +kernel
theorem dX8_unlock_57 : decode cX8_unlock 57 = .ok (.bipush 6, 2) := by decide +kernel
theorem dX8_unlock_59 : decode cX8_unlock 59 = .ok (.invokevirtual 139, 3) := by decide +kernel
theorem dX8_unlock_62 : decode cX8_unlock 62 = .ok (.ireturn, 1) := by decide +kernel
set_option maxRecDepth 20000 in
theorem ggX8_pass_X8_in : GoodIn wsX8_pass wsX8_in := goodIn_r _ [7] (by decide +kernel) (by decide +kernel)
set_option maxRecDepth 20000 in
theorem gX8_pass_X8_in : GoodIn wsX8_pass (va_wsS RX8 35 yX8_in wsX8_in) := goodIn_app (goodIn_of _ (by decide +kernel)) ggX8_pass_X8_in
set_option maxRecDepth 20000 in
theorem ggX8_pass_X8_records : GoodIn wsX8_pass wsX8_records := goodIn_r _ [11, 12, 13, 2, 75, 76, 77, 78, 79, 80, 81, 82, 83, 84, 85, 86, 87, 88] (by decide +kernel) (by decide +kernel)
set_option maxRecDepth 20000 in
theorem gX8_pass_X8_records : GoodIn wsX8_pass (wsV RX8 98 RX8 yX8_records wsX8_records) := goodIn_app (goodIn_of _ (by decide +kernel)) ggX8_pass_X8_records
set_option maxRecDepth 20000 in
theorem ggX8_pass_X8_totals : GoodIn wsX8_pass wsX8_totals := goodIn_r _ [17, 2, 75, 76, 77, 78, 79, 80, 81, 82, 83, 84, 85, 86, 87, 88] (by decide +kernel) (by decide +kernel)
set_option maxRecDepth 20000 in
theorem gX8_pass_X8_totals : GoodIn wsX8_pass (wsV RX8 143 RX8 yX8_totals wsX8_totals) := goodIn_app (goodIn_of _ (by decide +kernel)) ggX8_pass_X8_totals
set_option maxRecDepth 20000 in
theorem ggX8_pass_X8_ticks : GoodIn wsX8_pass wsX8_ticks := goodIn_r _ [21, 2, 22, 23, 24, 6, 25, 26, 27, 28, 29, 30, 31, 32, 33, 34, 35, 36, 37, 38, 39, 40, 41, 42, 43, 44, 45, 46, 47, 48, 49, 50, 51, 52, 53, 54, 55, 56, 57, 58, 59, 60, 61, 62, 63, 64, 65, 66, 67, 68, 69, 70, 71, 72, 73, 74, 75, 76, 77, 78, 79, 80, 81, 82, 83, 84, 85, 86, 87, 88] (by decide +kernel) (by decide +kernel)
set_option maxRecDepth 20000 in
theorem gX8_pass_X8_ticks : GoodIn wsX8_pass (wsV RX8 146 RX8 yX8_ticks wsX8_ticks) := goodIn_app (goodIn_of _ (by decide +kernel)) ggX8_pass_X8_ticks
theorem dX8_pass_0 : decode cX8_pass 0 = .ok (.aload_n 0, 1) := by decide +kernel
theorem dX8_pass_1 : decode cX8_pass 1 = .ok (.iconst 0, 1) := by decide +kernel
theorem dX8_pass_2 : decode cX8_pass 2 = .ok (.putfield 31, 3) := by decide +kernel
theorem dX8_pass_5 : decode cX8_pass 5 = .ok (.iload_n 1, 1) := by decide +kernel
theorem dX8_pass_6 : decode cX8_pass 6 = .ok (.iconst 1, 1) := by decide +kernel
theorem dX8_pass_7 : decode cX8_pass 7 = .ok (.sipush 200, 3) := by decide +kernel
theorem dX8_pass_10 : decode cX8_pass 10 = .ok (.invokestatic 35, 3) := by decide +kernel
theorem dX8_pass_13 : decode cX8_pass 13 = .ok (.ifCond .ne 6, 3) := by decide +kernel
theorem dX8_pass_16 : decode cX8_pass 16 = .ok (.bipush (-2), 2) := by decide +kernel
theorem dX8_pass_18 : decode cX8_pass 18 = .ok (.ireturn, 1) := by decide +kernel
theorem dX8_pass_19 : decode cX8_pass 19 = .ok (.aload_n 0, 1) := by decide +kernel
theorem dX8_pass_20 : decode cX8_pass 20 = .ok (.getfield 7, 3) := by decide +kernel
theorem dX8_pass_23 : decode cX8_pass 23 = .ok (.iconst 4, 1) := by decide +kernel
theorem dX8_pass_24 : decode cX8_pass 24 = .ok (.iaload, 1) := by decide +kernel
theorem dX8_pass_25 : decode cX8_pass 25 = .ok (.iload_n 1, 1) := by decide +kernel
theorem dX8_pass_26 : decode cX8_pass 26 = .ok (.iadd, 1) := by decide +kernel
theorem dX8_pass_27 : decode cX8_pass 27 = .ok (.ldc 142, 2) := by decide +kernel
theorem dX8_pass_29 : decode cX8_pass 29 = .ok (.if_icmp .le 6, 3) := by decide +kernel
theorem dX8_pass_32 : decode cX8_pass 32 = .ok (.bipush (-3), 2) := by decide +kernel
theorem dX8_pass_34 : decode cX8_pass 34 = .ok (.ireturn, 1) := by decide +kernel
theorem dX8_pass_35 : decode cX8_pass 35 = .ok (.aload_n 0, 1) := by decide +kernel
theorem dX8_pass_36 : decode cX8_pass 36 = .ok (.invokevirtual 98, 3) := by decide +kernel
theorem dX8_pass_39 : decode cX8_pass 39 = .ok (.aload_n 0, 1) := by decide +kernel
theorem dX8_pass_40 : decode cX8_pass 40 = .ok (.invokevirtual 143, 3) := by decide +kernel
theorem dX8_pass_43 : decode cX8_pass 43 = .ok (.istore_n 2, 1) := by decide +kernel
theorem dX8_pass_44 : decode cX8_pass 44 = .ok (.iconst 0, 1) := by decide +kernel
theorem dX8_pass_45 : decode cX8_pass 45 = .ok (.istore_n 3, 1) := by decide +kernel
theorem dX8_pass_46 : decode cX8_pass 46 = .ok (.iload_n 3, 1) := by decide +kernel
theorem dX8_pass_47 : decode cX8_pass 47 = .ok (.iload_n 1, 1) := by decide +kernel
theorem dX8_pass_48 : decode cX8_pass 48 = .ok (.if_icmp .ge 13, 3) := by decide +kernel
theorem dX8_pass_51 : decode cX8_pass 51 = .ok (.aload_n 0, 1) := by decide +kernel
theorem dX8_pass_52 : decode cX8_pass 52 = .ok (.invokevirtual 146, 3) := by decide +kernel
theorem dX8_pass_55 : decode cX8_pass 55 = .ok (.iinc 3 1, 3) := by decide +kernel
theorem dX8_pass_58 : decode cX8_pass 58 = .ok (.goto (-12), 3) := by decide +kernel
theorem dX8_pass_61 : decode cX8_pass 61 = .ok (.aload_n 0, 1) := by decide +kernel
theorem dX8_pass_62 : decode cX8_pass 62 = .ok (.invokevirtual 143, 3) := by decide +kernel
theorem dX8_pass_65 : decode cX8_pass 65 = .ok (.iload_n 2, 1) := by decide +kernel
theorem dX8_pass_66 : decode cX8_pass 66 = .ok (.isub, 1) := by decide +kernel
theorem dX8_pass_67 : decode cX8_pass 67 = .ok (.ireturn, 1) := by decide +kernel
theorem dX8_type_0 : decode cX8_type 0 = .ok (.aload_n 0, 1) := by decide +kernel
theorem dX8_type_1 : decode cX8_type 1 = .ok (.iconst 0, 1) := by decide +kernel
theorem dX8_type_2 : decode cX8_type 2 = .ok (.putfield 31, 3) := by decide +kernel
theorem dX8_type_5 : decode cX8_type 5 = .ok (.aload_n 0, 1) := by decide +kernel
theorem dX8_type_6 : decode cX8_type 6 = .ok (.getfield 113, 3) := by decide +kernel
theorem dX8_type_9 : decode cX8_type 9 = .ok (.bipush 60, 2) := by decide +kernel
theorem dX8_type_11 : decode cX8_type 11 = .ok (.if_icmp .ne 6, 3) := by decide +kernel
theorem dX8_type_14 : decode cX8_type 14 = .ok (.bipush (-3), 2) := by decide +kernel
theorem dX8_type_16 : decode cX8_type 16 = .ok (.ireturn, 1) := by decide +kernel
theorem dX8_type_17 : decode cX8_type 17 = .ok (.aload_n 0, 1) := by decide +kernel
theorem dX8_type_18 : decode cX8_type 18 = .ok (.getfield 22, 3) := by decide +kernel
theorem dX8_type_21 : decode cX8_type 21 = .ok (.aload_n 0, 1) := by decide +kernel
theorem dX8_type_22 : decode cX8_type 22 = .ok (.getfield 113, 3) := by decide +kernel
theorem dX8_type_25 : decode cX8_type 25 = .ok (.iload_n 1, 1) := by decide +kernel
theorem dX8_type_26 : decode cX8_type 26 = .ok (.iastore, 1) := by decide +kernel
theorem dX8_type_27 : decode cX8_type 27 = .ok (.aload_n 0, 1) := by decide +kernel
theorem dX8_type_28 : decode cX8_type 28 = .ok (.dup, 1) := by decide +kernel
theorem dX8_type_29 : decode cX8_type 29 = .ok (.getfield 113, 3) := by decide +kernel
theorem dX8_type_32 : decode cX8_type 32 = .ok (.iconst 1, 1) := by decide +kernel
theorem dX8_type_33 : decode cX8_type 33 = .ok (.iadd, 1) := by decide +kernel
theorem dX8_type_34 : decode cX8_type 34 = .ok (.putfield 113, 3) := by decide +kernel
theorem dX8_type_37 : decode cX8_type 37 = .ok (.aload_n 0, 1) := by decide +kernel
theorem dX8_type_38 : decode cX8_type 38 = .ok (.getfield 113, 3) := by decide +kernel
theorem dX8_type_41 : decode cX8_type 41 = .ok (.ireturn, 1) := by decide +kernel
theorem dX8_clearText_0 : decode cX8_clearText 0 = .ok (.aload_n 0, 1) := by decide +kernel
theorem dX8_clearText_1 : decode cX8_clearText 1 = .ok (.iconst 0, 1) := by decide +kernel
theorem dX8_clearText_2 : decode cX8_clearText 2 = .ok (.putfield 31, 3) := by decide +kernel
theorem dX8_clearText_5 : decode cX8_clearText 5 = .ok (.aload_n 0, 1) := by decide +kernel
theorem dX8_clearText_6 : decode cX8_clearText 6 = .ok (.getfield 113, 3) := by decide +kernel
theorem dX8_clearText_9 : decode cX8_clearText 9 = .ok (.istore_n 1, 1) := by decide +kernel
theorem dX8_clearText_10 : decode cX8_clearText 10 = .ok (.aload_n 0, 1) := by decide +kernel
theorem dX8_clearText_11 : decode cX8_clearText 11 = .ok (.iconst 0, 1) := by decide +kernel
theorem dX8_clearText_12 : decode cX8_clearText 12 = .ok (.putfield 113, 3) := by decide +kernel
theorem dX8_clearText_15 : decode cX8_clearText 15 = .ok (.iload_n 1, 1) := by decide +kernel
theorem dX8_clearText_16 : decode cX8_clearText 16 = .ok (.ireturn, 1) := by decide +kernel
theorem dX8_undo_0 : decode cX8_undo 0 = .ok (.aload_n 0, 1) := by decide +kernel
theorem dX8_undo_1 : decode cX8_undo 1 = .ok (.iconst 0, 1) := by decide +kernel
theorem dX8_undo_2 : decode cX8_undo 2 = .ok (.putfield 31, 3) := by decide +kernel
theorem dX8_undo_5 : decode cX8_undo 5 = .ok (.aload_n 0, 1) := by decide +kernel
theorem dX8_undo_6 : decode cX8_undo 6 = .ok (.getfield 39, 3) := by decide +kernel
theorem dX8_undo_9 : decode cX8_undo 9 = .ok (.ifCond .ne 6, 3) := by decide +kernel
theorem dX8_undo_12 : decode cX8_undo 12 = .ok (.bipush (-5), 2) := by decide +kernel
theorem dX8_undo_14 : decode cX8_undo 14 = .ok (.ireturn, 1) := by decide +kernel
theorem dX8_undo_15 : decode cX8_undo 15 = .ok (.aload_n 0, 1) := by decide +kernel
theorem dX8_undo_16 : decode cX8_undo 16 = .ok (.dup, 1) := by decide +kernel
theorem dX8_undo_17 : decode cX8_undo 17 = .ok (.getfield 39, 3) := by decide +kernel
theorem dX8_undo_20 : decode cX8_undo 20 = .ok (.iconst 1, 1) := by decide +kernel
theorem dX8_undo_21 : decode cX8_undo 21 = .ok (.isub, 1) := by decide +kernel
theorem dX8_undo_22 : decode cX8_undo 22 = .ok (.putfield 39, 3) := by decide +kernel
theorem dX8_undo_25 : decode cX8_undo 25 = .ok (.iconst 0, 1) := by decide +kernel
theorem dX8_undo_26 : decode cX8_undo 26 = .ok (.istore_n 1, 1) := by decide +kernel
theorem dX8_undo_27 : decode cX8_undo 27 = .ok (.iload_n 1, 1) := by decide +kernel
theorem dX8_undo_28 : decode cX8_undo 28 = .ok (.bipush 108, 2) := by decide +kernel
theorem dX8_undo_30 : decode cX8_undo 30 = .ok (.if_icmp .ge 29, 3) := by decide +kernel
theorem dX8_undo_33 : decode cX8_undo 33 = .ok (.aload_n 0, 1) := by decide +kernel
theorem dX8_undo_34 : decode cX8_undo 34 = .ok (.getfield 7, 3) := by decide +kernel
theorem dX8_undo_37 : decode cX8_undo 37 = .ok (.iload_n 1, 1) := by decide +kernel
theorem dX8_undo_38 : decode cX8_undo 38 = .ok (.aload_n 0, 1) := by decide +kernel
theorem dX8_undo_39 : decode cX8_undo 39 = .ok (.getfield 16, 3) := by decide +kernel
theorem dX8_undo_42 : decode cX8_undo 42 = .ok (.bipush 108, 2) := by decide +kernel
theorem dX8_undo_44 : decode cX8_undo 44 = .ok (.aload_n 0, 1) := by decide +kernel
theorem dX8_undo_45 : decode cX8_undo 45 = .ok (.getfield 39, 3) := by decide +kernel
theorem dX8_undo_48 : decode cX8_undo 48 = .ok (.imul, 1) := by decide +kernel
theorem dX8_undo_49 : decode cX8_undo 49 = .ok (.iload_n 1, 1) := by decide +kernel
theorem dX8_undo_50 : decode cX8_undo 50 = .ok (.iadd, 1) := by decide +kernel
theorem dX8_undo_51 : decode cX8_undo 51 = .ok (.iaload, 1) := by decide +kernel
theorem dX8_undo_52 : decode cX8_undo 52 = .ok (.iastore, 1) := by decide +kernel
theorem dX8_undo_53 : decode cX8_undo 53 = .ok (.iinc 1 1, 3) := by decide +kernel
theorem dX8_undo_56 : decode cX8_undo 56 = .ok (.goto (-29), 3) := by decide +kernel
theorem dX8_undo_59 : decode cX8_undo 59 = .ok (.aload_n 0, 1) := by decide +kernel
theorem dX8_undo_60 : decode cX8_undo 60 = .ok (.getfield 39, 3) := by decide +kernel
theorem dX8_undo_63 : decode cX8_undo 63 = .ok (.ireturn, 1) := by decide +kernel
theorem dX8_keep_0 : decode cX8_keep 0 = .ok (.aload_n 0, 1) := by decide +kernel
theorem dX8_keep_1 : decode cX8_keep 1 = .ok (.iconst 0, 1) := by decide +kernel
theorem dX8_keep_2 : decode cX8_keep 2 = .ok (.putfield 31, 3) := by decide +kernel
theorem dX8_keep_5 : decode cX8_keep 5 = .ok (.iconst 0, 1) := by decide +kernel
theorem dX8_keep_6 : decode cX8_keep 6 = .ok (.istore_n 1, 1) := by decide +kernel
theorem dX8_keep_7 : decode cX8_keep 7 = .ok (.iload_n 1, 1) := by decide +kernel
theorem dX8_keep_8 : decode cX8_keep 8 = .ok (.bipush 108, 2) := by decide +kernel
theorem dX8_keep_10 : decode cX8_keep 10 = .ok (.if_icmp .ge 21, 3) := by decide +kernel
theorem dX8_keep_13 : decode cX8_keep 13 = .ok (.aload_n 0, 1) := by decide +kernel
theorem dX8_keep_14 : decode cX8_keep 14 = .ok (.getfield 19, 3) := by decide +kernel
theorem dX8_keep_17 : decode cX8_keep 17 = .ok (.iload_n 1, 1) := by decide +kernel
theorem dX8_keep_18 : decode cX8_keep 18 = .ok (.aload_n 0, 1) := by decide +kernel
theorem dX8_keep_19 : decode cX8_keep 19 = .ok (.getfield 7, 3) := by decide +kernel
theorem dX8_keep_22 : decode cX8_keep 22 = .ok (.iload_n 1, 1) := by decide +kernel
theorem dX8_keep_23 : decode cX8_keep 23 = .ok (.iaload, 1) := by decide +kernel
theorem dX8_keep_24 : decode cX8_keep 24 = .ok (.iastore, 1) := by decide +kernel
theorem dX8_keep_25 : decode cX8_keep 25 = .ok (.iinc 1 1, 3) := by decide +kernel
theorem dX8_keep_28 : decode cX8_keep 28 = .ok (.goto (-21), 3) := by decide +kernel
theorem dX8_keep_31 : decode cX8_keep 31 = .ok (.aload_n 0, 1) := by decide +kernel
theorem dX8_keep_32 : decode cX8_keep 32 = .ok (.iconst 1, 1) := by decide +kernel
theorem dX8_keep_33 : decode cX8_keep 33 = .ok (.putfield 149, 3) := by decide +kernel
theorem dX8_keep_36 : decode cX8_keep 36 = .ok (.aload_n 0, 1) := by decide +kernel
theorem dX8_keep_37 : decode cX8_keep 37 = .ok (.getfield 7, 3) := by decide +kernel
theorem dX8_keep_40 : decode cX8_keep 40 = .ok (.iconst 4, 1) := by decide +kernel
theorem dX8_keep_41 : decode cX8_keep 41 = .ok (.iaload, 1) := by decide +kernel
theorem dX8_keep_42 : decode cX8_keep 42 = .ok (.ireturn, 1) := by decide +kernel
set_option maxRecDepth 20000 in
theorem ggX8_restore_X8_records : GoodIn wsX8_restore wsX8_records := goodIn_r _ [9, 10, 11, 3, 12, 13, 14, 15, 16, 17, 18, 19, 20, 21, 22, 23, 24, 25] (by decide +kernel) (by decide +kernel)
set_option maxRecDepth 20000 in
theorem gX8_restore_X8_records : GoodIn wsX8_restore (wsV RX8 98 RX8 yX8_records wsX8_records) := goodIn_app (goodIn_of _ (by decide +kernel)) ggX8_restore_X8_records
theorem dX8_restore_0 : decode cX8_restore 0 = .ok (.aload_n 0, 1) := by decide +kernel
theorem dX8_restore_1 : decode cX8_restore 1 = .ok (.iconst 0, 1) := by decide +kernel
theorem dX8_restore_2 : decode cX8_restore 2 = .ok (.putfield 31, 3) := by decide +kernel
theorem dX8_restore_5 : decode cX8_restore 5 = .ok (.aload_n 0, 1) := by decide +kernel
theorem dX8_restore_6 : decode cX8_restore 6 = .ok (.getfield 149, 3) := by decide +kernel
theorem dX8_restore_9 : decode cX8_restore 9 = .ok (.ifCond .ne 6, 3) := by decide +kernel
theorem dX8_restore_12 : decode cX8_restore 12 = .ok (.bipush (-5), 2) := by decide +kernel
theorem dX8_restore_14 : decode cX8_restore 14 = .ok (.ireturn, 1) := by decide +kernel
theorem dX8_restore_15 : decode cX8_restore 15 = .ok (.aload_n 0, 1) := by decide +kernel
theorem dX8_restore_16 : decode cX8_restore 16 = .ok (.invokevirtual 98, 3) := by decide +kernel
theorem dX8_restore_19 : decode cX8_restore 19 = .ok (.iconst 0, 1) := by decide +kernel
theorem dX8_restore_20 : decode cX8_restore 20 = .ok (.istore_n 1, 1) := by decide +kernel
theorem dX8_restore_21 : decode cX8_restore 21 = .ok (.iload_n 1, 1) := by decide +kernel
theorem dX8_restore_22 : decode cX8_restore 22 = .ok (.bipush 108, 2) := by decide +kernel
theorem dX8_restore_24 : decode cX8_restore 24 = .ok (.if_icmp .ge 21, 3) := by decide +kernel
theorem dX8_restore_27 : decode cX8_restore 27 = .ok (.aload_n 0, 1) := by decide +kernel
theorem dX8_restore_28 : decode cX8_restore 28 = .ok (.getfield 7, 3) := by decide +kernel
theorem dX8_restore_31 : decode cX8_restore 31 = .ok (.iload_n 1, 1) := by decide +kernel
theorem dX8_restore_32 : decode cX8_restore 32 = .ok (.aload_n 0, 1) := by decide +kernel
theorem dX8_restore_33 : decode cX8_restore 33 = .ok (.getfield 19, 3) := by decide +kernel
theorem dX8_restore_36 : decode cX8_restore 36 = .ok (.iload_n 1, 1) := by decide +kernel
theorem dX8_restore_37 : decode cX8_restore 37 = .ok (.iaload, 1) := by decide +kernel
theorem dX8_restore_38 : decode cX8_restore 38 = .ok (.iastore, 1) := by decide +kernel
theorem dX8_restore_39 : decode cX8_restore 39 = .ok (.iinc 1 1, 3) := by decide +kernel
theorem dX8_restore_42 : decode cX8_restore 42 = .ok (.goto (-21), 3) := by decide +kernel
theorem dX8_restore_45 : decode cX8_restore 45 = .ok (.aload_n 0, 1) := by decide +kernel
theorem dX8_restore_46 : decode cX8_restore 46 = .ok (.getfield 7, 3) := by decide +kernel
theorem dX8_restore_49 : decode cX8_restore 49 = .ok (.iconst 4, 1) := by decide +kernel
theorem dX8_restore_50 : decode cX8_restore 50 = .ok (.iaload, 1) := by decide +kernel
theorem dX8_restore_51 : decode cX8_restore 51 = .ok (.ireturn, 1) := by decide +kernel
set_option maxRecDepth 20000 in
theorem ggX8_burner_X8_isBurner : GoodIn wsX8_burner wsX8_isBurner := goodIn_r _ [5, 6, 7, 4, 8] (by decide +kernel) (by decide +kernel)
set_option maxRecDepth 20000 in
theorem gX8_burner_X8_isBurner : GoodIn wsX8_burner (va_wsS RX8 101 yX8_isBurner wsX8_isBurner) := goodIn_app (goodIn_of _ (by decide +kernel)) ggX8_burner_X8_isBurner
set_option maxRecDepth 20000 in
theorem ggX8_burner_X8_isOpen : GoodIn wsX8_burner wsX8_isOpen := goodIn_r _ [12, 13, 14, 15, 16, 4, 17, 28, 29, 30, 31, 32, 33, 34, 35, 36, 37, 38, 39, 40, 41] (by decide +kernel) (by decide +kernel)
set_option maxRecDepth 20000 in
theorem gX8_burner_X8_isOpen : GoodIn wsX8_burner (wsV RX8 60 RX8 yX8_isOpen wsX8_isOpen) := goodIn_app (goodIn_of _ (by decide +kernel)) ggX8_burner_X8_isOpen
set_option maxRecDepth 20000 in
theorem ggX8_burner_X8_get : GoodIn wsX8_burner wsX8_get := goodIn_r _ [17, 13, 28, 29, 30, 31, 32, 33, 34, 35, 36, 37, 38, 39, 40, 41] (by decide +kernel) (by decide +kernel)
set_option maxRecDepth 20000 in
theorem gX8_burner_X8_get : GoodIn wsX8_burner (wsV RX8 53 RX8 yX8_get wsX8_get) := goodIn_app (goodIn_of _ (by decide +kernel)) ggX8_burner_X8_get
set_option maxRecDepth 20000 in
theorem ggX8_burner_X8_strength : GoodIn wsX8_burner wsX8_strength := goodIn_r _ [21, 14, 15, 16, 4, 17, 13, 22, 23, 24, 25, 26, 27, 28, 29, 30, 31, 32, 33, 34, 35, 36, 37, 38, 39, 40, 41] (by decide +kernel) (by decide +kernel)
set_option maxRecDepth 20000 in
theorem gX8_burner_X8_strength : GoodIn wsX8_burner (wsV RX8 68 RX8 yX8_strength wsX8_strength) := goodIn_app (goodIn_of _ (by decide +kernel)) ggX8_burner_X8_strength
set_option maxRecDepth 20000 in
theorem ggX8_burner_X8_in : GoodIn wsX8_burner wsX8_in := goodIn_r _ [8] (by decide +kernel) (by decide +kernel)
set_option maxRecDepth 20000 in
theorem gX8_burner_X8_in : GoodIn wsX8_burner (va_wsS RX8 35 yX8_in wsX8_in) := goodIn_app (goodIn_of _ (by decide +kernel)) ggX8_burner_X8_in
theorem dX8_burner_0 : decode cX8_burner 0 = .ok (.aload_n 0, 1) := by decide +kernel
theorem dX8_burner_1 : decode cX8_burner 1 = .ok (.iconst 0, 1) := by decide +kernel
theorem dX8_burner_2 : decode cX8_burner 2 = .ok (.putfield 31, 3) := by decide +kernel
theorem dX8_burner_5 : decode cX8_burner 5 = .ok (.iload_n 1, 1) := by decide +kernel
theorem dX8_burner_6 : decode cX8_burner 6 = .ok (.invokestatic 101, 3) := by decide +kernel
theorem dX8_burner_9 : decode cX8_burner 9 = .ok (.ifCond .ne 5, 3) := by decide +kernel
theorem dX8_burner_12 : decode cX8_burner 12 = .ok (.iconst (-1), 1) := by decide +kernel
theorem dX8_burner_13 : decode cX8_burner 13 = .ok (.ireturn, 1) := by decide +kernel
theorem dX8_burner_14 : decode cX8_burner 14 = .ok (.iload_n 2, 1) := by decide +kernel
theorem dX8_burner_15 : decode cX8_burner 15 = .ok (.tableswitch 89 6 11 #[37, 51, 59, 67, 75, 83], 37) := by decide +kernel
theorem dX8_burner_52 : decode cX8_burner 52 = .ok (.aload_n 0, 1) := by decide +kernel
theorem dX8_burner_53 : decode cX8_burner 53 = .ok (.iload_n 1, 1) := by decide +kernel
theorem dX8_burner_54 : decode cX8_burner 54 = .ok (.invokevirtual 60, 3) := by decide +kernel
theorem dX8_burner_57 : decode cX8_burner 57 = .ok (.ifCond .eq 7, 3) := by decide +kernel
theorem dX8_burner_60 : decode cX8_burner 60 = .ok (.iconst 1, 1) := by decide +kernel
theorem dX8_burner_61 : decode cX8_burner 61 = .ok (.goto 4, 3) := by decide +kernel
theorem dX8_burner_64 : decode cX8_burner 64 = .ok (.iconst 0, 1) := by decide +kernel
theorem dX8_burner_65 : decode cX8_burner 65 = .ok (.ireturn, 1) := by decide +kernel
theorem dX8_burner_66 : decode cX8_burner 66 = .ok (.aload_n 0, 1) := by decide +kernel
theorem dX8_burner_67 : decode cX8_burner 67 = .ok (.iload_n 1, 1) := by decide +kernel
theorem dX8_burner_68 : decode cX8_burner 68 = .ok (.bipush 6, 2) := by decide +kernel
theorem dX8_burner_70 : decode cX8_burner 70 = .ok (.invokevirtual 53, 3) := by decide +kernel
theorem dX8_burner_73 : decode cX8_burner 73 = .ok (.ireturn, 1) := by decide +kernel
theorem dX8_burner_74 : decode cX8_burner 74 = .ok (.aload_n 0, 1) := by decide +kernel
theorem dX8_burner_75 : decode cX8_burner 75 = .ok (.iload_n 1, 1) := by decide +kernel
theorem dX8_burner_76 : decode cX8_burner 76 = .ok (.bipush 7, 2) := by decide +kernel
theorem dX8_burner_78 : decode cX8_burner 78 = .ok (.invokevirtual 53, 3) := by decide +kernel
theorem dX8_burner_81 : decode cX8_burner 81 = .ok (.ireturn, 1) := by decide +kernel
theorem dX8_burner_82 : decode cX8_burner 82 = .ok (.aload_n 0, 1) := by decide +kernel
theorem dX8_burner_83 : decode cX8_burner 83 = .ok (.iload_n 1, 1) := by decide +kernel
theorem dX8_burner_84 : decode cX8_burner 84 = .ok (.bipush 8, 2) := by decide +kernel
theorem dX8_burner_86 : decode cX8_burner 86 = .ok (.invokevirtual 53, 3) := by decide +kernel
theorem dX8_burner_89 : decode cX8_burner 89 = .ok (.ireturn, 1) := by decide +kernel
theorem dX8_burner_90 : decode cX8_burner 90 = .ok (.aload_n 0, 1) := by decide +kernel
theorem dX8_burner_91 : decode cX8_burner 91 = .ok (.iload_n 1, 1) := by decide +kernel
theorem dX8_burner_92 : decode cX8_burner 92 = .ok (.bipush 9, 2) := by decide +kernel
theorem dX8_burner_94 : decode cX8_burner 94 = .ok (.invokevirtual 53, 3) := by decide +kernel
theorem dX8_burner_97 : decode cX8_burner 97 = .ok (.ireturn, 1) := by decide +kernel
theorem dX8_burner_98 : decode cX8_burner 98 = .ok (.aload_n 0, 1) := by decide +kernel
theorem dX8_burner_99 : decode cX8_burner 99 = .ok (.iload_n 1, 1) := by decide +kernel
theorem dX8_burner_100 : decode cX8_burner 100 = .ok (.invokevirtual 68, 3) := by decide +kernel
theorem dX8_burner_103 : decode cX8_burner 103 = .ok (.ireturn, 1) := by decide +kernel
theorem dX8_burner_104 : decode cX8_burner 104 = .ok (.iload_n 2, 1) := by decide +kernel
theorem dX8_burner_105 : decode cX8_burner 105 = .ok (.iconst 0, 1) := by decide +kernel
theorem dX8_burner_106 : decode cX8_burner 106 = .ok (.iconst 5, 1) := by decide +kernel
theorem dX8_burner_107 : decode cX8_burner 107 = .ok (.invokestatic 35, 3) := by decide +kernel
theorem dX8_burner_110 : decode cX8_burner 110 = .ok (.ifCond .eq 12, 3) := by decide +kernel
theorem dX8_burner_113 : decode cX8_burner 113 = .ok (.aload_n 0, 1) := by decide +kernel
theorem dX8_burner_114 : decode cX8_burner 114 = .ok (.iload_n 1, 1) := by decide +kernel
theorem dX8_burner_115 : decode cX8_burner 115 = .ok (.iload_n 2, 1) := by decide +kernel
theorem dX8_burner_116 : decode cX8_burner 116 = .ok (.invokevirtual 53, 3) := by decide +kernel
theorem dX8_burner_119 : decode cX8_burner 119 = .ok (.goto 5, 3) := by decide +kernel
theorem dX8_burner_122 : decode cX8_burner 122 = .ok (.bipush (-2), 2) := by decide +kernel
theorem dX8_burner_124 : decode cX8_burner 124 = .ok (.ireturn, 1) := by decide +kernel
set_option maxRecDepth 20000 in
theorem ggX8_staysOpen_X8_isBurner : GoodIn wsX8_staysOpen wsX8_isBurner := goodIn_r _ [6, 7, 8, 5, 9] (by decide +kernel) (by decide +kernel)
set_option maxRecDepth 20000 in
theorem gX8_staysOpen_X8_isBurner : GoodIn wsX8_staysOpen (va_wsS RX8 101 yX8_isBurner wsX8_isBurner) := goodIn_app (goodIn_of _ (by decide +kernel)) ggX8_staysOpen_X8_isBurner
set_option maxRecDepth 20000 in
theorem ggX8_staysOpen_X8_get : GoodIn wsX8_staysOpen wsX8_get := goodIn_r _ [13, 2, 20, 21, 22, 23, 24, 25, 26, 27, 28, 29, 30, 31, 32, 33] (by decide +kernel) (by decide +kernel)
set_option maxRecDepth 20000 in
theorem gX8_staysOpen_X8_get : GoodIn wsX8_staysOpen (wsV RX8 53 RX8 yX8_get wsX8_get) := goodIn_app (goodIn_of _ (by decide +kernel)) ggX8_staysOpen_X8_get
set_option maxRecDepth 20000 in
theorem ggX8_staysOpen_X8_cooled : GoodIn wsX8_staysOpen wsX8_cooled := goodIn_r _ [16, 17, 18, 5, 19] (by decide +kernel) (by decide +kernel)
set_option maxRecDepth 20000 in
theorem gX8_staysOpen_X8_cooled : GoodIn wsX8_staysOpen (va_wsS RX8 50 yX8_cooled wsX8_cooled) := goodIn_app (goodIn_of _ (by decide +kernel)) ggX8_staysOpen_X8_cooled
theorem dX8_staysOpen_0 : decode cX8_staysOpen 0 = .ok (.aload_n 0, 1) := by decide +kernel
theorem dX8_staysOpen_1 : decode cX8_staysOpen 1 = .ok (.iconst 0, 1) := by decide +kernel
theorem dX8_staysOpen_2 : decode cX8_staysOpen 2 = .ok (.putfield 31, 3) := by decide +kernel
theorem dX8_staysOpen_5 : decode cX8_staysOpen 5 = .ok (.iload_n 1, 1) := by decide +kernel
theorem dX8_staysOpen_6 : decode cX8_staysOpen 6 = .ok (.invokestatic 101, 3) := by decide +kernel
theorem dX8_staysOpen_9 : decode cX8_staysOpen 9 = .ok (.ifCond .ne 5, 3) := by decide +kernel
theorem dX8_staysOpen_12 : decode cX8_staysOpen 12 = .ok (.iconst (-1), 1) := by decide +kernel
theorem dX8_staysOpen_13 : decode cX8_staysOpen 13 = .ok (.ireturn, 1) := by decide +kernel
theorem dX8_staysOpen_14 : decode cX8_staysOpen 14 = .ok (.aload_n 0, 1) := by decide +kernel
theorem dX8_staysOpen_15 : decode cX8_staysOpen 15 = .ok (.iload_n 1, 1) := by decide +kernel
theorem dX8_staysOpen_16 : decode cX8_staysOpen 16 = .ok (.iconst 1, 1) := by decide +kernel
theorem dX8_staysOpen_17 : decode cX8_staysOpen 17 = .ok (.invokevirtual 53, 3) := by decide +kernel
theorem dX8_staysOpen_20 : decode cX8_staysOpen 20 = .ok (.ifCond .eq 14, 3) := by decide +kernel
theorem dX8_staysOpen_23 : decode cX8_staysOpen 23 = .ok (.aload_n 0, 1) := by decide +kernel
theorem dX8_staysOpen_24 : decode cX8_staysOpen 24 = .ok (.iload_n 1, 1) := by decide +kernel
theorem dX8_staysOpen_25 : decode cX8_staysOpen 25 = .ok (.bipush 6, 2) := by decide +kernel
theorem dX8_staysOpen_27 : decode cX8_staysOpen 27 = .ok (.invokevirtual 53, 3) := by decide +kernel
theorem dX8_staysOpen_30 : decode cX8_staysOpen 30 = .ok (.iconst 1, 1) := by decide +kernel
theorem dX8_staysOpen_31 : decode cX8_staysOpen 31 = .ok (.if_icmp .ne 6, 3) := by decide +kernel
theorem dX8_staysOpen_34 : decode cX8_staysOpen 34 = .ok (.bipush (-4), 2) := by decide +kernel
theorem dX8_staysOpen_36 : decode cX8_staysOpen 36 = .ok (.ireturn, 1) := by decide +kernel
theorem dX8_staysOpen_37 : decode cX8_staysOpen 37 = .ok (.iconst 0, 1) := by decide +kernel
theorem dX8_staysOpen_38 : decode cX8_staysOpen 38 = .ok (.istore_n 2, 1) := by decide +kernel
theorem dX8_staysOpen_39 : decode cX8_staysOpen 39 = .ok (.aload_n 0, 1) := by decide +kernel
theorem dX8_staysOpen_40 : decode cX8_staysOpen 40 = .ok (.iload_n 1, 1) := by decide +kernel
theorem dX8_staysOpen_41 : decode cX8_staysOpen 41 = .ok (.iconst 5, 1) := by decide +kernel
theorem dX8_staysOpen_42 : decode cX8_staysOpen 42 = .ok (.invokevirtual 53, 3) := by decide +kernel
theorem dX8_staysOpen_45 : decode cX8_staysOpen 45 = .ok (.istore_n 3, 1) := by decide +kernel
theorem dX8_staysOpen_46 : decode cX8_staysOpen 46 = .ok (.iload_n 3, 1) := by decide +kernel
theorem dX8_staysOpen_47 : decode cX8_staysOpen 47 = .ok (.aload_n 0, 1) := by decide +kernel
theorem dX8_staysOpen_48 : decode cX8_staysOpen 48 = .ok (.getfield 7, 3) := by decide +kernel
theorem dX8_staysOpen_51 : decode cX8_staysOpen 51 = .ok (.iconst 0, 1) := by decide +kernel
theorem dX8_staysOpen_52 : decode cX8_staysOpen 52 = .ok (.iaload, 1) := by decide +kernel
theorem dX8_staysOpen_53 : decode cX8_staysOpen 53 = .ok (.if_icmp .lt 21, 3) := by decide +kernel
theorem dX8_staysOpen_56 : decode cX8_staysOpen 56 = .ok (.aload_n 0, 1) := by decide +kernel
theorem dX8_staysOpen_57 : decode cX8_staysOpen 57 = .ok (.iload_n 1, 1) := by decide +kernel
theorem dX8_staysOpen_58 : decode cX8_staysOpen 58 = .ok (.iconst 0, 1) := by decide +kernel
theorem dX8_staysOpen_59 : decode cX8_staysOpen 59 = .ok (.invokevirtual 53, 3) := by decide +kernel
theorem dX8_staysOpen_62 : decode cX8_staysOpen 62 = .ok (.iload_n 3, 1) := by decide +kernel
theorem dX8_staysOpen_63 : decode cX8_staysOpen 63 = .ok (.iconst 0, 1) := by decide +kernel
theorem dX8_staysOpen_64 : decode cX8_staysOpen 64 = .ok (.invokestatic 50, 3) := by decide +kernel
theorem dX8_staysOpen_67 : decode cX8_staysOpen 67 = .ok (.istore_n 3, 1) := by decide +kernel
theorem dX8_staysOpen_68 : decode cX8_staysOpen 68 = .ok (.iinc 2 1, 3) := by decide +kernel
theorem dX8_staysOpen_71 : decode cX8_staysOpen 71 = .ok (.goto (-25), 3) := by decide +kernel
theorem dX8_staysOpen_74 : decode cX8_staysOpen 74 = .ok (.iload_n 2, 1) := by decide +kernel
