theorem dX7_clearIn_27 : decode cX7_clearIn 27 = .ok (.ifCond .eq 5, 3) := by decide +kernel
theorem dX7_clearIn_30 : decode cX7_clearIn 30 = .ok (.iload_n 1, 1) := by decide +kernel
theorem dX7_clearIn_31 : decode cX7_clearIn 31 = .ok (.ireturn, 1) := by decide +kernel
theorem dX7_clearIn_32 : decode cX7_clearIn 32 = .ok (.aload_n 0, 1) := by decide +kernel
theorem dX7_clearIn_33 : decode cX7_clearIn 33 = .ok (.getfield 19, 3) := by decide +kernel
theorem dX7_clearIn_36 : decode cX7_clearIn 36 = .ok (.invokevirtual 173, 3) := by decide +kernel
theorem dX7_clearIn_39 : decode cX7_clearIn 39 = .ok (.iinc 1 1, 3) := by decide +kernel
theorem dX7_clearIn_42 : decode cX7_clearIn 42 = .ok (.goto (-29), 3) := by decide +kernel
theorem dX7_clearIn_45 : decode cX7_clearIn 45 = .ok (.bipush (-5), 2) := by decide +kernel
theorem dX7_clearIn_47 : decode cX7_clearIn 47 = .ok (.ireturn, 1) := by decide +kernel
set_option maxRecDepth 20000 in
theorem ggX7_blownIn_X5_find : GoodIn wsX7_blownIn wsX5_find := goodIn_r _ [9, 10, 51, 52, 53, 54, 55, 56, 57, 58] (by decide +kernel) (by decide +kernel)
set_option maxRecDepth 20000 in
theorem gX7_blownIn_X5_find : GoodIn wsX7_blownIn (wsV RX7 73 RX5 yX5_find wsX5_find) := goodIn_app (goodIn_of _ (by decide +kernel)) ggX7_blownIn_X5_find
set_option maxRecDepth 20000 in
theorem ggX7_blownIn_X0_strength : GoodIn wsX7_blownIn wsX0_strength := goodIn_r _ [15, 16, 17, 18, 19, 20, 14, 21, 22, 23, 24, 25, 41, 42, 43, 44, 45, 46, 47, 48, 49, 50] (by decide +kernel) (by decide +kernel)
set_option maxRecDepth 20000 in
theorem gX7_blownIn_X0_strength : GoodIn wsX7_blownIn (wsV RX7 144 RX0 yX0_strength wsX0_strength) := goodIn_app (goodIn_of _ (by decide +kernel)) ggX7_blownIn_X0_strength
set_option maxRecDepth 20000 in
theorem ggX7_blownIn_X3_draftIn : GoodIn wsX7_blownIn wsX3_draftIn := goodIn_r _ [30, 31, 32, 33, 59, 60, 61] (by decide +kernel) (by decide +kernel)
set_option maxRecDepth 20000 in
theorem gX7_blownIn_X3_draftIn : GoodIn wsX7_blownIn (wsV RX7 212 RX3 yX3_draftIn wsX3_draftIn) := goodIn_app (goodIn_of _ (by decide +kernel)) ggX7_blownIn_X3_draftIn
theorem dX7_blownIn_0 : decode cX7_blownIn 0 = .ok (.aload_n 0, 1) := by decide +kernel
theorem dX7_blownIn_1 : decode cX7_blownIn 1 = .ok (.getfield 10, 3) := by decide +kernel
theorem dX7_blownIn_4 : decode cX7_blownIn 4 = .ok (.iload_n 1, 1) := by decide +kernel
theorem dX7_blownIn_5 : decode cX7_blownIn 5 = .ok (.invokevirtual 73, 3) := by decide +kernel
theorem dX7_blownIn_8 : decode cX7_blownIn 8 = .ok (.astore_n 2, 1) := by decide +kernel
theorem dX7_blownIn_9 : decode cX7_blownIn 9 = .ok (.aload_n 2, 1) := by decide +kernel
theorem dX7_blownIn_10 : decode cX7_blownIn 10 = .ok (.ifnonnull 5, 3) := by decide +kernel
theorem dX7_blownIn_13 : decode cX7_blownIn 13 = .ok (.iconst (-1), 1) := by decide +kernel
theorem dX7_blownIn_14 : decode cX7_blownIn 14 = .ok (.ireturn, 1) := by decide +kernel
theorem dX7_blownIn_15 : decode cX7_blownIn 15 = .ok (.aload_n 2, 1) := by decide +kernel
theorem dX7_blownIn_16 : decode cX7_blownIn 16 = .ok (.getfield 83, 3) := by decide +kernel
theorem dX7_blownIn_19 : decode cX7_blownIn 19 = .ok (.ifCond .ne 6, 3) := by decide +kernel
theorem dX7_blownIn_22 : decode cX7_blownIn 22 = .ok (.bipush (-4), 2) := by decide +kernel
theorem dX7_blownIn_24 : decode cX7_blownIn 24 = .ok (.ireturn, 1) := by decide +kernel
theorem dX7_blownIn_25 : decode cX7_blownIn 25 = .ok (.aload_n 2, 1) := by decide +kernel
theorem dX7_blownIn_26 : decode cX7_blownIn 26 = .ok (.invokevirtual 144, 3) := by decide +kernel
theorem dX7_blownIn_29 : decode cX7_blownIn 29 = .ok (.istore_n 3, 1) := by decide +kernel
theorem dX7_blownIn_30 : decode cX7_blownIn 30 = .ok (.iconst 0, 1) := by decide +kernel
theorem dX7_blownIn_31 : decode cX7_blownIn 31 = .ok (.istore 4, 2) := by decide +kernel
theorem dX7_blownIn_33 : decode cX7_blownIn 33 = .ok (.iload 4, 2) := by decide +kernel
theorem dX7_blownIn_35 : decode cX7_blownIn 35 = .ok (.sipush 500, 3) := by decide +kernel
theorem dX7_blownIn_38 : decode cX7_blownIn 38 = .ok (.if_icmp .gt 36, 3) := by decide +kernel
theorem dX7_blownIn_41 : decode cX7_blownIn 41 = .ok (.aload_n 0, 1) := by decide +kernel
theorem dX7_blownIn_42 : decode cX7_blownIn 42 = .ok (.getfield 10, 3) := by decide +kernel
theorem dX7_blownIn_45 : decode cX7_blownIn 45 = .ok (.getfield 90, 3) := by decide +kernel
theorem dX7_blownIn_48 : decode cX7_blownIn 48 = .ok (.aload_n 0, 1) := by decide +kernel
theorem dX7_blownIn_49 : decode cX7_blownIn 49 = .ok (.getfield 10, 3) := by decide +kernel
theorem dX7_blownIn_52 : decode cX7_blownIn 52 = .ok (.getfield 160, 3) := by decide +kernel
theorem dX7_blownIn_55 : decode cX7_blownIn 55 = .ok (.iload 4, 2) := by decide +kernel
theorem dX7_blownIn_57 : decode cX7_blownIn 57 = .ok (.iadd, 1) := by decide +kernel
theorem dX7_blownIn_58 : decode cX7_blownIn 58 = .ok (.invokevirtual 212, 3) := by decide +kernel
theorem dX7_blownIn_61 : decode cX7_blownIn 61 = .ok (.iload_n 3, 1) := by decide +kernel
theorem dX7_blownIn_62 : decode cX7_blownIn 62 = .ok (.if_icmp .le 6, 3) := by decide +kernel
theorem dX7_blownIn_65 : decode cX7_blownIn 65 = .ok (.iload 4, 2) := by decide +kernel
theorem dX7_blownIn_67 : decode cX7_blownIn 67 = .ok (.ireturn, 1) := by decide +kernel
theorem dX7_blownIn_68 : decode cX7_blownIn 68 = .ok (.iinc 4 1, 3) := by decide +kernel
theorem dX7_blownIn_71 : decode cX7_blownIn 71 = .ok (.goto (-38), 3) := by decide +kernel
theorem dX7_blownIn_74 : decode cX7_blownIn 74 = .ok (.bipush (-5), 2) := by decide +kernel
theorem dX7_blownIn_76 : decode cX7_blownIn 76 = .ok (.ireturn, 1) := by decide +kernel
set_option maxRecDepth 20000 in
theorem ggX7_entry_X7_isWithin : GoodIn wsX7_entry wsX7_isWithin := goodIn_r _ [9] (by decide +kernel) (by decide +kernel)
set_option maxRecDepth 20000 in
theorem gX7_entry_X7_isWithin : GoodIn wsX7_entry (va_wsS RX7 79 yX7_isWithin wsX7_isWithin) := goodIn_app (goodIn_of _ (by decide +kernel)) ggX7_entry_X7_isWithin
set_option maxRecDepth 20000 in
theorem ggX7_entry_X7_elementAt : GoodIn wsX7_entry wsX7_elementAt := goodIn_r _ [12] (by decide +kernel) (by decide +kernel)
set_option maxRecDepth 20000 in
theorem gX7_entry_X7_elementAt : GoodIn wsX7_entry (va_wsS RX7 222 yX7_elementAt wsX7_elementAt) := goodIn_app (goodIn_of _ (by decide +kernel)) ggX7_entry_X7_elementAt
theorem dX7_entry_0 : decode cX7_entry 0 = .ok (.iload_n 1, 1) := by decide +kernel
theorem dX7_entry_1 : decode cX7_entry 1 = .ok (.ifCond .lt 12, 3) := by decide +kernel
theorem dX7_entry_4 : decode cX7_entry 4 = .ok (.iload_n 2, 1) := by decide +kernel
theorem dX7_entry_5 : decode cX7_entry 5 = .ok (.iconst 0, 1) := by decide +kernel
theorem dX7_entry_6 : decode cX7_entry 6 = .ok (.iconst 1, 1) := by decide +kernel
theorem dX7_entry_7 : decode cX7_entry 7 = .ok (.invokestatic 79, 3) := by decide +kernel
theorem dX7_entry_10 : decode cX7_entry 10 = .ok (.ifCond .ne 6, 3) := by decide +kernel
theorem dX7_entry_13 : decode cX7_entry 13 = .ok (.bipush (-2), 2) := by decide +kernel
theorem dX7_entry_15 : decode cX7_entry 15 = .ok (.ireturn, 1) := by decide +kernel
theorem dX7_entry_16 : decode cX7_entry 16 = .ok (.iload_n 1, 1) := by decide +kernel
theorem dX7_entry_17 : decode cX7_entry 17 = .ok (.aload_n 0, 1) := by decide +kernel
theorem dX7_entry_18 : decode cX7_entry 18 = .ok (.getfield 10, 3) := by decide +kernel
theorem dX7_entry_21 : decode cX7_entry 21 = .ok (.getfield 90, 3) := by decide +kernel
theorem dX7_entry_24 : decode cX7_entry 24 = .ok (.getfield 102, 3) := by decide +kernel
theorem dX7_entry_27 : decode cX7_entry 27 = .ok (.if_icmp .lt 6, 3) := by decide +kernel
theorem dX7_entry_30 : decode cX7_entry 30 = .ok (.bipush (-5), 2) := by decide +kernel
theorem dX7_entry_32 : decode cX7_entry 32 = .ok (.ireturn, 1) := by decide +kernel
theorem dX7_entry_33 : decode cX7_entry 33 = .ok (.iload_n 2, 1) := by decide +kernel
theorem dX7_entry_34 : decode cX7_entry 34 = .ok (.ifCond .ne 16, 3) := by decide +kernel
theorem dX7_entry_37 : decode cX7_entry 37 = .ok (.aload_n 0, 1) := by decide +kernel
theorem dX7_entry_38 : decode cX7_entry 38 = .ok (.getfield 10, 3) := by decide +kernel
theorem dX7_entry_41 : decode cX7_entry 41 = .ok (.getfield 90, 3) := by decide +kernel
theorem dX7_entry_44 : decode cX7_entry 44 = .ok (.getfield 215, 3) := by decide +kernel
theorem dX7_entry_47 : decode cX7_entry 47 = .ok (.goto 13, 3) := by decide +kernel
theorem dX7_entry_50 : decode cX7_entry 50 = .ok (.aload_n 0, 1) := by decide +kernel
theorem dX7_entry_51 : decode cX7_entry 51 = .ok (.getfield 10, 3) := by decide +kernel
theorem dX7_entry_54 : decode cX7_entry 54 = .ok (.getfield 90, 3) := by decide +kernel
theorem dX7_entry_57 : decode cX7_entry 57 = .ok (.getfield 219, 3) := by decide +kernel
theorem dX7_entry_60 : decode cX7_entry 60 = .ok (.iload_n 1, 1) := by decide +kernel
theorem dX7_entry_61 : decode cX7_entry 61 = .ok (.invokestatic 222, 3) := by decide +kernel
theorem dX7_entry_64 : decode cX7_entry 64 = .ok (.ireturn, 1) := by decide +kernel
set_option maxRecDepth 20000 in
theorem ggX7_event_X7_isWithin : GoodIn wsX7_event wsX7_isWithin := goodIn_r _ [10] (by decide +kernel) (by decide +kernel)
set_option maxRecDepth 20000 in
theorem gX7_event_X7_isWithin : GoodIn wsX7_event (va_wsS RX7 79 yX7_isWithin wsX7_isWithin) := goodIn_app (goodIn_of _ (by decide +kernel)) ggX7_event_X7_isWithin
set_option maxRecDepth 20000 in
theorem ggX7_event_X7_elementAt : GoodIn wsX7_event wsX7_elementAt := goodIn_r _ [13] (by decide +kernel) (by decide +kernel)
set_option maxRecDepth 20000 in
theorem gX7_event_X7_elementAt : GoodIn wsX7_event (va_wsS RX7 222 yX7_elementAt wsX7_elementAt) := goodIn_app (goodIn_of _ (by decide +kernel)) ggX7_event_X7_elementAt
theorem dX7_event_0 : decode cX7_event 0 = .ok (.iload_n 1, 1) := by decide +kernel
theorem dX7_event_1 : decode cX7_event 1 = .ok (.ifCond .lt 12, 3) := by decide +kernel
theorem dX7_event_4 : decode cX7_event 4 = .ok (.iload_n 2, 1) := by decide +kernel
theorem dX7_event_5 : decode cX7_event 5 = .ok (.iconst 0, 1) := by decide +kernel
theorem dX7_event_6 : decode cX7_event 6 = .ok (.iconst 2, 1) := by decide +kernel
theorem dX7_event_7 : decode cX7_event 7 = .ok (.invokestatic 79, 3) := by decide +kernel
theorem dX7_event_10 : decode cX7_event 10 = .ok (.ifCond .ne 6, 3) := by decide +kernel
theorem dX7_event_13 : decode cX7_event 13 = .ok (.bipush (-2), 2) := by decide +kernel
theorem dX7_event_15 : decode cX7_event 15 = .ok (.ireturn, 1) := by decide +kernel
theorem dX7_event_16 : decode cX7_event 16 = .ok (.iload_n 1, 1) := by decide +kernel
theorem dX7_event_17 : decode cX7_event 17 = .ok (.aload_n 0, 1) := by decide +kernel
theorem dX7_event_18 : decode cX7_event 18 = .ok (.getfield 10, 3) := by decide +kernel
theorem dX7_event_21 : decode cX7_event 21 = .ok (.getfield 164, 3) := by decide +kernel
theorem dX7_event_24 : decode cX7_event 24 = .ok (.getfield 226, 3) := by decide +kernel
theorem dX7_event_27 : decode cX7_event 27 = .ok (.if_icmp .lt 6, 3) := by decide +kernel
theorem dX7_event_30 : decode cX7_event 30 = .ok (.bipush (-5), 2) := by decide +kernel
theorem dX7_event_32 : decode cX7_event 32 = .ok (.ireturn, 1) := by decide +kernel
theorem dX7_event_33 : decode cX7_event 33 = .ok (.iload_n 2, 1) := by decide +kernel
theorem dX7_event_34 : decode cX7_event 34 = .ok (.ifCond .ne 18, 3) := by decide +kernel
theorem dX7_event_37 : decode cX7_event 37 = .ok (.aload_n 0, 1) := by decide +kernel
theorem dX7_event_38 : decode cX7_event 38 = .ok (.getfield 10, 3) := by decide +kernel
theorem dX7_event_41 : decode cX7_event 41 = .ok (.getfield 164, 3) := by decide +kernel
theorem dX7_event_44 : decode cX7_event 44 = .ok (.getfield 229, 3) := by decide +kernel
theorem dX7_event_47 : decode cX7_event 47 = .ok (.iload_n 1, 1) := by decide +kernel
theorem dX7_event_48 : decode cX7_event 48 = .ok (.invokestatic 222, 3) := by decide +kernel
theorem dX7_event_51 : decode cX7_event 51 = .ok (.ireturn, 1) := by decide +kernel
theorem dX7_event_52 : decode cX7_event 52 = .ok (.iload_n 2, 1) := by decide +kernel
theorem dX7_event_53 : decode cX7_event 53 = .ok (.iconst 1, 1) := by decide +kernel
theorem dX7_event_54 : decode cX7_event 54 = .ok (.if_icmp .ne 16, 3) := by decide +kernel
theorem dX7_event_57 : decode cX7_event 57 = .ok (.aload_n 0, 1) := by decide +kernel
theorem dX7_event_58 : decode cX7_event 58 = .ok (.getfield 10, 3) := by decide +kernel
theorem dX7_event_61 : decode cX7_event 61 = .ok (.getfield 164, 3) := by decide +kernel
theorem dX7_event_64 : decode cX7_event 64 = .ok (.getfield 232, 3) := by decide +kernel
theorem dX7_event_67 : decode cX7_event 67 = .ok (.goto 13, 3) := by decide +kernel
theorem dX7_event_70 : decode cX7_event 70 = .ok (.aload_n 0, 1) := by decide +kernel
theorem dX7_event_71 : decode cX7_event 71 = .ok (.getfield 10, 3) := by decide +kernel
theorem dX7_event_74 : decode cX7_event 74 = .ok (.getfield 164, 3) := by decide +kernel
theorem dX7_event_77 : decode cX7_event 77 = .ok (.getfield 235, 3) := by decide +kernel
theorem dX7_event_80 : decode cX7_event 80 = .ok (.iload_n 1, 1) := by decide +kernel
theorem dX7_event_81 : decode cX7_event 81 = .ok (.invokestatic 222, 3) := by decide +kernel
theorem dX7_event_84 : decode cX7_event 84 = .ok (.ireturn, 1) := by decide +kernel
set_option maxRecDepth 20000 in
theorem ggX7_count_X5_draft : GoodIn wsX7_count wsX5_draft := goodIn_r _ [18, 19, 20, 21, 22, 23, 24, 25, 26, 27, 28, 77, 78, 79, 80, 81, 82, 83, 84, 85, 86, 87] (by decide +kernel) (by decide +kernel)
set_option maxRecDepth 20000 in
theorem gX7_count_X5_draft : GoodIn wsX7_count (wsV RX7 141 RX5 yX5_draft wsX5_draft) := goodIn_app (goodIn_of _ (by decide +kernel)) ggX7_count_X5_draft
set_option maxRecDepth 20000 in
theorem ggX7_count_X7_elementAt : GoodIn wsX7_count wsX7_elementAt := goodIn_r _ [32] (by decide +kernel) (by decide +kernel)
set_option maxRecDepth 20000 in
theorem gX7_count_X7_elementAt : GoodIn wsX7_count (va_wsS RX7 222 yX7_elementAt wsX7_elementAt) := goodIn_app (goodIn_of _ (by decide +kernel)) ggX7_count_X7_elementAt
set_option maxRecDepth 20000 in
theorem ggX7_count_X5_flames : GoodIn wsX7_count wsX5_flames := goodIn_r _ [36, 37, 38, 39, 31, 40, 77, 78, 79, 80, 81, 82, 83, 84, 97, 98, 99, 100, 101, 102, 103, 104, 105, 106] (by decide +kernel) (by decide +kernel)
set_option maxRecDepth 20000 in
theorem gX7_count_X5_flames : GoodIn wsX7_count (wsV RX7 242 RX5 yX5_flames wsX5_flames) := goodIn_app (goodIn_of _ (by decide +kernel)) ggX7_count_X5_flames
set_option maxRecDepth 20000 in
theorem ggX7_count_X5_openValves : GoodIn wsX7_count wsX5_openValves := goodIn_r _ [44, 37, 45, 46, 47, 17, 48, 49, 50, 51, 52, 53, 54, 55, 30, 31, 32, 56, 57, 58, 59, 60, 61, 62, 63, 64, 39, 40, 77, 78, 79, 80, 81, 82, 83, 84, 107, 97, 98, 99, 100, 101, 102, 103, 104, 105, 106] (by decide +kernel) (by decide +kernel)
set_option maxRecDepth 20000 in
theorem gX7_count_X5_openValves : GoodIn wsX7_count (wsV RX7 245 RX5 yX5_openValves wsX5_openValves) := goodIn_app (goodIn_of _ (by decide +kernel)) ggX7_count_X5_openValves
set_option maxRecDepth 20000 in
theorem ggX7_count_X5_lockedBurners : GoodIn wsX7_count wsX5_lockedBurners := goodIn_r _ [68, 37, 69, 39, 31, 40, 77, 78, 79, 80, 81, 82, 83, 84, 97, 98, 99, 100, 101, 102, 103, 104, 105, 106] (by decide +kernel) (by decide +kernel)
set_option maxRecDepth 20000 in
theorem gX7_count_X5_lockedBurners : GoodIn wsX7_count (wsV RX7 157 RX5 yX5_lockedBurners wsX5_lockedBurners) := goodIn_app (goodIn_of _ (by decide +kernel)) ggX7_count_X5_lockedBurners
theorem dX7_count_0 : decode cX7_count 0 = .ok (.iload_n 1, 1) := by decide +kernel
theorem dX7_count_1 : decode cX7_count 1 = .ok (.tableswitch 183 0 14 #[75, 83, 91, 99, 110, 110, 110, 110, 127, 135, 143, 151, 159, 167, 175], 75) := by decide +kernel
theorem dX7_count_76 : decode cX7_count 76 = .ok (.aload_n 0, 1) := by decide +kernel
theorem dX7_count_77 : decode cX7_count 77 = .ok (.getfield 10, 3) := by decide +kernel
theorem dX7_count_80 : decode cX7_count 80 = .ok (.getfield 160, 3) := by decide +kernel
theorem dX7_count_83 : decode cX7_count 83 = .ok (.ireturn, 1) := by decide +kernel
theorem dX7_count_84 : decode cX7_count 84 = .ok (.aload_n 0, 1) := by decide +kernel
theorem dX7_count_85 : decode cX7_count 85 = .ok (.getfield 10, 3) := by decide +kernel
theorem dX7_count_88 : decode cX7_count 88 = .ok (.getfield 236, 3) := by decide +kernel
theorem dX7_count_91 : decode cX7_count 91 = .ok (.ireturn, 1) := by decide +kernel
theorem dX7_count_92 : decode cX7_count 92 = .ok (.aload_n 0, 1) := by decide +kernel
theorem dX7_count_93 : decode cX7_count 93 = .ok (.getfield 10, 3) := by decide +kernel
theorem dX7_count_96 : decode cX7_count 96 = .ok (.invokevirtual 141, 3) := by decide +kernel
theorem dX7_count_99 : decode cX7_count 99 = .ok (.ireturn, 1) := by decide +kernel
theorem dX7_count_100 : decode cX7_count 100 = .ok (.aload_n 0, 1) := by decide +kernel
theorem dX7_count_101 : decode cX7_count 101 = .ok (.getfield 10, 3) := by decide +kernel
theorem dX7_count_104 : decode cX7_count 104 = .ok (.getfield 90, 3) := by decide +kernel
theorem dX7_count_107 : decode cX7_count 107 = .ok (.getfield 102, 3) := by decide +kernel
theorem dX7_count_110 : decode cX7_count 110 = .ok (.ireturn, 1) := by decide +kernel
theorem dX7_count_111 : decode cX7_count 111 = .ok (.aload_n 0, 1) := by decide +kernel
theorem dX7_count_112 : decode cX7_count 112 = .ok (.getfield 10, 3) := by decide +kernel
theorem dX7_count_115 : decode cX7_count 115 = .ok (.getfield 164, 3) := by decide +kernel
theorem dX7_count_118 : decode cX7_count 118 = .ok (.getfield 239, 3) := by decide +kernel
theorem dX7_count_121 : decode cX7_count 121 = .ok (.iload_n 1, 1) := by decide +kernel
theorem dX7_count_122 : decode cX7_count 122 = .ok (.iconst 4, 1) := by decide +kernel
theorem dX7_count_123 : decode cX7_count 123 = .ok (.isub, 1) := by decide +kernel
theorem dX7_count_124 : decode cX7_count 124 = .ok (.invokestatic 222, 3) := by decide +kernel
theorem dX7_count_127 : decode cX7_count 127 = .ok (.ireturn, 1) := by decide +kernel
theorem dX7_count_128 : decode cX7_count 128 = .ok (.aload_n 0, 1) := by decide +kernel
theorem dX7_count_129 : decode cX7_count 129 = .ok (.getfield 10, 3) := by decide +kernel
theorem dX7_count_132 : decode cX7_count 132 = .ok (.invokevirtual 242, 3) := by decide +kernel
theorem dX7_count_135 : decode cX7_count 135 = .ok (.ireturn, 1) := by decide +kernel
theorem dX7_count_136 : decode cX7_count 136 = .ok (.aload_n 0, 1) := by decide +kernel
theorem dX7_count_137 : decode cX7_count 137 = .ok (.getfield 10, 3) := by decide +kernel
theorem dX7_count_140 : decode cX7_count 140 = .ok (.invokevirtual 245, 3) := by decide +kernel
theorem dX7_count_143 : decode cX7_count 143 = .ok (.ireturn, 1) := by decide +kernel
theorem dX7_count_144 : decode cX7_count 144 = .ok (.aload_n 0, 1) := by decide +kernel
theorem dX7_count_145 : decode cX7_count 145 = .ok (.getfield 10, 3) := by decide +kernel
theorem dX7_count_148 : decode cX7_count 148 = .ok (.invokevirtual 157, 3) := by decide +kernel
theorem dX7_count_151 : decode cX7_count 151 = .ok (.ireturn, 1) := by decide +kernel
theorem dX7_count_152 : decode cX7_count 152 = .ok (.aload_n 0, 1) := by decide +kernel
theorem dX7_count_153 : decode cX7_count 153 = .ok (.getfield 10, 3) := by decide +kernel
theorem dX7_count_156 : decode cX7_count 156 = .ok (.getfield 248, 3) := by decide +kernel
theorem dX7_count_159 : decode cX7_count 159 = .ok (.ireturn, 1) := by decide +kernel
theorem dX7_count_160 : decode cX7_count 160 = .ok (.aload_n 0, 1) := by decide +kernel
theorem dX7_count_161 : decode cX7_count 161 = .ok (.getfield 10, 3) := by decide +kernel
theorem dX7_count_164 : decode cX7_count 164 = .ok (.getfield 251, 3) := by decide +kernel
theorem dX7_count_167 : decode cX7_count 167 = .ok (.ireturn, 1) := by decide +kernel
theorem dX7_count_168 : decode cX7_count 168 = .ok (.aload_n 0, 1) := by decide +kernel
theorem dX7_count_169 : decode cX7_count 169 = .ok (.getfield 32, 3) := by decide +kernel
theorem dX7_count_172 : decode cX7_count 172 = .ok (.getfield 190, 3) := by decide +kernel
theorem dX7_count_175 : decode cX7_count 175 = .ok (.ireturn, 1) := by decide +kernel
theorem dX7_count_176 : decode cX7_count 176 = .ok (.aload_n 0, 1) := by decide +kernel
theorem dX7_count_177 : decode cX7_count 177 = .ok (.getfield 39, 3) := by decide +kernel
theorem dX7_count_180 : decode cX7_count 180 = .ok (.getfield 180, 3) := by decide +kernel
theorem dX7_count_183 : decode cX7_count 183 = .ok (.ireturn, 1) := by decide +kernel
theorem dX7_count_184 : decode cX7_count 184 = .ok (.bipush (-2), 2) := by decide +kernel
theorem dX7_count_186 : decode cX7_count 186 = .ok (.ireturn, 1) := by decide +kernel
set_option maxRecDepth 20000 in
theorem ggX7_setting_X4_isOne : GoodIn wsX7_setting wsX4_isOne := goodIn_r _ [6, 7, 8, 9, 10] (by decide +kernel) (by decide +kernel)
set_option maxRecDepth 20000 in
theorem gX7_setting_X4_isOne : GoodIn wsX7_setting (va_wsS RX7 47 yX4_isOne wsX4_isOne) := goodIn_app (goodIn_of _ (by decide +kernel)) ggX7_setting_X4_isOne
set_option maxRecDepth 20000 in
theorem ggX7_setting_X4_valueOf : GoodIn wsX7_setting wsX4_valueOf := goodIn_r _ [14, 15, 16, 9, 17, 33] (by decide +kernel) (by decide +kernel)
set_option maxRecDepth 20000 in
theorem gX7_setting_X4_valueOf : GoodIn wsX7_setting (wsV RX7 61 RX4 yX4_valueOf wsX4_valueOf) := goodIn_app (goodIn_of _ (by decide +kernel)) ggX7_setting_X4_valueOf
theorem dX7_setting_0 : decode cX7_setting 0 = .ok (.iload_n 1, 1) := by decide +kernel
theorem dX7_setting_1 : decode cX7_setting 1 = .ok (.invokestatic 47, 3) := by decide +kernel
theorem dX7_setting_4 : decode cX7_setting 4 = .ok (.ifCond .ne 5, 3) := by decide +kernel
theorem dX7_setting_7 : decode cX7_setting 7 = .ok (.iconst (-1), 1) := by decide +kernel
theorem dX7_setting_8 : decode cX7_setting 8 = .ok (.ireturn, 1) := by decide +kernel
theorem dX7_setting_9 : decode cX7_setting 9 = .ok (.aload_n 0, 1) := by decide +kernel
theorem dX7_setting_10 : decode cX7_setting 10 = .ok (.getfield 10, 3) := by decide +kernel
theorem dX7_setting_13 : decode cX7_setting 13 = .ok (.getfield 57, 3) := by decide +kernel
theorem dX7_setting_16 : decode cX7_setting 16 = .ok (.iload_n 1, 1) := by decide +kernel
theorem dX7_setting_17 : decode cX7_setting 17 = .ok (.invokevirtual 61, 3) := by decide +kernel
theorem dX7_setting_20 : decode cX7_setting 20 = .ok (.ireturn, 1) := by decide +kernel
theorem dX7_isWithin_0 : decode cX7_isWithin 0 = .ok (.iload_n 0, 1) := by decide +kernel
theorem dX7_isWithin_1 : decode cX7_isWithin 1 = .ok (.iload_n 1, 1) := by decide +kernel
theorem dX7_isWithin_2 : decode cX7_isWithin 2 = .ok (.if_icmp .lt 12, 3) := by decide +kernel
theorem dX7_isWithin_5 : decode cX7_isWithin 5 = .ok (.iload_n 0, 1) := by decide +kernel
theorem dX7_isWithin_6 : decode cX7_isWithin 6 = .ok (.iload_n 2, 1) := by decide +kernel
theorem dX7_isWithin_7 : decode cX7_isWithin 7 = .ok (.if_icmp .gt 7, 3) := by decide +kernel
theorem dX7_isWithin_10 : decode cX7_isWithin 10 = .ok (.iconst 1, 1) := by decide +kernel
theorem dX7_isWithin_11 : decode cX7_isWithin 11 = .ok (.goto 4, 3) := by decide +kernel
theorem dX7_isWithin_14 : decode cX7_isWithin 14 = .ok (.iconst 0, 1) := by decide +kernel
theorem dX7_isWithin_15 : decode cX7_isWithin 15 = .ok (.ireturn, 1) := by decide +kernel
theorem dX7_oneIf_0 : decode cX7_oneIf 0 = .ok (.iload_n 0, 1) := by decide +kernel
theorem dX7_oneIf_1 : decode cX7_oneIf 1 = .ok (.ifCond .eq 7, 3) := by decide +kernel
theorem dX7_oneIf_4 : decode cX7_oneIf 4 = .ok (.iconst 1, 1) := by decide +kernel
theorem dX7_oneIf_5 : decode cX7_oneIf 5 = .ok (.goto 4, 3) := by decide +kernel
theorem dX7_oneIf_8 : decode cX7_oneIf 8 = .ok (.iconst 0, 1) := by decide +kernel
theorem dX7_oneIf_9 : decode cX7_oneIf 9 = .ok (.ireturn, 1) := by decide +kernel
theorem dX7_elementAt_0 : decode cX7_elementAt 0 = .ok (.iload_n 1, 1) := by decide +kernel
theorem dX7_elementAt_1 : decode cX7_elementAt 1 = .ok (.ifCond .lt 15, 3) := by decide +kernel
theorem dX7_elementAt_4 : decode cX7_elementAt 4 = .ok (.iload_n 1, 1) := by decide +kernel
theorem dX7_elementAt_5 : decode cX7_elementAt 5 = .ok (.aload_n 0, 1) := by decide +kernel
theorem dX7_elementAt_6 : decode cX7_elementAt 6 = .ok (.arraylength, 1) := by decide +kernel
theorem dX7_elementAt_7 : decode cX7_elementAt 7 = .ok (.if_icmp .ge 9, 3) := by decide +kernel
theorem dX7_elementAt_10 : decode cX7_elementAt 10 = .ok (.aload_n 0, 1) := by decide +kernel
theorem dX7_elementAt_11 : decode cX7_elementAt 11 = .ok (.iload_n 1, 1) := by decide +kernel
theorem dX7_elementAt_12 : decode cX7_elementAt 12 = .ok (.iaload, 1) := by decide +kernel
theorem dX7_elementAt_13 : decode cX7_elementAt 13 = .ok (.goto 4, 3) := by decide +kernel
theorem dX7_elementAt_16 : decode cX7_elementAt 16 = .ok (.iconst 0, 1) := by decide +kernel
theorem dX7_elementAt_17 : decode cX7_elementAt 17 = .ok (.ireturn, 1) := by decide +kernel
theorem dX7_copyRow_0 : decode cX7_copyRow 0 = .ok (.aload_n 0, 1) := by decide +kernel
theorem dX7_copyRow_1 : decode cX7_copyRow 1 = .ok (.iconst 0, 1) := by decide +kernel
theorem dX7_copyRow_2 : decode cX7_copyRow 2 = .ok (.aload_n 1, 1) := by decide +kernel
theorem dX7_copyRow_3 : decode cX7_copyRow 3 = .ok (.iconst 0, 1) := by decide +kernel
theorem dX7_copyRow_4 : decode cX7_copyRow 4 = .ok (.aload_n 0, 1) := by decide +kernel
theorem dX7_copyRow_5 : decode cX7_copyRow 5 = .ok (.arraylength, 1) := by decide +kernel
theorem dX7_copyRow_6 : decode cX7_copyRow 6 = .ok (.aload_n 1, 1) := by decide +kernel
theorem dX7_copyRow_7 : decode cX7_copyRow 7 = .ok (.arraylength, 1) := by decide +kernel
theorem dX7_copyRow_8 : decode cX7_copyRow 8 = .ok (.invokestatic 254, 3) := by decide +kernel
theorem dX7_copyRow_11 : decode cX7_copyRow 11 = .ok (.invokestatic 259, 3) := by decide +kernel
theorem dX7_copyRow_14 : decode cX7_copyRow 14 = .ok (.return_, 1) := by decide +kernel
theorem dX8_init_0 : decode cX8_init 0 = .ok (.aload_n 0, 1) := by decide +kernel
theorem dX8_init_1 : decode cX8_init 1 = .ok (.invokespecial 1, 3) := by decide +kernel
theorem dX8_init_4 : decode cX8_init 4 = .ok (.aload_n 0, 1) := by decide +kernel
theorem dX8_init_5 : decode cX8_init 5 = .ok (.bipush 108, 2) := by decide +kernel
theorem dX8_init_7 : decode cX8_init 7 = .ok (.newarray .int, 2) := by decide +kernel
theorem dX8_init_9 : decode cX8_init 9 = .ok (.putfield 7, 3) := by decide +kernel
theorem dX8_init_12 : decode cX8_init 12 = .ok (.aload_n 0, 1) := by decide +kernel
theorem dX8_init_13 : decode cX8_init 13 = .ok (.bipush 108, 2) := by decide +kernel
theorem dX8_init_15 : decode cX8_init 15 = .ok (.newarray .int, 2) := by decide +kernel
theorem dX8_init_17 : decode cX8_init 17 = .ok (.putfield 13, 3) := by decide +kernel
theorem dX8_init_20 : decode cX8_init 20 = .ok (.aload_n 0, 1) := by decide +kernel
theorem dX8_init_21 : decode cX8_init 21 = .ok (.sipush 432, 3) := by decide +kernel
theorem dX8_init_24 : decode cX8_init 24 = .ok (.newarray .int, 2) := by decide +kernel
theorem dX8_init_26 : decode cX8_init 26 = .ok (.putfield 16, 3) := by decide +kernel
theorem dX8_init_29 : decode cX8_init 29 = .ok (.aload_n 0, 1) := by decide +kernel
theorem dX8_init_30 : decode cX8_init 30 = .ok (.bipush 108, 2) := by decide +kernel
theorem dX8_init_32 : decode cX8_init 32 = .ok (.newarray .int, 2) := by decide +kernel
theorem dX8_init_34 : decode cX8_init 34 = .ok (.putfield 19, 3) := by decide +kernel
theorem dX8_init_37 : decode cX8_init 37 = .ok (.aload_n 0, 1) := by decide +kernel
theorem dX8_init_38 : decode cX8_init 38 = .ok (.bipush 60, 2) := by decide +kernel
theorem dX8_init_40 : decode cX8_init 40 = .ok (.newarray .int, 2) := by decide +kernel
theorem dX8_init_42 : decode cX8_init 42 = .ok (.putfield 22, 3) := by decide +kernel
theorem dX8_init_45 : decode cX8_init 45 = .ok (.aload_n 0, 1) := by decide +kernel
theorem dX8_init_46 : decode cX8_init 46 = .ok (.bipush 32, 2) := by decide +kernel
theorem dX8_init_48 : decode cX8_init 48 = .ok (.newarray .int, 2) := by decide +kernel
theorem dX8_init_50 : decode cX8_init 50 = .ok (.putfield 25, 3) := by decide +kernel
theorem dX8_init_53 : decode cX8_init 53 = .ok (.aload_n 0, 1) := by decide +kernel
theorem dX8_init_54 : decode cX8_init 54 = .ok (.bipush 32, 2) := by decide +kernel
theorem dX8_init_56 : decode cX8_init 56 = .ok (.newarray .int, 2) := by decide +kernel
theorem dX8_init_58 : decode cX8_init 58 = .ok (.putfield 28, 3) := by decide +kernel
theorem dX8_init_61 : decode cX8_init 61 = .ok (.aload_n 0, 1) := by decide +kernel
theorem dX8_init_62 : decode cX8_init 62 = .ok (.iconst 0, 1) := by decide +kernel
theorem dX8_init_63 : decode cX8_init 63 = .ok (.putfield 31, 3) := by decide +kernel
theorem dX8_init_66 : decode cX8_init 66 = .ok (.aload_n 0, 1) := by decide +kernel
theorem dX8_init_67 : decode cX8_init 67 = .ok (.getfield 7, 3) := by decide +kernel
theorem dX8_init_70 : decode cX8_init 70 = .ok (.iconst 0, 1) := by decide +kernel
theorem dX8_init_71 : decode cX8_init 71 = .ok (.sipush 300, 3) := by decide +kernel
theorem dX8_init_74 : decode cX8_init 74 = .ok (.iastore, 1) := by decide +kernel
theorem dX8_init_75 : decode cX8_init 75 = .ok (.aload_n 0, 1) := by decide +kernel
theorem dX8_init_76 : decode cX8_init 76 = .ok (.getfield 7, 3) := by decide +kernel
theorem dX8_init_79 : decode cX8_init 79 = .ok (.iconst 1, 1) := by decide +kernel
theorem dX8_init_80 : decode cX8_init 80 = .ok (.iconst 5, 1) := by decide +kernel
theorem dX8_init_81 : decode cX8_init 81 = .ok (.iastore, 1) := by decide +kernel
theorem dX8_init_82 : decode cX8_init 82 = .ok (.aload_n 0, 1) := by decide +kernel
theorem dX8_init_83 : decode cX8_init 83 = .ok (.getfield 7, 3) := by decide +kernel
theorem dX8_init_86 : decode cX8_init 86 = .ok (.iconst 2, 1) := by decide +kernel
theorem dX8_init_87 : decode cX8_init 87 = .ok (.iconst 5, 1) := by decide +kernel
theorem dX8_init_88 : decode cX8_init 88 = .ok (.iastore, 1) := by decide +kernel
theorem dX8_init_89 : decode cX8_init 89 = .ok (.aload_n 0, 1) := by decide +kernel
theorem dX8_init_90 : decode cX8_init 90 = .ok (.getfield 7, 3) := by decide +kernel
theorem dX8_init_93 : decode cX8_init 93 = .ok (.iconst 3, 1) := by decide +kernel
theorem dX8_init_94 : decode cX8_init 94 = .ok (.sipush 300, 3) := by decide +kernel
theorem dX8_init_97 : decode cX8_init 97 = .ok (.iastore, 1) := by decide +kernel
theorem dX8_init_98 : decode cX8_init 98 = .ok (.aload_n 0, 1) := by decide +kernel
theorem dX8_init_99 : decode cX8_init 99 = .ok (.getfield 7, 3) := by decide +kernel
theorem dX8_init_102 : decode cX8_init 102 = .ok (.bipush 88, 2) := by decide +kernel
theorem dX8_init_104 : decode cX8_init 104 = .ok (.iconst 1, 1) := by decide +kernel
theorem dX8_init_105 : decode cX8_init 105 = .ok (.iastore, 1) := by decide +kernel
theorem dX8_init_106 : decode cX8_init 106 = .ok (.aload_n 0, 1) := by decide +kernel
theorem dX8_init_107 : decode cX8_init 107 = .ok (.getfield 7, 3) := by decide +kernel
theorem dX8_init_110 : decode cX8_init 110 = .ok (.bipush 98, 2) := by decide +kernel
theorem dX8_init_112 : decode cX8_init 112 = .ok (.iconst 2, 1) := by decide +kernel
theorem dX8_init_113 : decode cX8_init 113 = .ok (.iastore, 1) := by decide +kernel
theorem dX8_init_114 : decode cX8_init 114 = .ok (.return_, 1) := by decide +kernel
theorem dX8_in_0 : decode cX8_in 0 = .ok (.iload_n 0, 1) := by decide +kernel
theorem dX8_in_1 : decode cX8_in 1 = .ok (.iload_n 1, 1) := by decide +kernel
theorem dX8_in_2 : decode cX8_in 2 = .ok (.if_icmp .lt 12, 3) := by decide +kernel
theorem dX8_in_5 : decode cX8_in 5 = .ok (.iload_n 0, 1) := by decide +kernel
theorem dX8_in_6 : decode cX8_in 6 = .ok (.iload_n 2, 1) := by decide +kernel
theorem dX8_in_7 : decode cX8_in 7 = .ok (.if_icmp .gt 7, 3) := by decide +kernel
theorem dX8_in_10 : decode cX8_in 10 = .ok (.iconst 1, 1) := by decide +kernel
theorem dX8_in_11 : decode cX8_in 11 = .ok (.goto 4, 3) := by decide +kernel
theorem dX8_in_14 : decode cX8_in 14 = .ok (.iconst 0, 1) := by decide +kernel
theorem dX8_in_15 : decode cX8_in 15 = .ok (.ireturn, 1) := by decide +kernel
set_option maxRecDepth 20000 in
theorem ggX8_isBurner_X8_in : GoodIn wsX8_isBurner wsX8_in := goodIn_r _ [4] (by decide +kernel) (by decide +kernel)
set_option maxRecDepth 20000 in
theorem gX8_isBurner_X8_in : GoodIn wsX8_isBurner (va_wsS RX8 35 yX8_in wsX8_in) := goodIn_app (goodIn_of _ (by decide +kernel)) ggX8_isBurner_X8_in
theorem dX8_isBurner_0 : decode cX8_isBurner 0 = .ok (.iload_n 0, 1) := by decide +kernel
theorem dX8_isBurner_1 : decode cX8_isBurner 1 = .ok (.iconst 0, 1) := by decide +kernel
theorem dX8_isBurner_2 : decode cX8_isBurner 2 = .ok (.iconst 3, 1) := by decide +kernel
theorem dX8_isBurner_3 : decode cX8_isBurner 3 = .ok (.invokestatic 35, 3) := by decide +kernel
theorem dX8_isBurner_6 : decode cX8_isBurner 6 = .ok (.ireturn, 1) := by decide +kernel
theorem dX8_get_0 : decode cX8_get 0 = .ok (.aload_n 0, 1) := by decide +kernel
theorem dX8_get_1 : decode cX8_get 1 = .ok (.getfield 7, 3) := by decide +kernel
theorem dX8_get_4 : decode cX8_get 4 = .ok (.bipush 68, 2) := by decide +kernel
theorem dX8_get_6 : decode cX8_get 6 = .ok (.bipush 10, 2) := by decide +kernel
theorem dX8_get_8 : decode cX8_get 8 = .ok (.iload_n 1, 1) := by decide +kernel
theorem dX8_get_9 : decode cX8_get 9 = .ok (.imul, 1) := by decide +kernel
theorem dX8_get_10 : decode cX8_get 10 = .ok (.iadd, 1) := by decide +kernel
theorem dX8_get_11 : decode cX8_get 11 = .ok (.iload_n 2, 1) := by decide +kernel
theorem dX8_get_12 : decode cX8_get 12 = .ok (.iadd, 1) := by decide +kernel
theorem dX8_get_13 : decode cX8_get 13 = .ok (.iaload, 1) := by decide +kernel
theorem dX8_get_14 : decode cX8_get 14 = .ok (.ireturn, 1) := by decide +kernel
theorem dX8_lay_0 : decode cX8_lay 0 = .ok (.aload_n 0, 1) := by decide +kernel
theorem dX8_lay_1 : decode cX8_lay 1 = .ok (.getfield 7, 3) := by decide +kernel
theorem dX8_lay_4 : decode cX8_lay 4 = .ok (.bipush 68, 2) := by decide +kernel
theorem dX8_lay_6 : decode cX8_lay 6 = .ok (.bipush 10, 2) := by decide +kernel
theorem dX8_lay_8 : decode cX8_lay 8 = .ok (.iload_n 1, 1) := by decide +kernel
theorem dX8_lay_9 : decode cX8_lay 9 = .ok (.imul, 1) := by decide +kernel
theorem dX8_lay_10 : decode cX8_lay 10 = .ok (.iadd, 1) := by decide +kernel
theorem dX8_lay_11 : decode cX8_lay 11 = .ok (.iload_n 2, 1) := by decide +kernel
theorem dX8_lay_12 : decode cX8_lay 12 = .ok (.iadd, 1) := by decide +kernel
theorem dX8_lay_13 : decode cX8_lay 13 = .ok (.iload_n 3, 1) := by decide +kernel
theorem dX8_lay_14 : decode cX8_lay 14 = .ok (.iastore, 1) := by decide +kernel
theorem dX8_lay_15 : decode cX8_lay 15 = .ok (.return_, 1) := by decide +kernel
theorem dX8_records_0 : decode cX8_records 0 = .ok (.aload_n 0, 1) := by decide +kernel
theorem dX8_records_1 : decode cX8_records 1 = .ok (.getfield 39, 3) := by decide +kernel
theorem dX8_records_4 : decode cX8_records 4 = .ok (.iconst 4, 1) := by decide +kernel
theorem dX8_records_5 : decode cX8_records 5 = .ok (.if_icmp .ne 43, 3) := by decide +kernel
theorem dX8_records_8 : decode cX8_records 8 = .ok (.iconst 0, 1) := by decide +kernel
theorem dX8_records_9 : decode cX8_records 9 = .ok (.istore_n 1, 1) := by decide +kernel
theorem dX8_records_10 : decode cX8_records 10 = .ok (.iload_n 1, 1) := by decide +kernel
theorem dX8_records_11 : decode cX8_records 11 = .ok (.sipush 324, 3) := by decide +kernel
theorem dX8_records_14 : decode cX8_records 14 = .ok (.if_icmp .ge 24, 3) := by decide +kernel
theorem dX8_records_17 : decode cX8_records 17 = .ok (.aload_n 0, 1) := by decide +kernel
theorem dX8_records_18 : decode cX8_records 18 = .ok (.getfield 16, 3) := by decide +kernel
theorem dX8_records_21 : decode cX8_records 21 = .ok (.iload_n 1, 1) := by decide +kernel
theorem dX8_records_22 : decode cX8_records 22 = .ok (.aload_n 0, 1) := by decide +kernel
theorem dX8_records_23 : decode cX8_records 23 = .ok (.getfield 16, 3) := by decide +kernel
theorem dX8_records_26 : decode cX8_records 26 = .ok (.iload_n 1, 1) := by decide +kernel
theorem dX8_records_27 : decode cX8_records 27 = .ok (.bipush 108, 2) := by decide +kernel
theorem dX8_records_29 : decode cX8_records 29 = .ok (.iadd, 1) := by decide +kernel
theorem dX8_records_30 : decode cX8_records 30 = .ok (.iaload, 1) := by decide +kernel
theorem dX8_records_31 : decode cX8_records 31 = .ok (.iastore, 1) := by decide +kernel
theorem dX8_records_32 : decode cX8_records 32 = .ok (.iinc 1 1, 3) := by decide +kernel
theorem dX8_records_35 : decode cX8_records 35 = .ok (.goto (-25), 3) := by decide +kernel
theorem dX8_records_38 : decode cX8_records 38 = .ok (.aload_n 0, 1) := by decide +kernel
theorem dX8_records_39 : decode cX8_records 39 = .ok (.dup, 1) := by decide +kernel
theorem dX8_records_40 : decode cX8_records 40 = .ok (.getfield 39, 3) := by decide +kernel
theorem dX8_records_43 : decode cX8_records 43 = .ok (.iconst 1, 1) := by decide +kernel
theorem dX8_records_44 : decode cX8_records 44 = .ok (.isub, 1) := by decide +kernel
theorem dX8_records_45 : decode cX8_records 45 = .ok (.putfield 39, 3) := by decide +kernel
theorem dX8_records_48 : decode cX8_records 48 = .ok (.iconst 0, 1) := by decide +kernel
theorem dX8_records_49 : decode cX8_records 49 = .ok (.istore_n 1, 1) := by decide +kernel
theorem dX8_records_50 : decode cX8_records 50 = .ok (.iload_n 1, 1) := by decide +kernel
theorem dX8_records_51 : decode cX8_records 51 = .ok (.bipush 108, 2) := by decide +kernel
theorem dX8_records_53 : decode cX8_records 53 = .ok (.if_icmp .ge 29, 3) := by decide +kernel
theorem dX8_records_56 : decode cX8_records 56 = .ok (.aload_n 0, 1) := by decide +kernel
theorem dX8_records_57 : decode cX8_records 57 = .ok (.getfield 16, 3) := by decide +kernel
theorem dX8_records_60 : decode cX8_records 60 = .ok (.bipush 108, 2) := by decide +kernel
theorem dX8_records_62 : decode cX8_records 62 = .ok (.aload_n 0, 1) := by decide +kernel
theorem dX8_records_63 : decode cX8_records 63 = .ok (.getfield 39, 3) := by decide +kernel
theorem dX8_records_66 : decode cX8_records 66 = .ok (.imul, 1) := by decide +kernel
theorem dX8_records_67 : decode cX8_records 67 = .ok (.iload_n 1, 1) := by decide +kernel
theorem dX8_records_68 : decode cX8_records 68 = .ok (.iadd, 1) := by decide +kernel
theorem dX8_records_69 : decode cX8_records 69 = .ok (.aload_n 0, 1) := by decide +kernel
theorem dX8_records_70 : decode cX8_records 70 = .ok (.getfield 7, 3) := by decide +kernel
theorem dX8_records_73 : decode cX8_records 73 = .ok (.iload_n 1, 1) := by decide +kernel
theorem dX8_records_74 : decode cX8_records 74 = .ok (.iaload, 1) := by decide +kernel
theorem dX8_records_75 : decode cX8_records 75 = .ok (.iastore, 1) := by decide +kernel
theorem dX8_records_76 : decode cX8_records 76 = .ok (.iinc 1 1, 3) := by decide +kernel
theorem dX8_records_79 : decode cX8_records 79 = .ok (.goto (-29), 3) := by decide +kernel
theorem dX8_records_82 : decode cX8_records 82 = .ok (.aload_n 0, 1) := by decide +kernel
theorem dX8_records_83 : decode cX8_records 83 = .ok (.dup, 1) := by decide +kernel
theorem dX8_records_84 : decode cX8_records 84 = .ok (.getfield 39, 3) := by decide +kernel
theorem dX8_records_87 : decode cX8_records 87 = .ok (.iconst 1, 1) := by decide +kernel
theorem dX8_records_88 : decode cX8_records 88 = .ok (.iadd, 1) := by decide +kernel
theorem dX8_records_89 : decode cX8_records 89 = .ok (.putfield 39, 3) := by decide +kernel
theorem dX8_records_92 : decode cX8_records 92 = .ok (.return_, 1) := by decide +kernel
theorem dX8_putAside_0 : decode cX8_putAside 0 = .ok (.iconst 0, 1) := by decide +kernel
theorem dX8_putAside_1 : decode cX8_putAside 1 = .ok (.istore_n 1, 1) := by decide +kernel
theorem dX8_putAside_2 : decode cX8_putAside 2 = .ok (.iload_n 1, 1) := by decide +kernel
theorem dX8_putAside_3 : decode cX8_putAside 3 = .ok (.bipush 108, 2) := by decide +kernel
theorem dX8_putAside_5 : decode cX8_putAside 5 = .ok (.if_icmp .ge 21, 3) := by decide +kernel
theorem dX8_putAside_8 : decode cX8_putAside 8 = .ok (.aload_n 0, 1) := by decide +kernel
theorem dX8_putAside_9 : decode cX8_putAside 9 = .ok (.getfield 13, 3) := by decide +kernel
theorem dX8_putAside_12 : decode cX8_putAside 12 = .ok (.iload_n 1, 1) := by decide +kernel
theorem dX8_putAside_13 : decode cX8_putAside 13 = .ok (.aload_n 0, 1) := by decide +kernel
theorem dX8_putAside_14 : decode cX8_putAside 14 = .ok (.getfield 7, 3) := by decide +kernel
theorem dX8_putAside_17 : decode cX8_putAside 17 = .ok (.iload_n 1, 1) := by decide +kernel
theorem dX8_putAside_18 : decode cX8_putAside 18 = .ok (.iaload, 1) := by decide +kernel
theorem dX8_putAside_19 : decode cX8_putAside 19 = .ok (.iastore, 1) := by decide +kernel
theorem dX8_putAside_20 : decode cX8_putAside 20 = .ok (.iinc 1 1, 3) := by decide +kernel
theorem dX8_putAside_23 : decode cX8_putAside 23 = .ok (.goto (-21), 3) := by decide +kernel
theorem dX8_putAside_26 : decode cX8_putAside 26 = .ok (.return_, 1) := by decide +kernel
theorem dX8_takeBack_0 : decode cX8_takeBack 0 = .ok (.iconst 0, 1) := by decide +kernel
theorem dX8_takeBack_1 : decode cX8_takeBack 1 = .ok (.istore_n 1, 1) := by decide +kernel
theorem dX8_takeBack_2 : decode cX8_takeBack 2 = .ok (.iload_n 1, 1) := by decide +kernel
theorem dX8_takeBack_3 : decode cX8_takeBack 3 = .ok (.bipush 108, 2) := by decide +kernel
theorem dX8_takeBack_5 : decode cX8_takeBack 5 = .ok (.if_icmp .ge 21, 3) := by decide +kernel
theorem dX8_takeBack_8 : decode cX8_takeBack 8 = .ok (.aload_n 0, 1) := by decide +kernel
theorem dX8_takeBack_9 : decode cX8_takeBack 9 = .ok (.getfield 7, 3) := by decide +kernel
theorem dX8_takeBack_12 : decode cX8_takeBack 12 = .ok (.iload_n 1, 1) := by decide +kernel
theorem dX8_takeBack_13 : decode cX8_takeBack 13 = .ok (.aload_n 0, 1) := by decide +kernel
theorem dX8_takeBack_14 : decode cX8_takeBack 14 = .ok (.getfield 13, 3) := by decide +kernel
theorem dX8_takeBack_17 : decode cX8_takeBack 17 = .ok (.iload_n 1, 1) := by decide +kernel
theorem dX8_takeBack_18 : decode cX8_takeBack 18 = .ok (.iaload, 1) := by decide +kernel
theorem dX8_takeBack_19 : decode cX8_takeBack 19 = .ok (.iastore, 1) := by decide +kernel
theorem dX8_takeBack_20 : decode cX8_takeBack 20 = .ok (.iinc 1 1, 3) := by decide +kernel
theorem dX8_takeBack_23 : decode cX8_takeBack 23 = .ok (.goto (-21), 3) := by decide +kernel
theorem dX8_takeBack_26 : decode cX8_takeBack 26 = .ok (.return_, 1) := by decide +kernel
theorem dX8_choose_0 : decode cX8_choose 0 = .ok (.iload_n 0, 1) := by decide +kernel
theorem dX8_choose_1 : decode cX8_choose 1 = .ok (.ifCond .ne 7, 3) := by decide +kernel
theorem dX8_choose_4 : decode cX8_choose 4 = .ok (.iload_n 1, 1) := by decide +kernel
theorem dX8_choose_5 : decode cX8_choose 5 = .ok (.goto 13, 3) := by decide +kernel
theorem dX8_choose_8 : decode cX8_choose 8 = .ok (.iload_n 0, 1) := by decide +kernel
theorem dX8_choose_9 : decode cX8_choose 9 = .ok (.iconst 1, 1) := by decide +kernel
theorem dX8_choose_10 : decode cX8_choose 10 = .ok (.if_icmp .ne 7, 3) := by decide +kernel
theorem dX8_choose_13 : decode cX8_choose 13 = .ok (.iload_n 2, 1) := by decide +kernel
theorem dX8_choose_14 : decode cX8_choose 14 = .ok (.goto 4, 3) := by decide +kernel
theorem dX8_choose_17 : decode cX8_choose 17 = .ok (.iload_n 3, 1) := by decide +kernel
theorem dX8_choose_18 : decode cX8_choose 18 = .ok (.ireturn, 1) := by decide +kernel
set_option maxRecDepth 20000 in
theorem ggX8_flow_X8_choose : GoodIn wsX8_flow wsX8_choose := goodIn_r _ [4] (by decide +kernel) (by decide +kernel)
set_option maxRecDepth 20000 in
theorem gX8_flow_X8_choose : GoodIn wsX8_flow (va_wsS RX8 42 yX8_choose wsX8_choose) := goodIn_app (goodIn_of _ (by decide +kernel)) ggX8_flow_X8_choose
theorem dX8_flow_0 : decode cX8_flow 0 = .ok (.iload_n 1, 1) := by decide +kernel
theorem dX8_flow_1 : decode cX8_flow 1 = .ok (.iconst 1, 1) := by decide +kernel
theorem dX8_flow_2 : decode cX8_flow 2 = .ok (.if_icmp .ne 14, 3) := by decide +kernel
theorem dX8_flow_5 : decode cX8_flow 5 = .ok (.iload_n 0, 1) := by decide +kernel
theorem dX8_flow_6 : decode cX8_flow 6 = .ok (.iconst 2, 1) := by decide +kernel
theorem dX8_flow_7 : decode cX8_flow 7 = .ok (.iconst 4, 1) := by decide +kernel
theorem dX8_flow_8 : decode cX8_flow 8 = .ok (.bipush 6, 2) := by decide +kernel
theorem dX8_flow_10 : decode cX8_flow 10 = .ok (.invokestatic 42, 3) := by decide +kernel
theorem dX8_flow_13 : decode cX8_flow 13 = .ok (.goto 12, 3) := by decide +kernel
theorem dX8_flow_16 : decode cX8_flow 16 = .ok (.iload_n 0, 1) := by decide +kernel
theorem dX8_flow_17 : decode cX8_flow 17 = .ok (.iconst 4, 1) := by decide +kernel
theorem dX8_flow_18 : decode cX8_flow 18 = .ok (.bipush 9, 2) := by decide +kernel
theorem dX8_flow_20 : decode cX8_flow 20 = .ok (.bipush 14, 2) := by decide +kernel
theorem dX8_flow_22 : decode cX8_flow 22 = .ok (.invokestatic 42, 3) := by decide +kernel
theorem dX8_flow_25 : decode cX8_flow 25 = .ok (.ireturn, 1) := by decide +kernel
set_option maxRecDepth 20000 in
theorem ggX8_heat_X8_choose : GoodIn wsX8_heat wsX8_choose := goodIn_r _ [4] (by decide +kernel) (by decide +kernel)
set_option maxRecDepth 20000 in
theorem gX8_heat_X8_choose : GoodIn wsX8_heat (va_wsS RX8 42 yX8_choose wsX8_choose) := goodIn_app (goodIn_of _ (by decide +kernel)) ggX8_heat_X8_choose
theorem dX8_heat_0 : decode cX8_heat 0 = .ok (.iload_n 1, 1) := by decide +kernel
theorem dX8_heat_1 : decode cX8_heat 1 = .ok (.iconst 1, 1) := by decide +kernel
theorem dX8_heat_2 : decode cX8_heat 2 = .ok (.if_icmp .ne 19, 3) := by decide +kernel
theorem dX8_heat_5 : decode cX8_heat 5 = .ok (.iload_n 0, 1) := by decide +kernel
theorem dX8_heat_6 : decode cX8_heat 6 = .ok (.sipush 500, 3) := by decide +kernel
theorem dX8_heat_9 : decode cX8_heat 9 = .ok (.sipush 600, 3) := by decide +kernel
theorem dX8_heat_12 : decode cX8_heat 12 = .ok (.sipush 550, 3) := by decide +kernel
theorem dX8_heat_15 : decode cX8_heat 15 = .ok (.invokestatic 42, 3) := by decide +kernel
theorem dX8_heat_18 : decode cX8_heat 18 = .ok (.goto 16, 3) := by decide +kernel
theorem dX8_heat_21 : decode cX8_heat 21 = .ok (.iload_n 0, 1) := by decide +kernel
theorem dX8_heat_22 : decode cX8_heat 22 = .ok (.sipush 700, 3) := by decide +kernel
theorem dX8_heat_25 : decode cX8_heat 25 = .ok (.sipush 850, 3) := by decide +kernel
theorem dX8_heat_28 : decode cX8_heat 28 = .ok (.sipush 900, 3) := by decide +kernel
theorem dX8_heat_31 : decode cX8_heat 31 = .ok (.invokestatic 42, 3) := by decide +kernel
theorem dX8_heat_34 : decode cX8_heat 34 = .ok (.ireturn, 1) := by decide +kernel
set_option maxRecDepth 20000 in
theorem ggX8_strengthOf_X8_choose : GoodIn wsX8_strengthOf wsX8_choose := goodIn_r _ [4] (by decide +kernel) (by decide +kernel)
set_option maxRecDepth 20000 in
theorem gX8_strengthOf_X8_choose : GoodIn wsX8_strengthOf (va_wsS RX8 42 yX8_choose wsX8_choose) := goodIn_app (goodIn_of _ (by decide +kernel)) ggX8_strengthOf_X8_choose
theorem dX8_strengthOf_0 : decode cX8_strengthOf 0 = .ok (.iload_n 1, 1) := by decide +kernel
theorem dX8_strengthOf_1 : decode cX8_strengthOf 1 = .ok (.ifCond .ne 7, 3) := by decide +kernel
theorem dX8_strengthOf_4 : decode cX8_strengthOf 4 = .ok (.iconst 0, 1) := by decide +kernel
theorem dX8_strengthOf_5 : decode cX8_strengthOf 5 = .ok (.goto 26, 3) := by decide +kernel
theorem dX8_strengthOf_8 : decode cX8_strengthOf 8 = .ok (.iload_n 1, 1) := by decide +kernel
theorem dX8_strengthOf_9 : decode cX8_strengthOf 9 = .ok (.iconst 1, 1) := by decide +kernel
theorem dX8_strengthOf_10 : decode cX8_strengthOf 10 = .ok (.if_icmp .ne 13, 3) := by decide +kernel
theorem dX8_strengthOf_13 : decode cX8_strengthOf 13 = .ok (.iload_n 0, 1) := by decide +kernel
theorem dX8_strengthOf_14 : decode cX8_strengthOf 14 = .ok (.iconst 2, 1) := by decide +kernel
theorem dX8_strengthOf_15 : decode cX8_strengthOf 15 = .ok (.iconst 3, 1) := by decide +kernel
theorem dX8_strengthOf_16 : decode cX8_strengthOf 16 = .ok (.iconst 1, 1) := by decide +kernel
theorem dX8_strengthOf_17 : decode cX8_strengthOf 17 = .ok (.invokestatic 42, 3) := by decide +kernel
theorem dX8_strengthOf_20 : decode cX8_strengthOf 20 = .ok (.goto 11, 3) := by decide +kernel
theorem dX8_strengthOf_23 : decode cX8_strengthOf 23 = .ok (.iload_n 0, 1) := by decide +kernel
theorem dX8_strengthOf_24 : decode cX8_strengthOf 24 = .ok (.iconst 4, 1) := by decide +kernel
theorem dX8_strengthOf_25 : decode cX8_strengthOf 25 = .ok (.bipush 6, 2) := by decide +kernel
theorem dX8_strengthOf_27 : decode cX8_strengthOf 27 = .ok (.iconst 5, 1) := by decide +kernel
theorem dX8_strengthOf_28 : decode cX8_strengthOf 28 = .ok (.invokestatic 42, 3) := by decide +kernel
theorem dX8_strengthOf_31 : decode cX8_strengthOf 31 = .ok (.ireturn, 1) := by decide +kernel
set_option maxRecDepth 20000 in
theorem ggX8_cooled_X8_choose : GoodIn wsX8_cooled wsX8_choose := goodIn_r _ [4] (by decide +kernel) (by decide +kernel)
set_option maxRecDepth 20000 in
theorem gX8_cooled_X8_choose : GoodIn wsX8_cooled (va_wsS RX8 42 yX8_choose wsX8_choose) := goodIn_app (goodIn_of _ (by decide +kernel)) ggX8_cooled_X8_choose
theorem dX8_cooled_0 : decode cX8_cooled 0 = .ok (.iload_n 1, 1) := by decide +kernel
theorem dX8_cooled_1 : decode cX8_cooled 1 = .ok (.iload_n 1, 1) := by decide +kernel
theorem dX8_cooled_2 : decode cX8_cooled 2 = .ok (.iload_n 0, 1) := by decide +kernel
theorem dX8_cooled_3 : decode cX8_cooled 3 = .ok (.bipush 10, 2) := by decide +kernel
theorem dX8_cooled_5 : decode cX8_cooled 5 = .ok (.bipush 14, 2) := by decide +kernel
theorem dX8_cooled_7 : decode cX8_cooled 7 = .ok (.bipush 20, 2) := by decide +kernel
theorem dX8_cooled_9 : decode cX8_cooled 9 = .ok (.invokestatic 42, 3) := by decide +kernel
theorem dX8_cooled_12 : decode cX8_cooled 12 = .ok (.idiv, 1) := by decide +kernel
theorem dX8_cooled_13 : decode cX8_cooled 13 = .ok (.isub, 1) := by decide +kernel
theorem dX8_cooled_14 : decode cX8_cooled 14 = .ok (.iconst 1, 1) := by decide +kernel
theorem dX8_cooled_15 : decode cX8_cooled 15 = .ok (.isub, 1) := by decide +kernel
theorem dX8_cooled_16 : decode cX8_cooled 16 = .ok (.istore_n 3, 1) := by decide +kernel
theorem dX8_cooled_17 : decode cX8_cooled 17 = .ok (.iload_n 3, 1) := by decide +kernel
theorem dX8_cooled_18 : decode cX8_cooled 18 = .ok (.iload_n 2, 1) := by decide +kernel
theorem dX8_cooled_19 : decode cX8_cooled 19 = .ok (.if_icmp .ge 7, 3) := by decide +kernel
theorem dX8_cooled_22 : decode cX8_cooled 22 = .ok (.iload_n 2, 1) := by decide +kernel
theorem dX8_cooled_23 : decode cX8_cooled 23 = .ok (.goto 4, 3) := by decide +kernel
theorem dX8_cooled_26 : decode cX8_cooled 26 = .ok (.iload_n 3, 1) := by decide +kernel
theorem dX8_cooled_27 : decode cX8_cooled 27 = .ok (.ireturn, 1) := by decide +kernel
set_option maxRecDepth 20000 in
theorem ggX8_warmed_X8_choose : GoodIn wsX8_warmed wsX8_choose := goodIn_r _ [4] (by decide +kernel) (by decide +kernel)
set_option maxRecDepth 20000 in
theorem gX8_warmed_X8_choose : GoodIn wsX8_warmed (va_wsS RX8 42 yX8_choose wsX8_choose) := goodIn_app (goodIn_of _ (by decide +kernel)) ggX8_warmed_X8_choose
theorem dX8_warmed_0 : decode cX8_warmed 0 = .ok (.iload_n 1, 1) := by decide +kernel
theorem dX8_warmed_1 : decode cX8_warmed 1 = .ok (.iload_n 2, 1) := by decide +kernel
theorem dX8_warmed_2 : decode cX8_warmed 2 = .ok (.iload_n 1, 1) := by decide +kernel
theorem dX8_warmed_3 : decode cX8_warmed 3 = .ok (.isub, 1) := by decide +kernel
theorem dX8_warmed_4 : decode cX8_warmed 4 = .ok (.iload_n 0, 1) := by decide +kernel
theorem dX8_warmed_5 : decode cX8_warmed 5 = .ok (.bipush 8, 2) := by decide +kernel
theorem dX8_warmed_7 : decode cX8_warmed 7 = .ok (.bipush 6, 2) := by decide +kernel
theorem dX8_warmed_9 : decode cX8_warmed 9 = .ok (.bipush 10, 2) := by decide +kernel
theorem dX8_warmed_11 : decode cX8_warmed 11 = .ok (.invokestatic 42, 3) := by decide +kernel
theorem dX8_warmed_14 : decode cX8_warmed 14 = .ok (.idiv, 1) := by decide +kernel
theorem dX8_warmed_15 : decode cX8_warmed 15 = .ok (.iadd, 1) := by decide +kernel
theorem dX8_warmed_16 : decode cX8_warmed 16 = .ok (.iconst 1, 1) := by decide +kernel
theorem dX8_warmed_17 : decode cX8_warmed 17 = .ok (.iadd, 1) := by decide +kernel
theorem dX8_warmed_18 : decode cX8_warmed 18 = .ok (.istore_n 3, 1) := by decide +kernel
theorem dX8_warmed_19 : decode cX8_warmed 19 = .ok (.iload_n 3, 1) := by decide +kernel
theorem dX8_warmed_20 : decode cX8_warmed 20 = .ok (.iload_n 2, 1) := by decide +kernel
theorem dX8_warmed_21 : decode cX8_warmed 21 = .ok (.if_icmp .le 7, 3) := by decide +kernel
theorem dX8_warmed_24 : decode cX8_warmed 24 = .ok (.iload_n 2, 1) := by decide +kernel
theorem dX8_warmed_25 : decode cX8_warmed 25 = .ok (.goto 4, 3) := by decide +kernel
theorem dX8_warmed_28 : decode cX8_warmed 28 = .ok (.iload_n 3, 1) := by decide +kernel
theorem dX8_warmed_29 : decode cX8_warmed 29 = .ok (.ireturn, 1) := by decide +kernel
set_option maxRecDepth 20000 in
theorem ggX8_byFlame_X8_warmed : GoodIn wsX8_byFlame wsX8_warmed := goodIn_r _ [4, 5, 6, 3, 7] (by decide +kernel) (by decide +kernel)
set_option maxRecDepth 20000 in
theorem gX8_byFlame_X8_warmed : GoodIn wsX8_byFlame (va_wsS RX8 46 yX8_warmed wsX8_warmed) := goodIn_app (goodIn_of _ (by decide +kernel)) ggX8_byFlame_X8_warmed
set_option maxRecDepth 20000 in
theorem ggX8_byFlame_X8_cooled : GoodIn wsX8_byFlame wsX8_cooled := goodIn_r _ [10, 5, 6, 3, 7] (by decide +kernel) (by decide +kernel)
set_option maxRecDepth 20000 in
theorem gX8_byFlame_X8_cooled : GoodIn wsX8_byFlame (va_wsS RX8 50 yX8_cooled wsX8_cooled) := goodIn_app (goodIn_of _ (by decide +kernel)) ggX8_byFlame_X8_cooled
theorem dX8_byFlame_0 : decode cX8_byFlame 0 = .ok (.iload_n 1, 1) := by decide +kernel
theorem dX8_byFlame_1 : decode cX8_byFlame 1 = .ok (.iload_n 2, 1) := by decide +kernel
theorem dX8_byFlame_2 : decode cX8_byFlame 2 = .ok (.if_icmp .ge 12, 3) := by decide +kernel
theorem dX8_byFlame_5 : decode cX8_byFlame 5 = .ok (.iload_n 0, 1) := by decide +kernel
theorem dX8_byFlame_6 : decode cX8_byFlame 6 = .ok (.iload_n 1, 1) := by decide +kernel
theorem dX8_byFlame_7 : decode cX8_byFlame 7 = .ok (.iload_n 2, 1) := by decide +kernel
theorem dX8_byFlame_8 : decode cX8_byFlame 8 = .ok (.invokestatic 46, 3) := by decide +kernel
theorem dX8_byFlame_11 : decode cX8_byFlame 11 = .ok (.goto 18, 3) := by decide +kernel
theorem dX8_byFlame_14 : decode cX8_byFlame 14 = .ok (.iload_n 1, 1) := by decide +kernel
theorem dX8_byFlame_15 : decode cX8_byFlame 15 = .ok (.iload_n 2, 1) := by decide +kernel
theorem dX8_byFlame_16 : decode cX8_byFlame 16 = .ok (.if_icmp .le 12, 3) := by decide +kernel
theorem dX8_byFlame_19 : decode cX8_byFlame 19 = .ok (.iload_n 0, 1) := by decide +kernel
theorem dX8_byFlame_20 : decode cX8_byFlame 20 = .ok (.iload_n 1, 1) := by decide +kernel
theorem dX8_byFlame_21 : decode cX8_byFlame 21 = .ok (.iload_n 2, 1) := by decide +kernel
theorem dX8_byFlame_22 : decode cX8_byFlame 22 = .ok (.invokestatic 50, 3) := by decide +kernel
theorem dX8_byFlame_25 : decode cX8_byFlame 25 = .ok (.goto 4, 3) := by decide +kernel
theorem dX8_byFlame_28 : decode cX8_byFlame 28 = .ok (.iload_n 1, 1) := by decide +kernel
theorem dX8_byFlame_29 : decode cX8_byFlame 29 = .ok (.ireturn, 1) := by decide +kernel
set_option maxRecDepth 20000 in
theorem ggX8_strength_X8_get : GoodIn wsX8_strength wsX8_get := goodIn_r _ [5, 6, 13, 14, 15, 16, 17, 18, 19, 20, 21, 22, 23, 24, 25, 26] (by decide +kernel) (by decide +kernel)
set_option maxRecDepth 20000 in
theorem gX8_strength_X8_get : GoodIn wsX8_strength (wsV RX8 53 RX8 yX8_get wsX8_get) := goodIn_app (goodIn_of _ (by decide +kernel)) ggX8_strength_X8_get
set_option maxRecDepth 20000 in
theorem ggX8_strength_X8_strengthOf : GoodIn wsX8_strength wsX8_strengthOf := goodIn_r _ [9, 10, 11, 4, 12] (by decide +kernel) (by decide +kernel)
set_option maxRecDepth 20000 in
theorem gX8_strength_X8_strengthOf : GoodIn wsX8_strength (va_wsS RX8 57 yX8_strengthOf wsX8_strengthOf) := goodIn_app (goodIn_of _ (by decide +kernel)) ggX8_strength_X8_strengthOf
theorem dX8_strength_0 : decode cX8_strength 0 = .ok (.aload_n 0, 1) := by decide +kernel
theorem dX8_strength_1 : decode cX8_strength 1 = .ok (.iload_n 1, 1) := by decide +kernel
theorem dX8_strength_2 : decode cX8_strength 2 = .ok (.iconst 0, 1) := by decide +kernel
theorem dX8_strength_3 : decode cX8_strength 3 = .ok (.invokevirtual 53, 3) := by decide +kernel
theorem dX8_strength_6 : decode cX8_strength 6 = .ok (.aload_n 0, 1) := by decide +kernel
theorem dX8_strength_7 : decode cX8_strength 7 = .ok (.iload_n 1, 1) := by decide +kernel
theorem dX8_strength_8 : decode cX8_strength 8 = .ok (.iconst 1, 1) := by decide +kernel
theorem dX8_strength_9 : decode cX8_strength 9 = .ok (.invokevirtual 53, 3) := by decide +kernel
theorem dX8_strength_12 : decode cX8_strength 12 = .ok (.invokestatic 57, 3) := by decide +kernel
theorem dX8_strength_15 : decode cX8_strength 15 = .ok (.ireturn, 1) := by decide +kernel
set_option maxRecDepth 20000 in
theorem ggX8_isOpen_X8_get : GoodIn wsX8_isOpen wsX8_get := goodIn_r _ [6, 1, 7, 8, 9, 10, 11, 12, 13, 14, 15, 16, 17, 18, 19, 20] (by decide +kernel) (by decide +kernel)
set_option maxRecDepth 20000 in
theorem gX8_isOpen_X8_get : GoodIn wsX8_isOpen (wsV RX8 53 RX8 yX8_get wsX8_get) := goodIn_app (goodIn_of _ (by decide +kernel)) ggX8_isOpen_X8_get
theorem dX8_isOpen_0 : decode cX8_isOpen 0 = .ok (.aload_n 0, 1) := by decide +kernel
theorem dX8_isOpen_1 : decode cX8_isOpen 1 = .ok (.iload_n 1, 1) := by decide +kernel
theorem dX8_isOpen_2 : decode cX8_isOpen 2 = .ok (.bipush 6, 2) := by decide +kernel
theorem dX8_isOpen_4 : decode cX8_isOpen 4 = .ok (.invokevirtual 53, 3) := by decide +kernel
theorem dX8_isOpen_7 : decode cX8_isOpen 7 = .ok (.ifCond .ne 41, 3) := by decide +kernel
theorem dX8_isOpen_10 : decode cX8_isOpen 10 = .ok (.aload_n 0, 1) := by decide +kernel
theorem dX8_isOpen_11 : decode cX8_isOpen 11 = .ok (.iload_n 1, 1) := by decide +kernel
theorem dX8_isOpen_12 : decode cX8_isOpen 12 = .ok (.iconst 1, 1) := by decide +kernel
theorem dX8_isOpen_13 : decode cX8_isOpen 13 = .ok (.invokevirtual 53, 3) := by decide +kernel
theorem dX8_isOpen_16 : decode cX8_isOpen 16 = .ok (.ifCond .le 32, 3) := by decide +kernel
theorem dX8_isOpen_19 : decode cX8_isOpen 19 = .ok (.aload_n 0, 1) := by decide +kernel
theorem dX8_isOpen_20 : decode cX8_isOpen 20 = .ok (.iload_n 1, 1) := by decide +kernel
theorem dX8_isOpen_21 : decode cX8_isOpen 21 = .ok (.iconst 2, 1) := by decide +kernel
theorem dX8_isOpen_22 : decode cX8_isOpen 22 = .ok (.invokevirtual 53, 3) := by decide +kernel
theorem dX8_isOpen_25 : decode cX8_isOpen 25 = .ok (.iconst 1, 1) := by decide +kernel
theorem dX8_isOpen_26 : decode cX8_isOpen 26 = .ok (.if_icmp .eq 18, 3) := by decide +kernel
theorem dX8_isOpen_29 : decode cX8_isOpen 29 = .ok (.aload_n 0, 1) := by decide +kernel
theorem dX8_isOpen_30 : decode cX8_isOpen 30 = .ok (.iload_n 1, 1) := by decide +kernel
theorem dX8_isOpen_31 : decode cX8_isOpen 31 = .ok (.iconst 5, 1) := by decide +kernel
theorem dX8_isOpen_32 : decode cX8_isOpen 32 = .ok (.invokevirtual 53, 3) := by decide +kernel
theorem dX8_isOpen_35 : decode cX8_isOpen 35 = .ok (.aload_n 0, 1) := by decide +kernel
theorem dX8_isOpen_36 : decode cX8_isOpen 36 = .ok (.getfield 7, 3) := by decide +kernel
theorem dX8_isOpen_39 : decode cX8_isOpen 39 = .ok (.iconst 0, 1) := by decide +kernel
theorem dX8_isOpen_40 : decode cX8_isOpen 40 = .ok (.iaload, 1) := by decide +kernel
theorem dX8_isOpen_41 : decode cX8_isOpen 41 = .ok (.if_icmp .lt 7, 3) := by decide +kernel
theorem dX8_isOpen_44 : decode cX8_isOpen 44 = .ok (.iconst 1, 1) := by decide +kernel
theorem dX8_isOpen_45 : decode cX8_isOpen 45 = .ok (.goto 4, 3) := by decide +kernel
theorem dX8_isOpen_48 : decode cX8_isOpen 48 = .ok (.iconst 0, 1) := by decide +kernel
theorem dX8_isOpen_49 : decode cX8_isOpen 49 = .ok (.ireturn, 1) := by decide +kernel
theorem dX8_draftAt_0 : decode cX8_draftAt 0 = .ok (.iconst 0, 1) := by decide +kernel
theorem dX8_draftAt_1 : decode cX8_draftAt 1 = .ok (.istore_n 2, 1) := by decide +kernel
theorem dX8_draftAt_2 : decode cX8_draftAt 2 = .ok (.iconst 0, 1) := by decide +kernel
theorem dX8_draftAt_3 : decode cX8_draftAt 3 = .ok (.istore_n 3, 1) := by decide +kernel
theorem dX8_draftAt_4 : decode cX8_draftAt 4 = .ok (.iload_n 3, 1) := by decide +kernel
theorem dX8_draftAt_5 : decode cX8_draftAt 5 = .ok (.aload_n 0, 1) := by decide +kernel
theorem dX8_draftAt_6 : decode cX8_draftAt 6 = .ok (.getfield 7, 3) := by decide +kernel
theorem dX8_draftAt_9 : decode cX8_draftAt 9 = .ok (.bipush 43, 2) := by decide +kernel
theorem dX8_draftAt_11 : decode cX8_draftAt 11 = .ok (.iaload, 1) := by decide +kernel
theorem dX8_draftAt_12 : decode cX8_draftAt 12 = .ok (.if_icmp .ge 42, 3) := by decide +kernel
theorem dX8_draftAt_15 : decode cX8_draftAt 15 = .ok (.aload_n 0, 1) := by decide +kernel
theorem dX8_draftAt_16 : decode cX8_draftAt 16 = .ok (.getfield 7, 3) := by decide +kernel
theorem dX8_draftAt_19 : decode cX8_draftAt 19 = .ok (.bipush 44, 2) := by decide +kernel
theorem dX8_draftAt_21 : decode cX8_draftAt 21 = .ok (.iconst 2, 1) := by decide +kernel
theorem dX8_draftAt_22 : decode cX8_draftAt 22 = .ok (.iload_n 3, 1) := by decide +kernel
theorem dX8_draftAt_23 : decode cX8_draftAt 23 = .ok (.imul, 1) := by decide +kernel
theorem dX8_draftAt_24 : decode cX8_draftAt 24 = .ok (.iadd, 1) := by decide +kernel
theorem dX8_draftAt_25 : decode cX8_draftAt 25 = .ok (.iaload, 1) := by decide +kernel
theorem dX8_draftAt_26 : decode cX8_draftAt 26 = .ok (.iload_n 1, 1) := by decide +kernel
theorem dX8_draftAt_27 : decode cX8_draftAt 27 = .ok (.if_icmp .gt 19, 3) := by decide +kernel
theorem dX8_draftAt_30 : decode cX8_draftAt 30 = .ok (.aload_n 0, 1) := by decide +kernel
theorem dX8_draftAt_31 : decode cX8_draftAt 31 = .ok (.getfield 7, 3) := by decide +kernel
theorem dX8_draftAt_34 : decode cX8_draftAt 34 = .ok (.bipush 44, 2) := by decide +kernel
theorem dX8_draftAt_36 : decode cX8_draftAt 36 = .ok (.iconst 2, 1) := by decide +kernel
theorem dX8_draftAt_37 : decode cX8_draftAt 37 = .ok (.iload_n 3, 1) := by decide +kernel
theorem dX8_draftAt_38 : decode cX8_draftAt 38 = .ok (.imul, 1) := by decide +kernel
theorem dX8_draftAt_39 : decode cX8_draftAt 39 = .ok (.iadd, 1) := by decide +kernel
theorem dX8_draftAt_40 : decode cX8_draftAt 40 = .ok (.iconst 1, 1) := by decide +kernel
theorem dX8_draftAt_41 : decode cX8_draftAt 41 = .ok (.iadd, 1) := by decide +kernel
theorem dX8_draftAt_42 : decode cX8_draftAt 42 = .ok (.iaload, 1) := by decide +kernel
theorem dX8_draftAt_43 : decode cX8_draftAt 43 = .ok (.goto 4, 3) := by decide +kernel
theorem dX8_draftAt_46 : decode cX8_draftAt 46 = .ok (.iload_n 2, 1) := by decide +kernel
theorem dX8_draftAt_47 : decode cX8_draftAt 47 = .ok (.istore_n 2, 1) := by decide +kernel
theorem dX8_draftAt_48 : decode cX8_draftAt 48 = .ok (.iinc 3 1, 3) := by decide +kernel
theorem dX8_draftAt_51 : decode cX8_draftAt 51 = .ok (.goto (-47), 3) := by decide +kernel
theorem dX8_draftAt_54 : decode cX8_draftAt 54 = .ok (.iload_n 2, 1) := by decide +kernel
theorem dX8_draftAt_55 : decode cX8_draftAt 55 = .ok (.ireturn, 1) := by decide +kernel
theorem dX8_tells_0 : decode cX8_tells 0 = .ok (.aload_n 0, 1) := by decide +kernel
theorem dX8_tells_1 : decode cX8_tells 1 = .ok (.getfield 7, 3) := by decide +kernel
theorem dX8_tells_4 : decode cX8_tells 4 = .ok (.bipush 12, 2) := by decide +kernel
theorem dX8_tells_6 : decode cX8_tells 6 = .ok (.iaload, 1) := by decide +kernel
theorem dX8_tells_7 : decode cX8_tells 7 = .ok (.bipush 10, 2) := by decide +kernel
theorem dX8_tells_9 : decode cX8_tells 9 = .ok (.if_icmp .ne 48, 3) := by decide +kernel
theorem dX8_tells_12 : decode cX8_tells 12 = .ok (.iconst 0, 1) := by decide +kernel
theorem dX8_tells_13 : decode cX8_tells 13 = .ok (.istore_n 3, 1) := by decide +kernel
theorem dX8_tells_14 : decode cX8_tells 14 = .ok (.iload_n 3, 1) := by decide +kernel
theorem dX8_tells_15 : decode cX8_tells 15 = .ok (.bipush 27, 2) := by decide +kernel
theorem dX8_tells_17 : decode cX8_tells 17 = .ok (.if_icmp .ge 29, 3) := by decide +kernel
theorem dX8_tells_20 : decode cX8_tells 20 = .ok (.aload_n 0, 1) := by decide +kernel
theorem dX8_tells_21 : decode cX8_tells 21 = .ok (.getfield 7, 3) := by decide +kernel
theorem dX8_tells_24 : decode cX8_tells 24 = .ok (.bipush 13, 2) := by decide +kernel
theorem dX8_tells_26 : decode cX8_tells 26 = .ok (.iload_n 3, 1) := by decide +kernel
theorem dX8_tells_27 : decode cX8_tells 27 = .ok (.iadd, 1) := by decide +kernel
theorem dX8_tells_28 : decode cX8_tells 28 = .ok (.aload_n 0, 1) := by decide +kernel
theorem dX8_tells_29 : decode cX8_tells 29 = .ok (.getfield 7, 3) := by decide +kernel
theorem dX8_tells_32 : decode cX8_tells 32 = .ok (.bipush 13, 2) := by decide +kernel
theorem dX8_tells_34 : decode cX8_tells 34 = .ok (.iload_n 3, 1) := by decide +kernel
theorem dX8_tells_35 : decode cX8_tells 35 = .ok (.iadd, 1) := by decide +kernel
theorem dX8_tells_36 : decode cX8_tells 36 = .ok (.iconst 3, 1) := by decide +kernel
theorem dX8_tells_37 : decode cX8_tells 37 = .ok (.iadd, 1) := by decide +kernel
theorem dX8_tells_38 : decode cX8_tells 38 = .ok (.iaload, 1) := by decide +kernel
theorem dX8_tells_39 : decode cX8_tells 39 = .ok (.iastore, 1) := by decide +kernel
theorem dX8_tells_40 : decode cX8_tells 40 = .ok (.iinc 3 1, 3) := by decide +kernel
theorem dX8_tells_43 : decode cX8_tells 43 = .ok (.goto (-29), 3) := by decide +kernel
theorem dX8_tells_46 : decode cX8_tells 46 = .ok (.aload_n 0, 1) := by decide +kernel
theorem dX8_tells_47 : decode cX8_tells 47 = .ok (.getfield 7, 3) := by decide +kernel
theorem dX8_tells_50 : decode cX8_tells 50 = .ok (.bipush 12, 2) := by decide +kernel
theorem dX8_tells_52 : decode cX8_tells 52 = .ok (.dup2, 1) := by decide +kernel
theorem dX8_tells_53 : decode cX8_tells 53 = .ok (.iaload, 1) := by decide +kernel
theorem dX8_tells_54 : decode cX8_tells 54 = .ok (.iconst 1, 1) := by decide +kernel
theorem dX8_tells_55 : decode cX8_tells 55 = .ok (.isub, 1) := by decide +kernel
theorem dX8_tells_56 : decode cX8_tells 56 = .ok (.iastore, 1) := by decide +kernel
theorem dX8_tells_57 : decode cX8_tells 57 = .ok (.bipush 13, 2) := by decide +kernel
theorem dX8_tells_59 : decode cX8_tells 59 = .ok (.iconst 3, 1) := by decide +kernel
theorem dX8_tells_60 : decode cX8_tells 60 = .ok (.aload_n 0, 1) := by decide +kernel
theorem dX8_tells_61 : decode cX8_tells 61 = .ok (.getfield 7, 3) := by decide +kernel
theorem dX8_tells_64 : decode cX8_tells 64 = .ok (.bipush 12, 2) := by decide +kernel
theorem dX8_tells_66 : decode cX8_tells 66 = .ok (.iaload, 1) := by decide +kernel
theorem dX8_tells_67 : decode cX8_tells 67 = .ok (.imul, 1) := by decide +kernel
theorem dX8_tells_68 : decode cX8_tells 68 = .ok (.iadd, 1) := by decide +kernel
theorem dX8_tells_69 : decode cX8_tells 69 = .ok (.istore_n 3, 1) := by decide +kernel
theorem dX8_tells_70 : decode cX8_tells 70 = .ok (.aload_n 0, 1) := by decide +kernel
theorem dX8_tells_71 : decode cX8_tells 71 = .ok (.getfield 7, 3) := by decide +kernel
theorem dX8_tells_74 : decode cX8_tells 74 = .ok (.iload_n 3, 1) := by decide +kernel
theorem dX8_tells_75 : decode cX8_tells 75 = .ok (.iload_n 1, 1) := by decide +kernel
theorem dX8_tells_76 : decode cX8_tells 76 = .ok (.iastore, 1) := by decide +kernel
theorem dX8_tells_77 : decode cX8_tells 77 = .ok (.aload_n 0, 1) := by decide +kernel
theorem dX8_tells_78 : decode cX8_tells 78 = .ok (.getfield 7, 3) := by decide +kernel
theorem dX8_tells_81 : decode cX8_tells 81 = .ok (.iload_n 3, 1) := by decide +kernel
theorem dX8_tells_82 : decode cX8_tells 82 = .ok (.iconst 1, 1) := by decide +kernel
theorem dX8_tells_83 : decode cX8_tells 83 = .ok (.iadd, 1) := by decide +kernel
theorem dX8_tells_84 : decode cX8_tells 84 = .ok (.iload_n 2, 1) := by decide +kernel
theorem dX8_tells_85 : decode cX8_tells 85 = .ok (.iastore, 1) := by decide +kernel
theorem dX8_tells_86 : decode cX8_tells 86 = .ok (.aload_n 0, 1) := by decide +kernel
theorem dX8_tells_87 : decode cX8_tells 87 = .ok (.getfield 7, 3) := by decide +kernel
theorem dX8_tells_90 : decode cX8_tells 90 = .ok (.iload_n 3, 1) := by decide +kernel
theorem dX8_tells_91 : decode cX8_tells 91 = .ok (.iconst 2, 1) := by decide +kernel
theorem dX8_tells_92 : decode cX8_tells 92 = .ok (.iadd, 1) := by decide +kernel
theorem dX8_tells_93 : decode cX8_tells 93 = .ok (.aload_n 0, 1) := by decide +kernel
theorem dX8_tells_94 : decode cX8_tells 94 = .ok (.getfield 7, 3) := by decide +kernel
theorem dX8_tells_97 : decode cX8_tells 97 = .ok (.iconst 4, 1) := by decide +kernel
theorem dX8_tells_98 : decode cX8_tells 98 = .ok (.iaload, 1) := by decide +kernel
theorem dX8_tells_99 : decode cX8_tells 99 = .ok (.iastore, 1) := by decide +kernel
theorem dX8_tells_100 : decode cX8_tells 100 = .ok (.aload_n 0, 1) := by decide +kernel
theorem dX8_tells_101 : decode cX8_tells 101 = .ok (.getfield 7, 3) := by decide +kernel
theorem dX8_tells_104 : decode cX8_tells 104 = .ok (.bipush 12, 2) := by decide +kernel
theorem dX8_tells_106 : decode cX8_tells 106 = .ok (.dup2, 1) := by decide +kernel
theorem dX8_tells_107 : decode cX8_tells 107 = .ok (.iaload, 1) := by decide +kernel
theorem dX8_tells_108 : decode cX8_tells 108 = .ok (.iconst 1, 1) := by decide +kernel
theorem dX8_tells_109 : decode cX8_tells 109 = .ok (.iadd, 1) := by decide +kernel
theorem dX8_tells_110 : decode cX8_tells 110 = .ok (.iastore, 1) := by decide +kernel
theorem dX8_tells_111 : decode cX8_tells 111 = .ok (.aload_n 0, 1) := by decide +kernel
theorem dX8_tells_112 : decode cX8_tells 112 = .ok (.getfield 7, 3) := by decide +kernel
theorem dX8_tells_115 : decode cX8_tells 115 = .ok (.bipush 8, 2) := by decide +kernel
theorem dX8_tells_117 : decode cX8_tells 117 = .ok (.iload_n 1, 1) := by decide +kernel
theorem dX8_tells_118 : decode cX8_tells 118 = .ok (.iadd, 1) := by decide +kernel
theorem dX8_tells_119 : decode cX8_tells 119 = .ok (.dup2, 1) := by decide +kernel
theorem dX8_tells_120 : decode cX8_tells 120 = .ok (.iaload, 1) := by decide +kernel
theorem dX8_tells_121 : decode cX8_tells 121 = .ok (.iconst 1, 1) := by decide +kernel
theorem dX8_tells_122 : decode cX8_tells 122 = .ok (.iadd, 1) := by decide +kernel
theorem dX8_tells_123 : decode cX8_tells 123 = .ok (.iastore, 1) := by decide +kernel
theorem dX8_tells_124 : decode cX8_tells 124 = .ok (.return_, 1) := by decide +kernel
set_option maxRecDepth 20000 in
theorem ggX8_burns_X8_get : GoodIn wsX8_burns wsX8_get := goodIn_r _ [6, 1, 48, 49, 50, 51, 52, 53, 54, 55, 56, 57, 58, 59, 60, 61] (by decide +kernel) (by decide +kernel)
set_option maxRecDepth 20000 in
theorem gX8_burns_X8_get : GoodIn wsX8_burns (wsV RX8 53 RX8 yX8_get wsX8_get) := goodIn_app (goodIn_of _ (by decide +kernel)) ggX8_burns_X8_get
set_option maxRecDepth 20000 in
theorem ggX8_burns_X8_isOpen : GoodIn wsX8_burns wsX8_isOpen := goodIn_r _ [10, 1, 2, 3, 4, 5, 6, 48, 49, 50, 51, 52, 53, 54, 55, 56, 57, 58, 59, 60, 61] (by decide +kernel) (by decide +kernel)
set_option maxRecDepth 20000 in
theorem gX8_burns_X8_isOpen : GoodIn wsX8_burns (wsV RX8 60 RX8 yX8_isOpen wsX8_isOpen) := goodIn_app (goodIn_of _ (by decide +kernel)) ggX8_burns_X8_isOpen
set_option maxRecDepth 20000 in
theorem ggX8_burns_X8_lay : GoodIn wsX8_burns wsX8_lay := goodIn_r _ [14, 1, 48, 49, 50, 51, 52, 53, 54, 55, 56, 57, 58, 59, 60, 61] (by decide +kernel) (by decide +kernel)
set_option maxRecDepth 20000 in
theorem gX8_burns_X8_lay : GoodIn wsX8_burns (wsV RX8 64 RX8 yX8_lay wsX8_lay) := goodIn_app (goodIn_of _ (by decide +kernel)) ggX8_burns_X8_lay
set_option maxRecDepth 20000 in
theorem ggX8_burns_X8_strength : GoodIn wsX8_burns wsX8_strength := goodIn_r _ [18, 2, 3, 4, 5, 6, 1, 19, 20, 21, 22, 23, 24, 48, 49, 50, 51, 52, 53, 54, 55, 56, 57, 58, 59, 60, 61] (by decide +kernel) (by decide +kernel)
set_option maxRecDepth 20000 in
theorem gX8_burns_X8_strength : GoodIn wsX8_burns (wsV RX8 68 RX8 yX8_strength wsX8_strength) := goodIn_app (goodIn_of _ (by decide +kernel)) ggX8_burns_X8_strength
set_option maxRecDepth 20000 in
theorem ggX8_burns_X8_tells : GoodIn wsX8_burns wsX8_tells := goodIn_r _ [28, 1, 48, 49, 50, 51, 52, 53, 54, 55, 56, 57, 58, 59, 60, 61] (by decide +kernel) (by decide +kernel)
set_option maxRecDepth 20000 in
theorem gX8_burns_X8_tells : GoodIn wsX8_burns (wsV RX8 72 RX8 yX8_tells wsX8_tells) := goodIn_app (goodIn_of _ (by decide +kernel)) ggX8_burns_X8_tells
set_option maxRecDepth 20000 in
theorem ggX8_burns_X8_sparks : GoodIn wsX8_burns wsX8_sparks := goodIn_r _ [32, 1, 2, 3, 4, 5, 6, 11, 12, 13, 14, 15, 16, 17, 18, 19, 20, 21, 22, 23, 24, 25, 26, 27, 28, 48, 49, 50, 51, 52, 53, 54, 55, 56, 57, 58, 59, 60, 61] (by decide +kernel) (by decide +kernel)
set_option maxRecDepth 20000 in
theorem gX8_burns_X8_sparks : GoodIn wsX8_burns (wsV RX8 76 RX8 yX8_sparks wsX8_sparks) := goodIn_app (goodIn_of _ (by decide +kernel)) ggX8_burns_X8_sparks
set_option maxRecDepth 20000 in
theorem ggX8_burns_X8_heat : GoodIn wsX8_burns wsX8_heat := goodIn_r _ [35, 22, 23, 5, 24] (by decide +kernel) (by decide +kernel)
set_option maxRecDepth 20000 in
theorem gX8_burns_X8_heat : GoodIn wsX8_burns (va_wsS RX8 79 yX8_heat wsX8_heat) := goodIn_app (goodIn_of _ (by decide +kernel)) ggX8_burns_X8_heat
set_option maxRecDepth 20000 in
theorem ggX8_burns_X8_byFlame : GoodIn wsX8_burns wsX8_byFlame := goodIn_r _ [38, 39, 40, 5, 41, 22, 23, 24, 42, 43, 44] (by decide +kernel) (by decide +kernel)
set_option maxRecDepth 20000 in
theorem gX8_burns_X8_byFlame : GoodIn wsX8_burns (va_wsS RX8 82 yX8_byFlame wsX8_byFlame) := goodIn_app (goodIn_of _ (by decide +kernel)) ggX8_burns_X8_byFlame
set_option maxRecDepth 20000 in
theorem ggX8_burns_X8_cooled : GoodIn wsX8_burns wsX8_cooled := goodIn_r _ [44, 22, 23, 5, 24] (by decide +kernel) (by decide +kernel)
set_option maxRecDepth 20000 in
theorem gX8_burns_X8_cooled : GoodIn wsX8_burns (va_wsS RX8 50 yX8_cooled wsX8_cooled) := goodIn_app (goodIn_of _ (by decide +kernel)) ggX8_burns_X8_cooled
set_option maxRecDepth 20000 in
theorem ggX8_burns_X8_flow : GoodIn wsX8_burns wsX8_flow := goodIn_r _ [47, 22, 23, 5, 24] (by decide +kernel) (by decide +kernel)
set_option maxRecDepth 20000 in
theorem gX8_burns_X8_flow : GoodIn wsX8_burns (va_wsS RX8 85 yX8_flow wsX8_flow) := goodIn_app (goodIn_of _ (by decide +kernel)) ggX8_burns_X8_flow
theorem dX8_burns_0 : decode cX8_burns 0 = .ok (.aload_n 0, 1) := by decide +kernel
theorem dX8_burns_1 : decode cX8_burns 1 = .ok (.iload_n 1, 1) := by decide +kernel
theorem dX8_burns_2 : decode cX8_burns 2 = .ok (.iconst 4, 1) := by decide +kernel
theorem dX8_burns_3 : decode cX8_burns 3 = .ok (.invokevirtual 53, 3) := by decide +kernel
theorem dX8_burns_6 : decode cX8_burns 6 = .ok (.iconst 1, 1) := by decide +kernel
theorem dX8_burns_7 : decode cX8_burns 7 = .ok (.if_icmp .ne 18, 3) := by decide +kernel
theorem dX8_burns_10 : decode cX8_burns 10 = .ok (.aload_n 0, 1) := by decide +kernel
theorem dX8_burns_11 : decode cX8_burns 11 = .ok (.iload_n 1, 1) := by decide +kernel
theorem dX8_burns_12 : decode cX8_burns 12 = .ok (.invokevirtual 60, 3) := by decide +kernel
theorem dX8_burns_15 : decode cX8_burns 15 = .ok (.ifCond .ne 10, 3) := by decide +kernel
theorem dX8_burns_18 : decode cX8_burns 18 = .ok (.aload_n 0, 1) := by decide +kernel
theorem dX8_burns_19 : decode cX8_burns 19 = .ok (.iload_n 1, 1) := by decide +kernel
theorem dX8_burns_20 : decode cX8_burns 20 = .ok (.iconst 4, 1) := by decide +kernel
theorem dX8_burns_21 : decode cX8_burns 21 = .ok (.iconst 0, 1) := by decide +kernel
theorem dX8_burns_22 : decode cX8_burns 22 = .ok (.invokevirtual 64, 3) := by decide +kernel
theorem dX8_burns_25 : decode cX8_burns 25 = .ok (.aload_n 0, 1) := by decide +kernel
theorem dX8_burns_26 : decode cX8_burns 26 = .ok (.iload_n 1, 1) := by decide +kernel
theorem dX8_burns_27 : decode cX8_burns 27 = .ok (.iconst 4, 1) := by decide +kernel
theorem dX8_burns_28 : decode cX8_burns 28 = .ok (.invokevirtual 53, 3) := by decide +kernel
theorem dX8_burns_31 : decode cX8_burns 31 = .ok (.iconst 1, 1) := by decide +kernel
theorem dX8_burns_32 : decode cX8_burns 32 = .ok (.if_icmp .ne 25, 3) := by decide +kernel
theorem dX8_burns_35 : decode cX8_burns 35 = .ok (.iload_n 2, 1) := by decide +kernel
theorem dX8_burns_36 : decode cX8_burns 36 = .ok (.aload_n 0, 1) := by decide +kernel
theorem dX8_burns_37 : decode cX8_burns 37 = .ok (.iload_n 1, 1) := by decide +kernel
theorem dX8_burns_38 : decode cX8_burns 38 = .ok (.invokevirtual 68, 3) := by decide +kernel
theorem dX8_burns_41 : decode cX8_burns 41 = .ok (.if_icmp .le 16, 3) := by decide +kernel
theorem dX8_burns_44 : decode cX8_burns 44 = .ok (.aload_n 0, 1) := by decide +kernel
theorem dX8_burns_45 : decode cX8_burns 45 = .ok (.iload_n 1, 1) := by decide +kernel
theorem dX8_burns_46 : decode cX8_burns 46 = .ok (.iconst 4, 1) := by decide +kernel
theorem dX8_burns_47 : decode cX8_burns 47 = .ok (.iconst 0, 1) := by decide +kernel
theorem dX8_burns_48 : decode cX8_burns 48 = .ok (.invokevirtual 64, 3) := by decide +kernel
theorem dX8_burns_51 : decode cX8_burns 51 = .ok (.aload_n 0, 1) := by decide +kernel
theorem dX8_burns_52 : decode cX8_burns 52 = .ok (.iconst 1, 1) := by decide +kernel
theorem dX8_burns_53 : decode cX8_burns 53 = .ok (.iload_n 1, 1) := by decide +kernel
theorem dX8_burns_54 : decode cX8_burns 54 = .ok (.invokevirtual 72, 3) := by decide +kernel
theorem dX8_burns_57 : decode cX8_burns 57 = .ok (.aload_n 0, 1) := by decide +kernel
theorem dX8_burns_58 : decode cX8_burns 58 = .ok (.iload_n 1, 1) := by decide +kernel
theorem dX8_burns_59 : decode cX8_burns 59 = .ok (.iconst 4, 1) := by decide +kernel
theorem dX8_burns_60 : decode cX8_burns 60 = .ok (.invokevirtual 53, 3) := by decide +kernel
theorem dX8_burns_63 : decode cX8_burns 63 = .ok (.ifCond .ne 37, 3) := by decide +kernel
theorem dX8_burns_66 : decode cX8_burns 66 = .ok (.aload_n 0, 1) := by decide +kernel
theorem dX8_burns_67 : decode cX8_burns 67 = .ok (.iload_n 1, 1) := by decide +kernel
theorem dX8_burns_68 : decode cX8_burns 68 = .ok (.invokevirtual 60, 3) := by decide +kernel
theorem dX8_burns_71 : decode cX8_burns 71 = .ok (.ifCond .eq 29, 3) := by decide +kernel
theorem dX8_burns_74 : decode cX8_burns 74 = .ok (.aload_n 0, 1) := by decide +kernel
theorem dX8_burns_75 : decode cX8_burns 75 = .ok (.iload_n 1, 1) := by decide +kernel
theorem dX8_burns_76 : decode cX8_burns 76 = .ok (.iconst 3, 1) := by decide +kernel
theorem dX8_burns_77 : decode cX8_burns 77 = .ok (.invokevirtual 53, 3) := by decide +kernel
theorem dX8_burns_80 : decode cX8_burns 80 = .ok (.iconst 1, 1) := by decide +kernel
theorem dX8_burns_81 : decode cX8_burns 81 = .ok (.if_icmp .ne 19, 3) := by decide +kernel
theorem dX8_burns_84 : decode cX8_burns 84 = .ok (.iload_n 3, 1) := by decide +kernel
theorem dX8_burns_85 : decode cX8_burns 85 = .ok (.aload_n 0, 1) := by decide +kernel
theorem dX8_burns_86 : decode cX8_burns 86 = .ok (.getfield 7, 3) := by decide +kernel
theorem dX8_burns_89 : decode cX8_burns 89 = .ok (.iconst 3, 1) := by decide +kernel
theorem dX8_burns_90 : decode cX8_burns 90 = .ok (.iaload, 1) := by decide +kernel
theorem dX8_burns_91 : decode cX8_burns 91 = .ok (.if_icmp .ge 9, 3) := by decide +kernel
theorem dX8_burns_94 : decode cX8_burns 94 = .ok (.aload_n 0, 1) := by decide +kernel
theorem dX8_burns_95 : decode cX8_burns 95 = .ok (.iload_n 1, 1) := by decide +kernel
theorem dX8_burns_96 : decode cX8_burns 96 = .ok (.iload_n 2, 1) := by decide +kernel
theorem dX8_burns_97 : decode cX8_burns 97 = .ok (.invokevirtual 76, 3) := by decide +kernel
theorem dX8_burns_100 : decode cX8_burns 100 = .ok (.aload_n 0, 1) := by decide +kernel
theorem dX8_burns_101 : decode cX8_burns 101 = .ok (.iload_n 1, 1) := by decide +kernel
theorem dX8_burns_102 : decode cX8_burns 102 = .ok (.invokevirtual 60, 3) := by decide +kernel
theorem dX8_burns_105 : decode cX8_burns 105 = .ok (.istore 4, 2) := by decide +kernel
theorem dX8_burns_107 : decode cX8_burns 107 = .ok (.aload_n 0, 1) := by decide +kernel
theorem dX8_burns_108 : decode cX8_burns 108 = .ok (.iload_n 1, 1) := by decide +kernel
theorem dX8_burns_109 : decode cX8_burns 109 = .ok (.iconst 0, 1) := by decide +kernel
theorem dX8_burns_110 : decode cX8_burns 110 = .ok (.invokevirtual 53, 3) := by decide +kernel
theorem dX8_burns_113 : decode cX8_burns 113 = .ok (.istore 5, 2) := by decide +kernel
theorem dX8_burns_115 : decode cX8_burns 115 = .ok (.aload_n 0, 1) := by decide +kernel
theorem dX8_burns_116 : decode cX8_burns 116 = .ok (.iload_n 1, 1) := by decide +kernel
theorem dX8_burns_117 : decode cX8_burns 117 = .ok (.iconst 5, 1) := by decide +kernel
theorem dX8_burns_118 : decode cX8_burns 118 = .ok (.invokevirtual 53, 3) := by decide +kernel
theorem dX8_burns_121 : decode cX8_burns 121 = .ok (.istore 6, 2) := by decide +kernel
theorem dX8_burns_123 : decode cX8_burns 123 = .ok (.aload_n 0, 1) := by decide +kernel
theorem dX8_burns_124 : decode cX8_burns 124 = .ok (.iload_n 1, 1) := by decide +kernel
theorem dX8_burns_125 : decode cX8_burns 125 = .ok (.iconst 5, 1) := by decide +kernel
theorem dX8_burns_126 : decode cX8_burns 126 = .ok (.aload_n 0, 1) := by decide +kernel
theorem dX8_burns_127 : decode cX8_burns 127 = .ok (.iload_n 1, 1) := by decide +kernel
theorem dX8_burns_128 : decode cX8_burns 128 = .ok (.iconst 4, 1) := by decide +kernel
theorem dX8_burns_129 : decode cX8_burns 129 = .ok (.invokevirtual 53, 3) := by decide +kernel
theorem dX8_burns_132 : decode cX8_burns 132 = .ok (.iconst 1, 1) := by decide +kernel
theorem dX8_burns_133 : decode cX8_burns 133 = .ok (.if_icmp .ne 24, 3) := by decide +kernel
theorem dX8_burns_136 : decode cX8_burns 136 = .ok (.iload 5, 2) := by decide +kernel
theorem dX8_burns_138 : decode cX8_burns 138 = .ok (.iload 6, 2) := by decide +kernel
theorem dX8_burns_140 : decode cX8_burns 140 = .ok (.iload 5, 2) := by decide +kernel
theorem dX8_burns_142 : decode cX8_burns 142 = .ok (.aload_n 0, 1) := by decide +kernel
theorem dX8_burns_143 : decode cX8_burns 143 = .ok (.iload_n 1, 1) := by decide +kernel
theorem dX8_burns_144 : decode cX8_burns 144 = .ok (.iconst 1, 1) := by decide +kernel
theorem dX8_burns_145 : decode cX8_burns 145 = .ok (.invokevirtual 53, 3) := by decide +kernel
theorem dX8_burns_148 : decode cX8_burns 148 = .ok (.invokestatic 79, 3) := by decide +kernel
theorem dX8_burns_151 : decode cX8_burns 151 = .ok (.invokestatic 82, 3) := by decide +kernel
theorem dX8_burns_154 : decode cX8_burns 154 = .ok (.goto 11, 3) := by decide +kernel
theorem dX8_burns_157 : decode cX8_burns 157 = .ok (.iload 5, 2) := by decide +kernel
theorem dX8_burns_159 : decode cX8_burns 159 = .ok (.iload 6, 2) := by decide +kernel
theorem dX8_burns_161 : decode cX8_burns 161 = .ok (.iconst 0, 1) := by decide +kernel
theorem dX8_burns_162 : decode cX8_burns 162 = .ok (.invokestatic 50, 3) := by decide +kernel
theorem dX8_burns_165 : decode cX8_burns 165 = .ok (.invokevirtual 64, 3) := by decide +kernel
theorem dX8_burns_168 : decode cX8_burns 168 = .ok (.iload 4, 2) := by decide +kernel
theorem dX8_burns_170 : decode cX8_burns 170 = .ok (.ifCond .eq 24, 3) := by decide +kernel
theorem dX8_burns_173 : decode cX8_burns 173 = .ok (.aload_n 0, 1) := by decide +kernel
theorem dX8_burns_174 : decode cX8_burns 174 = .ok (.iload_n 1, 1) := by decide +kernel
theorem dX8_burns_175 : decode cX8_burns 175 = .ok (.invokevirtual 60, 3) := by decide +kernel
theorem dX8_burns_178 : decode cX8_burns 178 = .ok (.ifCond .ne 16, 3) := by decide +kernel
theorem dX8_burns_181 : decode cX8_burns 181 = .ok (.aload_n 0, 1) := by decide +kernel
theorem dX8_burns_182 : decode cX8_burns 182 = .ok (.iload_n 1, 1) := by decide +kernel
theorem dX8_burns_183 : decode cX8_burns 183 = .ok (.iconst 4, 1) := by decide +kernel
theorem dX8_burns_184 : decode cX8_burns 184 = .ok (.iconst 0, 1) := by decide +kernel
theorem dX8_burns_185 : decode cX8_burns 185 = .ok (.invokevirtual 64, 3) := by decide +kernel
theorem dX8_burns_188 : decode cX8_burns 188 = .ok (.aload_n 0, 1) := by decide +kernel
theorem dX8_burns_189 : decode cX8_burns 189 = .ok (.iconst 2, 1) := by decide +kernel
theorem dX8_burns_190 : decode cX8_burns 190 = .ok (.iload_n 1, 1) := by decide +kernel
theorem dX8_burns_191 : decode cX8_burns 191 = .ok (.invokevirtual 72, 3) := by decide +kernel
theorem dX8_burns_194 : decode cX8_burns 194 = .ok (.aload_n 0, 1) := by decide +kernel
theorem dX8_burns_195 : decode cX8_burns 195 = .ok (.iload_n 1, 1) := by decide +kernel
theorem dX8_burns_196 : decode cX8_burns 196 = .ok (.invokevirtual 60, 3) := by decide +kernel
theorem dX8_burns_199 : decode cX8_burns 199 = .ok (.ifCond .eq 16, 3) := by decide +kernel
theorem dX8_burns_202 : decode cX8_burns 202 = .ok (.aload_n 0, 1) := by decide +kernel
theorem dX8_burns_203 : decode cX8_burns 203 = .ok (.iload_n 1, 1) := by decide +kernel
theorem dX8_burns_204 : decode cX8_burns 204 = .ok (.iconst 4, 1) := by decide +kernel
theorem dX8_burns_205 : decode cX8_burns 205 = .ok (.invokevirtual 53, 3) := by decide +kernel
theorem dX8_burns_208 : decode cX8_burns 208 = .ok (.ifCond .ne 7, 3) := by decide +kernel
theorem dX8_burns_211 : decode cX8_burns 211 = .ok (.iconst 1, 1) := by decide +kernel
theorem dX8_burns_212 : decode cX8_burns 212 = .ok (.goto 4, 3) := by decide +kernel
theorem dX8_burns_215 : decode cX8_burns 215 = .ok (.iconst 0, 1) := by decide +kernel
theorem dX8_burns_216 : decode cX8_burns 216 = .ok (.istore 7, 2) := by decide +kernel
theorem dX8_burns_218 : decode cX8_burns 218 = .ok (.iload 7, 2) := by decide +kernel
theorem dX8_burns_220 : decode cX8_burns 220 = .ok (.ifCond .eq 17, 3) := by decide +kernel
theorem dX8_burns_223 : decode cX8_burns 223 = .ok (.iload 5, 2) := by decide +kernel
theorem dX8_burns_225 : decode cX8_burns 225 = .ok (.aload_n 0, 1) := by decide +kernel
theorem dX8_burns_226 : decode cX8_burns 226 = .ok (.iload_n 1, 1) := by decide +kernel
theorem dX8_burns_227 : decode cX8_burns 227 = .ok (.iconst 1, 1) := by decide +kernel
theorem dX8_burns_228 : decode cX8_burns 228 = .ok (.invokevirtual 53, 3) := by decide +kernel
theorem dX8_burns_231 : decode cX8_burns 231 = .ok (.invokestatic 85, 3) := by decide +kernel
theorem dX8_burns_234 : decode cX8_burns 234 = .ok (.goto 4, 3) := by decide +kernel
theorem dX8_burns_237 : decode cX8_burns 237 = .ok (.iconst 0, 1) := by decide +kernel
theorem dX8_burns_238 : decode cX8_burns 238 = .ok (.istore 8, 2) := by decide +kernel
theorem dX8_burns_240 : decode cX8_burns 240 = .ok (.aload_n 0, 1) := by decide +kernel
theorem dX8_burns_241 : decode cX8_burns 241 = .ok (.getfield 7, 3) := by decide +kernel
theorem dX8_burns_244 : decode cX8_burns 244 = .ok (.iconst 5, 1) := by decide +kernel
theorem dX8_burns_245 : decode cX8_burns 245 = .ok (.dup2, 1) := by decide +kernel
theorem dX8_burns_246 : decode cX8_burns 246 = .ok (.iaload, 1) := by decide +kernel
theorem dX8_burns_247 : decode cX8_burns 247 = .ok (.iload 8, 2) := by decide +kernel
theorem dX8_burns_249 : decode cX8_burns 249 = .ok (.iadd, 1) := by decide +kernel
theorem dX8_burns_250 : decode cX8_burns 250 = .ok (.iastore, 1) := by decide +kernel
theorem dX8_burns_251 : decode cX8_burns 251 = .ok (.aload_n 0, 1) := by decide +kernel
theorem dX8_burns_252 : decode cX8_burns 252 = .ok (.iload_n 1, 1) := by decide +kernel
theorem dX8_burns_253 : decode cX8_burns 253 = .ok (.bipush 9, 2) := by decide +kernel
theorem dX8_burns_255 : decode cX8_burns 255 = .ok (.aload_n 0, 1) := by decide +kernel
theorem dX8_burns_256 : decode cX8_burns 256 = .ok (.iload_n 1, 1) := by decide +kernel
theorem dX8_burns_257 : decode cX8_burns 257 = .ok (.bipush 9, 2) := by decide +kernel
theorem dX8_burns_259 : decode cX8_burns 259 = .ok (.invokevirtual 53, 3) := by decide +kernel
theorem dX8_burns_262 : decode cX8_burns 262 = .ok (.iload 8, 2) := by decide +kernel
theorem dX8_burns_264 : decode cX8_burns 264 = .ok (.iadd, 1) := by decide +kernel
theorem dX8_burns_265 : decode cX8_burns 265 = .ok (.invokevirtual 64, 3) := by decide +kernel
theorem dX8_burns_268 : decode cX8_burns 268 = .ok (.aload_n 0, 1) := by decide +kernel
theorem dX8_burns_269 : decode cX8_burns 269 = .ok (.iload_n 1, 1) := by decide +kernel
theorem dX8_burns_270 : decode cX8_burns 270 = .ok (.bipush 8, 2) := by decide +kernel
theorem dX8_burns_272 : decode cX8_burns 272 = .ok (.iload 7, 2) := by decide +kernel
theorem dX8_burns_274 : decode cX8_burns 274 = .ok (.ifCond .eq 15, 3) := by decide +kernel
theorem dX8_burns_277 : decode cX8_burns 277 = .ok (.aload_n 0, 1) := by decide +kernel
theorem dX8_burns_278 : decode cX8_burns 278 = .ok (.iload_n 1, 1) := by decide +kernel
theorem dX8_burns_279 : decode cX8_burns 279 = .ok (.bipush 8, 2) := by decide +kernel
theorem dX8_burns_281 : decode cX8_burns 281 = .ok (.invokevirtual 53, 3) := by decide +kernel
theorem dX8_burns_284 : decode cX8_burns 284 = .ok (.iconst 1, 1) := by decide +kernel
theorem dX8_burns_285 : decode cX8_burns 285 = .ok (.iadd, 1) := by decide +kernel
theorem dX8_burns_286 : decode cX8_burns 286 = .ok (.goto 4, 3) := by decide +kernel
theorem dX8_burns_289 : decode cX8_burns 289 = .ok (.iconst 0, 1) := by decide +kernel
theorem dX8_burns_290 : decode cX8_burns 290 = .ok (.invokevirtual 64, 3) := by decide +kernel
theorem dX8_burns_293 : decode cX8_burns 293 = .ok (.aload_n 0, 1) := by decide +kernel
theorem dX8_burns_294 : decode cX8_burns 294 = .ok (.getfield 7, 3) := by decide +kernel
theorem dX8_burns_297 : decode cX8_burns 297 = .ok (.bipush 7, 2) := by decide +kernel
theorem dX8_burns_299 : decode cX8_burns 299 = .ok (.aload_n 0, 1) := by decide +kernel
theorem dX8_burns_300 : decode cX8_burns 300 = .ok (.iload_n 1, 1) := by decide +kernel
theorem dX8_burns_301 : decode cX8_burns 301 = .ok (.bipush 8, 2) := by decide +kernel
theorem dX8_burns_303 : decode cX8_burns 303 = .ok (.invokevirtual 53, 3) := by decide +kernel
theorem dX8_burns_306 : decode cX8_burns 306 = .ok (.aload_n 0, 1) := by decide +kernel
theorem dX8_burns_307 : decode cX8_burns 307 = .ok (.getfield 7, 3) := by decide +kernel
theorem dX8_burns_310 : decode cX8_burns 310 = .ok (.bipush 7, 2) := by decide +kernel
theorem dX8_burns_312 : decode cX8_burns 312 = .ok (.iaload, 1) := by decide +kernel
theorem dX8_burns_313 : decode cX8_burns 313 = .ok (.if_icmp .le 13, 3) := by decide +kernel
theorem dX8_burns_316 : decode cX8_burns 316 = .ok (.aload_n 0, 1) := by decide +kernel
theorem dX8_burns_317 : decode cX8_burns 317 = .ok (.iload_n 1, 1) := by decide +kernel
theorem dX8_burns_318 : decode cX8_burns 318 = .ok (.bipush 8, 2) := by decide +kernel
theorem dX8_burns_320 : decode cX8_burns 320 = .ok (.invokevirtual 53, 3) := by decide +kernel
theorem dX8_burns_323 : decode cX8_burns 323 = .ok (.goto 10, 3) := by decide +kernel
theorem dX8_burns_326 : decode cX8_burns 326 = .ok (.aload_n 0, 1) := by decide +kernel
theorem dX8_burns_327 : decode cX8_burns 327 = .ok (.getfield 7, 3) := by decide +kernel
theorem dX8_burns_330 : decode cX8_burns 330 = .ok (.bipush 7, 2) := by decide +kernel
theorem dX8_burns_332 : decode cX8_burns 332 = .ok (.iaload, 1) := by decide +kernel
theorem dX8_burns_333 : decode cX8_burns 333 = .ok (.iastore, 1) := by decide +kernel
theorem dX8_burns_334 : decode cX8_burns 334 = .ok (.return_, 1) := by decide +kernel
set_option maxRecDepth 20000 in
theorem ggX8_sparks_X8_get : GoodIn wsX8_sparks wsX8_get := goodIn_r _ [6, 1, 25, 26, 27, 28, 29, 30, 31, 32, 33, 34, 35, 36, 37, 38] (by decide +kernel) (by decide +kernel)
set_option maxRecDepth 20000 in
theorem gX8_sparks_X8_get : GoodIn wsX8_sparks (wsV RX8 53 RX8 yX8_get wsX8_get) := goodIn_app (goodIn_of _ (by decide +kernel)) ggX8_sparks_X8_get
set_option maxRecDepth 20000 in
theorem ggX8_sparks_X8_lay : GoodIn wsX8_sparks wsX8_lay := goodIn_r _ [10, 1, 25, 26, 27, 28, 29, 30, 31, 32, 33, 34, 35, 36, 37, 38] (by decide +kernel) (by decide +kernel)
set_option maxRecDepth 20000 in
theorem gX8_sparks_X8_lay : GoodIn wsX8_sparks (wsV RX8 64 RX8 yX8_lay wsX8_lay) := goodIn_app (goodIn_of _ (by decide +kernel)) ggX8_sparks_X8_lay
set_option maxRecDepth 20000 in
theorem ggX8_sparks_X8_strength : GoodIn wsX8_sparks wsX8_strength := goodIn_r _ [14, 2, 3, 4, 5, 6, 1, 15, 16, 17, 18, 19, 20, 25, 26, 27, 28, 29, 30, 31, 32, 33, 34, 35, 36, 37, 38] (by decide +kernel) (by decide +kernel)
set_option maxRecDepth 20000 in
theorem gX8_sparks_X8_strength : GoodIn wsX8_sparks (wsV RX8 68 RX8 yX8_strength wsX8_strength) := goodIn_app (goodIn_of _ (by decide +kernel)) ggX8_sparks_X8_strength
set_option maxRecDepth 20000 in
theorem ggX8_sparks_X8_tells : GoodIn wsX8_sparks wsX8_tells := goodIn_r _ [24, 1, 25, 26, 27, 28, 29, 30, 31, 32, 33, 34, 35, 36, 37, 38] (by decide +kernel) (by decide +kernel)
set_option maxRecDepth 20000 in
theorem gX8_sparks_X8_tells : GoodIn wsX8_sparks (wsV RX8 72 RX8 yX8_tells wsX8_tells) := goodIn_app (goodIn_of _ (by decide +kernel)) ggX8_sparks_X8_tells
theorem dX8_sparks_0 : decode cX8_sparks 0 = .ok (.aload_n 0, 1) := by decide +kernel
theorem dX8_sparks_1 : decode cX8_sparks 1 = .ok (.iload_n 1, 1) := by decide +kernel
theorem dX8_sparks_2 : decode cX8_sparks 2 = .ok (.bipush 7, 2) := by decide +kernel
theorem dX8_sparks_4 : decode cX8_sparks 4 = .ok (.aload_n 0, 1) := by decide +kernel
theorem dX8_sparks_5 : decode cX8_sparks 5 = .ok (.iload_n 1, 1) := by decide +kernel
theorem dX8_sparks_6 : decode cX8_sparks 6 = .ok (.bipush 7, 2) := by decide +kernel
theorem dX8_sparks_8 : decode cX8_sparks 8 = .ok (.invokevirtual 53, 3) := by decide +kernel
theorem dX8_sparks_11 : decode cX8_sparks 11 = .ok (.iconst 1, 1) := by decide +kernel
theorem dX8_sparks_12 : decode cX8_sparks 12 = .ok (.iadd, 1) := by decide +kernel
theorem dX8_sparks_13 : decode cX8_sparks 13 = .ok (.invokevirtual 64, 3) := by decide +kernel
theorem dX8_sparks_16 : decode cX8_sparks 16 = .ok (.iload_n 2, 1) := by decide +kernel
theorem dX8_sparks_17 : decode cX8_sparks 17 = .ok (.aload_n 0, 1) := by decide +kernel
theorem dX8_sparks_18 : decode cX8_sparks 18 = .ok (.iload_n 1, 1) := by decide +kernel
theorem dX8_sparks_19 : decode cX8_sparks 19 = .ok (.invokevirtual 68, 3) := by decide +kernel
theorem dX8_sparks_22 : decode cX8_sparks 22 = .ok (.if_icmp .gt 27, 3) := by decide +kernel
theorem dX8_sparks_25 : decode cX8_sparks 25 = .ok (.aload_n 0, 1) := by decide +kernel
theorem dX8_sparks_26 : decode cX8_sparks 26 = .ok (.iload_n 1, 1) := by decide +kernel
theorem dX8_sparks_27 : decode cX8_sparks 27 = .ok (.iconst 4, 1) := by decide +kernel
theorem dX8_sparks_28 : decode cX8_sparks 28 = .ok (.iconst 1, 1) := by decide +kernel
theorem dX8_sparks_29 : decode cX8_sparks 29 = .ok (.invokevirtual 64, 3) := by decide +kernel
theorem dX8_sparks_32 : decode cX8_sparks 32 = .ok (.aload_n 0, 1) := by decide +kernel
theorem dX8_sparks_33 : decode cX8_sparks 33 = .ok (.iload_n 1, 1) := by decide +kernel
theorem dX8_sparks_34 : decode cX8_sparks 34 = .ok (.bipush 7, 2) := by decide +kernel
theorem dX8_sparks_36 : decode cX8_sparks 36 = .ok (.iconst 0, 1) := by decide +kernel
theorem dX8_sparks_37 : decode cX8_sparks 37 = .ok (.invokevirtual 64, 3) := by decide +kernel
theorem dX8_sparks_40 : decode cX8_sparks 40 = .ok (.aload_n 0, 1) := by decide +kernel
theorem dX8_sparks_41 : decode cX8_sparks 41 = .ok (.iconst 0, 1) := by decide +kernel
theorem dX8_sparks_42 : decode cX8_sparks 42 = .ok (.iload_n 1, 1) := by decide +kernel
theorem dX8_sparks_43 : decode cX8_sparks 43 = .ok (.invokevirtual 72, 3) := by decide +kernel
theorem dX8_sparks_46 : decode cX8_sparks 46 = .ok (.goto 33, 3) := by decide +kernel
theorem dX8_sparks_49 : decode cX8_sparks 49 = .ok (.aload_n 0, 1) := by decide +kernel
theorem dX8_sparks_50 : decode cX8_sparks 50 = .ok (.iload_n 1, 1) := by decide +kernel
theorem dX8_sparks_51 : decode cX8_sparks 51 = .ok (.bipush 7, 2) := by decide +kernel
theorem dX8_sparks_53 : decode cX8_sparks 53 = .ok (.invokevirtual 53, 3) := by decide +kernel
theorem dX8_sparks_56 : decode cX8_sparks 56 = .ok (.aload_n 0, 1) := by decide +kernel
theorem dX8_sparks_57 : decode cX8_sparks 57 = .ok (.getfield 7, 3) := by decide +kernel
theorem dX8_sparks_60 : decode cX8_sparks 60 = .ok (.iconst 1, 1) := by decide +kernel
theorem dX8_sparks_61 : decode cX8_sparks 61 = .ok (.iaload, 1) := by decide +kernel
theorem dX8_sparks_62 : decode cX8_sparks 62 = .ok (.if_icmp .lt 17, 3) := by decide +kernel
theorem dX8_sparks_65 : decode cX8_sparks 65 = .ok (.aload_n 0, 1) := by decide +kernel
theorem dX8_sparks_66 : decode cX8_sparks 66 = .ok (.iload_n 1, 1) := by decide +kernel
theorem dX8_sparks_67 : decode cX8_sparks 67 = .ok (.bipush 6, 2) := by decide +kernel
theorem dX8_sparks_69 : decode cX8_sparks 69 = .ok (.iconst 1, 1) := by decide +kernel
theorem dX8_sparks_70 : decode cX8_sparks 70 = .ok (.invokevirtual 64, 3) := by decide +kernel
theorem dX8_sparks_73 : decode cX8_sparks 73 = .ok (.aload_n 0, 1) := by decide +kernel
theorem dX8_sparks_74 : decode cX8_sparks 74 = .ok (.iconst 3, 1) := by decide +kernel
theorem dX8_sparks_75 : decode cX8_sparks 75 = .ok (.iload_n 1, 1) := by decide +kernel
theorem dX8_sparks_76 : decode cX8_sparks 76 = .ok (.invokevirtual 72, 3) := by decide +kernel
theorem dX8_sparks_79 : decode cX8_sparks 79 = .ok (.return_, 1) := by decide +kernel
set_option maxRecDepth 20000 in
theorem ggX8_ticks_X8_draftAt : GoodIn wsX8_ticks wsX8_draftAt := goodIn_r _ [6, 1, 56, 57, 58, 59, 60, 61, 62, 63, 64, 65, 66, 67, 68, 69] (by decide +kernel) (by decide +kernel)
set_option maxRecDepth 20000 in
theorem gX8_ticks_X8_draftAt : GoodIn wsX8_ticks (wsV RX8 88 RX8 yX8_draftAt wsX8_draftAt) := goodIn_app (goodIn_of _ (by decide +kernel)) ggX8_ticks_X8_draftAt
set_option maxRecDepth 20000 in
theorem ggX8_ticks_X8_burns : GoodIn wsX8_ticks wsX8_burns := goodIn_r _ [10, 1, 11, 12, 13, 5, 14, 15, 16, 17, 18, 19, 20, 21, 22, 23, 24, 25, 26, 27, 28, 29, 30, 31, 32, 33, 34, 35, 36, 37, 38, 39, 40, 41, 42, 43, 44, 45, 46, 47, 48, 49, 50, 51, 52, 53, 54, 55, 56, 57, 58, 59, 60, 61, 62, 63, 64, 65, 66, 67, 68, 69] (by decide +kernel) (by decide +kernel)
set_option maxRecDepth 20000 in
theorem gX8_ticks_X8_burns : GoodIn wsX8_ticks (wsV RX8 91 RX8 yX8_burns wsX8_burns) := goodIn_app (goodIn_of _ (by decide +kernel)) ggX8_ticks_X8_burns
theorem dX8_ticks_0 : decode cX8_ticks 0 = .ok (.aload_n 0, 1) := by decide +kernel
theorem dX8_ticks_1 : decode cX8_ticks 1 = .ok (.aload_n 0, 1) := by decide +kernel
theorem dX8_ticks_2 : decode cX8_ticks 2 = .ok (.getfield 7, 3) := by decide +kernel
theorem dX8_ticks_5 : decode cX8_ticks 5 = .ok (.iconst 4, 1) := by decide +kernel
theorem dX8_ticks_6 : decode cX8_ticks 6 = .ok (.iaload, 1) := by decide +kernel
theorem dX8_ticks_7 : decode cX8_ticks 7 = .ok (.invokevirtual 88, 3) := by decide +kernel
theorem dX8_ticks_10 : decode cX8_ticks 10 = .ok (.istore_n 1, 1) := by decide +kernel
theorem dX8_ticks_11 : decode cX8_ticks 11 = .ok (.aload_n 0, 1) := by decide +kernel
theorem dX8_ticks_12 : decode cX8_ticks 12 = .ok (.getfield 7, 3) := by decide +kernel
theorem dX8_ticks_15 : decode cX8_ticks 15 = .ok (.iconst 5, 1) := by decide +kernel
theorem dX8_ticks_16 : decode cX8_ticks 16 = .ok (.iaload, 1) := by decide +kernel
theorem dX8_ticks_17 : decode cX8_ticks 17 = .ok (.istore_n 2, 1) := by decide +kernel
theorem dX8_ticks_18 : decode cX8_ticks 18 = .ok (.iconst 0, 1) := by decide +kernel
theorem dX8_ticks_19 : decode cX8_ticks 19 = .ok (.istore_n 3, 1) := by decide +kernel
theorem dX8_ticks_20 : decode cX8_ticks 20 = .ok (.iload_n 3, 1) := by decide +kernel
theorem dX8_ticks_21 : decode cX8_ticks 21 = .ok (.iconst 4, 1) := by decide +kernel
theorem dX8_ticks_22 : decode cX8_ticks 22 = .ok (.if_icmp .ge 16, 3) := by decide +kernel
theorem dX8_ticks_25 : decode cX8_ticks 25 = .ok (.aload_n 0, 1) := by decide +kernel
theorem dX8_ticks_26 : decode cX8_ticks 26 = .ok (.iload_n 3, 1) := by decide +kernel
theorem dX8_ticks_27 : decode cX8_ticks 27 = .ok (.iload_n 1, 1) := by decide +kernel
theorem dX8_ticks_28 : decode cX8_ticks 28 = .ok (.iload_n 2, 1) := by decide +kernel
theorem dX8_ticks_29 : decode cX8_ticks 29 = .ok (.invokevirtual 91, 3) := by decide +kernel
theorem dX8_ticks_32 : decode cX8_ticks 32 = .ok (.iinc 3 1, 3) := by decide +kernel
theorem dX8_ticks_35 : decode cX8_ticks 35 = .ok (.goto (-15), 3) := by decide +kernel
theorem dX8_ticks_38 : decode cX8_ticks 38 = .ok (.aload_n 0, 1) := by decide +kernel
theorem dX8_ticks_39 : decode cX8_ticks 39 = .ok (.getfield 7, 3) := by decide +kernel
theorem dX8_ticks_42 : decode cX8_ticks 42 = .ok (.bipush 6, 2) := by decide +kernel
theorem dX8_ticks_44 : decode cX8_ticks 44 = .ok (.aload_n 0, 1) := by decide +kernel
theorem dX8_ticks_45 : decode cX8_ticks 45 = .ok (.getfield 7, 3) := by decide +kernel
theorem dX8_ticks_48 : decode cX8_ticks 48 = .ok (.iconst 5, 1) := by decide +kernel
theorem dX8_ticks_49 : decode cX8_ticks 49 = .ok (.iaload, 1) := by decide +kernel
theorem dX8_ticks_50 : decode cX8_ticks 50 = .ok (.aload_n 0, 1) := by decide +kernel
theorem dX8_ticks_51 : decode cX8_ticks 51 = .ok (.getfield 7, 3) := by decide +kernel
theorem dX8_ticks_54 : decode cX8_ticks 54 = .ok (.bipush 6, 2) := by decide +kernel
theorem dX8_ticks_56 : decode cX8_ticks 56 = .ok (.iaload, 1) := by decide +kernel
theorem dX8_ticks_57 : decode cX8_ticks 57 = .ok (.if_icmp .le 12, 3) := by decide +kernel
theorem dX8_ticks_60 : decode cX8_ticks 60 = .ok (.aload_n 0, 1) := by decide +kernel
theorem dX8_ticks_61 : decode cX8_ticks 61 = .ok (.getfield 7, 3) := by decide +kernel
theorem dX8_ticks_64 : decode cX8_ticks 64 = .ok (.iconst 5, 1) := by decide +kernel
theorem dX8_ticks_65 : decode cX8_ticks 65 = .ok (.iaload, 1) := by decide +kernel
theorem dX8_ticks_66 : decode cX8_ticks 66 = .ok (.goto 10, 3) := by decide +kernel
theorem dX8_ticks_69 : decode cX8_ticks 69 = .ok (.aload_n 0, 1) := by decide +kernel
theorem dX8_ticks_70 : decode cX8_ticks 70 = .ok (.getfield 7, 3) := by decide +kernel
theorem dX8_ticks_73 : decode cX8_ticks 73 = .ok (.bipush 6, 2) := by decide +kernel
theorem dX8_ticks_75 : decode cX8_ticks 75 = .ok (.iaload, 1) := by decide +kernel
theorem dX8_ticks_76 : decode cX8_ticks 76 = .ok (.iastore, 1) := by decide +kernel
theorem dX8_ticks_77 : decode cX8_ticks 77 = .ok (.aload_n 0, 1) := by decide +kernel
theorem dX8_ticks_78 : decode cX8_ticks 78 = .ok (.getfield 7, 3) := by decide +kernel
theorem dX8_ticks_81 : decode cX8_ticks 81 = .ok (.iconst 5, 1) := by decide +kernel
theorem dX8_ticks_82 : decode cX8_ticks 82 = .ok (.aload_n 0, 1) := by decide +kernel
theorem dX8_ticks_83 : decode cX8_ticks 83 = .ok (.getfield 7, 3) := by decide +kernel
theorem dX8_ticks_86 : decode cX8_ticks 86 = .ok (.iconst 5, 1) := by decide +kernel
theorem dX8_ticks_87 : decode cX8_ticks 87 = .ok (.iaload, 1) := by decide +kernel
theorem dX8_ticks_88 : decode cX8_ticks 88 = .ok (.aload_n 0, 1) := by decide +kernel
theorem dX8_ticks_89 : decode cX8_ticks 89 = .ok (.getfield 7, 3) := by decide +kernel
theorem dX8_ticks_92 : decode cX8_ticks 92 = .ok (.iconst 2, 1) := by decide +kernel
theorem dX8_ticks_93 : decode cX8_ticks 93 = .ok (.iaload, 1) := by decide +kernel
theorem dX8_ticks_94 : decode cX8_ticks 94 = .ok (.iload_n 1, 1) := by decide +kernel
theorem dX8_ticks_95 : decode cX8_ticks 95 = .ok (.iadd, 1) := by decide +kernel
theorem dX8_ticks_96 : decode cX8_ticks 96 = .ok (.if_icmp .ge 7, 3) := by decide +kernel
theorem dX8_ticks_99 : decode cX8_ticks 99 = .ok (.iconst 0, 1) := by decide +kernel
theorem dX8_ticks_100 : decode cX8_ticks 100 = .ok (.goto 18, 3) := by decide +kernel
theorem dX8_ticks_103 : decode cX8_ticks 103 = .ok (.aload_n 0, 1) := by decide +kernel
theorem dX8_ticks_104 : decode cX8_ticks 104 = .ok (.getfield 7, 3) := by decide +kernel
theorem dX8_ticks_107 : decode cX8_ticks 107 = .ok (.iconst 5, 1) := by decide +kernel
theorem dX8_ticks_108 : decode cX8_ticks 108 = .ok (.iaload, 1) := by decide +kernel
theorem dX8_ticks_109 : decode cX8_ticks 109 = .ok (.aload_n 0, 1) := by decide +kernel
theorem dX8_ticks_110 : decode cX8_ticks 110 = .ok (.getfield 7, 3) := by decide +kernel
theorem dX8_ticks_113 : decode cX8_ticks 113 = .ok (.iconst 2, 1) := by decide +kernel
theorem dX8_ticks_114 : decode cX8_ticks 114 = .ok (.iaload, 1) := by decide +kernel
theorem dX8_ticks_115 : decode cX8_ticks 115 = .ok (.isub, 1) := by decide +kernel
theorem dX8_ticks_116 : decode cX8_ticks 116 = .ok (.iload_n 1, 1) := by decide +kernel
theorem dX8_ticks_117 : decode cX8_ticks 117 = .ok (.isub, 1) := by decide +kernel
theorem dX8_ticks_118 : decode cX8_ticks 118 = .ok (.iastore, 1) := by decide +kernel
theorem dX8_ticks_119 : decode cX8_ticks 119 = .ok (.aload_n 0, 1) := by decide +kernel
theorem dX8_ticks_120 : decode cX8_ticks 120 = .ok (.getfield 7, 3) := by decide +kernel
theorem dX8_ticks_123 : decode cX8_ticks 123 = .ok (.iconst 4, 1) := by decide +kernel
theorem dX8_ticks_124 : decode cX8_ticks 124 = .ok (.dup2, 1) := by decide +kernel
theorem dX8_ticks_125 : decode cX8_ticks 125 = .ok (.iaload, 1) := by decide +kernel
theorem dX8_ticks_126 : decode cX8_ticks 126 = .ok (.iconst 1, 1) := by decide +kernel
theorem dX8_ticks_127 : decode cX8_ticks 127 = .ok (.iadd, 1) := by decide +kernel
theorem dX8_ticks_128 : decode cX8_ticks 128 = .ok (.iastore, 1) := by decide +kernel
theorem dX8_ticks_129 : decode cX8_ticks 129 = .ok (.return_, 1) := by decide +kernel
theorem dX8_totals_0 : decode cX8_totals 0 = .ok (.aload_n 0, 1) := by decide +kernel
theorem dX8_totals_1 : decode cX8_totals 1 = .ok (.getfield 7, 3) := by decide +kernel
theorem dX8_totals_4 : decode cX8_totals 4 = .ok (.bipush 8, 2) := by decide +kernel
theorem dX8_totals_6 : decode cX8_totals 6 = .ok (.iaload, 1) := by decide +kernel
theorem dX8_totals_7 : decode cX8_totals 7 = .ok (.aload_n 0, 1) := by decide +kernel
theorem dX8_totals_8 : decode cX8_totals 8 = .ok (.getfield 7, 3) := by decide +kernel
theorem dX8_totals_11 : decode cX8_totals 11 = .ok (.bipush 9, 2) := by decide +kernel
theorem dX8_totals_13 : decode cX8_totals 13 = .ok (.iaload, 1) := by decide +kernel
theorem dX8_totals_14 : decode cX8_totals 14 = .ok (.iadd, 1) := by decide +kernel
theorem dX8_totals_15 : decode cX8_totals 15 = .ok (.aload_n 0, 1) := by decide +kernel
theorem dX8_totals_16 : decode cX8_totals 16 = .ok (.getfield 7, 3) := by decide +kernel
theorem dX8_totals_19 : decode cX8_totals 19 = .ok (.bipush 10, 2) := by decide +kernel
theorem dX8_totals_21 : decode cX8_totals 21 = .ok (.iaload, 1) := by decide +kernel
theorem dX8_totals_22 : decode cX8_totals 22 = .ok (.iadd, 1) := by decide +kernel
theorem dX8_totals_23 : decode cX8_totals 23 = .ok (.aload_n 0, 1) := by decide +kernel
theorem dX8_totals_24 : decode cX8_totals 24 = .ok (.getfield 7, 3) := by decide +kernel
theorem dX8_totals_27 : decode cX8_totals 27 = .ok (.bipush 11, 2) := by decide +kernel
theorem dX8_totals_29 : decode cX8_totals 29 = .ok (.iaload, 1) := by decide +kernel
theorem dX8_totals_30 : decode cX8_totals 30 = .ok (.iadd, 1) := by decide +kernel
theorem dX8_totals_31 : decode cX8_totals 31 = .ok (.ireturn, 1) := by decide +kernel
set_option maxRecDepth 20000 in
theorem ggX8_isSetting_X8_in : GoodIn wsX8_isSetting wsX8_in := goodIn_r _ [4] (by decide +kernel) (by decide +kernel)
set_option maxRecDepth 20000 in
theorem gX8_isSetting_X8_in : GoodIn wsX8_isSetting (va_wsS RX8 35 yX8_in wsX8_in) := goodIn_app (goodIn_of _ (by decide +kernel)) ggX8_isSetting_X8_in
theorem dX8_isSetting_0 : decode cX8_isSetting 0 = .ok (.iload_n 0, 1) := by decide +kernel
theorem dX8_isSetting_1 : decode cX8_isSetting 1 = .ok (.tableswitch 53 0 2 #[27, 37, 45], 27) := by decide +kernel
theorem dX8_isSetting_28 : decode cX8_isSetting 28 = .ok (.iload_n 1, 1) := by decide +kernel
theorem dX8_isSetting_29 : decode cX8_isSetting 29 = .ok (.bipush 100, 2) := by decide +kernel
theorem dX8_isSetting_31 : decode cX8_isSetting 31 = .ok (.sipush 450, 3) := by decide +kernel
theorem dX8_isSetting_34 : decode cX8_isSetting 34 = .ok (.invokestatic 35, 3) := by decide +kernel
theorem dX8_isSetting_37 : decode cX8_isSetting 37 = .ok (.ireturn, 1) := by decide +kernel
theorem dX8_isSetting_38 : decode cX8_isSetting 38 = .ok (.iload_n 1, 1) := by decide +kernel
theorem dX8_isSetting_39 : decode cX8_isSetting 39 = .ok (.iconst 1, 1) := by decide +kernel
theorem dX8_isSetting_40 : decode cX8_isSetting 40 = .ok (.bipush 20, 2) := by decide +kernel
theorem dX8_isSetting_42 : decode cX8_isSetting 42 = .ok (.invokestatic 35, 3) := by decide +kernel
theorem dX8_isSetting_45 : decode cX8_isSetting 45 = .ok (.ireturn, 1) := by decide +kernel
theorem dX8_isSetting_46 : decode cX8_isSetting 46 = .ok (.iload_n 1, 1) := by decide +kernel
theorem dX8_isSetting_47 : decode cX8_isSetting 47 = .ok (.iconst 0, 1) := by decide +kernel
theorem dX8_isSetting_48 : decode cX8_isSetting 48 = .ok (.bipush 50, 2) := by decide +kernel
theorem dX8_isSetting_50 : decode cX8_isSetting 50 = .ok (.invokestatic 35, 3) := by decide +kernel
theorem dX8_isSetting_53 : decode cX8_isSetting 53 = .ok (.ireturn, 1) := by decide +kernel
theorem dX8_isSetting_54 : decode cX8_isSetting 54 = .ok (.iload_n 1, 1) := by decide +kernel
theorem dX8_isSetting_55 : decode cX8_isSetting 55 = .ok (.bipush 50, 2) := by decide +kernel
theorem dX8_isSetting_57 : decode cX8_isSetting 57 = .ok (.sipush 1000, 3) := by decide +kernel
theorem dX8_isSetting_60 : decode cX8_isSetting 60 = .ok (.invokestatic 35, 3) := by decide +kernel
theorem dX8_isSetting_63 : decode cX8_isSetting 63 = .ok (.ireturn, 1) := by decide +kernel
set_option maxRecDepth 20000 in
theorem ggX8_set_X8_in : GoodIn wsX8_set wsX8_in := goodIn_r _ [6] (by decide +kernel) (by decide +kernel)
set_option maxRecDepth 20000 in
theorem gX8_set_X8_in : GoodIn wsX8_set (va_wsS RX8 35 yX8_in wsX8_in) := goodIn_app (goodIn_of _ (by decide +kernel)) ggX8_set_X8_in
set_option maxRecDepth 20000 in
theorem ggX8_set_X8_isSetting : GoodIn wsX8_set wsX8_isSetting := goodIn_r _ [9, 3, 4, 5, 6] (by decide +kernel) (by decide +kernel)
set_option maxRecDepth 20000 in
theorem gX8_set_X8_isSetting : GoodIn wsX8_set (va_wsS RX8 94 yX8_isSetting wsX8_isSetting) := goodIn_app (goodIn_of _ (by decide +kernel)) ggX8_set_X8_isSetting
set_option maxRecDepth 20000 in
theorem ggX8_set_X8_records : GoodIn wsX8_set wsX8_records := goodIn_r _ [13, 14, 15, 2, 16, 17, 18, 19, 20, 21, 22, 23, 24, 25, 26, 27, 28, 29] (by decide +kernel) (by decide +kernel)
set_option maxRecDepth 20000 in
theorem gX8_set_X8_records : GoodIn wsX8_set (wsV RX8 98 RX8 yX8_records wsX8_records) := goodIn_app (goodIn_of _ (by decide +kernel)) ggX8_set_X8_records
theorem dX8_set_0 : decode cX8_set 0 = .ok (.aload_n 0, 1) := by decide +kernel
theorem dX8_set_1 : decode cX8_set 1 = .ok (.iconst 0, 1) := by decide +kernel
theorem dX8_set_2 : decode cX8_set 2 = .ok (.putfield 31, 3) := by decide +kernel
theorem dX8_set_5 : decode cX8_set 5 = .ok (.iload_n 1, 1) := by decide +kernel
theorem dX8_set_6 : decode cX8_set 6 = .ok (.iconst 0, 1) := by decide +kernel
theorem dX8_set_7 : decode cX8_set 7 = .ok (.iconst 3, 1) := by decide +kernel
theorem dX8_set_8 : decode cX8_set 8 = .ok (.invokestatic 35, 3) := by decide +kernel
theorem dX8_set_11 : decode cX8_set 11 = .ok (.ifCond .ne 5, 3) := by decide +kernel
