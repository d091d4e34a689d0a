set_option maxRecDepth 20000 in
theorem gX5_spark_X0_strength : GoodIn wsX5_spark (wsV RX5 137 RX0 yX0_strength wsX0_strength) := goodIn_app (goodIn_of _ (by decide +kernel)) ggX5_spark_X0_strength
set_option maxRecDepth 20000 in
theorem ggX5_spark_X5_kindle : GoodIn wsX5_spark wsX5_kindle := goodIn_r _ [44, 1, 3, 6, 7, 45, 46, 47, 48, 49, 50, 51, 52, 53, 54, 55, 56, 57, 58, 59, 60, 61, 62, 63, 64, 65, 66, 20, 67, 68, 69, 70, 71, 72, 73, 74, 75, 76, 77, 78, 79, 80, 81, 82, 83, 84, 85, 87, 88, 89, 90, 91] (by decide +kernel) (by decide +kernel)
set_option maxRecDepth 20000 in
theorem gX5_spark_X5_kindle : GoodIn wsX5_spark (wsV RX5 140 RX5 yX5_kindle wsX5_kindle) := goodIn_app (goodIn_of _ (by decide +kernel)) ggX5_spark_X5_kindle
set_option maxRecDepth 20000 in
theorem ggX5_spark_X4_valueOf : GoodIn wsX5_spark wsX4_valueOf := goodIn_r _ [17, 18, 19, 20, 21, 86] (by decide +kernel) (by decide +kernel)
set_option maxRecDepth 20000 in
theorem gX5_spark_X4_valueOf : GoodIn wsX5_spark (wsV RX5 69 RX4 yX4_valueOf wsX4_valueOf) := goodIn_app (goodIn_of _ (by decide +kernel)) ggX5_spark_X4_valueOf
set_option maxRecDepth 20000 in
theorem ggX5_spark_X2_note : GoodIn wsX5_spark wsX2_note := goodIn_r _ [49, 50, 51, 52, 53, 54, 55, 56, 57, 58, 59, 60, 48, 61, 62, 63, 64, 65, 66, 20, 67, 87, 88, 89, 90, 91] (by decide +kernel) (by decide +kernel)
set_option maxRecDepth 20000 in
theorem gX5_spark_X2_note : GoodIn wsX5_spark (wsV RX5 87 RX2 yX2_note wsX2_note) := goodIn_app (goodIn_of _ (by decide +kernel)) ggX5_spark_X2_note
theorem dX5_spark_0 : decode cX5_spark 0 = .ok (.aload_n 2, 1) := by decide +kernel
theorem dX5_spark_1 : decode cX5_spark 1 = .ok (.getfield 80, 3) := by decide +kernel
theorem dX5_spark_4 : decode cX5_spark 4 = .ok (.ifCond .ne 18, 3) := by decide +kernel
theorem dX5_spark_7 : decode cX5_spark 7 = .ok (.aload_n 2, 1) := by decide +kernel
theorem dX5_spark_8 : decode cX5_spark 8 = .ok (.getfield 123, 3) := by decide +kernel
theorem dX5_spark_11 : decode cX5_spark 11 = .ok (.ifCond .eq 11, 3) := by decide +kernel
theorem dX5_spark_14 : decode cX5_spark 14 = .ok (.aload_n 0, 1) := by decide +kernel
theorem dX5_spark_15 : decode cX5_spark 15 = .ok (.aload_n 2, 1) := by decide +kernel
theorem dX5_spark_16 : decode cX5_spark 16 = .ok (.invokevirtual 132, 3) := by decide +kernel
theorem dX5_spark_19 : decode cX5_spark 19 = .ok (.ifCond .ne 4, 3) := by decide +kernel
theorem dX5_spark_22 : decode cX5_spark 22 = .ok (.return_, 1) := by decide +kernel
theorem dX5_spark_23 : decode cX5_spark 23 = .ok (.aload_n 2, 1) := by decide +kernel
theorem dX5_spark_24 : decode cX5_spark 24 = .ok (.dup, 1) := by decide +kernel
theorem dX5_spark_25 : decode cX5_spark 25 = .ok (.getfield 84, 3) := by decide +kernel
theorem dX5_spark_28 : decode cX5_spark 28 = .ok (.iconst 1, 1) := by decide +kernel
theorem dX5_spark_29 : decode cX5_spark 29 = .ok (.iadd, 1) := by decide +kernel
theorem dX5_spark_30 : decode cX5_spark 30 = .ok (.putfield 84, 3) := by decide +kernel
theorem dX5_spark_33 : decode cX5_spark 33 = .ok (.iload_n 3, 1) := by decide +kernel
theorem dX5_spark_34 : decode cX5_spark 34 = .ok (.aload_n 2, 1) := by decide +kernel
theorem dX5_spark_35 : decode cX5_spark 35 = .ok (.invokevirtual 137, 3) := by decide +kernel
theorem dX5_spark_38 : decode cX5_spark 38 = .ok (.if_icmp .gt 12, 3) := by decide +kernel
theorem dX5_spark_41 : decode cX5_spark 41 = .ok (.aload_n 0, 1) := by decide +kernel
theorem dX5_spark_42 : decode cX5_spark 42 = .ok (.iload_n 1, 1) := by decide +kernel
theorem dX5_spark_43 : decode cX5_spark 43 = .ok (.aload_n 2, 1) := by decide +kernel
theorem dX5_spark_44 : decode cX5_spark 44 = .ok (.invokevirtual 140, 3) := by decide +kernel
theorem dX5_spark_47 : decode cX5_spark 47 = .ok (.goto 36, 3) := by decide +kernel
theorem dX5_spark_50 : decode cX5_spark 50 = .ok (.aload_n 2, 1) := by decide +kernel
theorem dX5_spark_51 : decode cX5_spark 51 = .ok (.getfield 84, 3) := by decide +kernel
theorem dX5_spark_54 : decode cX5_spark 54 = .ok (.aload_n 0, 1) := by decide +kernel
theorem dX5_spark_55 : decode cX5_spark 55 = .ok (.getfield 10, 3) := by decide +kernel
theorem dX5_spark_58 : decode cX5_spark 58 = .ok (.iconst 1, 1) := by decide +kernel
theorem dX5_spark_59 : decode cX5_spark 59 = .ok (.invokevirtual 69, 3) := by decide +kernel
theorem dX5_spark_62 : decode cX5_spark 62 = .ok (.if_icmp .lt 21, 3) := by decide +kernel
theorem dX5_spark_65 : decode cX5_spark 65 = .ok (.aload_n 2, 1) := by decide +kernel
theorem dX5_spark_66 : decode cX5_spark 66 = .ok (.iconst 1, 1) := by decide +kernel
theorem dX5_spark_67 : decode cX5_spark 67 = .ok (.putfield 134, 3) := by decide +kernel
theorem dX5_spark_70 : decode cX5_spark 70 = .ok (.aload_n 0, 1) := by decide +kernel
theorem dX5_spark_71 : decode cX5_spark 71 = .ok (.getfield 39, 3) := by decide +kernel
theorem dX5_spark_74 : decode cX5_spark 74 = .ok (.iconst 3, 1) := by decide +kernel
theorem dX5_spark_75 : decode cX5_spark 75 = .ok (.iload_n 1, 1) := by decide +kernel
theorem dX5_spark_76 : decode cX5_spark 76 = .ok (.aload_n 0, 1) := by decide +kernel
theorem dX5_spark_77 : decode cX5_spark 77 = .ok (.getfield 56, 3) := by decide +kernel
theorem dX5_spark_80 : decode cX5_spark 80 = .ok (.invokevirtual 87, 3) := by decide +kernel
theorem dX5_spark_83 : decode cX5_spark 83 = .ok (.return_, 1) := by decide +kernel
set_option maxRecDepth 20000 in
theorem ggX5_warmOrDrop_X5_isOpen : GoodIn wsX5_warmOrDrop wsX5_isOpen := goodIn_r _ [8, 9, 10, 11, 12, 13, 14, 15, 16, 17, 18, 19, 20, 21, 22, 23, 24, 25, 26, 27, 89, 90, 91, 92, 93, 94, 95, 96, 97, 79, 80, 81, 82, 83, 84, 85, 86, 87, 88] (by decide +kernel) (by decide +kernel)
set_option maxRecDepth 20000 in
theorem gX5_warmOrDrop_X5_isOpen : GoodIn wsX5_warmOrDrop (wsV RX5 132 RX5 yX5_isOpen wsX5_isOpen) := goodIn_app (goodIn_of _ (by decide +kernel)) ggX5_warmOrDrop_X5_isOpen
set_option maxRecDepth 20000 in
theorem ggX5_warmOrDrop_X0_warmOrCool : GoodIn wsX5_warmOrDrop wsX0_warmOrCool := goodIn_r _ [31, 27, 32, 25, 33, 34, 35, 22, 36, 37, 38, 39, 40, 41, 42, 16, 17, 18, 43, 44, 45, 46, 47, 48, 49, 50, 51, 52, 53, 54, 55, 56, 57, 58, 79, 80, 81, 82, 83, 84, 85, 86, 87, 88] (by decide +kernel) (by decide +kernel)
set_option maxRecDepth 20000 in
theorem gX5_warmOrDrop_X0_warmOrCool : GoodIn wsX5_warmOrDrop (wsV RX5 143 RX0 yX0_warmOrCool wsX0_warmOrCool) := goodIn_app (goodIn_of _ (by decide +kernel)) ggX5_warmOrDrop_X0_warmOrCool
set_option maxRecDepth 20000 in
theorem ggX5_warmOrDrop_X2_note : GoodIn wsX5_warmOrDrop wsX2_note := goodIn_r _ [63, 64, 65, 66, 67, 68, 49, 50, 51, 69, 70, 71, 62, 72, 73, 74, 75, 76, 77, 17, 78, 98, 99, 100, 101, 102] (by decide +kernel) (by decide +kernel)
set_option maxRecDepth 20000 in
theorem gX5_warmOrDrop_X2_note : GoodIn wsX5_warmOrDrop (wsV RX5 87 RX2 yX2_note wsX2_note) := goodIn_app (goodIn_of _ (by decide +kernel)) ggX5_warmOrDrop_X2_note
theorem dX5_warmOrDrop_0 : decode cX5_warmOrDrop 0 = .ok (.aload_n 0, 1) := by decide +kernel
theorem dX5_warmOrDrop_1 : decode cX5_warmOrDrop 1 = .ok (.aload_n 2, 1) := by decide +kernel
theorem dX5_warmOrDrop_2 : decode cX5_warmOrDrop 2 = .ok (.invokevirtual 132, 3) := by decide +kernel
theorem dX5_warmOrDrop_5 : decode cX5_warmOrDrop 5 = .ok (.istore_n 3, 1) := by decide +kernel
theorem dX5_warmOrDrop_6 : decode cX5_warmOrDrop 6 = .ok (.aload_n 2, 1) := by decide +kernel
theorem dX5_warmOrDrop_7 : decode cX5_warmOrDrop 7 = .ok (.invokevirtual 143, 3) := by decide +kernel
theorem dX5_warmOrDrop_10 : decode cX5_warmOrDrop 10 = .ok (.iload_n 3, 1) := by decide +kernel
theorem dX5_warmOrDrop_11 : decode cX5_warmOrDrop 11 = .ok (.ifCond .eq 29, 3) := by decide +kernel
theorem dX5_warmOrDrop_14 : decode cX5_warmOrDrop 14 = .ok (.aload_n 0, 1) := by decide +kernel
theorem dX5_warmOrDrop_15 : decode cX5_warmOrDrop 15 = .ok (.aload_n 2, 1) := by decide +kernel
theorem dX5_warmOrDrop_16 : decode cX5_warmOrDrop 16 = .ok (.invokevirtual 132, 3) := by decide +kernel
theorem dX5_warmOrDrop_19 : decode cX5_warmOrDrop 19 = .ok (.ifCond .ne 21, 3) := by decide +kernel
theorem dX5_warmOrDrop_22 : decode cX5_warmOrDrop 22 = .ok (.aload_n 2, 1) := by decide +kernel
theorem dX5_warmOrDrop_23 : decode cX5_warmOrDrop 23 = .ok (.iconst 0, 1) := by decide +kernel
theorem dX5_warmOrDrop_24 : decode cX5_warmOrDrop 24 = .ok (.putfield 80, 3) := by decide +kernel
theorem dX5_warmOrDrop_27 : decode cX5_warmOrDrop 27 = .ok (.aload_n 0, 1) := by decide +kernel
theorem dX5_warmOrDrop_28 : decode cX5_warmOrDrop 28 = .ok (.getfield 39, 3) := by decide +kernel
theorem dX5_warmOrDrop_31 : decode cX5_warmOrDrop 31 = .ok (.iconst 2, 1) := by decide +kernel
theorem dX5_warmOrDrop_32 : decode cX5_warmOrDrop 32 = .ok (.iload_n 1, 1) := by decide +kernel
theorem dX5_warmOrDrop_33 : decode cX5_warmOrDrop 33 = .ok (.aload_n 0, 1) := by decide +kernel
theorem dX5_warmOrDrop_34 : decode cX5_warmOrDrop 34 = .ok (.getfield 56, 3) := by decide +kernel
theorem dX5_warmOrDrop_37 : decode cX5_warmOrDrop 37 = .ok (.invokevirtual 87, 3) := by decide +kernel
theorem dX5_warmOrDrop_40 : decode cX5_warmOrDrop 40 = .ok (.return_, 1) := by decide +kernel
set_option maxRecDepth 20000 in
theorem ggX5_flow_X5_flowsUnburnt : GoodIn wsX5_flow wsX5_flowsUnburnt := goodIn_r _ [13, 14, 15, 16, 17, 12, 18, 19, 20, 21, 22, 23, 24, 25, 26, 27, 28, 29, 30, 31, 32, 33, 34, 35, 36, 37, 48, 49, 50, 51, 52, 53, 54, 55, 56, 57, 58, 59, 60, 61, 62, 63, 64, 65, 66] (by decide +kernel) (by decide +kernel)
set_option maxRecDepth 20000 in
theorem gX5_flow_X5_flowsUnburnt : GoodIn wsX5_flow (wsV RX5 119 RX5 yX5_flowsUnburnt wsX5_flowsUnburnt) := goodIn_app (goodIn_of _ (by decide +kernel)) ggX5_flow_X5_flowsUnburnt
set_option maxRecDepth 20000 in
theorem ggX5_flow_X0_flow : GoodIn wsX5_flow wsX0_flow := goodIn_r _ [41, 42, 35, 43, 44, 45, 32, 46, 47, 26, 27, 28, 48, 49, 50, 51, 52, 53, 54, 55, 56, 57] (by decide +kernel) (by decide +kernel)
set_option maxRecDepth 20000 in
theorem gX5_flow_X0_flow : GoodIn wsX5_flow (wsV RX5 149 RX0 yX0_flow wsX0_flow) := goodIn_app (goodIn_of _ (by decide +kernel)) ggX5_flow_X0_flow
theorem dX5_flow_0 : decode cX5_flow 0 = .ok (.aload_n 0, 1) := by decide +kernel
theorem dX5_flow_1 : decode cX5_flow 1 = .ok (.aload_n 1, 1) := by decide +kernel
theorem dX5_flow_2 : decode cX5_flow 2 = .ok (.invokevirtual 119, 3) := by decide +kernel
theorem dX5_flow_5 : decode cX5_flow 5 = .ok (.ifCond .ne 9, 3) := by decide +kernel
theorem dX5_flow_8 : decode cX5_flow 8 = .ok (.aload_n 1, 1) := by decide +kernel
theorem dX5_flow_9 : decode cX5_flow 9 = .ok (.iconst 0, 1) := by decide +kernel
theorem dX5_flow_10 : decode cX5_flow 10 = .ok (.putfield 146, 3) := by decide +kernel
theorem dX5_flow_13 : decode cX5_flow 13 = .ok (.return_, 1) := by decide +kernel
theorem dX5_flow_14 : decode cX5_flow 14 = .ok (.aload_n 0, 1) := by decide +kernel
theorem dX5_flow_15 : decode cX5_flow 15 = .ok (.dup, 1) := by decide +kernel
theorem dX5_flow_16 : decode cX5_flow 16 = .ok (.getfield 60, 3) := by decide +kernel
theorem dX5_flow_19 : decode cX5_flow 19 = .ok (.aload_n 1, 1) := by decide +kernel
theorem dX5_flow_20 : decode cX5_flow 20 = .ok (.invokevirtual 149, 3) := by decide +kernel
theorem dX5_flow_23 : decode cX5_flow 23 = .ok (.iadd, 1) := by decide +kernel
theorem dX5_flow_24 : decode cX5_flow 24 = .ok (.putfield 60, 3) := by decide +kernel
theorem dX5_flow_27 : decode cX5_flow 27 = .ok (.aload_n 1, 1) := by decide +kernel
theorem dX5_flow_28 : decode cX5_flow 28 = .ok (.dup, 1) := by decide +kernel
theorem dX5_flow_29 : decode cX5_flow 29 = .ok (.getfield 151, 3) := by decide +kernel
theorem dX5_flow_32 : decode cX5_flow 32 = .ok (.aload_n 1, 1) := by decide +kernel
theorem dX5_flow_33 : decode cX5_flow 33 = .ok (.invokevirtual 149, 3) := by decide +kernel
theorem dX5_flow_36 : decode cX5_flow 36 = .ok (.iadd, 1) := by decide +kernel
theorem dX5_flow_37 : decode cX5_flow 37 = .ok (.putfield 151, 3) := by decide +kernel
theorem dX5_flow_40 : decode cX5_flow 40 = .ok (.aload_n 1, 1) := by decide +kernel
theorem dX5_flow_41 : decode cX5_flow 41 = .ok (.dup, 1) := by decide +kernel
theorem dX5_flow_42 : decode cX5_flow 42 = .ok (.getfield 146, 3) := by decide +kernel
theorem dX5_flow_45 : decode cX5_flow 45 = .ok (.iconst 1, 1) := by decide +kernel
theorem dX5_flow_46 : decode cX5_flow 46 = .ok (.iadd, 1) := by decide +kernel
theorem dX5_flow_47 : decode cX5_flow 47 = .ok (.putfield 146, 3) := by decide +kernel
theorem dX5_flow_50 : decode cX5_flow 50 = .ok (.aload_n 0, 1) := by decide +kernel
theorem dX5_flow_51 : decode cX5_flow 51 = .ok (.aload_n 0, 1) := by decide +kernel
theorem dX5_flow_52 : decode cX5_flow 52 = .ok (.getfield 66, 3) := by decide +kernel
theorem dX5_flow_55 : decode cX5_flow 55 = .ok (.aload_n 1, 1) := by decide +kernel
theorem dX5_flow_56 : decode cX5_flow 56 = .ok (.getfield 146, 3) := by decide +kernel
theorem dX5_flow_59 : decode cX5_flow 59 = .ok (.invokestatic 113, 3) := by decide +kernel
theorem dX5_flow_62 : decode cX5_flow 62 = .ok (.putfield 66, 3) := by decide +kernel
theorem dX5_flow_65 : decode cX5_flow 65 = .ok (.return_, 1) := by decide +kernel
set_option maxRecDepth 20000 in
theorem ggX5_flowsUnburnt_X5_isOpen : GoodIn wsX5_flowsUnburnt wsX5_isOpen := goodIn_r _ [6, 7, 8, 9, 10, 11, 12, 13, 14, 15, 16, 17, 18, 19, 20, 21, 22, 23, 24, 25, 36, 37, 38, 39, 40, 41, 42, 43, 44, 26, 27, 28, 29, 30, 31, 32, 33, 34, 35] (by decide +kernel) (by decide +kernel)
set_option maxRecDepth 20000 in
theorem gX5_flowsUnburnt_X5_isOpen : GoodIn wsX5_flowsUnburnt (wsV RX5 132 RX5 yX5_isOpen wsX5_isOpen) := goodIn_app (goodIn_of _ (by decide +kernel)) ggX5_flowsUnburnt_X5_isOpen
theorem dX5_flowsUnburnt_0 : decode cX5_flowsUnburnt 0 = .ok (.aload_n 0, 1) := by decide +kernel
theorem dX5_flowsUnburnt_1 : decode cX5_flowsUnburnt 1 = .ok (.aload_n 1, 1) := by decide +kernel
theorem dX5_flowsUnburnt_2 : decode cX5_flowsUnburnt 2 = .ok (.invokevirtual 132, 3) := by decide +kernel
theorem dX5_flowsUnburnt_5 : decode cX5_flowsUnburnt 5 = .ok (.ifCond .eq 14, 3) := by decide +kernel
theorem dX5_flowsUnburnt_8 : decode cX5_flowsUnburnt 8 = .ok (.aload_n 1, 1) := by decide +kernel
theorem dX5_flowsUnburnt_9 : decode cX5_flowsUnburnt 9 = .ok (.getfield 80, 3) := by decide +kernel
theorem dX5_flowsUnburnt_12 : decode cX5_flowsUnburnt 12 = .ok (.ifCond .ne 7, 3) := by decide +kernel
theorem dX5_flowsUnburnt_15 : decode cX5_flowsUnburnt 15 = .ok (.iconst 1, 1) := by decide +kernel
theorem dX5_flowsUnburnt_16 : decode cX5_flowsUnburnt 16 = .ok (.goto 4, 3) := by decide +kernel
theorem dX5_flowsUnburnt_19 : decode cX5_flowsUnburnt 19 = .ok (.iconst 0, 1) := by decide +kernel
theorem dX5_flowsUnburnt_20 : decode cX5_flowsUnburnt 20 = .ok (.ireturn, 1) := by decide +kernel
theorem dX6_init_0 : decode cX6_init 0 = .ok (.aload_n 0, 1) := by decide +kernel
theorem dX6_init_1 : decode cX6_init 1 = .ok (.invokespecial 1, 3) := by decide +kernel
theorem dX6_init_4 : decode cX6_init 4 = .ok (.aload_n 0, 1) := by decide +kernel
theorem dX6_init_5 : decode cX6_init 5 = .ok (.bipush 60, 2) := by decide +kernel
theorem dX6_init_7 : decode cX6_init 7 = .ok (.newarray .char, 2) := by decide +kernel
theorem dX6_init_9 : decode cX6_init 9 = .ok (.putfield 9, 3) := by decide +kernel
theorem dX6_init_12 : decode cX6_init 12 = .ok (.aload_n 0, 1) := by decide +kernel
theorem dX6_init_13 : decode cX6_init 13 = .ok (.iconst 0, 1) := by decide +kernel
theorem dX6_init_14 : decode cX6_init 14 = .ok (.putfield 13, 3) := by decide +kernel
theorem dX6_init_17 : decode cX6_init 17 = .ok (.return_, 1) := by decide +kernel
set_option maxRecDepth 20000 in
theorem ggX7_init_X5_init : GoodIn wsX7_init wsX5_init := goodIn_r _ [25, 26, 2, 3, 27, 28, 29, 30, 31, 32, 33, 34, 35, 36, 11, 12, 37, 38, 39, 40, 41, 42, 43, 44, 45, 46, 47, 48, 49, 50, 51, 52, 53, 54, 55, 56, 57, 58, 59, 60, 61, 62, 63, 64, 65, 66, 67, 68, 69, 108, 86, 87, 88, 89, 90, 91, 92, 93, 109, 110, 111, 112, 113, 114, 115, 116, 117, 118, 101, 102, 103, 119, 120, 121, 122, 123] (by decide +kernel) (by decide +kernel)
set_option maxRecDepth 20000 in
theorem gX7_init_X5_init : GoodIn wsX7_init (wsX5_init) := ggX7_init_X5_init
set_option maxRecDepth 20000 in
theorem ggX7_init_X3_init : GoodIn wsX7_init wsX3_init := goodIn_r _ [56, 57, 2, 3, 47, 58, 59, 60, 101, 102, 103] (by decide +kernel) (by decide +kernel)
set_option maxRecDepth 20000 in
theorem gX7_init_X3_init : GoodIn wsX7_init (wsX3_init) := ggX7_init_X3_init
set_option maxRecDepth 20000 in
theorem ggX7_init_X1_init : GoodIn wsX7_init wsX1_init := goodIn_r _ [73, 74, 2, 3, 75, 76, 5, 6, 77, 78, 24, 25, 26, 27, 28, 29, 30, 31, 32, 33, 34, 35, 36, 11, 12, 37, 38, 39, 40, 41, 42, 43, 44, 45, 46, 47, 48, 49, 50, 51, 52, 53, 54, 55, 56, 57, 58, 59, 60, 61, 62, 63, 64, 65, 66, 67, 68, 69, 104, 105, 86, 87, 88, 89, 90, 91, 92, 93, 108, 109, 110, 111, 112, 113, 114, 115, 116, 117, 118, 101, 102, 103, 119, 120, 121, 122, 123] (by decide +kernel) (by decide +kernel)
set_option maxRecDepth 20000 in
theorem gX7_init_X1_init : GoodIn wsX7_init (wsX1_init) := ggX7_init_X1_init
set_option maxRecDepth 20000 in
theorem ggX7_init_X6_init : GoodIn wsX7_init wsX6_init := goodIn_r _ [81, 82, 2, 3, 83, 84, 85, 106, 107] (by decide +kernel) (by decide +kernel)
set_option maxRecDepth 20000 in
theorem gX7_init_X6_init : GoodIn wsX7_init (wsX6_init) := ggX7_init_X6_init
theorem dX7_init_0 : decode cX7_init 0 = .ok (.aload_n 0, 1) := by decide +kernel
theorem dX7_init_1 : decode cX7_init 1 = .ok (.invokespecial 1, 3) := by decide +kernel
theorem dX7_init_4 : decode cX7_init 4 = .ok (.aload_n 0, 1) := by decide +kernel
theorem dX7_init_5 : decode cX7_init 5 = .ok (.new 7, 3) := by decide +kernel
theorem dX7_init_8 : decode cX7_init 8 = .ok (.dup, 1) := by decide +kernel
theorem dX7_init_9 : decode cX7_init 9 = .ok (.invokespecial 9, 3) := by decide +kernel
theorem dX7_init_12 : decode cX7_init 12 = .ok (.putfield 10, 3) := by decide +kernel
theorem dX7_init_15 : decode cX7_init 15 = .ok (.aload_n 0, 1) := by decide +kernel
theorem dX7_init_16 : decode cX7_init 16 = .ok (.new 7, 3) := by decide +kernel
theorem dX7_init_19 : decode cX7_init 19 = .ok (.dup, 1) := by decide +kernel
theorem dX7_init_20 : decode cX7_init 20 = .ok (.invokespecial 9, 3) := by decide +kernel
theorem dX7_init_23 : decode cX7_init 23 = .ok (.putfield 16, 3) := by decide +kernel
theorem dX7_init_26 : decode cX7_init 26 = .ok (.aload_n 0, 1) := by decide +kernel
theorem dX7_init_27 : decode cX7_init 27 = .ok (.new 7, 3) := by decide +kernel
theorem dX7_init_30 : decode cX7_init 30 = .ok (.dup, 1) := by decide +kernel
theorem dX7_init_31 : decode cX7_init 31 = .ok (.invokespecial 9, 3) := by decide +kernel
theorem dX7_init_34 : decode cX7_init 34 = .ok (.putfield 19, 3) := by decide +kernel
theorem dX7_init_37 : decode cX7_init 37 = .ok (.aload_n 0, 1) := by decide +kernel
theorem dX7_init_38 : decode cX7_init 38 = .ok (.new 22, 3) := by decide +kernel
theorem dX7_init_41 : decode cX7_init 41 = .ok (.dup, 1) := by decide +kernel
theorem dX7_init_42 : decode cX7_init 42 = .ok (.invokespecial 24, 3) := by decide +kernel
theorem dX7_init_45 : decode cX7_init 45 = .ok (.putfield 25, 3) := by decide +kernel
theorem dX7_init_48 : decode cX7_init 48 = .ok (.aload_n 0, 1) := by decide +kernel
theorem dX7_init_49 : decode cX7_init 49 = .ok (.new 29, 3) := by decide +kernel
theorem dX7_init_52 : decode cX7_init 52 = .ok (.dup, 1) := by decide +kernel
theorem dX7_init_53 : decode cX7_init 53 = .ok (.invokespecial 31, 3) := by decide +kernel
theorem dX7_init_56 : decode cX7_init 56 = .ok (.putfield 32, 3) := by decide +kernel
theorem dX7_init_59 : decode cX7_init 59 = .ok (.aload_n 0, 1) := by decide +kernel
theorem dX7_init_60 : decode cX7_init 60 = .ok (.new 36, 3) := by decide +kernel
theorem dX7_init_63 : decode cX7_init 63 = .ok (.dup, 1) := by decide +kernel
theorem dX7_init_64 : decode cX7_init 64 = .ok (.invokespecial 38, 3) := by decide +kernel
theorem dX7_init_67 : decode cX7_init 67 = .ok (.putfield 39, 3) := by decide +kernel
theorem dX7_init_70 : decode cX7_init 70 = .ok (.aload_n 0, 1) := by decide +kernel
theorem dX7_init_71 : decode cX7_init 71 = .ok (.iconst 0, 1) := by decide +kernel
theorem dX7_init_72 : decode cX7_init 72 = .ok (.putfield 43, 3) := by decide +kernel
theorem dX7_init_75 : decode cX7_init 75 = .ok (.return_, 1) := by decide +kernel
set_option maxRecDepth 20000 in
theorem ggX7_set_X4_isOne : GoodIn wsX7_set wsX4_isOne := goodIn_r _ [7, 8, 9, 10, 11] (by decide +kernel) (by decide +kernel)
set_option maxRecDepth 20000 in
theorem gX7_set_X4_isOne : GoodIn wsX7_set (va_wsS RX7 47 yX4_isOne wsX4_isOne) := goodIn_app (goodIn_of _ (by decide +kernel)) ggX7_set_X4_isOne
set_option maxRecDepth 20000 in
theorem ggX7_set_X4_allows : GoodIn wsX7_set wsX4_allows := goodIn_r _ [14, 15, 16, 17, 10, 18, 9, 11] (by decide +kernel) (by decide +kernel)
set_option maxRecDepth 20000 in
theorem gX7_set_X4_allows : GoodIn wsX7_set (va_wsS RX7 53 yX4_allows wsX4_allows) := goodIn_app (goodIn_of _ (by decide +kernel)) ggX7_set_X4_allows
set_option maxRecDepth 20000 in
theorem ggX7_set_X4_valueOf : GoodIn wsX7_set wsX4_valueOf := goodIn_r _ [22, 23, 17, 10, 18, 115] (by decide +kernel) (by decide +kernel)
set_option maxRecDepth 20000 in
theorem gX7_set_X4_valueOf : GoodIn wsX7_set (wsV RX7 61 RX4 yX4_valueOf wsX4_valueOf) := goodIn_app (goodIn_of _ (by decide +kernel)) ggX7_set_X4_valueOf
set_option maxRecDepth 20000 in
theorem ggX7_set_X1_record : GoodIn wsX7_set wsX1_record := goodIn_r _ [28, 29, 30, 31, 32, 33, 27, 34, 35, 36, 37, 38, 39, 40, 41, 42, 43, 44, 45, 46, 47, 48, 49, 50, 6, 51, 23, 52, 10, 53, 54, 55, 56, 57, 58, 59, 60, 61, 62, 63, 64, 65, 66, 67, 68, 69, 70, 71, 72, 73, 74, 75, 76, 77, 78, 79, 80, 81, 82, 83, 84, 85, 86, 87, 88, 89, 90, 91, 92, 93, 94, 116, 117, 107, 108, 109, 110, 111, 112, 113, 114, 115, 118, 119, 120, 121, 122, 123, 124, 125, 126, 127, 128, 129, 130, 131, 132, 133, 134, 135] (by decide +kernel) (by decide +kernel)
set_option maxRecDepth 20000 in
theorem gX7_set_X1_record : GoodIn wsX7_set (wsV RX7 65 RX1 yX1_record wsX1_record) := goodIn_app (goodIn_of _ (by decide +kernel)) ggX7_set_X1_record
set_option maxRecDepth 20000 in
theorem ggX7_set_X4_change : GoodIn wsX7_set wsX4_change := goodIn_r _ [98, 23, 99, 5, 6, 7, 8, 9, 10, 11, 115] (by decide +kernel) (by decide +kernel)
set_option maxRecDepth 20000 in
theorem gX7_set_X4_change : GoodIn wsX7_set (wsV RX7 69 RX4 yX4_change wsX4_change) := goodIn_app (goodIn_of _ (by decide +kernel)) ggX7_set_X4_change
theorem dX7_set_0 : decode cX7_set 0 = .ok (.iload_n 1, 1) := by decide +kernel
theorem dX7_set_1 : decode cX7_set 1 = .ok (.invokestatic 47, 3) := by decide +kernel
theorem dX7_set_4 : decode cX7_set 4 = .ok (.ifCond .ne 5, 3) := by decide +kernel
theorem dX7_set_7 : decode cX7_set 7 = .ok (.iconst (-1), 1) := by decide +kernel
theorem dX7_set_8 : decode cX7_set 8 = .ok (.ireturn, 1) := by decide +kernel
theorem dX7_set_9 : decode cX7_set 9 = .ok (.iload_n 1, 1) := by decide +kernel
theorem dX7_set_10 : decode cX7_set 10 = .ok (.iload_n 2, 1) := by decide +kernel
theorem dX7_set_11 : decode cX7_set 11 = .ok (.invokestatic 53, 3) := by decide +kernel
theorem dX7_set_14 : decode cX7_set 14 = .ok (.ifCond .ne 6, 3) := by decide +kernel
theorem dX7_set_17 : decode cX7_set 17 = .ok (.bipush (-2), 2) := by decide +kernel
theorem dX7_set_19 : decode cX7_set 19 = .ok (.ireturn, 1) := by decide +kernel
theorem dX7_set_20 : decode cX7_set 20 = .ok (.aload_n 0, 1) := by decide +kernel
theorem dX7_set_21 : decode cX7_set 21 = .ok (.getfield 10, 3) := by decide +kernel
theorem dX7_set_24 : decode cX7_set 24 = .ok (.getfield 57, 3) := by decide +kernel
theorem dX7_set_27 : decode cX7_set 27 = .ok (.iload_n 1, 1) := by decide +kernel
theorem dX7_set_28 : decode cX7_set 28 = .ok (.invokevirtual 61, 3) := by decide +kernel
theorem dX7_set_31 : decode cX7_set 31 = .ok (.istore_n 3, 1) := by decide +kernel
theorem dX7_set_32 : decode cX7_set 32 = .ok (.iload_n 3, 1) := by decide +kernel
theorem dX7_set_33 : decode cX7_set 33 = .ok (.iload_n 2, 1) := by decide +kernel
theorem dX7_set_34 : decode cX7_set 34 = .ok (.if_icmp .ne 6, 3) := by decide +kernel
theorem dX7_set_37 : decode cX7_set 37 = .ok (.bipush (-5), 2) := by decide +kernel
theorem dX7_set_39 : decode cX7_set 39 = .ok (.ireturn, 1) := by decide +kernel
theorem dX7_set_40 : decode cX7_set 40 = .ok (.aload_n 0, 1) := by decide +kernel
theorem dX7_set_41 : decode cX7_set 41 = .ok (.getfield 32, 3) := by decide +kernel
theorem dX7_set_44 : decode cX7_set 44 = .ok (.aload_n 0, 1) := by decide +kernel
theorem dX7_set_45 : decode cX7_set 45 = .ok (.getfield 10, 3) := by decide +kernel
theorem dX7_set_48 : decode cX7_set 48 = .ok (.invokevirtual 65, 3) := by decide +kernel
theorem dX7_set_51 : decode cX7_set 51 = .ok (.aload_n 0, 1) := by decide +kernel
theorem dX7_set_52 : decode cX7_set 52 = .ok (.getfield 10, 3) := by decide +kernel
theorem dX7_set_55 : decode cX7_set 55 = .ok (.getfield 57, 3) := by decide +kernel
theorem dX7_set_58 : decode cX7_set 58 = .ok (.iload_n 1, 1) := by decide +kernel
theorem dX7_set_59 : decode cX7_set 59 = .ok (.iload_n 2, 1) := by decide +kernel
theorem dX7_set_60 : decode cX7_set 60 = .ok (.invokevirtual 69, 3) := by decide +kernel
theorem dX7_set_63 : decode cX7_set 63 = .ok (.iload_n 3, 1) := by decide +kernel
theorem dX7_set_64 : decode cX7_set 64 = .ok (.ireturn, 1) := by decide +kernel
set_option maxRecDepth 20000 in
theorem ggX7_setKind_X5_find : GoodIn wsX7_setKind wsX5_find := goodIn_r _ [9, 10, 103, 104, 105, 106, 107, 108, 109, 110] (by decide +kernel) (by decide +kernel)
set_option maxRecDepth 20000 in
theorem gX7_setKind_X5_find : GoodIn wsX7_setKind (wsV RX7 73 RX5 yX5_find wsX5_find) := goodIn_app (goodIn_of _ (by decide +kernel)) ggX7_setKind_X5_find
set_option maxRecDepth 20000 in
theorem ggX7_setKind_X7_isWithin : GoodIn wsX7_setKind wsX7_isWithin := goodIn_r _ [14] (by decide +kernel) (by decide +kernel)
set_option maxRecDepth 20000 in
theorem gX7_setKind_X7_isWithin : GoodIn wsX7_setKind (va_wsS RX7 79 yX7_isWithin wsX7_isWithin) := goodIn_app (goodIn_of _ (by decide +kernel)) ggX7_setKind_X7_isWithin
set_option maxRecDepth 20000 in
theorem ggX7_setKind_X1_record : GoodIn wsX7_setKind wsX1_record := goodIn_r _ [19, 20, 21, 22, 23, 24, 18, 25, 26, 27, 28, 8, 29, 30, 10, 31, 32, 33, 34, 35, 36, 37, 38, 39, 40, 41, 42, 43, 13, 44, 45, 46, 47, 48, 49, 50, 51, 52, 53, 54, 55, 56, 57, 58, 59, 60, 61, 62, 63, 64, 65, 66, 67, 68, 69, 70, 71, 72, 73, 74, 75, 76, 77, 78, 79, 80, 81, 82, 83, 84, 85, 111, 112, 103, 104, 105, 106, 107, 108, 109, 110, 113, 93, 94, 95, 96, 97, 98, 99, 100, 101, 102, 114, 115, 116, 117, 118, 119, 120, 121] (by decide +kernel) (by decide +kernel)
set_option maxRecDepth 20000 in
theorem gX7_setKind_X1_record : GoodIn wsX7_setKind (wsV RX7 65 RX1 yX1_record wsX1_record) := goodIn_app (goodIn_of _ (by decide +kernel)) ggX7_setKind_X1_record
theorem dX7_setKind_0 : decode cX7_setKind 0 = .ok (.aload_n 0, 1) := by decide +kernel
theorem dX7_setKind_1 : decode cX7_setKind 1 = .ok (.getfield 10, 3) := by decide +kernel
theorem dX7_setKind_4 : decode cX7_setKind 4 = .ok (.iload_n 1, 1) := by decide +kernel
theorem dX7_setKind_5 : decode cX7_setKind 5 = .ok (.invokevirtual 73, 3) := by decide +kernel
theorem dX7_setKind_8 : decode cX7_setKind 8 = .ok (.astore_n 3, 1) := by decide +kernel
theorem dX7_setKind_9 : decode cX7_setKind 9 = .ok (.aload_n 3, 1) := by decide +kernel
theorem dX7_setKind_10 : decode cX7_setKind 10 = .ok (.ifnonnull 5, 3) := by decide +kernel
theorem dX7_setKind_13 : decode cX7_setKind 13 = .ok (.iconst (-1), 1) := by decide +kernel
theorem dX7_setKind_14 : decode cX7_setKind 14 = .ok (.ireturn, 1) := by decide +kernel
theorem dX7_setKind_15 : decode cX7_setKind 15 = .ok (.iload_n 2, 1) := by decide +kernel
theorem dX7_setKind_16 : decode cX7_setKind 16 = .ok (.iconst 0, 1) := by decide +kernel
theorem dX7_setKind_17 : decode cX7_setKind 17 = .ok (.iconst 2, 1) := by decide +kernel
theorem dX7_setKind_18 : decode cX7_setKind 18 = .ok (.invokestatic 79, 3) := by decide +kernel
theorem dX7_setKind_21 : decode cX7_setKind 21 = .ok (.ifCond .ne 6, 3) := by decide +kernel
theorem dX7_setKind_24 : decode cX7_setKind 24 = .ok (.bipush (-2), 2) := by decide +kernel
theorem dX7_setKind_26 : decode cX7_setKind 26 = .ok (.ireturn, 1) := by decide +kernel
theorem dX7_setKind_27 : decode cX7_setKind 27 = .ok (.aload_n 3, 1) := by decide +kernel
theorem dX7_setKind_28 : decode cX7_setKind 28 = .ok (.getfield 83, 3) := by decide +kernel
theorem dX7_setKind_31 : decode cX7_setKind 31 = .ok (.ifCond .eq 6, 3) := by decide +kernel
theorem dX7_setKind_34 : decode cX7_setKind 34 = .ok (.bipush (-4), 2) := by decide +kernel
theorem dX7_setKind_36 : decode cX7_setKind 36 = .ok (.ireturn, 1) := by decide +kernel
theorem dX7_setKind_37 : decode cX7_setKind 37 = .ok (.aload_n 3, 1) := by decide +kernel
theorem dX7_setKind_38 : decode cX7_setKind 38 = .ok (.getfield 87, 3) := by decide +kernel
theorem dX7_setKind_41 : decode cX7_setKind 41 = .ok (.istore 4, 2) := by decide +kernel
theorem dX7_setKind_43 : decode cX7_setKind 43 = .ok (.iload 4, 2) := by decide +kernel
theorem dX7_setKind_45 : decode cX7_setKind 45 = .ok (.iload_n 2, 1) := by decide +kernel
theorem dX7_setKind_46 : decode cX7_setKind 46 = .ok (.if_icmp .ne 6, 3) := by decide +kernel
theorem dX7_setKind_49 : decode cX7_setKind 49 = .ok (.bipush (-5), 2) := by decide +kernel
theorem dX7_setKind_51 : decode cX7_setKind 51 = .ok (.ireturn, 1) := by decide +kernel
theorem dX7_setKind_52 : decode cX7_setKind 52 = .ok (.aload_n 0, 1) := by decide +kernel
theorem dX7_setKind_53 : decode cX7_setKind 53 = .ok (.getfield 32, 3) := by decide +kernel
theorem dX7_setKind_56 : decode cX7_setKind 56 = .ok (.aload_n 0, 1) := by decide +kernel
theorem dX7_setKind_57 : decode cX7_setKind 57 = .ok (.getfield 10, 3) := by decide +kernel
theorem dX7_setKind_60 : decode cX7_setKind 60 = .ok (.invokevirtual 65, 3) := by decide +kernel
theorem dX7_setKind_63 : decode cX7_setKind 63 = .ok (.aload_n 3, 1) := by decide +kernel
theorem dX7_setKind_64 : decode cX7_setKind 64 = .ok (.iload_n 2, 1) := by decide +kernel
theorem dX7_setKind_65 : decode cX7_setKind 65 = .ok (.putfield 87, 3) := by decide +kernel
theorem dX7_setKind_68 : decode cX7_setKind 68 = .ok (.iload 4, 2) := by decide +kernel
theorem dX7_setKind_70 : decode cX7_setKind 70 = .ok (.ireturn, 1) := by decide +kernel
set_option maxRecDepth 20000 in
theorem ggX7_plan_X7_isWithin : GoodIn wsX7_plan wsX7_isWithin := goodIn_r _ [8] (by decide +kernel) (by decide +kernel)
set_option maxRecDepth 20000 in
theorem gX7_plan_X7_isWithin : GoodIn wsX7_plan (va_wsS RX7 79 yX7_isWithin wsX7_isWithin) := goodIn_app (goodIn_of _ (by decide +kernel)) ggX7_plan_X7_isWithin
set_option maxRecDepth 20000 in
theorem ggX7_plan_X3_hasRoomFor : GoodIn wsX7_plan wsX3_hasRoomFor := goodIn_r _ [13, 14, 15, 16, 17, 12, 18, 19, 120, 121, 122] (by decide +kernel) (by decide +kernel)
set_option maxRecDepth 20000 in
theorem gX7_plan_X3_hasRoomFor : GoodIn wsX7_plan (wsV RX7 93 RX3 yX3_hasRoomFor wsX3_hasRoomFor) := goodIn_app (goodIn_of _ (by decide +kernel)) ggX7_plan_X3_hasRoomFor
set_option maxRecDepth 20000 in
theorem ggX7_plan_X3_holds : GoodIn wsX7_plan wsX3_holds := goodIn_r _ [23, 14, 24, 15, 16, 17, 12, 18, 19, 25, 7, 26, 120, 121, 122] (by decide +kernel) (by decide +kernel)
set_option maxRecDepth 20000 in
theorem gX7_plan_X3_holds : GoodIn wsX7_plan (wsV RX7 96 RX3 yX3_holds wsX3_holds) := goodIn_app (goodIn_of _ (by decide +kernel)) ggX7_plan_X3_holds
set_option maxRecDepth 20000 in
theorem ggX7_plan_X1_record : GoodIn wsX7_plan wsX1_record := goodIn_r _ [31, 32, 33, 34, 35, 36, 30, 37, 38, 39, 40, 41, 42, 43, 44, 45, 46, 47, 48, 49, 50, 51, 52, 53, 54, 55, 56, 57, 7, 58, 59, 60, 61, 62, 63, 64, 65, 66, 67, 68, 69, 70, 71, 72, 73, 74, 75, 76, 77, 78, 79, 80, 81, 82, 83, 84, 12, 85, 19, 24, 14, 86, 87, 88, 89, 90, 91, 92, 93, 94, 95, 123, 124, 112, 113, 114, 115, 116, 117, 118, 119, 125, 126, 127, 128, 129, 130, 131, 132, 133, 134, 135, 120, 121, 122, 136, 137, 138, 139, 140] (by decide +kernel) (by decide +kernel)
set_option maxRecDepth 20000 in
theorem gX7_plan_X1_record : GoodIn wsX7_plan (wsV RX7 65 RX1 yX1_record wsX1_record) := goodIn_app (goodIn_of _ (by decide +kernel)) ggX7_plan_X1_record
set_option maxRecDepth 20000 in
theorem ggX7_plan_X3_put : GoodIn wsX7_plan wsX3_put := goodIn_r _ [99, 14, 19, 24, 100, 10, 11, 12, 13, 15, 16, 17, 18, 101, 102, 103, 104, 120, 121, 122] (by decide +kernel) (by decide +kernel)
set_option maxRecDepth 20000 in
theorem gX7_plan_X3_put : GoodIn wsX7_plan (wsV RX7 99 RX3 yX3_put wsX3_put) := goodIn_app (goodIn_of _ (by decide +kernel)) ggX7_plan_X3_put
theorem dX7_plan_0 : decode cX7_plan 0 = .ok (.iload_n 1, 1) := by decide +kernel
theorem dX7_plan_1 : decode cX7_plan 1 = .ok (.iconst 0, 1) := by decide +kernel
theorem dX7_plan_2 : decode cX7_plan 2 = .ok (.sipush 9999, 3) := by decide +kernel
theorem dX7_plan_5 : decode cX7_plan 5 = .ok (.invokestatic 79, 3) := by decide +kernel
theorem dX7_plan_8 : decode cX7_plan 8 = .ok (.ifCond .eq 13, 3) := by decide +kernel
theorem dX7_plan_11 : decode cX7_plan 11 = .ok (.iload_n 2, 1) := by decide +kernel
theorem dX7_plan_12 : decode cX7_plan 12 = .ok (.iconst 0, 1) := by decide +kernel
theorem dX7_plan_13 : decode cX7_plan 13 = .ok (.bipush 9, 2) := by decide +kernel
theorem dX7_plan_15 : decode cX7_plan 15 = .ok (.invokestatic 79, 3) := by decide +kernel
theorem dX7_plan_18 : decode cX7_plan 18 = .ok (.ifCond .ne 6, 3) := by decide +kernel
theorem dX7_plan_21 : decode cX7_plan 21 = .ok (.bipush (-2), 2) := by decide +kernel
theorem dX7_plan_23 : decode cX7_plan 23 = .ok (.ireturn, 1) := by decide +kernel
theorem dX7_plan_24 : decode cX7_plan 24 = .ok (.aload_n 0, 1) := by decide +kernel
theorem dX7_plan_25 : decode cX7_plan 25 = .ok (.getfield 10, 3) := by decide +kernel
theorem dX7_plan_28 : decode cX7_plan 28 = .ok (.getfield 90, 3) := by decide +kernel
theorem dX7_plan_31 : decode cX7_plan 31 = .ok (.iload_n 1, 1) := by decide +kernel
theorem dX7_plan_32 : decode cX7_plan 32 = .ok (.invokevirtual 93, 3) := by decide +kernel
theorem dX7_plan_35 : decode cX7_plan 35 = .ok (.ifCond .ne 6, 3) := by decide +kernel
theorem dX7_plan_38 : decode cX7_plan 38 = .ok (.bipush (-3), 2) := by decide +kernel
theorem dX7_plan_40 : decode cX7_plan 40 = .ok (.ireturn, 1) := by decide +kernel
theorem dX7_plan_41 : decode cX7_plan 41 = .ok (.aload_n 0, 1) := by decide +kernel
theorem dX7_plan_42 : decode cX7_plan 42 = .ok (.getfield 10, 3) := by decide +kernel
theorem dX7_plan_45 : decode cX7_plan 45 = .ok (.getfield 90, 3) := by decide +kernel
theorem dX7_plan_48 : decode cX7_plan 48 = .ok (.iload_n 1, 1) := by decide +kernel
theorem dX7_plan_49 : decode cX7_plan 49 = .ok (.iload_n 2, 1) := by decide +kernel
theorem dX7_plan_50 : decode cX7_plan 50 = .ok (.invokevirtual 96, 3) := by decide +kernel
theorem dX7_plan_53 : decode cX7_plan 53 = .ok (.ifCond .eq 6, 3) := by decide +kernel
theorem dX7_plan_56 : decode cX7_plan 56 = .ok (.bipush (-5), 2) := by decide +kernel
theorem dX7_plan_58 : decode cX7_plan 58 = .ok (.ireturn, 1) := by decide +kernel
theorem dX7_plan_59 : decode cX7_plan 59 = .ok (.aload_n 0, 1) := by decide +kernel
theorem dX7_plan_60 : decode cX7_plan 60 = .ok (.getfield 32, 3) := by decide +kernel
theorem dX7_plan_63 : decode cX7_plan 63 = .ok (.aload_n 0, 1) := by decide +kernel
theorem dX7_plan_64 : decode cX7_plan 64 = .ok (.getfield 10, 3) := by decide +kernel
theorem dX7_plan_67 : decode cX7_plan 67 = .ok (.invokevirtual 65, 3) := by decide +kernel
theorem dX7_plan_70 : decode cX7_plan 70 = .ok (.aload_n 0, 1) := by decide +kernel
theorem dX7_plan_71 : decode cX7_plan 71 = .ok (.getfield 10, 3) := by decide +kernel
theorem dX7_plan_74 : decode cX7_plan 74 = .ok (.getfield 90, 3) := by decide +kernel
theorem dX7_plan_77 : decode cX7_plan 77 = .ok (.iload_n 1, 1) := by decide +kernel
theorem dX7_plan_78 : decode cX7_plan 78 = .ok (.iload_n 2, 1) := by decide +kernel
theorem dX7_plan_79 : decode cX7_plan 79 = .ok (.invokevirtual 99, 3) := by decide +kernel
theorem dX7_plan_82 : decode cX7_plan 82 = .ok (.pop, 1) := by decide +kernel
theorem dX7_plan_83 : decode cX7_plan 83 = .ok (.aload_n 0, 1) := by decide +kernel
theorem dX7_plan_84 : decode cX7_plan 84 = .ok (.getfield 10, 3) := by decide +kernel
theorem dX7_plan_87 : decode cX7_plan 87 = .ok (.getfield 90, 3) := by decide +kernel
theorem dX7_plan_90 : decode cX7_plan 90 = .ok (.getfield 102, 3) := by decide +kernel
theorem dX7_plan_93 : decode cX7_plan 93 = .ok (.ireturn, 1) := by decide +kernel
set_option maxRecDepth 20000 in
theorem ggX7_turn_X5_find : GoodIn wsX7_turn wsX5_find := goodIn_r _ [9, 10, 103, 104, 105, 106, 107, 108, 109, 110] (by decide +kernel) (by decide +kernel)
set_option maxRecDepth 20000 in
theorem gX7_turn_X5_find : GoodIn wsX7_turn (wsV RX7 73 RX5 yX5_find wsX5_find) := goodIn_app (goodIn_of _ (by decide +kernel)) ggX7_turn_X5_find
set_option maxRecDepth 20000 in
theorem ggX7_turn_X7_isWithin : GoodIn wsX7_turn wsX7_isWithin := goodIn_r _ [14] (by decide +kernel) (by decide +kernel)
set_option maxRecDepth 20000 in
theorem gX7_turn_X7_isWithin : GoodIn wsX7_turn (va_wsS RX7 79 yX7_isWithin wsX7_isWithin) := goodIn_app (goodIn_of _ (by decide +kernel)) ggX7_turn_X7_isWithin
set_option maxRecDepth 20000 in
theorem ggX7_turn_X1_record : GoodIn wsX7_turn wsX1_record := goodIn_r _ [19, 20, 21, 22, 23, 24, 18, 25, 26, 27, 28, 8, 29, 30, 10, 31, 32, 33, 34, 35, 36, 37, 38, 39, 40, 41, 42, 43, 13, 44, 45, 46, 47, 48, 49, 50, 51, 52, 53, 54, 55, 56, 57, 58, 59, 60, 61, 62, 63, 64, 65, 66, 67, 68, 69, 70, 71, 72, 73, 74, 75, 76, 77, 78, 79, 80, 81, 82, 83, 84, 85, 111, 112, 103, 104, 105, 106, 107, 108, 109, 110, 113, 93, 94, 95, 96, 97, 98, 99, 100, 101, 102, 114, 115, 116, 117, 118, 119, 120, 121] (by decide +kernel) (by decide +kernel)
set_option maxRecDepth 20000 in
theorem gX7_turn_X1_record : GoodIn wsX7_turn (wsV RX7 65 RX1 yX1_record wsX1_record) := goodIn_app (goodIn_of _ (by decide +kernel)) ggX7_turn_X1_record
theorem dX7_turn_0 : decode cX7_turn 0 = .ok (.aload_n 0, 1) := by decide +kernel
theorem dX7_turn_1 : decode cX7_turn 1 = .ok (.getfield 10, 3) := by decide +kernel
theorem dX7_turn_4 : decode cX7_turn 4 = .ok (.iload_n 1, 1) := by decide +kernel
theorem dX7_turn_5 : decode cX7_turn 5 = .ok (.invokevirtual 73, 3) := by decide +kernel
theorem dX7_turn_8 : decode cX7_turn 8 = .ok (.astore_n 3, 1) := by decide +kernel
theorem dX7_turn_9 : decode cX7_turn 9 = .ok (.aload_n 3, 1) := by decide +kernel
theorem dX7_turn_10 : decode cX7_turn 10 = .ok (.ifnonnull 5, 3) := by decide +kernel
theorem dX7_turn_13 : decode cX7_turn 13 = .ok (.iconst (-1), 1) := by decide +kernel
theorem dX7_turn_14 : decode cX7_turn 14 = .ok (.ireturn, 1) := by decide +kernel
theorem dX7_turn_15 : decode cX7_turn 15 = .ok (.iload_n 2, 1) := by decide +kernel
theorem dX7_turn_16 : decode cX7_turn 16 = .ok (.iconst 0, 1) := by decide +kernel
theorem dX7_turn_17 : decode cX7_turn 17 = .ok (.iconst 2, 1) := by decide +kernel
theorem dX7_turn_18 : decode cX7_turn 18 = .ok (.invokestatic 79, 3) := by decide +kernel
theorem dX7_turn_21 : decode cX7_turn 21 = .ok (.ifCond .ne 6, 3) := by decide +kernel
theorem dX7_turn_24 : decode cX7_turn 24 = .ok (.bipush (-2), 2) := by decide +kernel
theorem dX7_turn_26 : decode cX7_turn 26 = .ok (.ireturn, 1) := by decide +kernel
theorem dX7_turn_27 : decode cX7_turn 27 = .ok (.aload_n 3, 1) := by decide +kernel
theorem dX7_turn_28 : decode cX7_turn 28 = .ok (.getfield 83, 3) := by decide +kernel
theorem dX7_turn_31 : decode cX7_turn 31 = .ok (.istore 4, 2) := by decide +kernel
theorem dX7_turn_33 : decode cX7_turn 33 = .ok (.iload 4, 2) := by decide +kernel
theorem dX7_turn_35 : decode cX7_turn 35 = .ok (.iload_n 2, 1) := by decide +kernel
theorem dX7_turn_36 : decode cX7_turn 36 = .ok (.if_icmp .ne 6, 3) := by decide +kernel
theorem dX7_turn_39 : decode cX7_turn 39 = .ok (.bipush (-5), 2) := by decide +kernel
theorem dX7_turn_41 : decode cX7_turn 41 = .ok (.ireturn, 1) := by decide +kernel
theorem dX7_turn_42 : decode cX7_turn 42 = .ok (.aload_n 0, 1) := by decide +kernel
theorem dX7_turn_43 : decode cX7_turn 43 = .ok (.getfield 32, 3) := by decide +kernel
theorem dX7_turn_46 : decode cX7_turn 46 = .ok (.aload_n 0, 1) := by decide +kernel
theorem dX7_turn_47 : decode cX7_turn 47 = .ok (.getfield 10, 3) := by decide +kernel
theorem dX7_turn_50 : decode cX7_turn 50 = .ok (.invokevirtual 65, 3) := by decide +kernel
theorem dX7_turn_53 : decode cX7_turn 53 = .ok (.aload_n 3, 1) := by decide +kernel
theorem dX7_turn_54 : decode cX7_turn 54 = .ok (.iload_n 2, 1) := by decide +kernel
theorem dX7_turn_55 : decode cX7_turn 55 = .ok (.putfield 83, 3) := by decide +kernel
theorem dX7_turn_58 : decode cX7_turn 58 = .ok (.iload_n 2, 1) := by decide +kernel
theorem dX7_turn_59 : decode cX7_turn 59 = .ok (.ifCond .ne 8, 3) := by decide +kernel
theorem dX7_turn_62 : decode cX7_turn 62 = .ok (.aload_n 3, 1) := by decide +kernel
theorem dX7_turn_63 : decode cX7_turn 63 = .ok (.iconst 0, 1) := by decide +kernel
theorem dX7_turn_64 : decode cX7_turn 64 = .ok (.putfield 117, 3) := by decide +kernel
theorem dX7_turn_67 : decode cX7_turn 67 = .ok (.iload 4, 2) := by decide +kernel
theorem dX7_turn_69 : decode cX7_turn 69 = .ok (.ireturn, 1) := by decide +kernel
set_option maxRecDepth 20000 in
theorem ggX7_press_X5_find : GoodIn wsX7_press wsX5_find := goodIn_r _ [8, 9, 116, 117, 118, 119, 120, 121, 122, 123] (by decide +kernel) (by decide +kernel)
set_option maxRecDepth 20000 in
theorem gX7_press_X5_find : GoodIn wsX7_press (wsV RX7 73 RX5 yX5_find wsX5_find) := goodIn_app (goodIn_of _ (by decide +kernel)) ggX7_press_X5_find
set_option maxRecDepth 20000 in
theorem ggX7_press_X1_record : GoodIn wsX7_press wsX1_record := goodIn_r _ [14, 15, 16, 17, 18, 19, 13, 20, 21, 22, 23, 7, 24, 25, 9, 26, 27, 28, 29, 30, 31, 32, 33, 34, 35, 36, 37, 38, 39, 40, 41, 42, 43, 44, 45, 46, 47, 48, 49, 50, 51, 52, 53, 54, 55, 56, 57, 58, 59, 60, 61, 62, 63, 64, 65, 66, 67, 68, 69, 70, 71, 72, 73, 74, 75, 76, 77, 78, 79, 80, 81, 124, 125, 116, 117, 118, 119, 120, 121, 122, 123, 126, 106, 107, 108, 109, 110, 111, 112, 113, 114, 115, 127, 128, 129, 130, 131, 132, 133, 134] (by decide +kernel) (by decide +kernel)
set_option maxRecDepth 20000 in
theorem gX7_press_X1_record : GoodIn wsX7_press (wsV RX7 65 RX1 yX1_record wsX1_record) := goodIn_app (goodIn_of _ (by decide +kernel)) ggX7_press_X1_record
set_option maxRecDepth 20000 in
theorem ggX7_press_X5_isOpen : GoodIn wsX7_press wsX5_isOpen := goodIn_r _ [85, 25, 86, 87, 88, 35, 89, 37, 90, 39, 91, 92, 93, 94, 52, 95, 60, 55, 56, 59, 116, 117, 118, 119, 120, 121, 122, 123, 126, 106, 107, 108, 109, 110, 111, 112, 113, 114, 115] (by decide +kernel) (by decide +kernel)
set_option maxRecDepth 20000 in
theorem gX7_press_X5_isOpen : GoodIn wsX7_press (wsV RX7 123 RX5 yX5_isOpen wsX5_isOpen) := goodIn_app (goodIn_of _ (by decide +kernel)) ggX7_press_X5_isOpen
set_option maxRecDepth 20000 in
theorem ggX7_press_X7_oneIf : GoodIn wsX7_press wsX7_oneIf := goodIn_r _ [98] (by decide +kernel) (by decide +kernel)
set_option maxRecDepth 20000 in
theorem gX7_press_X7_oneIf : GoodIn wsX7_press (va_wsS RX7 127 yX7_oneIf wsX7_oneIf) := goodIn_app (goodIn_of _ (by decide +kernel)) ggX7_press_X7_oneIf
theorem dX7_press_0 : decode cX7_press 0 = .ok (.aload_n 0, 1) := by decide +kernel
theorem dX7_press_1 : decode cX7_press 1 = .ok (.getfield 10, 3) := by decide +kernel
theorem dX7_press_4 : decode cX7_press 4 = .ok (.iload_n 1, 1) := by decide +kernel
theorem dX7_press_5 : decode cX7_press 5 = .ok (.invokevirtual 73, 3) := by decide +kernel
theorem dX7_press_8 : decode cX7_press 8 = .ok (.astore_n 3, 1) := by decide +kernel
theorem dX7_press_9 : decode cX7_press 9 = .ok (.aload_n 3, 1) := by decide +kernel
theorem dX7_press_10 : decode cX7_press 10 = .ok (.ifnonnull 5, 3) := by decide +kernel
theorem dX7_press_13 : decode cX7_press 13 = .ok (.iconst (-1), 1) := by decide +kernel
theorem dX7_press_14 : decode cX7_press 14 = .ok (.ireturn, 1) := by decide +kernel
theorem dX7_press_15 : decode cX7_press 15 = .ok (.aload_n 3, 1) := by decide +kernel
theorem dX7_press_16 : decode cX7_press 16 = .ok (.getfield 120, 3) := by decide +kernel
theorem dX7_press_19 : decode cX7_press 19 = .ok (.iload_n 2, 1) := by decide +kernel
theorem dX7_press_20 : decode cX7_press 20 = .ok (.if_icmp .ne 6, 3) := by decide +kernel
theorem dX7_press_23 : decode cX7_press 23 = .ok (.bipush (-5), 2) := by decide +kernel
theorem dX7_press_25 : decode cX7_press 25 = .ok (.ireturn, 1) := by decide +kernel
theorem dX7_press_26 : decode cX7_press 26 = .ok (.aload_n 0, 1) := by decide +kernel
theorem dX7_press_27 : decode cX7_press 27 = .ok (.getfield 32, 3) := by decide +kernel
theorem dX7_press_30 : decode cX7_press 30 = .ok (.aload_n 0, 1) := by decide +kernel
theorem dX7_press_31 : decode cX7_press 31 = .ok (.getfield 10, 3) := by decide +kernel
theorem dX7_press_34 : decode cX7_press 34 = .ok (.invokevirtual 65, 3) := by decide +kernel
theorem dX7_press_37 : decode cX7_press 37 = .ok (.aload_n 3, 1) := by decide +kernel
theorem dX7_press_38 : decode cX7_press 38 = .ok (.iload_n 2, 1) := by decide +kernel
theorem dX7_press_39 : decode cX7_press 39 = .ok (.putfield 120, 3) := by decide +kernel
theorem dX7_press_42 : decode cX7_press 42 = .ok (.aload_n 0, 1) := by decide +kernel
theorem dX7_press_43 : decode cX7_press 43 = .ok (.getfield 10, 3) := by decide +kernel
theorem dX7_press_46 : decode cX7_press 46 = .ok (.aload_n 3, 1) := by decide +kernel
theorem dX7_press_47 : decode cX7_press 47 = .ok (.invokevirtual 123, 3) := by decide +kernel
theorem dX7_press_50 : decode cX7_press 50 = .ok (.invokestatic 127, 3) := by decide +kernel
theorem dX7_press_53 : decode cX7_press 53 = .ok (.ireturn, 1) := by decide +kernel
set_option maxRecDepth 20000 in
theorem ggX7_igniter_X5_find : GoodIn wsX7_igniter wsX5_find := goodIn_r _ [8, 9, 106, 107, 108, 109, 110, 111, 112, 113] (by decide +kernel) (by decide +kernel)
set_option maxRecDepth 20000 in
theorem gX7_igniter_X5_find : GoodIn wsX7_igniter (wsV RX7 73 RX5 yX5_find wsX5_find) := goodIn_app (goodIn_of _ (by decide +kernel)) ggX7_igniter_X5_find
set_option maxRecDepth 20000 in
theorem ggX7_igniter_X1_record : GoodIn wsX7_igniter wsX1_record := goodIn_r _ [14, 15, 16, 17, 18, 19, 13, 20, 21, 22, 23, 7, 24, 25, 9, 26, 27, 28, 29, 30, 31, 32, 33, 34, 35, 36, 37, 38, 39, 40, 41, 42, 43, 44, 45, 46, 47, 48, 49, 50, 51, 52, 53, 54, 55, 56, 57, 58, 59, 60, 61, 62, 63, 64, 65, 66, 67, 68, 69, 70, 71, 72, 73, 74, 75, 76, 77, 78, 79, 80, 81, 114, 115, 106, 107, 108, 109, 110, 111, 112, 113, 116, 96, 97, 98, 99, 100, 101, 102, 103, 104, 105, 117, 118, 119, 120, 121, 122, 123, 124] (by decide +kernel) (by decide +kernel)
set_option maxRecDepth 20000 in
theorem gX7_igniter_X1_record : GoodIn wsX7_igniter (wsV RX7 65 RX1 yX1_record wsX1_record) := goodIn_app (goodIn_of _ (by decide +kernel)) ggX7_igniter_X1_record
set_option maxRecDepth 20000 in
theorem ggX7_igniter_X5_ignitersOn : GoodIn wsX7_igniter wsX5_ignitersOn := goodIn_r _ [85, 9, 86, 87, 39, 88, 106, 107, 108, 109, 110, 111, 112, 113, 96, 97, 98, 99, 100, 101, 102, 103, 104, 105] (by decide +kernel) (by decide +kernel)
set_option maxRecDepth 20000 in
theorem gX7_igniter_X5_ignitersOn : GoodIn wsX7_igniter (wsV RX7 134 RX5 yX5_ignitersOn wsX5_ignitersOn) := goodIn_app (goodIn_of _ (by decide +kernel)) ggX7_igniter_X5_ignitersOn
theorem dX7_igniter_0 : decode cX7_igniter 0 = .ok (.aload_n 0, 1) := by decide +kernel
theorem dX7_igniter_1 : decode cX7_igniter 1 = .ok (.getfield 10, 3) := by decide +kernel
theorem dX7_igniter_4 : decode cX7_igniter 4 = .ok (.iload_n 1, 1) := by decide +kernel
theorem dX7_igniter_5 : decode cX7_igniter 5 = .ok (.invokevirtual 73, 3) := by decide +kernel
theorem dX7_igniter_8 : decode cX7_igniter 8 = .ok (.astore_n 3, 1) := by decide +kernel
theorem dX7_igniter_9 : decode cX7_igniter 9 = .ok (.aload_n 3, 1) := by decide +kernel
theorem dX7_igniter_10 : decode cX7_igniter 10 = .ok (.ifnonnull 5, 3) := by decide +kernel
theorem dX7_igniter_13 : decode cX7_igniter 13 = .ok (.iconst (-1), 1) := by decide +kernel
theorem dX7_igniter_14 : decode cX7_igniter 14 = .ok (.ireturn, 1) := by decide +kernel
theorem dX7_igniter_15 : decode cX7_igniter 15 = .ok (.aload_n 3, 1) := by decide +kernel
theorem dX7_igniter_16 : decode cX7_igniter 16 = .ok (.getfield 131, 3) := by decide +kernel
theorem dX7_igniter_19 : decode cX7_igniter 19 = .ok (.iload_n 2, 1) := by decide +kernel
theorem dX7_igniter_20 : decode cX7_igniter 20 = .ok (.if_icmp .ne 6, 3) := by decide +kernel
theorem dX7_igniter_23 : decode cX7_igniter 23 = .ok (.bipush (-5), 2) := by decide +kernel
theorem dX7_igniter_25 : decode cX7_igniter 25 = .ok (.ireturn, 1) := by decide +kernel
theorem dX7_igniter_26 : decode cX7_igniter 26 = .ok (.aload_n 0, 1) := by decide +kernel
theorem dX7_igniter_27 : decode cX7_igniter 27 = .ok (.getfield 32, 3) := by decide +kernel
theorem dX7_igniter_30 : decode cX7_igniter 30 = .ok (.aload_n 0, 1) := by decide +kernel
theorem dX7_igniter_31 : decode cX7_igniter 31 = .ok (.getfield 10, 3) := by decide +kernel
theorem dX7_igniter_34 : decode cX7_igniter 34 = .ok (.invokevirtual 65, 3) := by decide +kernel
theorem dX7_igniter_37 : decode cX7_igniter 37 = .ok (.aload_n 3, 1) := by decide +kernel
theorem dX7_igniter_38 : decode cX7_igniter 38 = .ok (.iload_n 2, 1) := by decide +kernel
theorem dX7_igniter_39 : decode cX7_igniter 39 = .ok (.putfield 131, 3) := by decide +kernel
theorem dX7_igniter_42 : decode cX7_igniter 42 = .ok (.aload_n 0, 1) := by decide +kernel
theorem dX7_igniter_43 : decode cX7_igniter 43 = .ok (.getfield 10, 3) := by decide +kernel
theorem dX7_igniter_46 : decode cX7_igniter 46 = .ok (.invokevirtual 134, 3) := by decide +kernel
theorem dX7_igniter_49 : decode cX7_igniter 49 = .ok (.ireturn, 1) := by decide +kernel
set_option maxRecDepth 20000 in
theorem ggX7_light_X5_find : GoodIn wsX7_light wsX5_find := goodIn_r _ [8, 9, 151, 152, 153, 154, 155, 156, 157, 158] (by decide +kernel) (by decide +kernel)
set_option maxRecDepth 20000 in
theorem gX7_light_X5_find : GoodIn wsX7_light (wsV RX7 73 RX5 yX5_find wsX5_find) := goodIn_app (goodIn_of _ (by decide +kernel)) ggX7_light_X5_find
set_option maxRecDepth 20000 in
theorem ggX7_light_X5_isOpen : GoodIn wsX7_light wsX5_isOpen := goodIn_r _ [13, 14, 15, 16, 17, 18, 19, 20, 21, 22, 23, 24, 25, 26, 27, 28, 29, 30, 31, 32, 151, 152, 153, 154, 155, 156, 157, 158, 159, 141, 142, 143, 144, 145, 146, 147, 148, 149, 150] (by decide +kernel) (by decide +kernel)
set_option maxRecDepth 20000 in
theorem gX7_light_X5_isOpen : GoodIn wsX7_light (wsV RX7 123 RX5 yX5_isOpen wsX5_isOpen) := goodIn_app (goodIn_of _ (by decide +kernel)) ggX7_light_X5_isOpen
set_option maxRecDepth 20000 in
theorem ggX7_light_X5_allowsFire : GoodIn wsX7_light wsX5_allowsFire := goodIn_r _ [36, 37, 14, 15, 16, 17, 18, 19, 20, 21, 22, 23, 151, 152, 153, 154, 155, 156, 157, 158, 159] (by decide +kernel) (by decide +kernel)
set_option maxRecDepth 20000 in
theorem gX7_light_X5_allowsFire : GoodIn wsX7_light (wsV RX7 137 RX5 yX5_allowsFire wsX5_allowsFire) := goodIn_app (goodIn_of _ (by decide +kernel)) ggX7_light_X5_allowsFire
set_option maxRecDepth 20000 in
theorem ggX7_light_X1_record : GoodIn wsX7_light wsX1_record := goodIn_r _ [42, 43, 44, 45, 46, 47, 41, 48, 49, 50, 51, 7, 52, 14, 9, 53, 54, 55, 37, 56, 57, 58, 59, 60, 18, 61, 20, 62, 22, 63, 64, 65, 66, 67, 68, 69, 70, 71, 72, 73, 74, 27, 75, 76, 30, 31, 77, 78, 32, 29, 79, 80, 81, 82, 83, 84, 85, 86, 87, 88, 89, 90, 91, 92, 93, 94, 95, 96, 97, 98, 99, 160, 161, 151, 152, 153, 154, 155, 156, 157, 158, 159, 141, 142, 143, 144, 145, 146, 147, 148, 149, 150, 162, 163, 164, 165, 166, 167, 168, 169] (by decide +kernel) (by decide +kernel)
set_option maxRecDepth 20000 in
theorem gX7_light_X1_record : GoodIn wsX7_light (wsV RX7 65 RX1 yX1_record wsX1_record) := goodIn_app (goodIn_of _ (by decide +kernel)) ggX7_light_X1_record
set_option maxRecDepth 20000 in
theorem ggX7_light_X5_draft : GoodIn wsX7_light wsX5_draft := goodIn_r _ [103, 53, 55, 104, 105, 106, 85, 107, 89, 87, 88, 151, 152, 153, 154, 155, 156, 157, 158, 162, 163, 164] (by decide +kernel) (by decide +kernel)
set_option maxRecDepth 20000 in
theorem gX7_light_X5_draft : GoodIn wsX7_light (wsV RX7 141 RX5 yX5_draft wsX5_draft) := goodIn_app (goodIn_of _ (by decide +kernel)) ggX7_light_X5_draft
set_option maxRecDepth 20000 in
theorem ggX7_light_X0_strength : GoodIn wsX7_light wsX0_strength := goodIn_r _ [111, 112, 30, 113, 114, 115, 27, 116, 76, 21, 22, 23, 141, 142, 143, 144, 145, 146, 147, 148, 149, 150] (by decide +kernel) (by decide +kernel)
set_option maxRecDepth 20000 in
theorem gX7_light_X0_strength : GoodIn wsX7_light (wsV RX7 144 RX0 yX0_strength wsX0_strength) := goodIn_app (goodIn_of _ (by decide +kernel)) ggX7_light_X0_strength
set_option maxRecDepth 20000 in
theorem ggX7_light_X5_kindle : GoodIn wsX7_light wsX5_kindle := goodIn_r _ [120, 121, 122, 54, 55, 123, 124, 125, 93, 126, 95, 96, 97, 99, 127, 65, 66, 67, 98, 128, 129, 130, 131, 69, 70, 71, 132, 22, 133, 141, 142, 143, 144, 145, 146, 147, 148, 149, 150, 151, 152, 153, 154, 155, 156, 157, 158, 165, 166, 167, 168, 169] (by decide +kernel) (by decide +kernel)
set_option maxRecDepth 20000 in
theorem gX7_light_X5_kindle : GoodIn wsX7_light (wsV RX7 147 RX5 yX5_kindle wsX5_kindle) := goodIn_app (goodIn_of _ (by decide +kernel)) ggX7_light_X5_kindle
theorem dX7_light_0 : decode cX7_light 0 = .ok (.aload_n 0, 1) := by decide +kernel
theorem dX7_light_1 : decode cX7_light 1 = .ok (.getfield 10, 3) := by decide +kernel
theorem dX7_light_4 : decode cX7_light 4 = .ok (.iload_n 1, 1) := by decide +kernel
theorem dX7_light_5 : decode cX7_light 5 = .ok (.invokevirtual 73, 3) := by decide +kernel
theorem dX7_light_8 : decode cX7_light 8 = .ok (.astore_n 2, 1) := by decide +kernel
theorem dX7_light_9 : decode cX7_light 9 = .ok (.aload_n 2, 1) := by decide +kernel
theorem dX7_light_10 : decode cX7_light 10 = .ok (.ifnonnull 5, 3) := by decide +kernel
theorem dX7_light_13 : decode cX7_light 13 = .ok (.iconst (-1), 1) := by decide +kernel
theorem dX7_light_14 : decode cX7_light 14 = .ok (.ireturn, 1) := by decide +kernel
theorem dX7_light_15 : decode cX7_light 15 = .ok (.aload_n 0, 1) := by decide +kernel
theorem dX7_light_16 : decode cX7_light 16 = .ok (.getfield 10, 3) := by decide +kernel
theorem dX7_light_19 : decode cX7_light 19 = .ok (.aload_n 2, 1) := by decide +kernel
theorem dX7_light_20 : decode cX7_light 20 = .ok (.invokevirtual 123, 3) := by decide +kernel
theorem dX7_light_23 : decode cX7_light 23 = .ok (.ifCond .eq 20, 3) := by decide +kernel
theorem dX7_light_26 : decode cX7_light 26 = .ok (.aload_n 2, 1) := by decide +kernel
theorem dX7_light_27 : decode cX7_light 27 = .ok (.getfield 117, 3) := by decide +kernel
theorem dX7_light_30 : decode cX7_light 30 = .ok (.ifCond .ne 13, 3) := by decide +kernel
theorem dX7_light_33 : decode cX7_light 33 = .ok (.aload_n 0, 1) := by decide +kernel
theorem dX7_light_34 : decode cX7_light 34 = .ok (.getfield 10, 3) := by decide +kernel
theorem dX7_light_37 : decode cX7_light 37 = .ok (.invokevirtual 137, 3) := by decide +kernel
theorem dX7_light_40 : decode cX7_light 40 = .ok (.ifCond .ne 6, 3) := by decide +kernel
theorem dX7_light_43 : decode cX7_light 43 = .ok (.bipush (-4), 2) := by decide +kernel
theorem dX7_light_45 : decode cX7_light 45 = .ok (.ireturn, 1) := by decide +kernel
theorem dX7_light_46 : decode cX7_light 46 = .ok (.aload_n 0, 1) := by decide +kernel
theorem dX7_light_47 : decode cX7_light 47 = .ok (.getfield 32, 3) := by decide +kernel
theorem dX7_light_50 : decode cX7_light 50 = .ok (.aload_n 0, 1) := by decide +kernel
theorem dX7_light_51 : decode cX7_light 51 = .ok (.getfield 10, 3) := by decide +kernel
theorem dX7_light_54 : decode cX7_light 54 = .ok (.invokevirtual 65, 3) := by decide +kernel
theorem dX7_light_57 : decode cX7_light 57 = .ok (.aload_n 0, 1) := by decide +kernel
theorem dX7_light_58 : decode cX7_light 58 = .ok (.getfield 10, 3) := by decide +kernel
theorem dX7_light_61 : decode cX7_light 61 = .ok (.invokevirtual 141, 3) := by decide +kernel
theorem dX7_light_64 : decode cX7_light 64 = .ok (.aload_n 2, 1) := by decide +kernel
theorem dX7_light_65 : decode cX7_light 65 = .ok (.invokevirtual 144, 3) := by decide +kernel
theorem dX7_light_68 : decode cX7_light 68 = .ok (.if_icmp .le 5, 3) := by decide +kernel
theorem dX7_light_71 : decode cX7_light 71 = .ok (.iconst 0, 1) := by decide +kernel
theorem dX7_light_72 : decode cX7_light 72 = .ok (.ireturn, 1) := by decide +kernel
theorem dX7_light_73 : decode cX7_light 73 = .ok (.aload_n 0, 1) := by decide +kernel
theorem dX7_light_74 : decode cX7_light 74 = .ok (.getfield 10, 3) := by decide +kernel
theorem dX7_light_77 : decode cX7_light 77 = .ok (.iload_n 1, 1) := by decide +kernel
theorem dX7_light_78 : decode cX7_light 78 = .ok (.aload_n 2, 1) := by decide +kernel
theorem dX7_light_79 : decode cX7_light 79 = .ok (.invokevirtual 147, 3) := by decide +kernel
theorem dX7_light_82 : decode cX7_light 82 = .ok (.iconst 1, 1) := by decide +kernel
theorem dX7_light_83 : decode cX7_light 83 = .ok (.ireturn, 1) := by decide +kernel
set_option maxRecDepth 20000 in
theorem ggX7_unlock_X5_find : GoodIn wsX7_unlock wsX5_find := goodIn_r _ [10, 11, 108, 109, 110, 111, 112, 113, 114, 115] (by decide +kernel) (by decide +kernel)
set_option maxRecDepth 20000 in
theorem gX7_unlock_X5_find : GoodIn wsX7_unlock (wsV RX7 73 RX5 yX5_find wsX5_find) := goodIn_app (goodIn_of _ (by decide +kernel)) ggX7_unlock_X5_find
set_option maxRecDepth 20000 in
theorem ggX7_unlock_X1_record : GoodIn wsX7_unlock wsX1_record := goodIn_r _ [16, 17, 18, 19, 20, 21, 15, 22, 23, 24, 25, 9, 26, 27, 11, 28, 29, 30, 31, 32, 33, 34, 35, 36, 37, 38, 39, 40, 41, 42, 43, 44, 45, 46, 47, 48, 49, 50, 51, 52, 53, 54, 55, 56, 57, 58, 59, 60, 61, 62, 63, 64, 65, 66, 67, 68, 69, 70, 71, 72, 73, 74, 75, 76, 77, 78, 79, 80, 81, 82, 83, 116, 117, 108, 109, 110, 111, 112, 113, 114, 115, 118, 98, 99, 100, 101, 102, 103, 104, 105, 106, 107, 119, 120, 121, 122, 123, 124, 125, 126] (by decide +kernel) (by decide +kernel)
set_option maxRecDepth 20000 in
theorem gX7_unlock_X1_record : GoodIn wsX7_unlock (wsV RX7 65 RX1 yX1_record wsX1_record) := goodIn_app (goodIn_of _ (by decide +kernel)) ggX7_unlock_X1_record
set_option maxRecDepth 20000 in
theorem ggX7_unlock_X5_lockedBurners : GoodIn wsX7_unlock wsX5_lockedBurners := goodIn_r _ [87, 11, 88, 89, 41, 90, 108, 109, 110, 111, 112, 113, 114, 115, 98, 99, 100, 101, 102, 103, 104, 105, 106, 107] (by decide +kernel) (by decide +kernel)
set_option maxRecDepth 20000 in
theorem gX7_unlock_X5_lockedBurners : GoodIn wsX7_unlock (wsV RX7 157 RX5 yX5_lockedBurners wsX5_lockedBurners) := goodIn_app (goodIn_of _ (by decide +kernel)) ggX7_unlock_X5_lockedBurners
theorem dX7_unlock_0 : decode cX7_unlock 0 = .ok (.aload_n 0, 1) := by decide +kernel
theorem dX7_unlock_1 : decode cX7_unlock 1 = .ok (.getfield 10, 3) := by decide +kernel
theorem dX7_unlock_4 : decode cX7_unlock 4 = .ok (.iload_n 1, 1) := by decide +kernel
theorem dX7_unlock_5 : decode cX7_unlock 5 = .ok (.invokevirtual 73, 3) := by decide +kernel
theorem dX7_unlock_8 : decode cX7_unlock 8 = .ok (.astore_n 2, 1) := by decide +kernel
theorem dX7_unlock_9 : decode cX7_unlock 9 = .ok (.aload_n 2, 1) := by decide +kernel
theorem dX7_unlock_10 : decode cX7_unlock 10 = .ok (.ifnonnull 5, 3) := by decide +kernel
theorem dX7_unlock_13 : decode cX7_unlock 13 = .ok (.iconst (-1), 1) := by decide +kernel
theorem dX7_unlock_14 : decode cX7_unlock 14 = .ok (.ireturn, 1) := by decide +kernel
theorem dX7_unlock_15 : decode cX7_unlock 15 = .ok (.aload_n 2, 1) := by decide +kernel
theorem dX7_unlock_16 : decode cX7_unlock 16 = .ok (.getfield 151, 3) := by decide +kernel
theorem dX7_unlock_19 : decode cX7_unlock 19 = .ok (.ifCond .eq 10, 3) := by decide +kernel
theorem dX7_unlock_22 : decode cX7_unlock 22 = .ok (.aload_n 2, 1) := by decide +kernel
theorem dX7_unlock_23 : decode cX7_unlock 23 = .ok (.getfield 83, 3) := by decide +kernel
theorem dX7_unlock_26 : decode cX7_unlock 26 = .ok (.ifCond .eq 6, 3) := by decide +kernel
theorem dX7_unlock_29 : decode cX7_unlock 29 = .ok (.bipush (-4), 2) := by decide +kernel
theorem dX7_unlock_31 : decode cX7_unlock 31 = .ok (.ireturn, 1) := by decide +kernel
theorem dX7_unlock_32 : decode cX7_unlock 32 = .ok (.aload_n 0, 1) := by decide +kernel
theorem dX7_unlock_33 : decode cX7_unlock 33 = .ok (.getfield 32, 3) := by decide +kernel
theorem dX7_unlock_36 : decode cX7_unlock 36 = .ok (.aload_n 0, 1) := by decide +kernel
theorem dX7_unlock_37 : decode cX7_unlock 37 = .ok (.getfield 10, 3) := by decide +kernel
theorem dX7_unlock_40 : decode cX7_unlock 40 = .ok (.invokevirtual 65, 3) := by decide +kernel
theorem dX7_unlock_43 : decode cX7_unlock 43 = .ok (.aload_n 2, 1) := by decide +kernel
theorem dX7_unlock_44 : decode cX7_unlock 44 = .ok (.iconst 0, 1) := by decide +kernel
theorem dX7_unlock_45 : decode cX7_unlock 45 = .ok (.putfield 151, 3) := by decide +kernel
theorem dX7_unlock_48 : decode cX7_unlock 48 = .ok (.aload_n 2, 1) := by decide +kernel
theorem dX7_unlock_49 : decode cX7_unlock 49 = .ok (.iconst 0, 1) := by decide +kernel
theorem dX7_unlock_50 : decode cX7_unlock 50 = .ok (.putfield 154, 3) := by decide +kernel
theorem dX7_unlock_53 : decode cX7_unlock 53 = .ok (.aload_n 0, 1) := by decide +kernel
theorem dX7_unlock_54 : decode cX7_unlock 54 = .ok (.getfield 10, 3) := by decide +kernel
theorem dX7_unlock_57 : decode cX7_unlock 57 = .ok (.invokevirtual 157, 3) := by decide +kernel
theorem dX7_unlock_60 : decode cX7_unlock 60 = .ok (.ireturn, 1) := by decide +kernel
set_option maxRecDepth 20000 in
theorem ggX7_pass_X7_isWithin : GoodIn wsX7_pass wsX7_isWithin := goodIn_r _ [9] (by decide +kernel) (by decide +kernel)
set_option maxRecDepth 20000 in
theorem gX7_pass_X7_isWithin : GoodIn wsX7_pass (va_wsS RX7 79 yX7_isWithin wsX7_isWithin) := goodIn_app (goodIn_of _ (by decide +kernel)) ggX7_pass_X7_isWithin
set_option maxRecDepth 20000 in
theorem ggX7_pass_X1_record : GoodIn wsX7_pass wsX1_record := goodIn_r _ [14, 15, 16, 17, 18, 19, 13, 20, 21, 22, 23, 24, 25, 26, 27, 28, 29, 30, 31, 32, 33, 34, 35, 36, 37, 38, 39, 40, 8, 41, 42, 43, 44, 45, 46, 47, 48, 49, 50, 51, 52, 53, 54, 55, 56, 57, 58, 59, 60, 61, 62, 63, 64, 65, 66, 67, 68, 69, 70, 71, 72, 73, 74, 75, 76, 77, 78, 79, 80, 81, 82, 208, 209, 200, 201, 202, 203, 204, 205, 206, 207, 210, 211, 212, 213, 214, 215, 216, 217, 218, 219, 220, 221, 222, 223, 224, 225, 226, 227, 228] (by decide +kernel) (by decide +kernel)
set_option maxRecDepth 20000 in
theorem gX7_pass_X1_record : GoodIn wsX7_pass (wsV RX7 65 RX1 yX1_record wsX1_record) := goodIn_app (goodIn_of _ (by decide +kernel)) ggX7_pass_X1_record
set_option maxRecDepth 20000 in
theorem ggX7_pass_X2_total : GoodIn wsX7_pass wsX2_total := goodIn_r _ [86, 81, 224, 225, 226, 227, 228] (by decide +kernel) (by decide +kernel)
set_option maxRecDepth 20000 in
theorem gX7_pass_X2_total : GoodIn wsX7_pass (wsV RX7 168 RX2 yX2_total wsX2_total) := goodIn_app (goodIn_of _ (by decide +kernel)) ggX7_pass_X2_total
set_option maxRecDepth 20000 in
theorem ggX7_pass_X5_passTick : GoodIn wsX7_pass wsX5_passTick := goodIn_r _ [90, 27, 32, 31, 91, 92, 44, 93, 26, 30, 94, 95, 96, 24, 97, 28, 98, 99, 100, 68, 101, 72, 70, 71, 102, 103, 104, 105, 106, 107, 108, 37, 109, 39, 110, 8, 111, 112, 113, 114, 115, 116, 29, 117, 118, 119, 120, 121, 122, 123, 53, 124, 61, 56, 57, 60, 125, 126, 127, 128, 129, 130, 131, 132, 133, 55, 134, 135, 136, 76, 137, 78, 79, 80, 82, 138, 43, 45, 81, 139, 140, 141, 142, 47, 48, 49, 7, 9, 143, 144, 145, 146, 147, 148, 149, 150, 151, 152, 153, 154, 155, 156, 157, 158, 159, 160, 161, 59, 162, 163, 164, 165, 166, 167, 168, 169, 170, 171, 172, 173, 174, 175, 176, 177, 178, 179, 180, 181, 182, 183, 33, 184, 185, 186, 187, 188, 189, 190, 191, 192, 200, 201, 202, 203, 204, 205, 206, 207, 221, 222, 223, 210, 211, 212, 213, 214, 215, 216, 217, 218, 219, 220, 224, 225, 226, 227, 228] (by decide +kernel) (by decide +kernel)
set_option maxRecDepth 20000 in
theorem gX7_pass_X5_passTick : GoodIn wsX7_pass (wsV RX7 173 RX5 yX5_passTick wsX5_passTick) := goodIn_app (goodIn_of _ (by decide +kernel)) ggX7_pass_X5_passTick
theorem dX7_pass_0 : decode cX7_pass 0 = .ok (.iload_n 1, 1) := by decide +kernel
theorem dX7_pass_1 : decode cX7_pass 1 = .ok (.iconst 1, 1) := by decide +kernel
theorem dX7_pass_2 : decode cX7_pass 2 = .ok (.sipush 200, 3) := by decide +kernel
theorem dX7_pass_5 : decode cX7_pass 5 = .ok (.invokestatic 79, 3) := by decide +kernel
theorem dX7_pass_8 : decode cX7_pass 8 = .ok (.ifCond .ne 6, 3) := by decide +kernel
theorem dX7_pass_11 : decode cX7_pass 11 = .ok (.bipush (-2), 2) := by decide +kernel
theorem dX7_pass_13 : decode cX7_pass 13 = .ok (.ireturn, 1) := by decide +kernel
theorem dX7_pass_14 : decode cX7_pass 14 = .ok (.aload_n 0, 1) := by decide +kernel
theorem dX7_pass_15 : decode cX7_pass 15 = .ok (.getfield 10, 3) := by decide +kernel
theorem dX7_pass_18 : decode cX7_pass 18 = .ok (.getfield 160, 3) := by decide +kernel
theorem dX7_pass_21 : decode cX7_pass 21 = .ok (.iload_n 1, 1) := by decide +kernel
theorem dX7_pass_22 : decode cX7_pass 22 = .ok (.iadd, 1) := by decide +kernel
theorem dX7_pass_23 : decode cX7_pass 23 = .ok (.ldc 163, 2) := by decide +kernel
theorem dX7_pass_25 : decode cX7_pass 25 = .ok (.if_icmp .le 6, 3) := by decide +kernel
theorem dX7_pass_28 : decode cX7_pass 28 = .ok (.bipush (-3), 2) := by decide +kernel
theorem dX7_pass_30 : decode cX7_pass 30 = .ok (.ireturn, 1) := by decide +kernel
theorem dX7_pass_31 : decode cX7_pass 31 = .ok (.aload_n 0, 1) := by decide +kernel
theorem dX7_pass_32 : decode cX7_pass 32 = .ok (.getfield 32, 3) := by decide +kernel
theorem dX7_pass_35 : decode cX7_pass 35 = .ok (.aload_n 0, 1) := by decide +kernel
theorem dX7_pass_36 : decode cX7_pass 36 = .ok (.getfield 10, 3) := by decide +kernel
theorem dX7_pass_39 : decode cX7_pass 39 = .ok (.invokevirtual 65, 3) := by decide +kernel
theorem dX7_pass_42 : decode cX7_pass 42 = .ok (.aload_n 0, 1) := by decide +kernel
theorem dX7_pass_43 : decode cX7_pass 43 = .ok (.getfield 10, 3) := by decide +kernel
theorem dX7_pass_46 : decode cX7_pass 46 = .ok (.getfield 164, 3) := by decide +kernel
theorem dX7_pass_49 : decode cX7_pass 49 = .ok (.invokevirtual 168, 3) := by decide +kernel
theorem dX7_pass_52 : decode cX7_pass 52 = .ok (.istore_n 2, 1) := by decide +kernel
theorem dX7_pass_53 : decode cX7_pass 53 = .ok (.iconst 0, 1) := by decide +kernel
theorem dX7_pass_54 : decode cX7_pass 54 = .ok (.istore_n 3, 1) := by decide +kernel
theorem dX7_pass_55 : decode cX7_pass 55 = .ok (.iload_n 3, 1) := by decide +kernel
theorem dX7_pass_56 : decode cX7_pass 56 = .ok (.iload_n 1, 1) := by decide +kernel
theorem dX7_pass_57 : decode cX7_pass 57 = .ok (.if_icmp .ge 16, 3) := by decide +kernel
theorem dX7_pass_60 : decode cX7_pass 60 = .ok (.aload_n 0, 1) := by decide +kernel
theorem dX7_pass_61 : decode cX7_pass 61 = .ok (.getfield 10, 3) := by decide +kernel
theorem dX7_pass_64 : decode cX7_pass 64 = .ok (.invokevirtual 173, 3) := by decide +kernel
theorem dX7_pass_67 : decode cX7_pass 67 = .ok (.iinc 3 1, 3) := by decide +kernel
theorem dX7_pass_70 : decode cX7_pass 70 = .ok (.goto (-15), 3) := by decide +kernel
theorem dX7_pass_73 : decode cX7_pass 73 = .ok (.aload_n 0, 1) := by decide +kernel
theorem dX7_pass_74 : decode cX7_pass 74 = .ok (.getfield 10, 3) := by decide +kernel
theorem dX7_pass_77 : decode cX7_pass 77 = .ok (.getfield 164, 3) := by decide +kernel
theorem dX7_pass_80 : decode cX7_pass 80 = .ok (.invokevirtual 168, 3) := by decide +kernel
theorem dX7_pass_83 : decode cX7_pass 83 = .ok (.iload_n 2, 1) := by decide +kernel
theorem dX7_pass_84 : decode cX7_pass 84 = .ok (.isub, 1) := by decide +kernel
theorem dX7_pass_85 : decode cX7_pass 85 = .ok (.ireturn, 1) := by decide +kernel
set_option maxRecDepth 20000 in
theorem ggX7_undo_X1_takeBack : GoodIn wsX7_undo wsX1_takeBack := goodIn_r _ [8, 9, 10, 11, 12, 13, 14, 15, 16, 17, 18, 19, 20, 21, 22, 23, 24, 25, 26, 27, 28, 29, 30, 31, 32, 33, 34, 35, 36, 37, 38, 39, 40, 41, 42, 43, 44, 45, 46, 47, 48, 49, 50, 51, 52, 53, 54, 55, 56, 57, 58, 59, 60, 61, 62, 63, 64, 65, 66, 67, 68, 69, 70, 71, 72, 73, 81, 82, 83, 84, 85, 86, 87, 88, 89, 90, 91, 92, 93, 94, 95, 96, 97, 98, 99, 100, 101, 102, 103, 104, 105, 106, 107, 108, 109] (by decide +kernel) (by decide +kernel)
set_option maxRecDepth 20000 in
theorem gX7_undo_X1_takeBack : GoodIn wsX7_undo (wsV RX7 186 RX1 yX1_takeBack wsX1_takeBack) := goodIn_app (goodIn_of _ (by decide +kernel)) ggX7_undo_X1_takeBack
theorem dX7_undo_0 : decode cX7_undo 0 = .ok (.aload_n 0, 1) := by decide +kernel
theorem dX7_undo_1 : decode cX7_undo 1 = .ok (.getfield 32, 3) := by decide +kernel
theorem dX7_undo_4 : decode cX7_undo 4 = .ok (.aload_n 0, 1) := by decide +kernel
theorem dX7_undo_5 : decode cX7_undo 5 = .ok (.getfield 10, 3) := by decide +kernel
theorem dX7_undo_8 : decode cX7_undo 8 = .ok (.invokevirtual 186, 3) := by decide +kernel
theorem dX7_undo_11 : decode cX7_undo 11 = .ok (.ifCond .ne 6, 3) := by decide +kernel
theorem dX7_undo_14 : decode cX7_undo 14 = .ok (.bipush (-5), 2) := by decide +kernel
theorem dX7_undo_16 : decode cX7_undo 16 = .ok (.ireturn, 1) := by decide +kernel
theorem dX7_undo_17 : decode cX7_undo 17 = .ok (.aload_n 0, 1) := by decide +kernel
theorem dX7_undo_18 : decode cX7_undo 18 = .ok (.getfield 32, 3) := by decide +kernel
theorem dX7_undo_21 : decode cX7_undo 21 = .ok (.getfield 190, 3) := by decide +kernel
theorem dX7_undo_24 : decode cX7_undo 24 = .ok (.ireturn, 1) := by decide +kernel
set_option maxRecDepth 20000 in
theorem ggX7_keep_X5_copyFrom : GoodIn wsX7_keep wsX5_copyFrom := goodIn_r _ [9, 10, 11, 12, 13, 14, 15, 16, 17, 18, 19, 20, 21, 22, 23, 24, 25, 26, 27, 28, 29, 30, 31, 32, 33, 34, 35, 36, 37, 38, 39, 40, 41, 42, 43, 44, 45, 46, 47, 48, 49, 50, 51, 52, 53, 54, 55, 56, 57, 58, 59, 60, 61, 62, 63, 64, 65, 66, 67, 75, 76, 77, 78, 79, 80, 81, 82, 83, 84, 85, 86, 87, 88, 89, 90, 91, 92, 93, 94, 95, 96, 97, 98, 99, 100, 101] (by decide +kernel) (by decide +kernel)
set_option maxRecDepth 20000 in
theorem gX7_keep_X5_copyFrom : GoodIn wsX7_keep (wsV RX7 191 RX5 yX5_copyFrom wsX5_copyFrom) := goodIn_app (goodIn_of _ (by decide +kernel)) ggX7_keep_X5_copyFrom
theorem dX7_keep_0 : decode cX7_keep 0 = .ok (.aload_n 0, 1) := by decide +kernel
theorem dX7_keep_1 : decode cX7_keep 1 = .ok (.getfield 16, 3) := by decide +kernel
theorem dX7_keep_4 : decode cX7_keep 4 = .ok (.aload_n 0, 1) := by decide +kernel
theorem dX7_keep_5 : decode cX7_keep 5 = .ok (.getfield 10, 3) := by decide +kernel
theorem dX7_keep_8 : decode cX7_keep 8 = .ok (.invokevirtual 191, 3) := by decide +kernel
theorem dX7_keep_11 : decode cX7_keep 11 = .ok (.aload_n 0, 1) := by decide +kernel
theorem dX7_keep_12 : decode cX7_keep 12 = .ok (.iconst 1, 1) := by decide +kernel
theorem dX7_keep_13 : decode cX7_keep 13 = .ok (.putfield 43, 3) := by decide +kernel
theorem dX7_keep_16 : decode cX7_keep 16 = .ok (.aload_n 0, 1) := by decide +kernel
theorem dX7_keep_17 : decode cX7_keep 17 = .ok (.getfield 10, 3) := by decide +kernel
theorem dX7_keep_20 : decode cX7_keep 20 = .ok (.getfield 160, 3) := by decide +kernel
theorem dX7_keep_23 : decode cX7_keep 23 = .ok (.ireturn, 1) := by decide +kernel
set_option maxRecDepth 20000 in
theorem ggX7_restore_X1_record : GoodIn wsX7_restore wsX1_record := goodIn_r _ [10, 11, 12, 13, 14, 15, 9, 16, 17, 18, 19, 20, 21, 22, 23, 24, 25, 26, 27, 28, 29, 30, 31, 32, 33, 34, 35, 36, 37, 38, 39, 40, 41, 42, 43, 44, 45, 46, 47, 48, 49, 50, 51, 52, 53, 54, 55, 56, 57, 58, 59, 60, 61, 62, 63, 64, 65, 66, 67, 68, 69, 70, 71, 72, 73, 74, 75, 76, 77, 78, 79, 96, 97, 88, 89, 90, 91, 92, 93, 94, 95, 98, 99, 100, 101, 102, 103, 104, 105, 106, 107, 108, 109, 110, 111, 112, 113, 114, 115, 116] (by decide +kernel) (by decide +kernel)
set_option maxRecDepth 20000 in
theorem gX7_restore_X1_record : GoodIn wsX7_restore (wsV RX7 65 RX1 yX1_record wsX1_record) := goodIn_app (goodIn_of _ (by decide +kernel)) ggX7_restore_X1_record
set_option maxRecDepth 20000 in
theorem ggX7_restore_X5_copyFrom : GoodIn wsX7_restore wsX5_copyFrom := goodIn_r _ [21, 22, 23, 24, 25, 26, 27, 28, 29, 30, 31, 32, 33, 34, 35, 36, 37, 38, 39, 40, 41, 42, 43, 44, 45, 46, 47, 48, 49, 50, 51, 52, 53, 54, 55, 56, 57, 58, 59, 60, 61, 62, 63, 64, 65, 66, 67, 68, 69, 70, 71, 72, 73, 74, 75, 76, 77, 78, 79, 88, 89, 90, 91, 92, 93, 94, 95, 98, 99, 100, 101, 102, 103, 104, 105, 106, 107, 108, 109, 110, 111, 112, 113, 114, 115, 116] (by decide +kernel) (by decide +kernel)
set_option maxRecDepth 20000 in
theorem gX7_restore_X5_copyFrom : GoodIn wsX7_restore (wsV RX7 191 RX5 yX5_copyFrom wsX5_copyFrom) := goodIn_app (goodIn_of _ (by decide +kernel)) ggX7_restore_X5_copyFrom
theorem dX7_restore_0 : decode cX7_restore 0 = .ok (.aload_n 0, 1) := by decide +kernel
theorem dX7_restore_1 : decode cX7_restore 1 = .ok (.getfield 43, 3) := by decide +kernel
theorem dX7_restore_4 : decode cX7_restore 4 = .ok (.ifCond .ne 6, 3) := by decide +kernel
theorem dX7_restore_7 : decode cX7_restore 7 = .ok (.bipush (-5), 2) := by decide +kernel
theorem dX7_restore_9 : decode cX7_restore 9 = .ok (.ireturn, 1) := by decide +kernel
theorem dX7_restore_10 : decode cX7_restore 10 = .ok (.aload_n 0, 1) := by decide +kernel
theorem dX7_restore_11 : decode cX7_restore 11 = .ok (.getfield 32, 3) := by decide +kernel
theorem dX7_restore_14 : decode cX7_restore 14 = .ok (.aload_n 0, 1) := by decide +kernel
theorem dX7_restore_15 : decode cX7_restore 15 = .ok (.getfield 10, 3) := by decide +kernel
theorem dX7_restore_18 : decode cX7_restore 18 = .ok (.invokevirtual 65, 3) := by decide +kernel
theorem dX7_restore_21 : decode cX7_restore 21 = .ok (.aload_n 0, 1) := by decide +kernel
theorem dX7_restore_22 : decode cX7_restore 22 = .ok (.getfield 10, 3) := by decide +kernel
theorem dX7_restore_25 : decode cX7_restore 25 = .ok (.aload_n 0, 1) := by decide +kernel
theorem dX7_restore_26 : decode cX7_restore 26 = .ok (.getfield 16, 3) := by decide +kernel
theorem dX7_restore_29 : decode cX7_restore 29 = .ok (.invokevirtual 191, 3) := by decide +kernel
theorem dX7_restore_32 : decode cX7_restore 32 = .ok (.aload_n 0, 1) := by decide +kernel
theorem dX7_restore_33 : decode cX7_restore 33 = .ok (.getfield 10, 3) := by decide +kernel
theorem dX7_restore_36 : decode cX7_restore 36 = .ok (.getfield 160, 3) := by decide +kernel
theorem dX7_restore_39 : decode cX7_restore 39 = .ok (.ireturn, 1) := by decide +kernel
set_option maxRecDepth 20000 in
theorem ggX7_burner_X5_find : GoodIn wsX7_burner wsX5_find := goodIn_r _ [16, 17, 71, 72, 73, 74, 75, 76, 77, 78] (by decide +kernel) (by decide +kernel)
set_option maxRecDepth 20000 in
theorem gX7_burner_X5_find : GoodIn wsX7_burner (wsV RX7 73 RX5 yX5_find wsX5_find) := goodIn_app (goodIn_of _ (by decide +kernel)) ggX7_burner_X5_find
set_option maxRecDepth 20000 in
theorem ggX7_burner_X7_oneIf : GoodIn wsX7_burner wsX7_oneIf := goodIn_r _ [21] (by decide +kernel) (by decide +kernel)
set_option maxRecDepth 20000 in
theorem gX7_burner_X7_oneIf : GoodIn wsX7_burner (va_wsS RX7 127 yX7_oneIf wsX7_oneIf) := goodIn_app (goodIn_of _ (by decide +kernel)) ggX7_burner_X7_oneIf
set_option maxRecDepth 20000 in
theorem ggX7_burner_X5_isOpen : GoodIn wsX7_burner wsX5_isOpen := goodIn_r _ [25, 26, 27, 28, 29, 30, 31, 32, 33, 20, 34, 35, 36, 37, 38, 39, 40, 41, 42, 43, 71, 72, 73, 74, 75, 76, 77, 78, 79, 61, 62, 63, 64, 65, 66, 67, 68, 69, 70] (by decide +kernel) (by decide +kernel)
set_option maxRecDepth 20000 in
theorem gX7_burner_X5_isOpen : GoodIn wsX7_burner (wsV RX7 123 RX5 yX5_isOpen wsX5_isOpen) := goodIn_app (goodIn_of _ (by decide +kernel)) ggX7_burner_X5_isOpen
set_option maxRecDepth 20000 in
theorem ggX7_burner_X0_strength : GoodIn wsX7_burner wsX0_strength := goodIn_r _ [47, 48, 41, 49, 50, 51, 38, 52, 53, 33, 20, 34, 61, 62, 63, 64, 65, 66, 67, 68, 69, 70] (by decide +kernel) (by decide +kernel)
set_option maxRecDepth 20000 in
theorem gX7_burner_X0_strength : GoodIn wsX7_burner (wsV RX7 144 RX0 yX0_strength wsX0_strength) := goodIn_app (goodIn_of _ (by decide +kernel)) ggX7_burner_X0_strength
theorem dX7_burner_0 : decode cX7_burner 0 = .ok (.aload_n 0, 1) := by decide +kernel
theorem dX7_burner_1 : decode cX7_burner 1 = .ok (.getfield 10, 3) := by decide +kernel
theorem dX7_burner_4 : decode cX7_burner 4 = .ok (.iload_n 1, 1) := by decide +kernel
theorem dX7_burner_5 : decode cX7_burner 5 = .ok (.invokevirtual 73, 3) := by decide +kernel
theorem dX7_burner_8 : decode cX7_burner 8 = .ok (.astore_n 3, 1) := by decide +kernel
theorem dX7_burner_9 : decode cX7_burner 9 = .ok (.aload_n 3, 1) := by decide +kernel
theorem dX7_burner_10 : decode cX7_burner 10 = .ok (.ifnonnull 5, 3) := by decide +kernel
theorem dX7_burner_13 : decode cX7_burner 13 = .ok (.iconst (-1), 1) := by decide +kernel
theorem dX7_burner_14 : decode cX7_burner 14 = .ok (.ireturn, 1) := by decide +kernel
theorem dX7_burner_15 : decode cX7_burner 15 = .ok (.iload_n 2, 1) := by decide +kernel
theorem dX7_burner_16 : decode cX7_burner 16 = .ok (.tableswitch 143 0 11 #[64, 69, 74, 82, 90, 98, 103, 115, 123, 128, 133, 138], 64) := by decide +kernel
theorem dX7_burner_80 : decode cX7_burner 80 = .ok (.aload_n 3, 1) := by decide +kernel
theorem dX7_burner_81 : decode cX7_burner 81 = .ok (.getfield 87, 3) := by decide +kernel
theorem dX7_burner_84 : decode cX7_burner 84 = .ok (.ireturn, 1) := by decide +kernel
theorem dX7_burner_85 : decode cX7_burner 85 = .ok (.aload_n 3, 1) := by decide +kernel
theorem dX7_burner_86 : decode cX7_burner 86 = .ok (.getfield 83, 3) := by decide +kernel
theorem dX7_burner_89 : decode cX7_burner 89 = .ok (.ireturn, 1) := by decide +kernel
theorem dX7_burner_90 : decode cX7_burner 90 = .ok (.aload_n 3, 1) := by decide +kernel
theorem dX7_burner_91 : decode cX7_burner 91 = .ok (.getfield 120, 3) := by decide +kernel
theorem dX7_burner_94 : decode cX7_burner 94 = .ok (.invokestatic 127, 3) := by decide +kernel
theorem dX7_burner_97 : decode cX7_burner 97 = .ok (.ireturn, 1) := by decide +kernel
theorem dX7_burner_98 : decode cX7_burner 98 = .ok (.aload_n 3, 1) := by decide +kernel
theorem dX7_burner_99 : decode cX7_burner 99 = .ok (.getfield 131, 3) := by decide +kernel
theorem dX7_burner_102 : decode cX7_burner 102 = .ok (.invokestatic 127, 3) := by decide +kernel
theorem dX7_burner_105 : decode cX7_burner 105 = .ok (.ireturn, 1) := by decide +kernel
theorem dX7_burner_106 : decode cX7_burner 106 = .ok (.aload_n 3, 1) := by decide +kernel
theorem dX7_burner_107 : decode cX7_burner 107 = .ok (.getfield 117, 3) := by decide +kernel
theorem dX7_burner_110 : decode cX7_burner 110 = .ok (.invokestatic 127, 3) := by decide +kernel
theorem dX7_burner_113 : decode cX7_burner 113 = .ok (.ireturn, 1) := by decide +kernel
theorem dX7_burner_114 : decode cX7_burner 114 = .ok (.aload_n 3, 1) := by decide +kernel
theorem dX7_burner_115 : decode cX7_burner 115 = .ok (.getfield 193, 3) := by decide +kernel
theorem dX7_burner_118 : decode cX7_burner 118 = .ok (.ireturn, 1) := by decide +kernel
theorem dX7_burner_119 : decode cX7_burner 119 = .ok (.aload_n 0, 1) := by decide +kernel
theorem dX7_burner_120 : decode cX7_burner 120 = .ok (.getfield 10, 3) := by decide +kernel
theorem dX7_burner_123 : decode cX7_burner 123 = .ok (.aload_n 3, 1) := by decide +kernel
theorem dX7_burner_124 : decode cX7_burner 124 = .ok (.invokevirtual 123, 3) := by decide +kernel
theorem dX7_burner_127 : decode cX7_burner 127 = .ok (.invokestatic 127, 3) := by decide +kernel
theorem dX7_burner_130 : decode cX7_burner 130 = .ok (.ireturn, 1) := by decide +kernel
theorem dX7_burner_131 : decode cX7_burner 131 = .ok (.aload_n 3, 1) := by decide +kernel
theorem dX7_burner_132 : decode cX7_burner 132 = .ok (.getfield 151, 3) := by decide +kernel
theorem dX7_burner_135 : decode cX7_burner 135 = .ok (.invokestatic 127, 3) := by decide +kernel
theorem dX7_burner_138 : decode cX7_burner 138 = .ok (.ireturn, 1) := by decide +kernel
theorem dX7_burner_139 : decode cX7_burner 139 = .ok (.aload_n 3, 1) := by decide +kernel
theorem dX7_burner_140 : decode cX7_burner 140 = .ok (.getfield 154, 3) := by decide +kernel
theorem dX7_burner_143 : decode cX7_burner 143 = .ok (.ireturn, 1) := by decide +kernel
theorem dX7_burner_144 : decode cX7_burner 144 = .ok (.aload_n 3, 1) := by decide +kernel
theorem dX7_burner_145 : decode cX7_burner 145 = .ok (.getfield 196, 3) := by decide +kernel
theorem dX7_burner_148 : decode cX7_burner 148 = .ok (.ireturn, 1) := by decide +kernel
theorem dX7_burner_149 : decode cX7_burner 149 = .ok (.aload_n 3, 1) := by decide +kernel
theorem dX7_burner_150 : decode cX7_burner 150 = .ok (.getfield 199, 3) := by decide +kernel
theorem dX7_burner_153 : decode cX7_burner 153 = .ok (.ireturn, 1) := by decide +kernel
theorem dX7_burner_154 : decode cX7_burner 154 = .ok (.aload_n 3, 1) := by decide +kernel
theorem dX7_burner_155 : decode cX7_burner 155 = .ok (.invokevirtual 144, 3) := by decide +kernel
theorem dX7_burner_158 : decode cX7_burner 158 = .ok (.ireturn, 1) := by decide +kernel
theorem dX7_burner_159 : decode cX7_burner 159 = .ok (.bipush (-2), 2) := by decide +kernel
theorem dX7_burner_161 : decode cX7_burner 161 = .ok (.ireturn, 1) := by decide +kernel
set_option maxRecDepth 20000 in
theorem ggX7_clearIn_X5_copyFrom : GoodIn wsX7_clearIn wsX5_copyFrom := goodIn_r _ [7, 8, 9, 10, 11, 12, 13, 14, 15, 16, 17, 18, 19, 20, 21, 22, 23, 24, 25, 26, 27, 28, 29, 30, 31, 32, 33, 34, 35, 36, 37, 38, 39, 40, 41, 42, 43, 44, 45, 46, 47, 48, 49, 50, 51, 52, 53, 54, 55, 56, 57, 58, 59, 60, 61, 62, 63, 64, 65, 185, 186, 187, 188, 189, 190, 191, 192, 193, 194, 195, 196, 197, 198, 199, 200, 201, 202, 203, 204, 205, 206, 207, 208, 209, 210, 211] (by decide +kernel) (by decide +kernel)
set_option maxRecDepth 20000 in
theorem gX7_clearIn_X5_copyFrom : GoodIn wsX7_clearIn (wsV RX7 191 RX5 yX5_copyFrom wsX5_copyFrom) := goodIn_app (goodIn_of _ (by decide +kernel)) ggX7_clearIn_X5_copyFrom
set_option maxRecDepth 20000 in
theorem ggX7_clearIn_X5_isClear : GoodIn wsX7_clearIn wsX5_isClear := goodIn_r _ [69, 13, 9, 70, 71, 72, 6, 73, 74, 75, 76, 77, 78, 8, 79, 80, 81, 19, 82, 21, 83, 23, 84, 85, 86, 87, 36, 88, 44, 39, 40, 43, 185, 186, 187, 188, 189, 190, 191, 192, 194, 195, 196, 197, 198, 199, 200, 201, 202, 203, 193] (by decide +kernel) (by decide +kernel)
set_option maxRecDepth 20000 in
theorem gX7_clearIn_X5_isClear : GoodIn wsX7_clearIn (wsV RX7 209 RX5 yX5_isClear wsX5_isClear) := goodIn_app (goodIn_of _ (by decide +kernel)) ggX7_clearIn_X5_isClear
set_option maxRecDepth 20000 in
theorem ggX7_clearIn_X5_passTick : GoodIn wsX7_clearIn wsX5_passTick := goodIn_r _ [92, 9, 14, 13, 93, 94, 27, 95, 8, 12, 96, 97, 98, 6, 99, 10, 100, 101, 102, 51, 103, 55, 53, 54, 104, 105, 106, 107, 79, 80, 81, 19, 82, 21, 83, 23, 84, 108, 109, 110, 111, 74, 11, 75, 76, 77, 78, 85, 86, 87, 36, 88, 44, 39, 40, 43, 112, 113, 114, 115, 116, 117, 118, 119, 120, 38, 121, 122, 123, 59, 124, 61, 62, 63, 65, 125, 26, 28, 64, 126, 127, 128, 129, 30, 31, 32, 130, 131, 132, 133, 134, 135, 136, 137, 138, 139, 140, 141, 142, 143, 144, 145, 146, 147, 148, 149, 150, 42, 151, 152, 153, 154, 155, 156, 157, 158, 159, 160, 161, 162, 163, 164, 165, 166, 167, 168, 169, 170, 171, 172, 15, 70, 71, 72, 73, 173, 174, 175, 176, 177, 185, 186, 187, 188, 189, 190, 191, 192, 204, 205, 206, 193, 194, 195, 196, 197, 198, 199, 200, 201, 202, 203, 207, 208, 209, 210, 211] (by decide +kernel) (by decide +kernel)
set_option maxRecDepth 20000 in
theorem gX7_clearIn_X5_passTick : GoodIn wsX7_clearIn (wsV RX7 173 RX5 yX5_passTick wsX5_passTick) := goodIn_app (goodIn_of _ (by decide +kernel)) ggX7_clearIn_X5_passTick
theorem dX7_clearIn_0 : decode cX7_clearIn 0 = .ok (.aload_n 0, 1) := by decide +kernel
theorem dX7_clearIn_1 : decode cX7_clearIn 1 = .ok (.getfield 19, 3) := by decide +kernel
theorem dX7_clearIn_4 : decode cX7_clearIn 4 = .ok (.aload_n 0, 1) := by decide +kernel
theorem dX7_clearIn_5 : decode cX7_clearIn 5 = .ok (.getfield 10, 3) := by decide +kernel
theorem dX7_clearIn_8 : decode cX7_clearIn 8 = .ok (.invokevirtual 191, 3) := by decide +kernel
theorem dX7_clearIn_11 : decode cX7_clearIn 11 = .ok (.iconst 0, 1) := by decide +kernel
theorem dX7_clearIn_12 : decode cX7_clearIn 12 = .ok (.istore_n 1, 1) := by decide +kernel
theorem dX7_clearIn_13 : decode cX7_clearIn 13 = .ok (.iload_n 1, 1) := by decide +kernel
theorem dX7_clearIn_14 : decode cX7_clearIn 14 = .ok (.sipush 500, 3) := by decide +kernel
theorem dX7_clearIn_17 : decode cX7_clearIn 17 = .ok (.if_icmp .gt 28, 3) := by decide +kernel
theorem dX7_clearIn_20 : decode cX7_clearIn 20 = .ok (.aload_n 0, 1) := by decide +kernel
theorem dX7_clearIn_21 : decode cX7_clearIn 21 = .ok (.getfield 19, 3) := by decide +kernel
theorem dX7_clearIn_24 : decode cX7_clearIn 24 = .ok (.invokevirtual 209, 3) := by decide +kernel
theorem dX7_clearIn_27 : decode cX7_clearIn 27 = .ok (.ifCond .eq 5, 3) := by decide +kernel
theorem dX7_clearIn_30 : decode cX7_clearIn 30 = .ok (.iload_n 1, 1) := by decide +kernel
theorem dX7_clearIn_31 : decode cX7_clearIn 31 = .ok (.ireturn, 1) := by decide +kernel
theorem dX7_clearIn_32 : decode cX7_clearIn 32 = .ok (.aload_n 0, 1) := by decide +kernel
theorem dX7_clearIn_33 : decode cX7_clearIn 33 = .ok (.getfield 19, 3) := by decide +kernel
theorem dX7_clearIn_36 : decode cX7_clearIn 36 = .ok (.invokevirtual 173, 3) := by decide +kernel
theorem dX7_clearIn_39 : decode cX7_clearIn 39 = .ok (.iinc 1 1, 3) := by decide +kernel
theorem dX7_clearIn_42 : decode cX7_clearIn 42 = .ok (.goto (-29), 3) := by decide +kernel
theorem dX7_clearIn_45 : decode cX7_clearIn 45 = .ok (.bipush (-5), 2) := by decide +kernel
theorem dX7_clearIn_47 : decode cX7_clearIn 47 = .ok (.ireturn, 1) := by decide +kernel
set_option maxRecDepth 20000 in
theorem ggX7_entry_X7_isWithin : GoodIn wsX7_entry wsX7_isWithin := goodIn_r _ [9] (by decide +kernel) (by decide +kernel)
set_option maxRecDepth 20000 in
theorem gX7_entry_X7_isWithin : GoodIn wsX7_entry (va_wsS RX7 79 yX7_isWithin wsX7_isWithin) := goodIn_app (goodIn_of _ (by decide +kernel)) ggX7_entry_X7_isWithin
set_option maxRecDepth 20000 in
theorem ggX7_entry_X7_elementAt : GoodIn wsX7_entry wsX7_elementAt := goodIn_r _ [12] (by decide +kernel) (by decide +kernel)
set_option maxRecDepth 20000 in
theorem gX7_entry_X7_elementAt : GoodIn wsX7_entry (va_wsS RX7 222 yX7_elementAt wsX7_elementAt) := goodIn_app (goodIn_of _ (by decide +kernel)) ggX7_entry_X7_elementAt
theorem dX7_entry_0 : decode cX7_entry 0 = .ok (.iload_n 1, 1) := by decide +kernel
theorem dX7_entry_1 : decode cX7_entry 1 = .ok (.ifCond .lt 12, 3) := by decide +kernel
theorem dX7_entry_4 : decode cX7_entry 4 = .ok (.iload_n 2, 1) := by decide +kernel
theorem dX7_entry_5 : decode cX7_entry 5 = .ok (.iconst 0, 1) := by decide +kernel
theorem dX7_entry_6 : decode cX7_entry 6 = .ok (.iconst 1, 1) := by decide +kernel
theorem dX7_entry_7 : decode cX7_entry 7 = .ok (.invokestatic 79, 3) := by decide +kernel
theorem dX7_entry_10 : decode cX7_entry 10 = .ok (.ifCond .ne 6, 3) := by decide +kernel
theorem dX7_entry_13 : decode cX7_entry 13 = .ok (.bipush (-2), 2) := by decide +kernel
theorem dX7_entry_15 : decode cX7_entry 15 = .ok (.ireturn, 1) := by decide +kernel
theorem dX7_entry_16 : decode cX7_entry 16 = .ok (.iload_n 1, 1) := by decide +kernel
theorem dX7_entry_17 : decode cX7_entry 17 = .ok (.aload_n 0, 1) := by decide +kernel
theorem dX7_entry_18 : decode cX7_entry 18 = .ok (.getfield 10, 3) := by decide +kernel
theorem dX7_entry_21 : decode cX7_entry 21 = .ok (.getfield 90, 3) := by decide +kernel
theorem dX7_entry_24 : decode cX7_entry 24 = .ok (.getfield 102, 3) := by decide +kernel
theorem dX7_entry_27 : decode cX7_entry 27 = .ok (.if_icmp .lt 6, 3) := by decide +kernel
theorem dX7_entry_30 : decode cX7_entry 30 = .ok (.bipush (-5), 2) := by decide +kernel
theorem dX7_entry_32 : decode cX7_entry 32 = .ok (.ireturn, 1) := by decide +kernel
theorem dX7_entry_33 : decode cX7_entry 33 = .ok (.iload_n 2, 1) := by decide +kernel
theorem dX7_entry_34 : decode cX7_entry 34 = .ok (.ifCond .ne 16, 3) := by decide +kernel
theorem dX7_entry_37 : decode cX7_entry 37 = .ok (.aload_n 0, 1) := by decide +kernel
theorem dX7_entry_38 : decode cX7_entry 38 = .ok (.getfield 10, 3) := by decide +kernel
theorem dX7_entry_41 : decode cX7_entry 41 = .ok (.getfield 90, 3) := by decide +kernel
theorem dX7_entry_44 : decode cX7_entry 44 = .ok (.getfield 215, 3) := by decide +kernel
theorem dX7_entry_47 : decode cX7_entry 47 = .ok (.goto 13, 3) := by decide +kernel
theorem dX7_entry_50 : decode cX7_entry 50 = .ok (.aload_n 0, 1) := by decide +kernel
theorem dX7_entry_51 : decode cX7_entry 51 = .ok (.getfield 10, 3) := by decide +kernel
theorem dX7_entry_54 : decode cX7_entry 54 = .ok (.getfield 90, 3) := by decide +kernel
theorem dX7_entry_57 : decode cX7_entry 57 = .ok (.getfield 219, 3) := by decide +kernel
theorem dX7_entry_60 : decode cX7_entry 60 = .ok (.iload_n 1, 1) := by decide +kernel
theorem dX7_entry_61 : decode cX7_entry 61 = .ok (.invokestatic 222, 3) := by decide +kernel
theorem dX7_entry_64 : decode cX7_entry 64 = .ok (.ireturn, 1) := by decide +kernel
set_option maxRecDepth 20000 in
theorem ggX7_event_X7_isWithin : GoodIn wsX7_event wsX7_isWithin := goodIn_r _ [10] (by decide +kernel) (by decide +kernel)
set_option maxRecDepth 20000 in
theorem gX7_event_X7_isWithin : GoodIn wsX7_event (va_wsS RX7 79 yX7_isWithin wsX7_isWithin) := goodIn_app (goodIn_of _ (by decide +kernel)) ggX7_event_X7_isWithin
set_option maxRecDepth 20000 in
theorem ggX7_event_X7_elementAt : GoodIn wsX7_event wsX7_elementAt := goodIn_r _ [13] (by decide +kernel) (by decide +kernel)
set_option maxRecDepth 20000 in
theorem gX7_event_X7_elementAt : GoodIn wsX7_event (va_wsS RX7 222 yX7_elementAt wsX7_elementAt) := goodIn_app (goodIn_of _ (by decide +kernel)) ggX7_event_X7_elementAt
theorem dX7_event_0 : decode cX7_event 0 = .ok (.iload_n 1, 1) := by decide +kernel
theorem dX7_event_1 : decode cX7_event 1 = .ok (.ifCond .lt 12, 3) := by decide +kernel
theorem dX7_event_4 : decode cX7_event 4 = .ok (.iload_n 2, 1) := by decide +kernel
theorem dX7_event_5 : decode cX7_event 5 = .ok (.iconst 0, 1) := by decide +kernel
theorem dX7_event_6 : decode cX7_event 6 = .ok (.iconst 2, 1) := by decide +kernel
theorem dX7_event_7 : decode cX7_event 7 = .ok (.invokestatic 79, 3) := by decide +kernel
theorem dX7_event_10 : decode cX7_event 10 = .ok (.ifCond .ne 6, 3) := by decide +kernel
theorem dX7_event_13 : decode cX7_event 13 = .ok (.bipush (-2), 2) := by decide +kernel
theorem dX7_event_15 : decode cX7_event 15 = .ok (.ireturn, 1) := by decide +kernel
theorem dX7_event_16 : decode cX7_event 16 = .ok (.iload_n 1, 1) := by decide +kernel
theorem dX7_event_17 : decode cX7_event 17 = .ok (.aload_n 0, 1) := by decide +kernel
theorem dX7_event_18 : decode cX7_event 18 = .ok (.getfield 10, 3) := by decide +kernel
theorem dX7_event_21 : decode cX7_event 21 = .ok (.getfield 164, 3) := by decide +kernel
theorem dX7_event_24 : decode cX7_event 24 = .ok (.getfield 226, 3) := by decide +kernel
theorem dX7_event_27 : decode cX7_event 27 = .ok (.if_icmp .lt 6, 3) := by decide +kernel
theorem dX7_event_30 : decode cX7_event 30 = .ok (.bipush (-5), 2) := by decide +kernel
theorem dX7_event_32 : decode cX7_event 32 = .ok (.ireturn, 1) := by decide +kernel
theorem dX7_event_33 : decode cX7_event 33 = .ok (.iload_n 2, 1) := by decide +kernel
theorem dX7_event_34 : decode cX7_event 34 = .ok (.ifCond .ne 18, 3) := by decide +kernel
theorem dX7_event_37 : decode cX7_event 37 = .ok (.aload_n 0, 1) := by decide +kernel
theorem dX7_event_38 : decode cX7_event 38 = .ok (.getfield 10, 3) := by decide +kernel
theorem dX7_event_41 : decode cX7_event 41 = .ok (.getfield 164, 3) := by decide +kernel
theorem dX7_event_44 : decode cX7_event 44 = .ok (.getfield 229, 3) := by decide +kernel
theorem dX7_event_47 : decode cX7_event 47 = .ok (.iload_n 1, 1) := by decide +kernel
theorem dX7_event_48 : decode cX7_event 48 = .ok (.invokestatic 222, 3) := by decide +kernel
theorem dX7_event_51 : decode cX7_event 51 = .ok (.ireturn, 1) := by decide +kernel
theorem dX7_event_52 : decode cX7_event 52 = .ok (.iload_n 2, 1) := by decide +kernel
theorem dX7_event_53 : decode cX7_event 53 = .ok (.iconst 1, 1) := by decide +kernel
theorem dX7_event_54 : decode cX7_event 54 = .ok (.if_icmp .ne 16, 3) := by decide +kernel
theorem dX7_event_57 : decode cX7_event 57 = .ok (.aload_n 0, 1) := by decide +kernel
theorem dX7_event_58 : decode cX7_event 58 = .ok (.getfield 10, 3) := by decide +kernel
theorem dX7_event_61 : decode cX7_event 61 = .ok (.getfield 164, 3) := by decide +kernel
theorem dX7_event_64 : decode cX7_event 64 = .ok (.getfield 232, 3) := by decide +kernel
theorem dX7_event_67 : decode cX7_event 67 = .ok (.goto 13, 3) := by decide +kernel
theorem dX7_event_70 : decode cX7_event 70 = .ok (.aload_n 0, 1) := by decide +kernel
theorem dX7_event_71 : decode cX7_event 71 = .ok (.getfield 10, 3) := by decide +kernel
theorem dX7_event_74 : decode cX7_event 74 = .ok (.getfield 164, 3) := by decide +kernel
theorem dX7_event_77 : decode cX7_event 77 = .ok (.getfield 235, 3) := by decide +kernel
theorem dX7_event_80 : decode cX7_event 80 = .ok (.iload_n 1, 1) := by decide +kernel
theorem dX7_event_81 : decode cX7_event 81 = .ok (.invokestatic 222, 3) := by decide +kernel
theorem dX7_event_84 : decode cX7_event 84 = .ok (.ireturn, 1) := by decide +kernel
set_option maxRecDepth 20000 in
theorem ggX7_count_X5_draft : GoodIn wsX7_count wsX5_draft := goodIn_r _ [18, 19, 20, 21, 22, 23, 24, 25, 26, 27, 28, 77, 78, 79, 80, 81, 82, 83, 84, 85, 86, 87] (by decide +kernel) (by decide +kernel)
set_option maxRecDepth 20000 in
theorem gX7_count_X5_draft : GoodIn wsX7_count (wsV RX7 141 RX5 yX5_draft wsX5_draft) := goodIn_app (goodIn_of _ (by decide +kernel)) ggX7_count_X5_draft
set_option maxRecDepth 20000 in
theorem ggX7_count_X7_elementAt : GoodIn wsX7_count wsX7_elementAt := goodIn_r _ [32] (by decide +kernel) (by decide +kernel)
set_option maxRecDepth 20000 in
theorem gX7_count_X7_elementAt : GoodIn wsX7_count (va_wsS RX7 222 yX7_elementAt wsX7_elementAt) := goodIn_app (goodIn_of _ (by decide +kernel)) ggX7_count_X7_elementAt
set_option maxRecDepth 20000 in
theorem ggX7_count_X5_flames : GoodIn wsX7_count wsX5_flames := goodIn_r _ [36, 37, 38, 39, 31, 40, 77, 78, 79, 80, 81, 82, 83, 84, 97, 98, 99, 100, 101, 102, 103, 104, 105, 106] (by decide +kernel) (by decide +kernel)
set_option maxRecDepth 20000 in
theorem gX7_count_X5_flames : GoodIn wsX7_count (wsV RX7 242 RX5 yX5_flames wsX5_flames) := goodIn_app (goodIn_of _ (by decide +kernel)) ggX7_count_X5_flames
set_option maxRecDepth 20000 in
theorem ggX7_count_X5_openValves : GoodIn wsX7_count wsX5_openValves := goodIn_r _ [44, 37, 45, 46, 47, 17, 48, 49, 50, 51, 52, 53, 54, 55, 30, 31, 32, 56, 57, 58, 59, 60, 61, 62, 63, 64, 39, 40, 77, 78, 79, 80, 81, 82, 83, 84, 107, 97, 98, 99, 100, 101, 102, 103, 104, 105, 106] (by decide +kernel) (by decide +kernel)
set_option maxRecDepth 20000 in
theorem gX7_count_X5_openValves : GoodIn wsX7_count (wsV RX7 245 RX5 yX5_openValves wsX5_openValves) := goodIn_app (goodIn_of _ (by decide +kernel)) ggX7_count_X5_openValves
set_option maxRecDepth 20000 in
theorem ggX7_count_X5_lockedBurners : GoodIn wsX7_count wsX5_lockedBurners := goodIn_r _ [68, 37, 69, 39, 31, 40, 77, 78, 79, 80, 81, 82, 83, 84, 97, 98, 99, 100, 101, 102, 103, 104, 105, 106] (by decide +kernel) (by decide +kernel)
set_option maxRecDepth 20000 in
theorem gX7_count_X5_lockedBurners : GoodIn wsX7_count (wsV RX7 157 RX5 yX5_lockedBurners wsX5_lockedBurners) := goodIn_app (goodIn_of _ (by decide +kernel)) ggX7_count_X5_lockedBurners
theorem dX7_count_0 : decode cX7_count 0 = .ok (.iload_n 1, 1) := by decide +kernel
theorem dX7_count_1 : decode cX7_count 1 = .ok (.tableswitch 183 0 14 #[75, 83, 91, 99, 110, 110, 110, 110, 127, 135, 143, 151, 159, 167, 175], 75) := by decide +kernel
theorem dX7_count_76 : decode cX7_count 76 = .ok (.aload_n 0, 1) := by decide +kernel
theorem dX7_count_77 : decode cX7_count 77 = .ok (.getfield 10, 3) := by decide +kernel
theorem dX7_count_80 : decode cX7_count 80 = .ok (.getfield 160, 3) := by decide +kernel
theorem dX7_count_83 : decode cX7_count 83 = .ok (.ireturn, 1) := by decide +kernel
theorem dX7_count_84 : decode cX7_count 84 = .ok (.aload_n 0, 1) := by decide +kernel
theorem dX7_count_85 : decode cX7_count 85 = .ok (.getfield 10, 3) := by decide +kernel
theorem dX7_count_88 : decode cX7_count 88 = .ok (.getfield 236, 3) := by decide +kernel
theorem dX7_count_91 : decode cX7_count 91 = .ok (.ireturn, 1) := by decide +kernel
theorem dX7_count_92 : decode cX7_count 92 = .ok (.aload_n 0, 1) := by decide +kernel
theorem dX7_count_93 : decode cX7_count 93 = .ok (.getfield 10, 3) := by decide +kernel
theorem dX7_count_96 : decode cX7_count 96 = .ok (.invokevirtual 141, 3) := by decide +kernel
theorem dX7_count_99 : decode cX7_count 99 = .ok (.ireturn, 1) := by decide +kernel
theorem dX7_count_100 : decode cX7_count 100 = .ok (.aload_n 0, 1) := by decide +kernel
theorem dX7_count_101 : decode cX7_count 101 = .ok (.getfield 10, 3) := by decide +kernel
theorem dX7_count_104 : decode cX7_count 104 = .ok (.getfield 90, 3) := by decide +kernel
theorem dX7_count_107 : decode cX7_count 107 = .ok (.getfield 102, 3) := by decide +kernel
theorem dX7_count_110 : decode cX7_count 110 = .ok (.ireturn, 1) := by decide +kernel
theorem dX7_count_111 : decode cX7_count 111 = .ok (.aload_n 0, 1) := by decide +kernel
theorem dX7_count_112 : decode cX7_count 112 = .ok (.getfield 10, 3) := by decide +kernel
theorem dX7_count_115 : decode cX7_count 115 = .ok (.getfield 164, 3) := by decide +kernel
theorem dX7_count_118 : decode cX7_count 118 = .ok (.getfield 239, 3) := by decide +kernel
theorem dX7_count_121 : decode cX7_count 121 = .ok (.iload_n 1, 1) := by decide +kernel
theorem dX7_count_122 : decode cX7_count 122 = .ok (.iconst 4, 1) := by decide +kernel
theorem dX7_count_123 : decode cX7_count 123 = .ok (.isub, 1) := by decide +kernel
theorem dX7_count_124 : decode cX7_count 124 = .ok (.invokestatic 222, 3) := by decide +kernel
theorem dX7_count_127 : decode cX7_count 127 = .ok (.ireturn, 1) := by decide +kernel
theorem dX7_count_128 : decode cX7_count 128 = .ok (.aload_n 0, 1) := by decide +kernel
theorem dX7_count_129 : decode cX7_count 129 = .ok (.getfield 10, 3) := by decide +kernel
theorem dX7_count_132 : decode cX7_count 132 = .ok (.invokevirtual 242, 3) := by decide +kernel
theorem dX7_count_135 : decode cX7_count 135 = .ok (.ireturn, 1) := by decide +kernel
theorem dX7_count_136 : decode cX7_count 136 = .ok (.aload_n 0, 1) := by decide +kernel
theorem dX7_count_137 : decode cX7_count 137 = .ok (.getfield 10, 3) := by decide +kernel
theorem dX7_count_140 : decode cX7_count 140 = .ok (.invokevirtual 245, 3) := by decide +kernel
theorem dX7_count_143 : decode cX7_count 143 = .ok (.ireturn, 1) := by decide +kernel
theorem dX7_count_144 : decode cX7_count 144 = .ok (.aload_n 0, 1) := by decide +kernel
theorem dX7_count_145 : decode cX7_count 145 = .ok (.getfield 10, 3) := by decide +kernel
theorem dX7_count_148 : decode cX7_count 148 = .ok (.invokevirtual 157, 3) := by decide +kernel
theorem dX7_count_151 : decode cX7_count 151 = .ok (.ireturn, 1) := by decide +kernel
theorem dX7_count_152 : decode cX7_count 152 = .ok (.aload_n 0, 1) := by decide +kernel
theorem dX7_count_153 : decode cX7_count 153 = .ok (.getfield 10, 3) := by decide +kernel
theorem dX7_count_156 : decode cX7_count 156 = .ok (.getfield 248, 3) := by decide +kernel
theorem dX7_count_159 : decode cX7_count 159 = .ok (.ireturn, 1) := by decide +kernel
theorem dX7_count_160 : decode cX7_count 160 = .ok (.aload_n 0, 1) := by decide +kernel
theorem dX7_count_161 : decode cX7_count 161 = .ok (.getfield 10, 3) := by decide +kernel
theorem dX7_count_164 : decode cX7_count 164 = .ok (.getfield 251, 3) := by decide +kernel
theorem dX7_count_167 : decode cX7_count 167 = .ok (.ireturn, 1) := by decide +kernel
theorem dX7_count_168 : decode cX7_count 168 = .ok (.aload_n 0, 1) := by decide +kernel
theorem dX7_count_169 : decode cX7_count 169 = .ok (.getfield 32, 3) := by decide +kernel
theorem dX7_count_172 : decode cX7_count 172 = .ok (.getfield 190, 3) := by decide +kernel
theorem dX7_count_175 : decode cX7_count 175 = .ok (.ireturn, 1) := by decide +kernel
theorem dX7_count_176 : decode cX7_count 176 = .ok (.aload_n 0, 1) := by decide +kernel
theorem dX7_count_177 : decode cX7_count 177 = .ok (.getfield 39, 3) := by decide +kernel
theorem dX7_count_180 : decode cX7_count 180 = .ok (.getfield 180, 3) := by decide +kernel
theorem dX7_count_183 : decode cX7_count 183 = .ok (.ireturn, 1) := by decide +kernel
theorem dX7_count_184 : decode cX7_count 184 = .ok (.bipush (-2), 2) := by decide +kernel
theorem dX7_count_186 : decode cX7_count 186 = .ok (.ireturn, 1) := by decide +kernel
set_option maxRecDepth 20000 in
theorem ggX7_setting_X4_isOne : GoodIn wsX7_setting wsX4_isOne := goodIn_r _ [6, 7, 8, 9, 10] (by decide +kernel) (by decide +kernel)
set_option maxRecDepth 20000 in
theorem gX7_setting_X4_isOne : GoodIn wsX7_setting (va_wsS RX7 47 yX4_isOne wsX4_isOne) := goodIn_app (goodIn_of _ (by decide +kernel)) ggX7_setting_X4_isOne
set_option maxRecDepth 20000 in
theorem ggX7_setting_X4_valueOf : GoodIn wsX7_setting wsX4_valueOf := goodIn_r _ [14, 15, 16, 9, 17, 33] (by decide +kernel) (by decide +kernel)
set_option maxRecDepth 20000 in
theorem gX7_setting_X4_valueOf : GoodIn wsX7_setting (wsV RX7 61 RX4 yX4_valueOf wsX4_valueOf) := goodIn_app (goodIn_of _ (by decide +kernel)) ggX7_setting_X4_valueOf
theorem dX7_setting_0 : decode cX7_setting 0 = .ok (.iload_n 1, 1) := by decide +kernel
theorem dX7_setting_1 : decode cX7_setting 1 = .ok (.invokestatic 47, 3) := by decide +kernel
theorem dX7_setting_4 : decode cX7_setting 4 = .ok (.ifCond .ne 5, 3) := by decide +kernel
theorem dX7_setting_7 : decode cX7_setting 7 = .ok (.iconst (-1), 1) := by decide +kernel
theorem dX7_setting_8 : decode cX7_setting 8 = .ok (.ireturn, 1) := by decide +kernel
theorem dX7_setting_9 : decode cX7_setting 9 = .ok (.aload_n 0, 1) := by decide +kernel
theorem dX7_setting_10 : decode cX7_setting 10 = .ok (.getfield 10, 3) := by decide +kernel
theorem dX7_setting_13 : decode cX7_setting 13 = .ok (.getfield 57, 3) := by decide +kernel
theorem dX7_setting_16 : decode cX7_setting 16 = .ok (.iload_n 1, 1) := by decide +kernel
theorem dX7_setting_17 : decode cX7_setting 17 = .ok (.invokevirtual 61, 3) := by decide +kernel
theorem dX7_setting_20 : decode cX7_setting 20 = .ok (.ireturn, 1) := by decide +kernel
theorem dX7_isWithin_0 : decode cX7_isWithin 0 = .ok (.iload_n 0, 1) := by decide +kernel
theorem dX7_isWithin_1 : decode cX7_isWithin 1 = .ok (.iload_n 1, 1) := by decide +kernel
theorem dX7_isWithin_2 : decode cX7_isWithin 2 = .ok (.if_icmp .lt 12, 3) := by decide +kernel
theorem dX7_isWithin_5 : decode cX7_isWithin 5 = .ok (.iload_n 0, 1) := by decide +kernel
theorem dX7_isWithin_6 : decode cX7_isWithin 6 = .ok (.iload_n 2, 1) := by decide +kernel
theorem dX7_isWithin_7 : decode cX7_isWithin 7 = .ok (.if_icmp .gt 7, 3) := by decide +kernel
theorem dX7_isWithin_10 : decode cX7_isWithin 10 = .ok (.iconst 1, 1) := by decide +kernel
theorem dX7_isWithin_11 : decode cX7_isWithin 11 = .ok (.goto 4, 3) := by decide +kernel
theorem dX7_isWithin_14 : decode cX7_isWithin 14 = .ok (.iconst 0, 1) := by decide +kernel
theorem dX7_isWithin_15 : decode cX7_isWithin 15 = .ok (.ireturn, 1) := by decide +kernel
theorem dX7_oneIf_0 : decode cX7_oneIf 0 = .ok (.iload_n 0, 1) := by decide +kernel
theorem dX7_oneIf_1 : decode cX7_oneIf 1 = .ok (.ifCond .eq 7, 3) := by decide +kernel
theorem dX7_oneIf_4 : decode cX7_oneIf 4 = .ok (.iconst 1, 1) := by decide +kernel
theorem dX7_oneIf_5 : decode cX7_oneIf 5 = .ok (.goto 4, 3) := by decide +kernel
theorem dX7_oneIf_8 : decode cX7_oneIf 8 = .ok (.iconst 0, 1) := by decide +kernel
theorem dX7_oneIf_9 : decode cX7_oneIf 9 = .ok (.ireturn, 1) := by decide +kernel
theorem dX7_elementAt_0 : decode cX7_elementAt 0 = .ok (.iload_n 1, 1) := by decide +kernel
theorem dX7_elementAt_1 : decode cX7_elementAt 1 = .ok (.ifCond .lt 15, 3) := by decide +kernel
theorem dX7_elementAt_4 : decode cX7_elementAt 4 = .ok (.iload_n 1, 1) := by decide +kernel
theorem dX7_elementAt_5 : decode cX7_elementAt 5 = .ok (.aload_n 0, 1) := by decide +kernel
theorem dX7_elementAt_6 : decode cX7_elementAt 6 = .ok (.arraylength, 1) := by decide +kernel
theorem dX7_elementAt_7 : decode cX7_elementAt 7 = .ok (.if_icmp .ge 9, 3) := by decide +kernel
theorem dX7_elementAt_10 : decode cX7_elementAt 10 = .ok (.aload_n 0, 1) := by decide +kernel
theorem dX7_elementAt_11 : decode cX7_elementAt 11 = .ok (.iload_n 1, 1) := by decide +kernel
theorem dX7_elementAt_12 : decode cX7_elementAt 12 = .ok (.iaload, 1) := by decide +kernel
theorem dX7_elementAt_13 : decode cX7_elementAt 13 = .ok (.goto 4, 3) := by decide +kernel
theorem dX7_elementAt_16 : decode cX7_elementAt 16 = .ok (.iconst 0, 1) := by decide +kernel
theorem dX7_elementAt_17 : decode cX7_elementAt 17 = .ok (.ireturn, 1) := by decide +kernel
theorem dX7_copyRow_0 : decode cX7_copyRow 0 = .ok (.aload_n 0, 1) := by decide +kernel
theorem dX7_copyRow_1 : decode cX7_copyRow 1 = .ok (.iconst 0, 1) := by decide +kernel
theorem dX7_copyRow_2 : decode cX7_copyRow 2 = .ok (.aload_n 1, 1) := by decide +kernel
theorem dX7_copyRow_3 : decode cX7_copyRow 3 = .ok (.iconst 0, 1) := by decide +kernel
theorem dX7_copyRow_4 : decode cX7_copyRow 4 = .ok (.aload_n 0, 1) := by decide +kernel
theorem dX7_copyRow_5 : decode cX7_copyRow 5 = .ok (.arraylength, 1) := by decide +kernel
theorem dX7_copyRow_6 : decode cX7_copyRow 6 = .ok (.aload_n 1, 1) := by decide +kernel
theorem dX7_copyRow_7 : decode cX7_copyRow 7 = .ok (.arraylength, 1) := by decide +kernel
theorem dX7_copyRow_8 : decode cX7_copyRow 8 = .ok (.invokestatic 254, 3) := by decide +kernel
theorem dX7_copyRow_11 : decode cX7_copyRow 11 = .ok (.invokestatic 259, 3) := by decide +kernel
theorem dX7_copyRow_14 : decode cX7_copyRow 14 = .ok (.return_, 1) := by decide +kernel
theorem dJ9_max_7cf53_0 : decode cJ9_max_7cf53 0 = .ok (.iload_n 0, 1) := by decide +kernel
theorem dJ9_max_7cf53_1 : decode cJ9_max_7cf53 1 = .ok (.iload_n 1, 1) := by decide +kernel
theorem dJ9_max_7cf53_2 : decode cJ9_max_7cf53 2 = .ok (.if_icmp .lt 7, 3) := by decide +kernel
theorem dJ9_max_7cf53_5 : decode cJ9_max_7cf53 5 = .ok (.iload_n 0, 1) := by decide +kernel
theorem dJ9_max_7cf53_6 : decode cJ9_max_7cf53 6 = .ok (.goto 4, 3) := by decide +kernel
theorem dJ9_max_7cf53_9 : decode cJ9_max_7cf53 9 = .ok (.iload_n 1, 1) := by decide +kernel
theorem dJ9_max_7cf53_10 : decode cJ9_max_7cf53 10 = .ok (.ireturn, 1) := by decide +kernel
theorem dJ9_min_7cf53_0 : decode cJ9_min_7cf53 0 = .ok (.iload_n 0, 1) := by decide +kernel
theorem dJ9_min_7cf53_1 : decode cJ9_min_7cf53 1 = .ok (.iload_n 1, 1) := by decide +kernel
theorem dJ9_min_7cf53_2 : decode cJ9_min_7cf53 2 = .ok (.if_icmp .gt 7, 3) := by decide +kernel
theorem dJ9_min_7cf53_5 : decode cJ9_min_7cf53 5 = .ok (.iload_n 0, 1) := by decide +kernel
theorem dJ9_min_7cf53_6 : decode cJ9_min_7cf53 6 = .ok (.goto 4, 3) := by decide +kernel
theorem dJ9_min_7cf53_9 : decode cJ9_min_7cf53 9 = .ok (.iload_n 1, 1) := by decide +kernel
theorem dJ9_min_7cf53_10 : decode cJ9_min_7cf53 10 = .ok (.ireturn, 1) := by decide +kernel
abbrev vwCl : List vw_C := [(RX0, TX0, 10), (RX1, TX1, 2), (RX2, TX2, 5), (RX3, TX3, 3), (RX4, TX4, 1), (RX5, TX5, 8), (RX6, TX6, 2), (RX7, TX7, 7)]
