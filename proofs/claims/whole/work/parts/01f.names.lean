theorem dX11_wedding_60 : decode cX11_wedding 60 = .ok (.getfield 166, 3) := by decide +kernel
theorem dX11_wedding_63 : decode cX11_wedding 63 = .ok (.iload_n 1, 1) := by decide +kernel
theorem dX11_wedding_64 : decode cX11_wedding 64 = .ok (.iaload, 1) := by decide +kernel
theorem dX11_wedding_65 : decode cX11_wedding 65 = .ok (.ireturn, 1) := by decide +kernel
theorem dX11_wedding_66 : decode cX11_wedding 66 = .ok (.aload_n 3, 1) := by decide +kernel
theorem dX11_wedding_67 : decode cX11_wedding 67 = .ok (.getfield 169, 3) := by decide +kernel
theorem dX11_wedding_70 : decode cX11_wedding 70 = .ok (.iload_n 1, 1) := by decide +kernel
theorem dX11_wedding_71 : decode cX11_wedding 71 = .ok (.iaload, 1) := by decide +kernel
theorem dX11_wedding_72 : decode cX11_wedding 72 = .ok (.ireturn, 1) := by decide +kernel
theorem dX11_wedding_73 : decode cX11_wedding 73 = .ok (.aload_n 3, 1) := by decide +kernel
theorem dX11_wedding_74 : decode cX11_wedding 74 = .ok (.getfield 172, 3) := by decide +kernel
theorem dX11_wedding_77 : decode cX11_wedding 77 = .ok (.iload_n 1, 1) := by decide +kernel
theorem dX11_wedding_78 : decode cX11_wedding 78 = .ok (.iaload, 1) := by decide +kernel
theorem dX11_wedding_79 : decode cX11_wedding 79 = .ok (.ireturn, 1) := by decide +kernel
theorem dX11_wedding_80 : decode cX11_wedding 80 = .ok (.bipush (-102), 2) := by decide +kernel
theorem dX11_wedding_82 : decode cX11_wedding 82 = .ok (.ireturn, 1) := by decide +kernel
set_option maxRecDepth 20000 in
theorem ggX11_divorce_X10_knows : GoodIn wsX11_divorce wsX10_knows := goodIn_r _ [12, 13, 54, 55, 56, 57, 58] (by decide +kernel) (by decide +kernel)
set_option maxRecDepth 20000 in
theorem gX11_divorce_X10_knows : GoodIn wsX11_divorce (wsV RX11 162 RX10 yX10_knows wsX10_knows) := goodIn_app (goodIn_of _ (by decide +kernel)) ggX11_divorce_X10_knows
set_option maxRecDepth 20000 in
theorem ggX11_divorce_X2_pay : GoodIn wsX11_divorce wsX2_pay := goodIn_r _ [18, 19, 20, 21, 22, 23, 24, 25, 26, 27, 28, 29, 30, 31, 32, 33, 34, 35, 36, 37, 38, 39, 40, 59, 60, 61, 62, 63] (by decide +kernel) (by decide +kernel)
set_option maxRecDepth 20000 in
theorem gX11_divorce_X2_pay : GoodIn wsX11_divorce (wsV RX11 175 RX2 yX2_pay wsX2_pay) := goodIn_app (goodIn_of _ (by decide +kernel)) ggX11_divorce_X2_pay
theorem dX11_divorce_0 : decode cX11_divorce 0 = .ok (.aload_n 0, 1) := by decide +kernel
theorem dX11_divorce_1 : decode cX11_divorce 1 = .ok (.getfield 43, 3) := by decide +kernel
theorem dX11_divorce_4 : decode cX11_divorce 4 = .ok (.getfield 147, 3) := by decide +kernel
theorem dX11_divorce_7 : decode cX11_divorce 7 = .ok (.astore_n 2, 1) := by decide +kernel
theorem dX11_divorce_8 : decode cX11_divorce 8 = .ok (.aload_n 2, 1) := by decide +kernel
theorem dX11_divorce_9 : decode cX11_divorce 9 = .ok (.iload_n 1, 1) := by decide +kernel
theorem dX11_divorce_10 : decode cX11_divorce 10 = .ok (.invokevirtual 162, 3) := by decide +kernel
theorem dX11_divorce_13 : decode cX11_divorce 13 = .ok (.ifCond .ne 6, 3) := by decide +kernel
theorem dX11_divorce_16 : decode cX11_divorce 16 = .ok (.bipush (-101), 2) := by decide +kernel
theorem dX11_divorce_18 : decode cX11_divorce 18 = .ok (.ireturn, 1) := by decide +kernel
theorem dX11_divorce_19 : decode cX11_divorce 19 = .ok (.aload_n 2, 1) := by decide +kernel
theorem dX11_divorce_20 : decode cX11_divorce 20 = .ok (.getfield 172, 3) := by decide +kernel
theorem dX11_divorce_23 : decode cX11_divorce 23 = .ok (.iload_n 1, 1) := by decide +kernel
theorem dX11_divorce_24 : decode cX11_divorce 24 = .ok (.iaload, 1) := by decide +kernel
theorem dX11_divorce_25 : decode cX11_divorce 25 = .ok (.ifCond .eq 6, 3) := by decide +kernel
theorem dX11_divorce_28 : decode cX11_divorce 28 = .ok (.bipush (-103), 2) := by decide +kernel
theorem dX11_divorce_30 : decode cX11_divorce 30 = .ok (.ireturn, 1) := by decide +kernel
theorem dX11_divorce_31 : decode cX11_divorce 31 = .ok (.aload_n 2, 1) := by decide +kernel
theorem dX11_divorce_32 : decode cX11_divorce 32 = .ok (.getfield 172, 3) := by decide +kernel
theorem dX11_divorce_35 : decode cX11_divorce 35 = .ok (.iload_n 1, 1) := by decide +kernel
theorem dX11_divorce_36 : decode cX11_divorce 36 = .ok (.iconst 1, 1) := by decide +kernel
theorem dX11_divorce_37 : decode cX11_divorce 37 = .ok (.iastore, 1) := by decide +kernel
theorem dX11_divorce_38 : decode cX11_divorce 38 = .ok (.aload_n 0, 1) := by decide +kernel
theorem dX11_divorce_39 : decode cX11_divorce 39 = .ok (.getfield 43, 3) := by decide +kernel
theorem dX11_divorce_42 : decode cX11_divorce 42 = .ok (.getfield 97, 3) := by decide +kernel
theorem dX11_divorce_45 : decode cX11_divorce 45 = .ok (.aload_n 2, 1) := by decide +kernel
theorem dX11_divorce_46 : decode cX11_divorce 46 = .ok (.getfield 166, 3) := by decide +kernel
theorem dX11_divorce_49 : decode cX11_divorce 49 = .ok (.iload_n 1, 1) := by decide +kernel
theorem dX11_divorce_50 : decode cX11_divorce 50 = .ok (.iaload, 1) := by decide +kernel
theorem dX11_divorce_51 : decode cX11_divorce 51 = .ok (.aload_n 2, 1) := by decide +kernel
theorem dX11_divorce_52 : decode cX11_divorce 52 = .ok (.getfield 163, 3) := by decide +kernel
theorem dX11_divorce_55 : decode cX11_divorce 55 = .ok (.iload_n 1, 1) := by decide +kernel
theorem dX11_divorce_56 : decode cX11_divorce 56 = .ok (.iaload, 1) := by decide +kernel
theorem dX11_divorce_57 : decode cX11_divorce 57 = .ok (.aload_n 2, 1) := by decide +kernel
theorem dX11_divorce_58 : decode cX11_divorce 58 = .ok (.getfield 169, 3) := by decide +kernel
theorem dX11_divorce_61 : decode cX11_divorce 61 = .ok (.iload_n 1, 1) := by decide +kernel
theorem dX11_divorce_62 : decode cX11_divorce 62 = .ok (.iaload, 1) := by decide +kernel
theorem dX11_divorce_63 : decode cX11_divorce 63 = .ok (.invokevirtual 175, 3) := by decide +kernel
theorem dX11_divorce_66 : decode cX11_divorce 66 = .ok (.ireturn, 1) := by decide +kernel
set_option maxRecDepth 20000 in
theorem ggX11_year_X11_hasHills : GoodIn wsX11_year wsX11_hasHills := goodIn_r _ [8, 1, 2, 9, 60, 61, 62, 63, 64, 65, 66, 67, 68, 69, 70, 71, 72, 73, 74, 75, 76, 77] (by decide +kernel) (by decide +kernel)
set_option maxRecDepth 20000 in
theorem gX11_year_X11_hasHills : GoodIn wsX11_year (wsV RX11 137 RX11 yX11_hasHills wsX11_hasHills) := goodIn_app (goodIn_of _ (by decide +kernel)) ggX11_year_X11_hasHills
set_option maxRecDepth 20000 in
theorem ggX11_year_X2_passYear : GoodIn wsX11_year wsX2_passYear := goodIn_r _ [14, 15, 16, 17, 18, 13, 19, 20, 21, 22, 23, 24, 25, 26, 27, 28, 29, 30, 31, 32, 33, 34, 35, 36, 37, 38, 39, 40, 41, 42, 43, 44, 45, 46, 47, 48, 49, 50, 51, 73, 74, 75, 76, 77] (by decide +kernel) (by decide +kernel)
set_option maxRecDepth 20000 in
theorem gX11_year_X2_passYear : GoodIn wsX11_year (wsV RX11 178 RX2 yX2_passYear wsX2_passYear) := goodIn_app (goodIn_of _ (by decide +kernel)) ggX11_year_X2_passYear
set_option maxRecDepth 20000 in
theorem ggX11_year_X2_allOwed : GoodIn wsX11_year wsX2_allOwed := goodIn_r _ [55, 15, 56, 57, 58, 13, 59, 31, 73, 74, 75, 76, 77] (by decide +kernel) (by decide +kernel)
set_option maxRecDepth 20000 in
theorem gX11_year_X2_allOwed : GoodIn wsX11_year (wsV RX11 184 RX2 yX2_allOwed wsX2_allOwed) := goodIn_app (goodIn_of _ (by decide +kernel)) ggX11_year_X2_allOwed
theorem dX11_year_0 : decode cX11_year 0 = .ok (.aload_n 0, 1) := by decide +kernel
theorem dX11_year_1 : decode cX11_year 1 = .ok (.invokevirtual 137, 3) := by decide +kernel
theorem dX11_year_4 : decode cX11_year 4 = .ok (.ifCond .ne 6, 3) := by decide +kernel
theorem dX11_year_7 : decode cX11_year 7 = .ok (.bipush (-103), 2) := by decide +kernel
theorem dX11_year_9 : decode cX11_year 9 = .ok (.ireturn, 1) := by decide +kernel
theorem dX11_year_10 : decode cX11_year 10 = .ok (.aload_n 0, 1) := by decide +kernel
theorem dX11_year_11 : decode cX11_year 11 = .ok (.getfield 43, 3) := by decide +kernel
theorem dX11_year_14 : decode cX11_year 14 = .ok (.getfield 97, 3) := by decide +kernel
theorem dX11_year_17 : decode cX11_year 17 = .ok (.invokevirtual 178, 3) := by decide +kernel
theorem dX11_year_20 : decode cX11_year 20 = .ok (.aload_n 0, 1) := by decide +kernel
theorem dX11_year_21 : decode cX11_year 21 = .ok (.getfield 43, 3) := by decide +kernel
theorem dX11_year_24 : decode cX11_year 24 = .ok (.dup, 1) := by decide +kernel
theorem dX11_year_25 : decode cX11_year 25 = .ok (.getfield 181, 3) := by decide +kernel
theorem dX11_year_28 : decode cX11_year 28 = .ok (.iconst 1, 1) := by decide +kernel
theorem dX11_year_29 : decode cX11_year 29 = .ok (.iadd, 1) := by decide +kernel
theorem dX11_year_30 : decode cX11_year 30 = .ok (.putfield 181, 3) := by decide +kernel
theorem dX11_year_33 : decode cX11_year 33 = .ok (.aload_n 0, 1) := by decide +kernel
theorem dX11_year_34 : decode cX11_year 34 = .ok (.getfield 43, 3) := by decide +kernel
theorem dX11_year_37 : decode cX11_year 37 = .ok (.getfield 97, 3) := by decide +kernel
theorem dX11_year_40 : decode cX11_year 40 = .ok (.invokevirtual 184, 3) := by decide +kernel
theorem dX11_year_43 : decode cX11_year 43 = .ok (.ireturn, 1) := by decide +kernel
set_option maxRecDepth 20000 in
theorem ggX11_settled_X11_hasHills : GoodIn wsX11_settled wsX11_hasHills := goodIn_r _ [7, 1, 2, 8, 28, 29, 30, 31, 32, 33, 34, 35, 36, 37, 38, 39, 40, 41, 42, 43, 44, 45] (by decide +kernel) (by decide +kernel)
set_option maxRecDepth 20000 in
theorem gX11_settled_X11_hasHills : GoodIn wsX11_settled (wsV RX11 137 RX11 yX11_hasHills wsX11_hasHills) := goodIn_app (goodIn_of _ (by decide +kernel)) ggX11_settled_X11_hasHills
set_option maxRecDepth 20000 in
theorem ggX11_settled_X2_leastLed : GoodIn wsX11_settled wsX2_leastLed := goodIn_r _ [13, 14, 15, 16, 17, 18, 19, 20, 21, 12, 22, 23, 24, 25, 26, 27, 41, 42, 43, 44, 45] (by decide +kernel) (by decide +kernel)
set_option maxRecDepth 20000 in
theorem gX11_settled_X2_leastLed : GoodIn wsX11_settled (wsV RX11 187 RX2 yX2_leastLed wsX2_leastLed) := goodIn_app (goodIn_of _ (by decide +kernel)) ggX11_settled_X2_leastLed
theorem dX11_settled_0 : decode cX11_settled 0 = .ok (.aload_n 0, 1) := by decide +kernel
theorem dX11_settled_1 : decode cX11_settled 1 = .ok (.invokevirtual 137, 3) := by decide +kernel
theorem dX11_settled_4 : decode cX11_settled 4 = .ok (.ifCond .eq 16, 3) := by decide +kernel
theorem dX11_settled_7 : decode cX11_settled 7 = .ok (.aload_n 0, 1) := by decide +kernel
theorem dX11_settled_8 : decode cX11_settled 8 = .ok (.getfield 43, 3) := by decide +kernel
theorem dX11_settled_11 : decode cX11_settled 11 = .ok (.getfield 97, 3) := by decide +kernel
theorem dX11_settled_14 : decode cX11_settled 14 = .ok (.invokevirtual 187, 3) := by decide +kernel
theorem dX11_settled_17 : decode cX11_settled 17 = .ok (.goto 5, 3) := by decide +kernel
theorem dX11_settled_20 : decode cX11_settled 20 = .ok (.bipush (-103), 2) := by decide +kernel
theorem dX11_settled_22 : decode cX11_settled 22 = .ok (.ireturn, 1) := by decide +kernel
set_option maxRecDepth 20000 in
theorem ggX11_plan_X2_knowsCouple : GoodIn wsX11_plan wsX2_knowsCouple := goodIn_r _ [9, 10, 11, 12, 8, 13, 14, 42, 43, 44, 45, 46] (by decide +kernel) (by decide +kernel)
set_option maxRecDepth 20000 in
theorem gX11_plan_X2_knowsCouple : GoodIn wsX11_plan (wsV RX11 143 RX2 yX2_knowsCouple wsX2_knowsCouple) := goodIn_app (goodIn_of _ (by decide +kernel)) ggX11_plan_X2_knowsCouple
set_option maxRecDepth 20000 in
theorem ggX11_plan_X5_note : GoodIn wsX11_plan wsX5_note := goodIn_r _ [19, 20, 21, 22, 36, 37, 38, 39, 40, 41] (by decide +kernel) (by decide +kernel)
set_option maxRecDepth 20000 in
theorem gX11_plan_X5_note : GoodIn wsX11_plan (wsV RX11 197 RX5 yX5_note wsX5_note) := goodIn_app (goodIn_of _ (by decide +kernel)) ggX11_plan_X5_note
theorem dX11_plan_0 : decode cX11_plan 0 = .ok (.aload_n 0, 1) := by decide +kernel
theorem dX11_plan_1 : decode cX11_plan 1 = .ok (.getfield 43, 3) := by decide +kernel
theorem dX11_plan_4 : decode cX11_plan 4 = .ok (.getfield 97, 3) := by decide +kernel
theorem dX11_plan_7 : decode cX11_plan 7 = .ok (.iload_n 1, 1) := by decide +kernel
theorem dX11_plan_8 : decode cX11_plan 8 = .ok (.iload_n 2, 1) := by decide +kernel
theorem dX11_plan_9 : decode cX11_plan 9 = .ok (.invokevirtual 143, 3) := by decide +kernel
theorem dX11_plan_12 : decode cX11_plan 12 = .ok (.ifCond .ne 6, 3) := by decide +kernel
theorem dX11_plan_15 : decode cX11_plan 15 = .ok (.bipush (-101), 2) := by decide +kernel
theorem dX11_plan_17 : decode cX11_plan 17 = .ok (.ireturn, 1) := by decide +kernel
theorem dX11_plan_18 : decode cX11_plan 18 = .ok (.aload_n 0, 1) := by decide +kernel
theorem dX11_plan_19 : decode cX11_plan 19 = .ok (.getfield 43, 3) := by decide +kernel
theorem dX11_plan_22 : decode cX11_plan 22 = .ok (.getfield 190, 3) := by decide +kernel
theorem dX11_plan_25 : decode cX11_plan 25 = .ok (.getfield 194, 3) := by decide +kernel
theorem dX11_plan_28 : decode cX11_plan 28 = .ok (.iconst 4, 1) := by decide +kernel
theorem dX11_plan_29 : decode cX11_plan 29 = .ok (.if_icmp .lt 6, 3) := by decide +kernel
theorem dX11_plan_32 : decode cX11_plan 32 = .ok (.bipush (-104), 2) := by decide +kernel
theorem dX11_plan_34 : decode cX11_plan 34 = .ok (.ireturn, 1) := by decide +kernel
theorem dX11_plan_35 : decode cX11_plan 35 = .ok (.aload_n 0, 1) := by decide +kernel
theorem dX11_plan_36 : decode cX11_plan 36 = .ok (.getfield 43, 3) := by decide +kernel
theorem dX11_plan_39 : decode cX11_plan 39 = .ok (.getfield 190, 3) := by decide +kernel
theorem dX11_plan_42 : decode cX11_plan 42 = .ok (.iload_n 1, 1) := by decide +kernel
theorem dX11_plan_43 : decode cX11_plan 43 = .ok (.iload_n 2, 1) := by decide +kernel
theorem dX11_plan_44 : decode cX11_plan 44 = .ok (.invokevirtual 197, 3) := by decide +kernel
theorem dX11_plan_47 : decode cX11_plan 47 = .ok (.ireturn, 1) := by decide +kernel
theorem dX11_dream_0 : decode cX11_dream 0 = .ok (.aload_n 0, 1) := by decide +kernel
theorem dX11_dream_1 : decode cX11_dream 1 = .ok (.getfield 43, 3) := by decide +kernel
theorem dX11_dream_4 : decode cX11_dream 4 = .ok (.getfield 190, 3) := by decide +kernel
theorem dX11_dream_7 : decode cX11_dream 7 = .ok (.getfield 194, 3) := by decide +kernel
theorem dX11_dream_10 : decode cX11_dream 10 = .ok (.istore_n 1, 1) := by decide +kernel
theorem dX11_dream_11 : decode cX11_dream 11 = .ok (.aload_n 0, 1) := by decide +kernel
theorem dX11_dream_12 : decode cX11_dream 12 = .ok (.getfield 43, 3) := by decide +kernel
theorem dX11_dream_15 : decode cX11_dream 15 = .ok (.getfield 190, 3) := by decide +kernel
theorem dX11_dream_18 : decode cX11_dream 18 = .ok (.iconst 0, 1) := by decide +kernel
theorem dX11_dream_19 : decode cX11_dream 19 = .ok (.putfield 194, 3) := by decide +kernel
theorem dX11_dream_22 : decode cX11_dream 22 = .ok (.iload_n 1, 1) := by decide +kernel
theorem dX11_dream_23 : decode cX11_dream 23 = .ok (.ireturn, 1) := by decide +kernel
set_option maxRecDepth 20000 in
theorem ggX11_order_X11_hasHills : GoodIn wsX11_order wsX11_hasHills := goodIn_r _ [10, 1, 3, 11, 118, 119, 120, 121, 122, 123, 124, 125, 126, 127, 128, 129, 130, 137, 138, 139, 140, 141] (by decide +kernel) (by decide +kernel)
set_option maxRecDepth 20000 in
theorem gX11_order_X11_hasHills : GoodIn wsX11_order (wsV RX11 137 RX11 yX11_hasHills wsX11_hasHills) := goodIn_app (goodIn_of _ (by decide +kernel)) ggX11_order_X11_hasHills
set_option maxRecDepth 20000 in
theorem ggX11_order_X5_findOrder : GoodIn wsX11_order wsX5_findOrder := goodIn_r _ [16, 17, 18, 19, 20, 21, 22, 23, 24, 25, 26, 15, 27, 28, 29, 30, 31, 32, 33, 34, 35, 36, 37, 38, 39, 40, 41, 42, 43, 44, 45, 46, 47, 48, 49, 50, 51, 52, 53, 54, 55, 56, 57, 58, 59, 60, 61, 62, 63, 64, 65, 66, 67, 68, 69, 70, 71, 72, 73, 74, 75, 76, 77, 78, 79, 80, 81, 82, 83, 84, 85, 86, 87, 88, 89, 90, 91, 92, 93, 94, 95, 96, 97, 98, 99, 100, 101, 102, 103, 104, 105, 106, 107, 108, 109, 110, 111, 112, 113, 131, 132, 133, 134, 135, 136, 137, 138, 139, 140, 141] (by decide +kernel) (by decide +kernel)
set_option maxRecDepth 20000 in
theorem gX11_order_X5_findOrder : GoodIn wsX11_order (wsV RX11 199 RX5 yX5_findOrder wsX5_findOrder) := goodIn_app (goodIn_of _ (by decide +kernel)) ggX11_order_X5_findOrder
set_option maxRecDepth 20000 in
theorem ggX11_order_X5_bestAt : GoodIn wsX11_order wsX5_bestAt := goodIn_r _ [117, 41, 19, 131, 132, 133, 134, 135, 136] (by decide +kernel) (by decide +kernel)
set_option maxRecDepth 20000 in
theorem gX11_order_X5_bestAt : GoodIn wsX11_order (wsV RX11 203 RX5 yX5_bestAt wsX5_bestAt) := goodIn_app (goodIn_of _ (by decide +kernel)) ggX11_order_X5_bestAt
theorem dX11_order_0 : decode cX11_order 0 = .ok (.iload_n 1, 1) := by decide +kernel
theorem dX11_order_1 : decode cX11_order 1 = .ok (.bipush 10, 2) := by decide +kernel
theorem dX11_order_3 : decode cX11_order 3 = .ok (.if_icmp .lt 13, 3) := by decide +kernel
theorem dX11_order_6 : decode cX11_order 6 = .ok (.iload_n 1, 1) := by decide +kernel
theorem dX11_order_7 : decode cX11_order 7 = .ok (.bipush 14, 2) := by decide +kernel
theorem dX11_order_9 : decode cX11_order 9 = .ok (.if_icmp .ge 7, 3) := by decide +kernel
theorem dX11_order_12 : decode cX11_order 12 = .ok (.iconst 1, 1) := by decide +kernel
theorem dX11_order_13 : decode cX11_order 13 = .ok (.goto 4, 3) := by decide +kernel
theorem dX11_order_16 : decode cX11_order 16 = .ok (.iconst 0, 1) := by decide +kernel
theorem dX11_order_17 : decode cX11_order 17 = .ok (.istore_n 2, 1) := by decide +kernel
theorem dX11_order_18 : decode cX11_order 18 = .ok (.iload_n 1, 1) := by decide +kernel
theorem dX11_order_19 : decode cX11_order 19 = .ok (.ifCond .eq 10, 3) := by decide +kernel
theorem dX11_order_22 : decode cX11_order 22 = .ok (.iload_n 2, 1) := by decide +kernel
theorem dX11_order_23 : decode cX11_order 23 = .ok (.ifCond .ne 6, 3) := by decide +kernel
theorem dX11_order_26 : decode cX11_order 26 = .ok (.bipush (-102), 2) := by decide +kernel
theorem dX11_order_28 : decode cX11_order 28 = .ok (.ireturn, 1) := by decide +kernel
theorem dX11_order_29 : decode cX11_order 29 = .ok (.aload_n 0, 1) := by decide +kernel
theorem dX11_order_30 : decode cX11_order 30 = .ok (.invokevirtual 137, 3) := by decide +kernel
theorem dX11_order_33 : decode cX11_order 33 = .ok (.ifCond .ne 6, 3) := by decide +kernel
theorem dX11_order_36 : decode cX11_order 36 = .ok (.bipush (-103), 2) := by decide +kernel
theorem dX11_order_38 : decode cX11_order 38 = .ok (.ireturn, 1) := by decide +kernel
theorem dX11_order_39 : decode cX11_order 39 = .ok (.aload_n 0, 1) := by decide +kernel
theorem dX11_order_40 : decode cX11_order 40 = .ok (.getfield 43, 3) := by decide +kernel
theorem dX11_order_43 : decode cX11_order 43 = .ok (.getfield 190, 3) := by decide +kernel
theorem dX11_order_46 : decode cX11_order 46 = .ok (.aload_n 0, 1) := by decide +kernel
theorem dX11_order_47 : decode cX11_order 47 = .ok (.getfield 43, 3) := by decide +kernel
theorem dX11_order_50 : decode cX11_order 50 = .ok (.getfield 97, 3) := by decide +kernel
theorem dX11_order_53 : decode cX11_order 53 = .ok (.aload_n 0, 1) := by decide +kernel
theorem dX11_order_54 : decode cX11_order 54 = .ok (.getfield 53, 3) := by decide +kernel
theorem dX11_order_57 : decode cX11_order 57 = .ok (.invokevirtual 199, 3) := by decide +kernel
theorem dX11_order_60 : decode cX11_order 60 = .ok (.iload_n 2, 1) := by decide +kernel
theorem dX11_order_61 : decode cX11_order 61 = .ok (.ifCond .eq 20, 3) := by decide +kernel
theorem dX11_order_64 : decode cX11_order 64 = .ok (.aload_n 0, 1) := by decide +kernel
theorem dX11_order_65 : decode cX11_order 65 = .ok (.getfield 43, 3) := by decide +kernel
theorem dX11_order_68 : decode cX11_order 68 = .ok (.getfield 190, 3) := by decide +kernel
theorem dX11_order_71 : decode cX11_order 71 = .ok (.iload_n 1, 1) := by decide +kernel
theorem dX11_order_72 : decode cX11_order 72 = .ok (.bipush 10, 2) := by decide +kernel
theorem dX11_order_74 : decode cX11_order 74 = .ok (.isub, 1) := by decide +kernel
theorem dX11_order_75 : decode cX11_order 75 = .ok (.invokevirtual 203, 3) := by decide +kernel
theorem dX11_order_78 : decode cX11_order 78 = .ok (.goto 13, 3) := by decide +kernel
theorem dX11_order_81 : decode cX11_order 81 = .ok (.aload_n 0, 1) := by decide +kernel
theorem dX11_order_82 : decode cX11_order 82 = .ok (.getfield 43, 3) := by decide +kernel
theorem dX11_order_85 : decode cX11_order 85 = .ok (.getfield 190, 3) := by decide +kernel
theorem dX11_order_88 : decode cX11_order 88 = .ok (.getfield 206, 3) := by decide +kernel
theorem dX11_order_91 : decode cX11_order 91 = .ok (.ireturn, 1) := by decide +kernel
set_option maxRecDepth 20000 in
theorem ggX11_high_X11_hasHills : GoodIn wsX11_high wsX11_hasHills := goodIn_r _ [9, 1, 3, 10, 100, 101, 102, 103, 104, 105, 106, 107, 108, 109, 110, 111, 112, 113, 114, 115, 116, 117] (by decide +kernel) (by decide +kernel)
set_option maxRecDepth 20000 in
theorem gX11_high_X11_hasHills : GoodIn wsX11_high (wsV RX11 137 RX11 yX11_hasHills wsX11_hasHills) := goodIn_app (goodIn_of _ (by decide +kernel)) ggX11_high_X11_hasHills
set_option maxRecDepth 20000 in
theorem ggX11_high_X5_highestRate : GoodIn wsX11_high wsX5_highestRate := goodIn_r _ [15, 16, 17, 18, 19, 14, 20, 21, 22, 23, 24, 25, 26, 27, 28, 29, 30, 31, 32, 33, 34, 35, 36, 37, 38, 39, 40, 41, 42, 43, 44, 45, 46, 47, 48, 49, 50, 51, 52, 53, 54, 55, 56, 57, 58, 59, 60, 61, 62, 63, 64, 65, 66, 67, 68, 69, 70, 71, 72, 73, 74, 75, 76, 77, 78, 79, 80, 81, 82, 83, 84, 85, 86, 87, 88, 89, 90, 91, 92, 93, 94, 95, 96, 97, 98, 99, 113, 114, 115, 116, 117, 118, 119, 120, 121, 122, 123] (by decide +kernel) (by decide +kernel)
set_option maxRecDepth 20000 in
theorem gX11_high_X5_highestRate : GoodIn wsX11_high (wsV RX11 209 RX5 yX5_highestRate wsX5_highestRate) := goodIn_app (goodIn_of _ (by decide +kernel)) ggX11_high_X5_highestRate
theorem dX11_high_0 : decode cX11_high 0 = .ok (.aload_n 0, 1) := by decide +kernel
theorem dX11_high_1 : decode cX11_high 1 = .ok (.invokevirtual 137, 3) := by decide +kernel
theorem dX11_high_4 : decode cX11_high 4 = .ok (.ifCond .eq 27, 3) := by decide +kernel
theorem dX11_high_7 : decode cX11_high 7 = .ok (.aload_n 0, 1) := by decide +kernel
theorem dX11_high_8 : decode cX11_high 8 = .ok (.getfield 43, 3) := by decide +kernel
theorem dX11_high_11 : decode cX11_high 11 = .ok (.getfield 190, 3) := by decide +kernel
theorem dX11_high_14 : decode cX11_high 14 = .ok (.aload_n 0, 1) := by decide +kernel
theorem dX11_high_15 : decode cX11_high 15 = .ok (.getfield 43, 3) := by decide +kernel
theorem dX11_high_18 : decode cX11_high 18 = .ok (.getfield 97, 3) := by decide +kernel
theorem dX11_high_21 : decode cX11_high 21 = .ok (.aload_n 0, 1) := by decide +kernel
theorem dX11_high_22 : decode cX11_high 22 = .ok (.getfield 53, 3) := by decide +kernel
theorem dX11_high_25 : decode cX11_high 25 = .ok (.invokevirtual 209, 3) := by decide +kernel
theorem dX11_high_28 : decode cX11_high 28 = .ok (.goto 5, 3) := by decide +kernel
theorem dX11_high_31 : decode cX11_high 31 = .ok (.bipush (-103), 2) := by decide +kernel
theorem dX11_high_33 : decode cX11_high 33 = .ok (.ireturn, 1) := by decide +kernel
set_option maxRecDepth 20000 in
theorem ggX11_tell_X11_isRate : GoodIn wsX11_tell wsX11_isRate := goodIn_r _ [7] (by decide +kernel) (by decide +kernel)
set_option maxRecDepth 20000 in
theorem gX11_tell_X11_isRate : GoodIn wsX11_tell (va_wsS RX11 134 yX11_isRate wsX11_isRate) := goodIn_app (goodIn_of _ (by decide +kernel)) ggX11_tell_X11_isRate
set_option maxRecDepth 20000 in
theorem ggX11_tell_X9_note : GoodIn wsX11_tell wsX9_note := goodIn_r _ [12, 13, 14, 15, 29, 30, 31] (by decide +kernel) (by decide +kernel)
set_option maxRecDepth 20000 in
theorem gX11_tell_X9_note : GoodIn wsX11_tell (wsV RX11 220 RX9 yX9_note wsX9_note) := goodIn_app (goodIn_of _ (by decide +kernel)) ggX11_tell_X9_note
theorem dX11_tell_0 : decode cX11_tell 0 = .ok (.iload_n 1, 1) := by decide +kernel
theorem dX11_tell_1 : decode cX11_tell 1 = .ok (.invokestatic 134, 3) := by decide +kernel
theorem dX11_tell_4 : decode cX11_tell 4 = .ok (.ifCond .eq 14, 3) := by decide +kernel
theorem dX11_tell_7 : decode cX11_tell 7 = .ok (.iload_n 2, 1) := by decide +kernel
theorem dX11_tell_8 : decode cX11_tell 8 = .ok (.iconst 1, 1) := by decide +kernel
theorem dX11_tell_9 : decode cX11_tell 9 = .ok (.if_icmp .lt 9, 3) := by decide +kernel
theorem dX11_tell_12 : decode cX11_tell 12 = .ok (.iload_n 2, 1) := by decide +kernel
theorem dX11_tell_13 : decode cX11_tell 13 = .ok (.bipush 20, 2) := by decide +kernel
theorem dX11_tell_15 : decode cX11_tell 15 = .ok (.if_icmp .le 6, 3) := by decide +kernel
theorem dX11_tell_18 : decode cX11_tell 18 = .ok (.bipush (-102), 2) := by decide +kernel
theorem dX11_tell_20 : decode cX11_tell 20 = .ok (.ireturn, 1) := by decide +kernel
theorem dX11_tell_21 : decode cX11_tell 21 = .ok (.aload_n 0, 1) := by decide +kernel
theorem dX11_tell_22 : decode cX11_tell 22 = .ok (.getfield 43, 3) := by decide +kernel
theorem dX11_tell_25 : decode cX11_tell 25 = .ok (.getfield 213, 3) := by decide +kernel
theorem dX11_tell_28 : decode cX11_tell 28 = .ok (.getfield 217, 3) := by decide +kernel
theorem dX11_tell_31 : decode cX11_tell 31 = .ok (.bipush 6, 2) := by decide +kernel
theorem dX11_tell_33 : decode cX11_tell 33 = .ok (.if_icmp .lt 6, 3) := by decide +kernel
theorem dX11_tell_36 : decode cX11_tell 36 = .ok (.bipush (-104), 2) := by decide +kernel
theorem dX11_tell_38 : decode cX11_tell 38 = .ok (.ireturn, 1) := by decide +kernel
theorem dX11_tell_39 : decode cX11_tell 39 = .ok (.aload_n 0, 1) := by decide +kernel
theorem dX11_tell_40 : decode cX11_tell 40 = .ok (.getfield 43, 3) := by decide +kernel
theorem dX11_tell_43 : decode cX11_tell 43 = .ok (.getfield 213, 3) := by decide +kernel
theorem dX11_tell_46 : decode cX11_tell 46 = .ok (.iload_n 1, 1) := by decide +kernel
theorem dX11_tell_47 : decode cX11_tell 47 = .ok (.iload_n 2, 1) := by decide +kernel
theorem dX11_tell_48 : decode cX11_tell 48 = .ok (.invokevirtual 220, 3) := by decide +kernel
theorem dX11_tell_51 : decode cX11_tell 51 = .ok (.ireturn, 1) := by decide +kernel
theorem dX11_forget_0 : decode cX11_forget 0 = .ok (.aload_n 0, 1) := by decide +kernel
theorem dX11_forget_1 : decode cX11_forget 1 = .ok (.getfield 43, 3) := by decide +kernel
theorem dX11_forget_4 : decode cX11_forget 4 = .ok (.getfield 213, 3) := by decide +kernel
theorem dX11_forget_7 : decode cX11_forget 7 = .ok (.getfield 217, 3) := by decide +kernel
theorem dX11_forget_10 : decode cX11_forget 10 = .ok (.istore_n 1, 1) := by decide +kernel
theorem dX11_forget_11 : decode cX11_forget 11 = .ok (.aload_n 0, 1) := by decide +kernel
theorem dX11_forget_12 : decode cX11_forget 12 = .ok (.getfield 43, 3) := by decide +kernel
theorem dX11_forget_15 : decode cX11_forget 15 = .ok (.getfield 213, 3) := by decide +kernel
theorem dX11_forget_18 : decode cX11_forget 18 = .ok (.iconst 0, 1) := by decide +kernel
theorem dX11_forget_19 : decode cX11_forget 19 = .ok (.putfield 217, 3) := by decide +kernel
theorem dX11_forget_22 : decode cX11_forget 22 = .ok (.iload_n 1, 1) := by decide +kernel
theorem dX11_forget_23 : decode cX11_forget 23 = .ok (.ireturn, 1) := by decide +kernel
set_option maxRecDepth 20000 in
theorem ggX11_which_X9_kindsLeft : GoodIn wsX11_which wsX9_kindsLeft := goodIn_r _ [8, 9, 10, 11, 7, 12, 13, 14, 15, 16, 17, 18, 19, 20, 21, 22, 23, 24, 25, 26, 27, 28, 29, 30, 31, 32, 33, 34, 35, 36, 37, 38, 39, 40, 41, 42, 43, 57, 58, 59] (by decide +kernel) (by decide +kernel)
set_option maxRecDepth 20000 in
theorem gX11_which_X9_kindsLeft : GoodIn wsX11_which (wsV RX11 221 RX9 yX9_kindsLeft wsX9_kindsLeft) := goodIn_app (goodIn_of _ (by decide +kernel)) ggX11_which_X9_kindsLeft
theorem dX11_which_0 : decode cX11_which 0 = .ok (.aload_n 0, 1) := by decide +kernel
theorem dX11_which_1 : decode cX11_which 1 = .ok (.getfield 43, 3) := by decide +kernel
theorem dX11_which_4 : decode cX11_which 4 = .ok (.getfield 213, 3) := by decide +kernel
theorem dX11_which_7 : decode cX11_which 7 = .ok (.aload_n 0, 1) := by decide +kernel
theorem dX11_which_8 : decode cX11_which 8 = .ok (.getfield 22, 3) := by decide +kernel
theorem dX11_which_11 : decode cX11_which 11 = .ok (.invokevirtual 221, 3) := by decide +kernel
theorem dX11_which_14 : decode cX11_which 14 = .ok (.ireturn, 1) := by decide +kernel
set_option maxRecDepth 20000 in
theorem ggX11_ask_X9_nextRate : GoodIn wsX11_ask wsX9_nextRate := goodIn_r _ [8, 9, 10, 11, 7, 12, 13, 14, 15, 16, 17, 18, 19, 20, 21, 22, 23, 24, 25, 26, 27, 28, 29, 30, 31, 32, 33, 34, 35, 36, 37, 38, 39, 40, 41, 42, 43, 44, 45, 46, 47, 48, 49, 50, 51, 52, 53, 54, 55, 56, 57, 71, 72, 73] (by decide +kernel) (by decide +kernel)
set_option maxRecDepth 20000 in
theorem gX11_ask_X9_nextRate : GoodIn wsX11_ask (wsV RX11 225 RX9 yX9_nextRate wsX9_nextRate) := goodIn_app (goodIn_of _ (by decide +kernel)) ggX11_ask_X9_nextRate
theorem dX11_ask_0 : decode cX11_ask 0 = .ok (.aload_n 0, 1) := by decide +kernel
theorem dX11_ask_1 : decode cX11_ask 1 = .ok (.getfield 43, 3) := by decide +kernel
theorem dX11_ask_4 : decode cX11_ask 4 = .ok (.getfield 213, 3) := by decide +kernel
theorem dX11_ask_7 : decode cX11_ask 7 = .ok (.aload_n 0, 1) := by decide +kernel
theorem dX11_ask_8 : decode cX11_ask 8 = .ok (.getfield 22, 3) := by decide +kernel
theorem dX11_ask_11 : decode cX11_ask 11 = .ok (.invokevirtual 225, 3) := by decide +kernel
theorem dX11_ask_14 : decode cX11_ask 14 = .ok (.ireturn, 1) := by decide +kernel
set_option maxRecDepth 20000 in
theorem ggX11_ages_X11_hasHills : GoodIn wsX11_ages wsX11_hasHills := goodIn_r _ [8, 2, 3, 9, 120, 121, 122, 123, 124, 125, 126, 127, 128, 129, 130, 131, 132, 133, 134, 135, 136, 137] (by decide +kernel) (by decide +kernel)
set_option maxRecDepth 20000 in
theorem gX11_ages_X11_hasHills : GoodIn wsX11_ages (wsV RX11 137 RX11 yX11_hasHills wsX11_hasHills) := goodIn_app (goodIn_of _ (by decide +kernel)) ggX11_ages_X11_hasHills
set_option maxRecDepth 20000 in
theorem ggX11_ages_X2_copyFrom : GoodIn wsX11_ages wsX2_copyFrom := goodIn_r _ [14, 15, 16, 17, 18, 133, 134, 135, 136, 137] (by decide +kernel) (by decide +kernel)
set_option maxRecDepth 20000 in
theorem gX11_ages_X2_copyFrom : GoodIn wsX11_ages (wsV RX11 228 RX2 yX2_copyFrom wsX2_copyFrom) := goodIn_app (goodIn_of _ (by decide +kernel)) ggX11_ages_X2_copyFrom
set_option maxRecDepth 20000 in
theorem ggX11_ages_X2_live : GoodIn wsX11_ages wsX2_live := goodIn_r _ [22, 23, 24, 13, 25, 26, 27, 28, 29, 30, 31, 32, 15, 33, 34, 35, 36, 37, 38, 39, 40, 41, 42, 43, 44, 45, 46, 16, 47, 48, 49, 50, 51, 52, 53, 54, 55, 56, 57, 58, 59, 60, 61, 62, 63, 64, 65, 66, 67, 68, 69, 70, 71, 72, 73, 74, 75, 76, 77, 78, 17, 79, 80, 81, 18, 82, 83, 84, 85, 86, 87, 88, 89, 90, 91, 92, 93, 94, 95, 96, 97, 98, 99, 100, 101, 102, 103, 104, 105, 106, 107, 133, 134, 135, 136, 137] (by decide +kernel) (by decide +kernel)
set_option maxRecDepth 20000 in
theorem gX11_ages_X2_live : GoodIn wsX11_ages (wsV RX11 232 RX2 yX2_live wsX2_live) := goodIn_app (goodIn_of _ (by decide +kernel)) ggX11_ages_X2_live
set_option maxRecDepth 20000 in
theorem ggX11_ages_X2_allOwed : GoodIn wsX11_ages wsX2_allOwed := goodIn_r _ [111, 15, 112, 113, 114, 13, 115, 18, 133, 134, 135, 136, 137] (by decide +kernel) (by decide +kernel)
set_option maxRecDepth 20000 in
theorem gX11_ages_X2_allOwed : GoodIn wsX11_ages (wsV RX11 184 RX2 yX2_allOwed wsX2_allOwed) := goodIn_app (goodIn_of _ (by decide +kernel)) ggX11_ages_X2_allOwed
set_option maxRecDepth 20000 in
theorem ggX11_ages_X2_allCows : GoodIn wsX11_ages wsX2_allCows := goodIn_r _ [119, 15, 17, 133, 134, 135, 136, 137] (by decide +kernel) (by decide +kernel)
set_option maxRecDepth 20000 in
theorem gX11_ages_X2_allCows : GoodIn wsX11_ages (wsV RX11 235 RX2 yX2_allCows wsX2_allCows) := goodIn_app (goodIn_of _ (by decide +kernel)) ggX11_ages_X2_allCows
theorem dX11_ages_0 : decode cX11_ages 0 = .ok (.iload_n 1, 1) := by decide +kernel
theorem dX11_ages_1 : decode cX11_ages 1 = .ok (.iconst 1, 1) := by decide +kernel
theorem dX11_ages_2 : decode cX11_ages 2 = .ok (.if_icmp .lt 22, 3) := by decide +kernel
theorem dX11_ages_5 : decode cX11_ages 5 = .ok (.iload_n 1, 1) := by decide +kernel
theorem dX11_ages_6 : decode cX11_ages 6 = .ok (.bipush 40, 2) := by decide +kernel
theorem dX11_ages_8 : decode cX11_ages 8 = .ok (.if_icmp .gt 16, 3) := by decide +kernel
theorem dX11_ages_11 : decode cX11_ages 11 = .ok (.iload_n 2, 1) := by decide +kernel
theorem dX11_ages_12 : decode cX11_ages 12 = .ok (.ifCond .lt 12, 3) := by decide +kernel
theorem dX11_ages_15 : decode cX11_ages 15 = .ok (.iload_n 3, 1) := by decide +kernel
theorem dX11_ages_16 : decode cX11_ages 16 = .ok (.ifCond .lt 8, 3) := by decide +kernel
theorem dX11_ages_19 : decode cX11_ages 19 = .ok (.iload_n 3, 1) := by decide +kernel
theorem dX11_ages_20 : decode cX11_ages 20 = .ok (.iconst 2, 1) := by decide +kernel
theorem dX11_ages_21 : decode cX11_ages 21 = .ok (.if_icmp .le 6, 3) := by decide +kernel
theorem dX11_ages_24 : decode cX11_ages 24 = .ok (.bipush (-102), 2) := by decide +kernel
theorem dX11_ages_26 : decode cX11_ages 26 = .ok (.ireturn, 1) := by decide +kernel
theorem dX11_ages_27 : decode cX11_ages 27 = .ok (.aload_n 0, 1) := by decide +kernel
theorem dX11_ages_28 : decode cX11_ages 28 = .ok (.invokevirtual 137, 3) := by decide +kernel
theorem dX11_ages_31 : decode cX11_ages 31 = .ok (.ifCond .ne 6, 3) := by decide +kernel
theorem dX11_ages_34 : decode cX11_ages 34 = .ok (.bipush (-103), 2) := by decide +kernel
theorem dX11_ages_36 : decode cX11_ages 36 = .ok (.ireturn, 1) := by decide +kernel
theorem dX11_ages_37 : decode cX11_ages 37 = .ok (.aload_n 0, 1) := by decide +kernel
theorem dX11_ages_38 : decode cX11_ages 38 = .ok (.getfield 53, 3) := by decide +kernel
theorem dX11_ages_41 : decode cX11_ages 41 = .ok (.aload_n 0, 1) := by decide +kernel
theorem dX11_ages_42 : decode cX11_ages 42 = .ok (.getfield 43, 3) := by decide +kernel
theorem dX11_ages_45 : decode cX11_ages 45 = .ok (.getfield 97, 3) := by decide +kernel
theorem dX11_ages_48 : decode cX11_ages 48 = .ok (.invokevirtual 228, 3) := by decide +kernel
theorem dX11_ages_51 : decode cX11_ages 51 = .ok (.aload_n 0, 1) := by decide +kernel
theorem dX11_ages_52 : decode cX11_ages 52 = .ok (.getfield 53, 3) := by decide +kernel
theorem dX11_ages_55 : decode cX11_ages 55 = .ok (.iload_n 1, 1) := by decide +kernel
theorem dX11_ages_56 : decode cX11_ages 56 = .ok (.iload_n 2, 1) := by decide +kernel
theorem dX11_ages_57 : decode cX11_ages 57 = .ok (.invokevirtual 232, 3) := by decide +kernel
theorem dX11_ages_60 : decode cX11_ages 60 = .ok (.istore 4, 2) := by decide +kernel
theorem dX11_ages_62 : decode cX11_ages 62 = .ok (.iload_n 3, 1) := by decide +kernel
theorem dX11_ages_63 : decode cX11_ages 63 = .ok (.lookupswitch 41 #[(0, 25), (1, 33)], 25) := by decide +kernel
theorem dX11_ages_88 : decode cX11_ages 88 = .ok (.aload_n 0, 1) := by decide +kernel
theorem dX11_ages_89 : decode cX11_ages 89 = .ok (.getfield 53, 3) := by decide +kernel
theorem dX11_ages_92 : decode cX11_ages 92 = .ok (.invokevirtual 184, 3) := by decide +kernel
theorem dX11_ages_95 : decode cX11_ages 95 = .ok (.ireturn, 1) := by decide +kernel
theorem dX11_ages_96 : decode cX11_ages 96 = .ok (.aload_n 0, 1) := by decide +kernel
theorem dX11_ages_97 : decode cX11_ages 97 = .ok (.getfield 53, 3) := by decide +kernel
theorem dX11_ages_100 : decode cX11_ages 100 = .ok (.invokevirtual 235, 3) := by decide +kernel
theorem dX11_ages_103 : decode cX11_ages 103 = .ok (.ireturn, 1) := by decide +kernel
theorem dX11_ages_104 : decode cX11_ages 104 = .ok (.iload 4, 2) := by decide +kernel
theorem dX11_ages_106 : decode cX11_ages 106 = .ok (.ireturn, 1) := by decide +kernel
set_option maxRecDepth 20000 in
theorem ggX11_image_X11_hasHills : GoodIn wsX11_image wsX11_hasHills := goodIn_r _ [9, 2, 10, 11, 57, 58, 59, 60, 61, 62, 63, 64, 65, 66, 67, 68, 69, 70, 71, 72, 73, 74] (by decide +kernel) (by decide +kernel)
set_option maxRecDepth 20000 in
theorem gX11_image_X11_hasHills : GoodIn wsX11_image (wsV RX11 137 RX11 yX11_hasHills wsX11_hasHills) := goodIn_app (goodIn_of _ (by decide +kernel)) ggX11_image_X11_hasHills
set_option maxRecDepth 20000 in
theorem ggX11_image_X8_copyFrom : GoodIn wsX11_image wsX8_copyFrom := goodIn_r _ [16, 17, 18, 19, 20, 21, 22, 23, 24, 25, 26, 27, 28, 29, 30, 31, 32, 33, 34, 35, 36, 37, 38, 39, 40, 41, 42, 43, 44, 45, 46, 47, 48, 49, 50, 51, 52, 53, 54, 55, 56, 65, 66, 67, 68, 69, 70, 71, 72, 73, 74, 75, 76, 77, 78, 79, 80, 81, 82, 83, 84, 85, 86, 87, 88] (by decide +kernel) (by decide +kernel)
set_option maxRecDepth 20000 in
theorem gX11_image_X8_copyFrom : GoodIn wsX11_image (wsV RX11 238 RX8 yX8_copyFrom wsX8_copyFrom) := goodIn_app (goodIn_of _ (by decide +kernel)) ggX11_image_X8_copyFrom
theorem dX11_image_0 : decode cX11_image 0 = .ok (.aload_n 0, 1) := by decide +kernel
theorem dX11_image_1 : decode cX11_image 1 = .ok (.invokevirtual 137, 3) := by decide +kernel
theorem dX11_image_4 : decode cX11_image 4 = .ok (.ifCond .ne 6, 3) := by decide +kernel
theorem dX11_image_7 : decode cX11_image 7 = .ok (.bipush (-103), 2) := by decide +kernel
theorem dX11_image_9 : decode cX11_image 9 = .ok (.ireturn, 1) := by decide +kernel
theorem dX11_image_10 : decode cX11_image 10 = .ok (.aload_n 0, 1) := by decide +kernel
theorem dX11_image_11 : decode cX11_image 11 = .ok (.getfield 47, 3) := by decide +kernel
theorem dX11_image_14 : decode cX11_image 14 = .ok (.aload_n 0, 1) := by decide +kernel
theorem dX11_image_15 : decode cX11_image 15 = .ok (.getfield 43, 3) := by decide +kernel
theorem dX11_image_18 : decode cX11_image 18 = .ok (.invokevirtual 238, 3) := by decide +kernel
theorem dX11_image_21 : decode cX11_image 21 = .ok (.aload_n 0, 1) := by decide +kernel
theorem dX11_image_22 : decode cX11_image 22 = .ok (.iconst 1, 1) := by decide +kernel
theorem dX11_image_23 : decode cX11_image 23 = .ok (.putfield 57, 3) := by decide +kernel
theorem dX11_image_26 : decode cX11_image 26 = .ok (.aload_n 0, 1) := by decide +kernel
theorem dX11_image_27 : decode cX11_image 27 = .ok (.getfield 47, 3) := by decide +kernel
theorem dX11_image_30 : decode cX11_image 30 = .ok (.getfield 181, 3) := by decide +kernel
theorem dX11_image_33 : decode cX11_image 33 = .ok (.ireturn, 1) := by decide +kernel
set_option maxRecDepth 20000 in
theorem ggX11_restore_X8_copyFrom : GoodIn wsX11_restore wsX8_copyFrom := goodIn_r _ [9, 10, 11, 12, 13, 14, 15, 16, 17, 18, 19, 20, 21, 22, 23, 24, 25, 26, 27, 28, 29, 30, 31, 32, 33, 34, 35, 36, 37, 38, 39, 40, 41, 42, 43, 44, 45, 46, 47, 48, 49, 58, 59, 60, 61, 62, 63, 64, 65, 66, 67, 68, 69, 70, 71, 72, 73, 74, 75, 76, 77, 78, 79, 80, 81] (by decide +kernel) (by decide +kernel)
set_option maxRecDepth 20000 in
theorem gX11_restore_X8_copyFrom : GoodIn wsX11_restore (wsV RX11 238 RX8 yX8_copyFrom wsX8_copyFrom) := goodIn_app (goodIn_of _ (by decide +kernel)) ggX11_restore_X8_copyFrom
theorem dX11_restore_0 : decode cX11_restore 0 = .ok (.aload_n 0, 1) := by decide +kernel
theorem dX11_restore_1 : decode cX11_restore 1 = .ok (.getfield 57, 3) := by decide +kernel
theorem dX11_restore_4 : decode cX11_restore 4 = .ok (.ifCond .ne 6, 3) := by decide +kernel
theorem dX11_restore_7 : decode cX11_restore 7 = .ok (.bipush (-103), 2) := by decide +kernel
theorem dX11_restore_9 : decode cX11_restore 9 = .ok (.ireturn, 1) := by decide +kernel
theorem dX11_restore_10 : decode cX11_restore 10 = .ok (.aload_n 0, 1) := by decide +kernel
theorem dX11_restore_11 : decode cX11_restore 11 = .ok (.getfield 43, 3) := by decide +kernel
theorem dX11_restore_14 : decode cX11_restore 14 = .ok (.aload_n 0, 1) := by decide +kernel
theorem dX11_restore_15 : decode cX11_restore 15 = .ok (.getfield 47, 3) := by decide +kernel
theorem dX11_restore_18 : decode cX11_restore 18 = .ok (.invokevirtual 238, 3) := by decide +kernel
theorem dX11_restore_21 : decode cX11_restore 21 = .ok (.aload_n 0, 1) := by decide +kernel
theorem dX11_restore_22 : decode cX11_restore 22 = .ok (.getfield 43, 3) := by decide +kernel
theorem dX11_restore_25 : decode cX11_restore 25 = .ok (.getfield 181, 3) := by decide +kernel
theorem dX11_restore_28 : decode cX11_restore 28 = .ok (.ireturn, 1) := by decide +kernel
set_option maxRecDepth 20000 in
theorem ggX11_count_X2_allCows : GoodIn wsX11_count wsX2_allCows := goodIn_r _ [19, 20, 21, 44, 45, 46, 47, 48] (by decide +kernel) (by decide +kernel)
set_option maxRecDepth 20000 in
theorem gX11_count_X2_allCows : GoodIn wsX11_count (wsV RX11 235 RX2 yX2_allCows wsX2_allCows) := goodIn_app (goodIn_of _ (by decide +kernel)) ggX11_count_X2_allCows
set_option maxRecDepth 20000 in
theorem ggX11_count_X2_allOwed : GoodIn wsX11_count wsX2_allOwed := goodIn_r _ [25, 20, 26, 27, 28, 18, 29, 30, 44, 45, 46, 47, 48] (by decide +kernel) (by decide +kernel)
set_option maxRecDepth 20000 in
theorem gX11_count_X2_allOwed : GoodIn wsX11_count (wsV RX11 184 RX2 yX2_allOwed wsX2_allOwed) := goodIn_app (goodIn_of _ (by decide +kernel)) ggX11_count_X2_allOwed
theorem dX11_count_0 : decode cX11_count 0 = .ok (.iload_n 1, 1) := by decide +kernel
theorem dX11_count_1 : decode cX11_count 1 = .ok (.tableswitch 153 0 9 #[55, 66, 77, 88, 99, 110, 118, 129, 140, 148], 55) := by decide +kernel
theorem dX11_count_56 : decode cX11_count 56 = .ok (.aload_n 0, 1) := by decide +kernel
theorem dX11_count_57 : decode cX11_count 57 = .ok (.getfield 43, 3) := by decide +kernel
theorem dX11_count_60 : decode cX11_count 60 = .ok (.getfield 97, 3) := by decide +kernel
theorem dX11_count_63 : decode cX11_count 63 = .ok (.getfield 241, 3) := by decide +kernel
theorem dX11_count_66 : decode cX11_count 66 = .ok (.ireturn, 1) := by decide +kernel
theorem dX11_count_67 : decode cX11_count 67 = .ok (.aload_n 0, 1) := by decide +kernel
theorem dX11_count_68 : decode cX11_count 68 = .ok (.getfield 43, 3) := by decide +kernel
theorem dX11_count_71 : decode cX11_count 71 = .ok (.getfield 97, 3) := by decide +kernel
theorem dX11_count_74 : decode cX11_count 74 = .ok (.getfield 140, 3) := by decide +kernel
theorem dX11_count_77 : decode cX11_count 77 = .ok (.ireturn, 1) := by decide +kernel
theorem dX11_count_78 : decode cX11_count 78 = .ok (.aload_n 0, 1) := by decide +kernel
theorem dX11_count_79 : decode cX11_count 79 = .ok (.getfield 43, 3) := by decide +kernel
theorem dX11_count_82 : decode cX11_count 82 = .ok (.getfield 97, 3) := by decide +kernel
theorem dX11_count_85 : decode cX11_count 85 = .ok (.invokevirtual 235, 3) := by decide +kernel
theorem dX11_count_88 : decode cX11_count 88 = .ok (.ireturn, 1) := by decide +kernel
theorem dX11_count_89 : decode cX11_count 89 = .ok (.aload_n 0, 1) := by decide +kernel
theorem dX11_count_90 : decode cX11_count 90 = .ok (.getfield 43, 3) := by decide +kernel
theorem dX11_count_93 : decode cX11_count 93 = .ok (.getfield 97, 3) := by decide +kernel
theorem dX11_count_96 : decode cX11_count 96 = .ok (.invokevirtual 184, 3) := by decide +kernel
theorem dX11_count_99 : decode cX11_count 99 = .ok (.ireturn, 1) := by decide +kernel
theorem dX11_count_100 : decode cX11_count 100 = .ok (.aload_n 0, 1) := by decide +kernel
theorem dX11_count_101 : decode cX11_count 101 = .ok (.getfield 43, 3) := by decide +kernel
theorem dX11_count_104 : decode cX11_count 104 = .ok (.getfield 147, 3) := by decide +kernel
theorem dX11_count_107 : decode cX11_count 107 = .ok (.getfield 151, 3) := by decide +kernel
theorem dX11_count_110 : decode cX11_count 110 = .ok (.ireturn, 1) := by decide +kernel
theorem dX11_count_111 : decode cX11_count 111 = .ok (.aload_n 0, 1) := by decide +kernel
theorem dX11_count_112 : decode cX11_count 112 = .ok (.getfield 43, 3) := by decide +kernel
theorem dX11_count_115 : decode cX11_count 115 = .ok (.getfield 181, 3) := by decide +kernel
theorem dX11_count_118 : decode cX11_count 118 = .ok (.ireturn, 1) := by decide +kernel
theorem dX11_count_119 : decode cX11_count 119 = .ok (.aload_n 0, 1) := by decide +kernel
theorem dX11_count_120 : decode cX11_count 120 = .ok (.getfield 43, 3) := by decide +kernel
theorem dX11_count_123 : decode cX11_count 123 = .ok (.getfield 190, 3) := by decide +kernel
theorem dX11_count_126 : decode cX11_count 126 = .ok (.getfield 194, 3) := by decide +kernel
theorem dX11_count_129 : decode cX11_count 129 = .ok (.ireturn, 1) := by decide +kernel
theorem dX11_count_130 : decode cX11_count 130 = .ok (.aload_n 0, 1) := by decide +kernel
theorem dX11_count_131 : decode cX11_count 131 = .ok (.getfield 43, 3) := by decide +kernel
theorem dX11_count_134 : decode cX11_count 134 = .ok (.getfield 213, 3) := by decide +kernel
theorem dX11_count_137 : decode cX11_count 137 = .ok (.getfield 217, 3) := by decide +kernel
theorem dX11_count_140 : decode cX11_count 140 = .ok (.ireturn, 1) := by decide +kernel
theorem dX11_count_141 : decode cX11_count 141 = .ok (.aload_n 0, 1) := by decide +kernel
theorem dX11_count_142 : decode cX11_count 142 = .ok (.getfield 34, 3) := by decide +kernel
theorem dX11_count_145 : decode cX11_count 145 = .ok (.getfield 65, 3) := by decide +kernel
theorem dX11_count_148 : decode cX11_count 148 = .ok (.ireturn, 1) := by decide +kernel
theorem dX11_count_149 : decode cX11_count 149 = .ok (.aload_n 0, 1) := by decide +kernel
theorem dX11_count_150 : decode cX11_count 150 = .ok (.getfield 61, 3) := by decide +kernel
theorem dX11_count_153 : decode cX11_count 153 = .ok (.ireturn, 1) := by decide +kernel
theorem dX11_count_154 : decode cX11_count 154 = .ok (.bipush (-102), 2) := by decide +kernel
theorem dX11_count_156 : decode cX11_count 156 = .ok (.ireturn, 1) := by decide +kernel
set_option maxRecDepth 20000 in
theorem ggX11_digest_X11_clan : GoodIn wsX11_digest wsX11_clan := goodIn_r _ [15, 2, 3, 16, 17, 18, 19, 20, 21, 22, 23, 24, 25, 26, 27, 28, 29, 30, 31, 32, 33, 34, 35, 36, 37, 38, 39, 40, 41, 42, 43, 44, 45, 46, 47, 48, 49, 50, 51, 52, 53, 54, 55, 56, 57, 58, 59, 60, 61, 62, 63, 64, 65, 66, 67, 68, 69, 70, 71, 72, 73, 74, 75, 76, 77, 78, 79, 80, 81, 82, 83, 84, 85, 86, 87, 88, 89, 90, 91, 92, 93, 94, 95, 96, 97, 98, 99, 100, 101, 102, 103, 104, 105, 259, 260, 261, 262, 263, 264, 265, 266, 267, 268, 269, 270, 271, 272, 273, 274, 275, 276] (by decide +kernel) (by decide +kernel)
set_option maxRecDepth 20000 in
theorem gX11_digest_X11_clan : GoodIn wsX11_digest (wsV RX11 247 RX11 yX11_clan wsX11_clan) := goodIn_app (goodIn_of _ (by decide +kernel)) ggX11_digest_X11_clan
set_option maxRecDepth 20000 in
theorem ggX11_digest_X11_mixed : GoodIn wsX11_digest wsX11_mixed := goodIn_r _ [108, 109] (by decide +kernel) (by decide +kernel)
set_option maxRecDepth 20000 in
theorem gX11_digest_X11_mixed : GoodIn wsX11_digest (va_wsS RX11 250 yX11_mixed wsX11_mixed) := goodIn_app (goodIn_of _ (by decide +kernel)) ggX11_digest_X11_mixed
set_option maxRecDepth 20000 in
theorem ggX11_digest_X11_wedding : GoodIn wsX11_digest wsX11_wedding := goodIn_r _ [113, 2, 6, 114, 115, 116, 117, 118, 119, 120, 121, 122, 123, 259, 260, 261, 262, 263, 264, 265, 266, 267, 268, 269, 270, 271, 277, 278, 279, 280, 281] (by decide +kernel) (by decide +kernel)
set_option maxRecDepth 20000 in
theorem gX11_digest_X11_wedding : GoodIn wsX11_digest (wsV RX11 254 RX11 yX11_wedding wsX11_wedding) := goodIn_app (goodIn_of _ (by decide +kernel)) ggX11_digest_X11_wedding
set_option maxRecDepth 20000 in
theorem ggX11_digest_X11_hasHills : GoodIn wsX11_digest wsX11_hasHills := goodIn_r _ [127, 2, 3, 4, 259, 260, 261, 262, 263, 264, 265, 266, 267, 268, 269, 270, 271, 272, 273, 274, 275, 276] (by decide +kernel) (by decide +kernel)
set_option maxRecDepth 20000 in
theorem gX11_digest_X11_hasHills : GoodIn wsX11_digest (wsV RX11 137 RX11 yX11_hasHills wsX11_hasHills) := goodIn_app (goodIn_of _ (by decide +kernel)) ggX11_digest_X11_hasHills
set_option maxRecDepth 20000 in
theorem ggX11_digest_X11_mixedShallBe : GoodIn wsX11_digest wsX11_mixedShallBe := goodIn_r _ [131, 2, 3, 132, 133, 134, 135, 136, 137, 22, 138, 24, 139, 75, 76, 77, 140, 103, 104, 105, 101, 141, 98, 99, 100, 106, 107, 14, 108, 109, 142, 143, 144, 145, 146, 147, 148, 149, 150, 151, 152, 153, 154, 155, 156, 157, 158, 159, 160, 161, 54, 83, 162, 163, 164, 165, 166, 167, 168, 169, 170, 171, 172, 53, 55, 56, 57, 58, 36, 59, 60, 61, 62, 63, 64, 39, 65, 66, 67, 68, 69, 47, 70, 71, 72, 43, 73, 74, 78, 173, 174, 175, 176, 177, 178, 179, 84, 85, 86, 87, 88, 30, 89, 90, 91, 92, 93, 94, 95, 96, 180, 181, 182, 183, 184, 185, 186, 187, 188, 189, 190, 191, 192, 193, 194, 195, 196, 197, 198, 199, 200, 201, 202, 203, 204, 205, 259, 260, 261, 262, 263, 264, 265, 266, 267, 268, 269, 270, 271, 284, 285, 286, 287, 288, 289, 272, 273, 274, 275, 276] (by decide +kernel) (by decide +kernel)
set_option maxRecDepth 20000 in
theorem gX11_digest_X11_mixedShallBe : GoodIn wsX11_digest (wsV RX11 257 RX11 yX11_mixedShallBe wsX11_mixedShallBe) := goodIn_app (goodIn_of _ (by decide +kernel)) ggX11_digest_X11_mixedShallBe
set_option maxRecDepth 20000 in
theorem ggX11_digest_X11_which : GoodIn wsX11_digest wsX11_which := goodIn_r _ [209, 2, 210, 211, 212, 213, 214, 215, 216, 217, 218, 219, 220, 221, 222, 223, 224, 56, 57, 58, 36, 59, 225, 61, 62, 63, 64, 39, 65, 66, 67, 68, 69, 47, 70, 71, 72, 43, 73, 74, 75, 76, 77, 78, 259, 260, 261, 262, 263, 264, 265, 266, 267, 268, 269, 270, 271, 290, 291, 292] (by decide +kernel) (by decide +kernel)
set_option maxRecDepth 20000 in
theorem gX11_digest_X11_which : GoodIn wsX11_digest (wsV RX11 261 RX11 yX11_which wsX11_which) := goodIn_app (goodIn_of _ (by decide +kernel)) ggX11_digest_X11_which
set_option maxRecDepth 20000 in
theorem ggX11_digest_X11_ask : GoodIn wsX11_digest wsX11_ask := goodIn_r _ [229, 2, 210, 211, 230, 231, 232, 215, 233, 234, 213, 214, 216, 217, 218, 219, 220, 221, 222, 223, 224, 56, 57, 58, 36, 59, 225, 61, 62, 63, 64, 39, 65, 66, 67, 68, 69, 47, 70, 71, 72, 43, 73, 74, 75, 76, 77, 78, 235, 236, 237, 238, 239, 240, 241, 242, 243, 244, 259, 260, 261, 262, 263, 264, 265, 266, 267, 268, 269, 270, 271, 290, 291, 292] (by decide +kernel) (by decide +kernel)
set_option maxRecDepth 20000 in
theorem gX11_digest_X11_ask : GoodIn wsX11_digest (wsV RX11 264 RX11 yX11_ask wsX11_ask) := goodIn_app (goodIn_of _ (by decide +kernel)) ggX11_digest_X11_ask
set_option maxRecDepth 20000 in
theorem ggX11_digest_X11_count : GoodIn wsX11_digest wsX11_count := goodIn_r _ [248, 2, 3, 4, 249, 6, 7, 250, 132, 251, 210, 252, 8, 9, 253, 254, 255, 256, 22, 257, 24, 83, 258, 181, 182, 183, 141, 98, 99, 100, 101, 259, 260, 261, 262, 263, 264, 265, 266, 267, 268, 269, 270, 271, 272, 273, 274, 275, 276, 277, 278, 279, 280, 281, 284, 285, 286, 287, 288, 289, 290, 291, 292, 282, 283] (by decide +kernel) (by decide +kernel)
set_option maxRecDepth 20000 in
theorem gX11_digest_X11_count : GoodIn wsX11_digest (wsV RX11 270 RX11 yX11_count wsX11_count) := goodIn_app (goodIn_of _ (by decide +kernel)) ggX11_digest_X11_count
theorem dX11_digest_0 : decode cX11_digest 0 = .ok (.ldc2_w 242, 3) := by decide +kernel
theorem dX11_digest_3 : decode cX11_digest 3 = .ok (.lstore_n 1, 1) := by decide +kernel
theorem dX11_digest_4 : decode cX11_digest 4 = .ok (.iconst 0, 1) := by decide +kernel
theorem dX11_digest_5 : decode cX11_digest 5 = .ok (.istore_n 3, 1) := by decide +kernel
theorem dX11_digest_6 : decode cX11_digest 6 = .ok (.iload_n 3, 1) := by decide +kernel
theorem dX11_digest_7 : decode cX11_digest 7 = .ok (.aload_n 0, 1) := by decide +kernel
theorem dX11_digest_8 : decode cX11_digest 8 = .ok (.getfield 43, 3) := by decide +kernel
theorem dX11_digest_11 : decode cX11_digest 11 = .ok (.getfield 97, 3) := by decide +kernel
theorem dX11_digest_14 : decode cX11_digest 14 = .ok (.getfield 241, 3) := by decide +kernel
theorem dX11_digest_17 : decode cX11_digest 17 = .ok (.if_icmp .ge 55, 3) := by decide +kernel
theorem dX11_digest_20 : decode cX11_digest 20 = .ok (.getstatic 244, 3) := by decide +kernel
theorem dX11_digest_23 : decode cX11_digest 23 = .ok (.astore 4, 2) := by decide +kernel
theorem dX11_digest_25 : decode cX11_digest 25 = .ok (.aload 4, 2) := by decide +kernel
theorem dX11_digest_27 : decode cX11_digest 27 = .ok (.arraylength, 1) := by decide +kernel
theorem dX11_digest_28 : decode cX11_digest 28 = .ok (.istore 5, 2) := by decide +kernel
theorem dX11_digest_30 : decode cX11_digest 30 = .ok (.iconst 0, 1) := by decide +kernel
theorem dX11_digest_31 : decode cX11_digest 31 = .ok (.istore 6, 2) := by decide +kernel
theorem dX11_digest_33 : decode cX11_digest 33 = .ok (.iload 6, 2) := by decide +kernel
theorem dX11_digest_35 : decode cX11_digest 35 = .ok (.iload 5, 2) := by decide +kernel
theorem dX11_digest_37 : decode cX11_digest 37 = .ok (.if_icmp .ge 29, 3) := by decide +kernel
theorem dX11_digest_40 : decode cX11_digest 40 = .ok (.aload 4, 2) := by decide +kernel
theorem dX11_digest_42 : decode cX11_digest 42 = .ok (.iload 6, 2) := by decide +kernel
theorem dX11_digest_44 : decode cX11_digest 44 = .ok (.iaload, 1) := by decide +kernel
theorem dX11_digest_45 : decode cX11_digest 45 = .ok (.istore 7, 2) := by decide +kernel
theorem dX11_digest_47 : decode cX11_digest 47 = .ok (.lload_n 1, 1) := by decide +kernel
theorem dX11_digest_48 : decode cX11_digest 48 = .ok (.aload_n 0, 1) := by decide +kernel
theorem dX11_digest_49 : decode cX11_digest 49 = .ok (.iload_n 3, 1) := by decide +kernel
theorem dX11_digest_50 : decode cX11_digest 50 = .ok (.iload 7, 2) := by decide +kernel
theorem dX11_digest_52 : decode cX11_digest 52 = .ok (.invokevirtual 247, 3) := by decide +kernel
theorem dX11_digest_55 : decode cX11_digest 55 = .ok (.i2l, 1) := by decide +kernel
theorem dX11_digest_56 : decode cX11_digest 56 = .ok (.invokestatic 250, 3) := by decide +kernel
theorem dX11_digest_59 : decode cX11_digest 59 = .ok (.lstore_n 1, 1) := by decide +kernel
theorem dX11_digest_60 : decode cX11_digest 60 = .ok (.iinc 6 1, 3) := by decide +kernel
theorem dX11_digest_63 : decode cX11_digest 63 = .ok (.goto (-30), 3) := by decide +kernel
theorem dX11_digest_66 : decode cX11_digest 66 = .ok (.iinc 3 1, 3) := by decide +kernel
theorem dX11_digest_69 : decode cX11_digest 69 = .ok (.goto (-63), 3) := by decide +kernel
theorem dX11_digest_72 : decode cX11_digest 72 = .ok (.iconst 0, 1) := by decide +kernel
theorem dX11_digest_73 : decode cX11_digest 73 = .ok (.istore_n 3, 1) := by decide +kernel
theorem dX11_digest_74 : decode cX11_digest 74 = .ok (.iload_n 3, 1) := by decide +kernel
theorem dX11_digest_75 : decode cX11_digest 75 = .ok (.aload_n 0, 1) := by decide +kernel
theorem dX11_digest_76 : decode cX11_digest 76 = .ok (.getfield 43, 3) := by decide +kernel
theorem dX11_digest_79 : decode cX11_digest 79 = .ok (.getfield 147, 3) := by decide +kernel
theorem dX11_digest_82 : decode cX11_digest 82 = .ok (.getfield 151, 3) := by decide +kernel
theorem dX11_digest_85 : decode cX11_digest 85 = .ok (.if_icmp .ge 37, 3) := by decide +kernel
theorem dX11_digest_88 : decode cX11_digest 88 = .ok (.iconst 0, 1) := by decide +kernel
theorem dX11_digest_89 : decode cX11_digest 89 = .ok (.istore 4, 2) := by decide +kernel
theorem dX11_digest_91 : decode cX11_digest 91 = .ok (.iload 4, 2) := by decide +kernel
theorem dX11_digest_93 : decode cX11_digest 93 = .ok (.iconst 4, 1) := by decide +kernel
theorem dX11_digest_94 : decode cX11_digest 94 = .ok (.if_icmp .ge 22, 3) := by decide +kernel
theorem dX11_digest_97 : decode cX11_digest 97 = .ok (.lload_n 1, 1) := by decide +kernel
theorem dX11_digest_98 : decode cX11_digest 98 = .ok (.aload_n 0, 1) := by decide +kernel
theorem dX11_digest_99 : decode cX11_digest 99 = .ok (.iload_n 3, 1) := by decide +kernel
theorem dX11_digest_100 : decode cX11_digest 100 = .ok (.iload 4, 2) := by decide +kernel
theorem dX11_digest_102 : decode cX11_digest 102 = .ok (.invokevirtual 254, 3) := by decide +kernel
theorem dX11_digest_105 : decode cX11_digest 105 = .ok (.i2l, 1) := by decide +kernel
theorem dX11_digest_106 : decode cX11_digest 106 = .ok (.invokestatic 250, 3) := by decide +kernel
theorem dX11_digest_109 : decode cX11_digest 109 = .ok (.lstore_n 1, 1) := by decide +kernel
theorem dX11_digest_110 : decode cX11_digest 110 = .ok (.iinc 4 1, 3) := by decide +kernel
theorem dX11_digest_113 : decode cX11_digest 113 = .ok (.goto (-22), 3) := by decide +kernel
theorem dX11_digest_116 : decode cX11_digest 116 = .ok (.iinc 3 1, 3) := by decide +kernel
theorem dX11_digest_119 : decode cX11_digest 119 = .ok (.goto (-45), 3) := by decide +kernel
theorem dX11_digest_122 : decode cX11_digest 122 = .ok (.aload_n 0, 1) := by decide +kernel
theorem dX11_digest_123 : decode cX11_digest 123 = .ok (.invokevirtual 137, 3) := by decide +kernel
theorem dX11_digest_126 : decode cX11_digest 126 = .ok (.ifCond .eq 9, 3) := by decide +kernel
theorem dX11_digest_129 : decode cX11_digest 129 = .ok (.aload_n 0, 1) := by decide +kernel
theorem dX11_digest_130 : decode cX11_digest 130 = .ok (.lload_n 1, 1) := by decide +kernel
theorem dX11_digest_131 : decode cX11_digest 131 = .ok (.invokevirtual 257, 3) := by decide +kernel
theorem dX11_digest_134 : decode cX11_digest 134 = .ok (.lstore_n 1, 1) := by decide +kernel
theorem dX11_digest_135 : decode cX11_digest 135 = .ok (.lload_n 1, 1) := by decide +kernel
theorem dX11_digest_136 : decode cX11_digest 136 = .ok (.aload_n 0, 1) := by decide +kernel
theorem dX11_digest_137 : decode cX11_digest 137 = .ok (.invokevirtual 261, 3) := by decide +kernel
theorem dX11_digest_140 : decode cX11_digest 140 = .ok (.i2l, 1) := by decide +kernel
theorem dX11_digest_141 : decode cX11_digest 141 = .ok (.invokestatic 250, 3) := by decide +kernel
theorem dX11_digest_144 : decode cX11_digest 144 = .ok (.lstore_n 1, 1) := by decide +kernel
theorem dX11_digest_145 : decode cX11_digest 145 = .ok (.lload_n 1, 1) := by decide +kernel
theorem dX11_digest_146 : decode cX11_digest 146 = .ok (.aload_n 0, 1) := by decide +kernel
theorem dX11_digest_147 : decode cX11_digest 147 = .ok (.invokevirtual 264, 3) := by decide +kernel
theorem dX11_digest_150 : decode cX11_digest 150 = .ok (.i2l, 1) := by decide +kernel
theorem dX11_digest_151 : decode cX11_digest 151 = .ok (.invokestatic 250, 3) := by decide +kernel
theorem dX11_digest_154 : decode cX11_digest 154 = .ok (.lstore_n 1, 1) := by decide +kernel
theorem dX11_digest_155 : decode cX11_digest 155 = .ok (.iconst 0, 1) := by decide +kernel
theorem dX11_digest_156 : decode cX11_digest 156 = .ok (.istore_n 3, 1) := by decide +kernel
theorem dX11_digest_157 : decode cX11_digest 157 = .ok (.iload_n 3, 1) := by decide +kernel
theorem dX11_digest_158 : decode cX11_digest 158 = .ok (.aload_n 0, 1) := by decide +kernel
theorem dX11_digest_159 : decode cX11_digest 159 = .ok (.getfield 34, 3) := by decide +kernel
theorem dX11_digest_162 : decode cX11_digest 162 = .ok (.getfield 65, 3) := by decide +kernel
theorem dX11_digest_165 : decode cX11_digest 165 = .ok (.if_icmp .ge 24, 3) := by decide +kernel
theorem dX11_digest_168 : decode cX11_digest 168 = .ok (.lload_n 1, 1) := by decide +kernel
theorem dX11_digest_169 : decode cX11_digest 169 = .ok (.aload_n 0, 1) := by decide +kernel
theorem dX11_digest_170 : decode cX11_digest 170 = .ok (.getfield 34, 3) := by decide +kernel
theorem dX11_digest_173 : decode cX11_digest 173 = .ok (.getfield 267, 3) := by decide +kernel
theorem dX11_digest_176 : decode cX11_digest 176 = .ok (.iload_n 3, 1) := by decide +kernel
theorem dX11_digest_177 : decode cX11_digest 177 = .ok (.iaload, 1) := by decide +kernel
theorem dX11_digest_178 : decode cX11_digest 178 = .ok (.i2l, 1) := by decide +kernel
theorem dX11_digest_179 : decode cX11_digest 179 = .ok (.invokestatic 250, 3) := by decide +kernel
theorem dX11_digest_182 : decode cX11_digest 182 = .ok (.lstore_n 1, 1) := by decide +kernel
theorem dX11_digest_183 : decode cX11_digest 183 = .ok (.iinc 3 1, 3) := by decide +kernel
theorem dX11_digest_186 : decode cX11_digest 186 = .ok (.goto (-29), 3) := by decide +kernel
theorem dX11_digest_189 : decode cX11_digest 189 = .ok (.iconst 0, 1) := by decide +kernel
theorem dX11_digest_190 : decode cX11_digest 190 = .ok (.istore_n 3, 1) := by decide +kernel
theorem dX11_digest_191 : decode cX11_digest 191 = .ok (.iload_n 3, 1) := by decide +kernel
theorem dX11_digest_192 : decode cX11_digest 192 = .ok (.bipush 10, 2) := by decide +kernel
theorem dX11_digest_194 : decode cX11_digest 194 = .ok (.if_icmp .ge 20, 3) := by decide +kernel
theorem dX11_digest_197 : decode cX11_digest 197 = .ok (.lload_n 1, 1) := by decide +kernel
theorem dX11_digest_198 : decode cX11_digest 198 = .ok (.aload_n 0, 1) := by decide +kernel
theorem dX11_digest_199 : decode cX11_digest 199 = .ok (.iload_n 3, 1) := by decide +kernel
theorem dX11_digest_200 : decode cX11_digest 200 = .ok (.invokevirtual 270, 3) := by decide +kernel
theorem dX11_digest_203 : decode cX11_digest 203 = .ok (.i2l, 1) := by decide +kernel
theorem dX11_digest_204 : decode cX11_digest 204 = .ok (.invokestatic 250, 3) := by decide +kernel
theorem dX11_digest_207 : decode cX11_digest 207 = .ok (.lstore_n 1, 1) := by decide +kernel
theorem dX11_digest_208 : decode cX11_digest 208 = .ok (.iinc 3 1, 3) := by decide +kernel
theorem dX11_digest_211 : decode cX11_digest 211 = .ok (.goto (-20), 3) := by decide +kernel
theorem dX11_digest_214 : decode cX11_digest 214 = .ok (.lload_n 1, 1) := by decide +kernel
theorem dX11_digest_215 : decode cX11_digest 215 = .ok (.lreturn, 1) := by decide +kernel
set_option maxRecDepth 20000 in
theorem ggX11_mixedShallBe_X2_leastLed : GoodIn wsX11_mixedShallBe wsX2_leastLed := goodIn_r _ [10, 11, 12, 13, 14, 15, 16, 17, 18, 9, 19, 20, 21, 22, 23, 24, 155, 156, 157, 158, 159] (by decide +kernel) (by decide +kernel)
set_option maxRecDepth 20000 in
theorem gX11_mixedShallBe_X2_leastLed : GoodIn wsX11_mixedShallBe (wsV RX11 187 RX2 yX2_leastLed wsX2_leastLed) := goodIn_app (goodIn_of _ (by decide +kernel)) ggX11_mixedShallBe_X2_leastLed
set_option maxRecDepth 20000 in
theorem ggX11_mixedShallBe_X11_mixed : GoodIn wsX11_mixedShallBe wsX11_mixed := goodIn_r _ [28, 29] (by decide +kernel) (by decide +kernel)
set_option maxRecDepth 20000 in
theorem gX11_mixedShallBe_X11_mixed : GoodIn wsX11_mixedShallBe (va_wsS RX11 250 yX11_mixed wsX11_mixed) := goodIn_app (goodIn_of _ (by decide +kernel)) ggX11_mixedShallBe_X11_mixed
set_option maxRecDepth 20000 in
theorem ggX11_mixedShallBe_X5_findOrder : GoodIn wsX11_mixedShallBe wsX5_findOrder := goodIn_r _ [34, 35, 36, 37, 38, 39, 40, 41, 42, 43, 44, 33, 45, 46, 47, 48, 9, 49, 11, 50, 51, 20, 52, 53, 54, 55, 56, 57, 58, 59, 60, 61, 62, 63, 64, 65, 66, 67, 68, 69, 70, 71, 72, 73, 74, 75, 76, 77, 78, 79, 80, 81, 82, 83, 84, 85, 86, 87, 13, 14, 15, 88, 89, 90, 91, 92, 93, 94, 95, 96, 97, 98, 99, 100, 101, 102, 103, 104, 105, 106, 107, 108, 109, 110, 111, 112, 113, 21, 22, 23, 24, 114, 115, 116, 117, 118, 119, 120, 121, 149, 150, 151, 152, 153, 154, 155, 156, 157, 158, 159] (by decide +kernel) (by decide +kernel)
set_option maxRecDepth 20000 in
theorem gX11_mixedShallBe_X5_findOrder : GoodIn wsX11_mixedShallBe (wsV RX11 199 RX5 yX5_findOrder wsX5_findOrder) := goodIn_app (goodIn_of _ (by decide +kernel)) ggX11_mixedShallBe_X5_findOrder
set_option maxRecDepth 20000 in
theorem ggX11_mixedShallBe_X5_bestAt : GoodIn wsX11_mixedShallBe wsX5_bestAt := goodIn_r _ [125, 56, 37, 149, 150, 151, 152, 153, 154] (by decide +kernel) (by decide +kernel)
set_option maxRecDepth 20000 in
theorem gX11_mixedShallBe_X5_bestAt : GoodIn wsX11_mixedShallBe (wsV RX11 203 RX5 yX5_bestAt wsX5_bestAt) := goodIn_app (goodIn_of _ (by decide +kernel)) ggX11_mixedShallBe_X5_bestAt
set_option maxRecDepth 20000 in
theorem ggX11_mixedShallBe_X5_highestRate : GoodIn wsX11_mixedShallBe wsX5_highestRate := goodIn_r _ [129, 130, 42, 43, 44, 33, 45, 36, 46, 47, 48, 9, 49, 11, 50, 51, 20, 52, 53, 54, 55, 56, 57, 58, 59, 60, 61, 62, 63, 64, 65, 66, 67, 68, 69, 70, 71, 72, 73, 74, 75, 76, 77, 78, 79, 80, 81, 82, 83, 84, 85, 86, 87, 13, 14, 15, 88, 89, 90, 91, 92, 93, 94, 95, 96, 97, 98, 99, 100, 101, 102, 103, 104, 105, 106, 107, 108, 109, 131, 132, 133, 134, 135, 22, 23, 24, 155, 156, 157, 158, 159, 149, 150, 151, 152, 153, 154] (by decide +kernel) (by decide +kernel)
set_option maxRecDepth 20000 in
theorem gX11_mixedShallBe_X5_highestRate : GoodIn wsX11_mixedShallBe (wsV RX11 209 RX5 yX5_highestRate wsX5_highestRate) := goodIn_app (goodIn_of _ (by decide +kernel)) ggX11_mixedShallBe_X5_highestRate
theorem dX11_mixedShallBe_0 : decode cX11_mixedShallBe 0 = .ok (.lload_n 1, 1) := by decide +kernel
theorem dX11_mixedShallBe_1 : decode cX11_mixedShallBe 1 = .ok (.aload_n 0, 1) := by decide +kernel
theorem dX11_mixedShallBe_2 : decode cX11_mixedShallBe 2 = .ok (.getfield 43, 3) := by decide +kernel
theorem dX11_mixedShallBe_5 : decode cX11_mixedShallBe 5 = .ok (.getfield 97, 3) := by decide +kernel
theorem dX11_mixedShallBe_8 : decode cX11_mixedShallBe 8 = .ok (.invokevirtual 187, 3) := by decide +kernel
theorem dX11_mixedShallBe_11 : decode cX11_mixedShallBe 11 = .ok (.i2l, 1) := by decide +kernel
theorem dX11_mixedShallBe_12 : decode cX11_mixedShallBe 12 = .ok (.invokestatic 250, 3) := by decide +kernel
theorem dX11_mixedShallBe_15 : decode cX11_mixedShallBe 15 = .ok (.lstore_n 3, 1) := by decide +kernel
theorem dX11_mixedShallBe_16 : decode cX11_mixedShallBe 16 = .ok (.aload_n 0, 1) := by decide +kernel
theorem dX11_mixedShallBe_17 : decode cX11_mixedShallBe 17 = .ok (.getfield 43, 3) := by decide +kernel
theorem dX11_mixedShallBe_20 : decode cX11_mixedShallBe 20 = .ok (.getfield 190, 3) := by decide +kernel
theorem dX11_mixedShallBe_23 : decode cX11_mixedShallBe 23 = .ok (.aload_n 0, 1) := by decide +kernel
theorem dX11_mixedShallBe_24 : decode cX11_mixedShallBe 24 = .ok (.getfield 43, 3) := by decide +kernel
theorem dX11_mixedShallBe_27 : decode cX11_mixedShallBe 27 = .ok (.getfield 97, 3) := by decide +kernel
theorem dX11_mixedShallBe_30 : decode cX11_mixedShallBe 30 = .ok (.aload_n 0, 1) := by decide +kernel
theorem dX11_mixedShallBe_31 : decode cX11_mixedShallBe 31 = .ok (.getfield 53, 3) := by decide +kernel
theorem dX11_mixedShallBe_34 : decode cX11_mixedShallBe 34 = .ok (.invokevirtual 199, 3) := by decide +kernel
theorem dX11_mixedShallBe_37 : decode cX11_mixedShallBe 37 = .ok (.lload_n 3, 1) := by decide +kernel
theorem dX11_mixedShallBe_38 : decode cX11_mixedShallBe 38 = .ok (.aload_n 0, 1) := by decide +kernel
theorem dX11_mixedShallBe_39 : decode cX11_mixedShallBe 39 = .ok (.getfield 43, 3) := by decide +kernel
theorem dX11_mixedShallBe_42 : decode cX11_mixedShallBe 42 = .ok (.getfield 190, 3) := by decide +kernel
theorem dX11_mixedShallBe_45 : decode cX11_mixedShallBe 45 = .ok (.getfield 206, 3) := by decide +kernel
theorem dX11_mixedShallBe_48 : decode cX11_mixedShallBe 48 = .ok (.i2l, 1) := by decide +kernel
theorem dX11_mixedShallBe_49 : decode cX11_mixedShallBe 49 = .ok (.invokestatic 250, 3) := by decide +kernel
theorem dX11_mixedShallBe_52 : decode cX11_mixedShallBe 52 = .ok (.lstore_n 3, 1) := by decide +kernel
theorem dX11_mixedShallBe_53 : decode cX11_mixedShallBe 53 = .ok (.iconst 0, 1) := by decide +kernel
theorem dX11_mixedShallBe_54 : decode cX11_mixedShallBe 54 = .ok (.istore 5, 2) := by decide +kernel
theorem dX11_mixedShallBe_56 : decode cX11_mixedShallBe 56 = .ok (.iload 5, 2) := by decide +kernel
theorem dX11_mixedShallBe_58 : decode cX11_mixedShallBe 58 = .ok (.iconst 4, 1) := by decide +kernel
theorem dX11_mixedShallBe_59 : decode cX11_mixedShallBe 59 = .ok (.if_icmp .ge 27, 3) := by decide +kernel
theorem dX11_mixedShallBe_62 : decode cX11_mixedShallBe 62 = .ok (.lload_n 3, 1) := by decide +kernel
theorem dX11_mixedShallBe_63 : decode cX11_mixedShallBe 63 = .ok (.aload_n 0, 1) := by decide +kernel
theorem dX11_mixedShallBe_64 : decode cX11_mixedShallBe 64 = .ok (.getfield 43, 3) := by decide +kernel
theorem dX11_mixedShallBe_67 : decode cX11_mixedShallBe 67 = .ok (.getfield 190, 3) := by decide +kernel
theorem dX11_mixedShallBe_70 : decode cX11_mixedShallBe 70 = .ok (.iload 5, 2) := by decide +kernel
theorem dX11_mixedShallBe_72 : decode cX11_mixedShallBe 72 = .ok (.invokevirtual 203, 3) := by decide +kernel
theorem dX11_mixedShallBe_75 : decode cX11_mixedShallBe 75 = .ok (.i2l, 1) := by decide +kernel
theorem dX11_mixedShallBe_76 : decode cX11_mixedShallBe 76 = .ok (.invokestatic 250, 3) := by decide +kernel
theorem dX11_mixedShallBe_79 : decode cX11_mixedShallBe 79 = .ok (.lstore_n 3, 1) := by decide +kernel
theorem dX11_mixedShallBe_80 : decode cX11_mixedShallBe 80 = .ok (.iinc 5 1, 3) := by decide +kernel
theorem dX11_mixedShallBe_83 : decode cX11_mixedShallBe 83 = .ok (.goto (-27), 3) := by decide +kernel
theorem dX11_mixedShallBe_86 : decode cX11_mixedShallBe 86 = .ok (.lload_n 3, 1) := by decide +kernel
theorem dX11_mixedShallBe_87 : decode cX11_mixedShallBe 87 = .ok (.aload_n 0, 1) := by decide +kernel
theorem dX11_mixedShallBe_88 : decode cX11_mixedShallBe 88 = .ok (.getfield 43, 3) := by decide +kernel
theorem dX11_mixedShallBe_91 : decode cX11_mixedShallBe 91 = .ok (.getfield 190, 3) := by decide +kernel
theorem dX11_mixedShallBe_94 : decode cX11_mixedShallBe 94 = .ok (.aload_n 0, 1) := by decide +kernel
theorem dX11_mixedShallBe_95 : decode cX11_mixedShallBe 95 = .ok (.getfield 43, 3) := by decide +kernel
theorem dX11_mixedShallBe_98 : decode cX11_mixedShallBe 98 = .ok (.getfield 97, 3) := by decide +kernel
theorem dX11_mixedShallBe_101 : decode cX11_mixedShallBe 101 = .ok (.aload_n 0, 1) := by decide +kernel
theorem dX11_mixedShallBe_102 : decode cX11_mixedShallBe 102 = .ok (.getfield 53, 3) := by decide +kernel
theorem dX11_mixedShallBe_105 : decode cX11_mixedShallBe 105 = .ok (.invokevirtual 209, 3) := by decide +kernel
theorem dX11_mixedShallBe_108 : decode cX11_mixedShallBe 108 = .ok (.i2l, 1) := by decide +kernel
theorem dX11_mixedShallBe_109 : decode cX11_mixedShallBe 109 = .ok (.invokestatic 250, 3) := by decide +kernel
theorem dX11_mixedShallBe_112 : decode cX11_mixedShallBe 112 = .ok (.lreturn, 1) := by decide +kernel
theorem dX11_mixed_0 : decode cX11_mixed 0 = .ok (.ldc2_w 273, 3) := by decide +kernel
theorem dX11_mixed_3 : decode cX11_mixed 3 = .ok (.lload_n 0, 1) := by decide +kernel
theorem dX11_mixed_4 : decode cX11_mixed 4 = .ok (.lmul, 1) := by decide +kernel
theorem dX11_mixed_5 : decode cX11_mixed 5 = .ok (.lload_n 2, 1) := by decide +kernel
theorem dX11_mixed_6 : decode cX11_mixed 6 = .ok (.ladd, 1) := by decide +kernel
theorem dX11_mixed_7 : decode cX11_mixed 7 = .ok (.lreturn, 1) := by decide +kernel
theorem dX11_hasHills_0 : decode cX11_hasHills 0 = .ok (.aload_n 0, 1) := by decide +kernel
theorem dX11_hasHills_1 : decode cX11_hasHills 1 = .ok (.getfield 43, 3) := by decide +kernel
theorem dX11_hasHills_4 : decode cX11_hasHills 4 = .ok (.getfield 97, 3) := by decide +kernel
theorem dX11_hasHills_7 : decode cX11_hasHills 7 = .ok (.getfield 241, 3) := by decide +kernel
theorem dX11_hasHills_10 : decode cX11_hasHills 10 = .ok (.ifCond .le 7, 3) := by decide +kernel
theorem dX11_hasHills_13 : decode cX11_hasHills 13 = .ok (.iconst 1, 1) := by decide +kernel
theorem dX11_hasHills_14 : decode cX11_hasHills 14 = .ok (.goto 4, 3) := by decide +kernel
theorem dX11_hasHills_17 : decode cX11_hasHills 17 = .ok (.iconst 0, 1) := by decide +kernel
theorem dX11_hasHills_18 : decode cX11_hasHills 18 = .ok (.ireturn, 1) := by decide +kernel
theorem dX11_kindAt_0 : decode cX11_kindAt 0 = .ok (.iload_n 1, 1) := by decide +kernel
theorem dX11_kindAt_1 : decode cX11_kindAt 1 = .ok (.ifCond .lt 21, 3) := by decide +kernel
theorem dX11_kindAt_4 : decode cX11_kindAt 4 = .ok (.iload_n 1, 1) := by decide +kernel
theorem dX11_kindAt_5 : decode cX11_kindAt 5 = .ok (.aload_n 0, 1) := by decide +kernel
theorem dX11_kindAt_6 : decode cX11_kindAt 6 = .ok (.getfield 22, 3) := by decide +kernel
theorem dX11_kindAt_9 : decode cX11_kindAt 9 = .ok (.arraylength, 1) := by decide +kernel
theorem dX11_kindAt_10 : decode cX11_kindAt 10 = .ok (.if_icmp .ge 12, 3) := by decide +kernel
theorem dX11_kindAt_13 : decode cX11_kindAt 13 = .ok (.aload_n 0, 1) := by decide +kernel
theorem dX11_kindAt_14 : decode cX11_kindAt 14 = .ok (.getfield 22, 3) := by decide +kernel
theorem dX11_kindAt_17 : decode cX11_kindAt 17 = .ok (.iload_n 1, 1) := by decide +kernel
theorem dX11_kindAt_18 : decode cX11_kindAt 18 = .ok (.aaload, 1) := by decide +kernel
theorem dX11_kindAt_19 : decode cX11_kindAt 19 = .ok (.goto 9, 3) := by decide +kernel
theorem dX11_kindAt_22 : decode cX11_kindAt 22 = .ok (.aload_n 0, 1) := by decide +kernel
theorem dX11_kindAt_23 : decode cX11_kindAt 23 = .ok (.getfield 22, 3) := by decide +kernel
theorem dX11_kindAt_26 : decode cX11_kindAt 26 = .ok (.iconst 0, 1) := by decide +kernel
theorem dX11_kindAt_27 : decode cX11_kindAt 27 = .ok (.aaload, 1) := by decide +kernel
theorem dX11_kindAt_28 : decode cX11_kindAt 28 = .ok (.areturn, 1) := by decide +kernel
theorem dX11_isRate_0 : decode cX11_isRate 0 = .ok (.iload_n 0, 1) := by decide +kernel
theorem dX11_isRate_1 : decode cX11_isRate 1 = .ok (.iconst 1, 1) := by decide +kernel
theorem dX11_isRate_2 : decode cX11_isRate 2 = .ok (.if_icmp .lt 13, 3) := by decide +kernel
theorem dX11_isRate_5 : decode cX11_isRate 5 = .ok (.iload_n 0, 1) := by decide +kernel
theorem dX11_isRate_6 : decode cX11_isRate 6 = .ok (.bipush 9, 2) := by decide +kernel
theorem dX11_isRate_8 : decode cX11_isRate 8 = .ok (.if_icmp .gt 7, 3) := by decide +kernel
theorem dX11_isRate_11 : decode cX11_isRate 11 = .ok (.iconst 1, 1) := by decide +kernel
theorem dX11_isRate_12 : decode cX11_isRate 12 = .ok (.goto 4, 3) := by decide +kernel
theorem dX11_isRate_15 : decode cX11_isRate 15 = .ok (.iconst 0, 1) := by decide +kernel
theorem dX11_isRate_16 : decode cX11_isRate 16 = .ok (.ireturn, 1) := by decide +kernel
theorem dX11_isOfKind_0 : decode cX11_isOfKind 0 = .ok (.iload_n 1, 1) := by decide +kernel
theorem dX11_isOfKind_1 : decode cX11_isOfKind 1 = .ok (.tableswitch 57 0 4 #[35, 37, 42, 47, 52], 35) := by decide +kernel
theorem dX11_isOfKind_36 : decode cX11_isOfKind 36 = .ok (.iconst 1, 1) := by decide +kernel
theorem dX11_isOfKind_37 : decode cX11_isOfKind 37 = .ok (.ireturn, 1) := by decide +kernel
theorem dX11_isOfKind_38 : decode cX11_isOfKind 38 = .ok (.aload_n 0, 1) := by decide +kernel
theorem dX11_isOfKind_39 : decode cX11_isOfKind 39 = .ok (.instanceof 10, 3) := by decide +kernel
theorem dX11_isOfKind_42 : decode cX11_isOfKind 42 = .ok (.ireturn, 1) := by decide +kernel
theorem dX11_isOfKind_43 : decode cX11_isOfKind 43 = .ok (.aload_n 0, 1) := by decide +kernel
theorem dX11_isOfKind_44 : decode cX11_isOfKind 44 = .ok (.instanceof 13, 3) := by decide +kernel
theorem dX11_isOfKind_47 : decode cX11_isOfKind 47 = .ok (.ireturn, 1) := by decide +kernel
theorem dX11_isOfKind_48 : decode cX11_isOfKind 48 = .ok (.aload_n 0, 1) := by decide +kernel
theorem dX11_isOfKind_49 : decode cX11_isOfKind 49 = .ok (.instanceof 16, 3) := by decide +kernel
theorem dX11_isOfKind_52 : decode cX11_isOfKind 52 = .ok (.ireturn, 1) := by decide +kernel
theorem dX11_isOfKind_53 : decode cX11_isOfKind 53 = .ok (.aload_n 0, 1) := by decide +kernel
theorem dX11_isOfKind_54 : decode cX11_isOfKind 54 = .ok (.instanceof 19, 3) := by decide +kernel
theorem dX11_isOfKind_57 : decode cX11_isOfKind 57 = .ok (.ireturn, 1) := by decide +kernel
theorem dX11_isOfKind_58 : decode cX11_isOfKind 58 = .ok (.iconst 0, 1) := by decide +kernel
theorem dX11_isOfKind_59 : decode cX11_isOfKind 59 = .ok (.ireturn, 1) := by decide +kernel
theorem dX12_init_0 : decode cX12_init 0 = .ok (.aload_n 0, 1) := by decide +kernel
theorem dX12_init_1 : decode cX12_init 1 = .ok (.invokespecial 1, 3) := by decide +kernel
theorem dX12_init_4 : decode cX12_init 4 = .ok (.aload_n 0, 1) := by decide +kernel
theorem dX12_init_5 : decode cX12_init 5 = .ok (.bipush 16, 2) := by decide +kernel
theorem dX12_init_7 : decode cX12_init 7 = .ok (.newarray .int, 2) := by decide +kernel
theorem dX12_init_9 : decode cX12_init 9 = .ok (.putfield 7, 3) := by decide +kernel
theorem dX12_init_12 : decode cX12_init 12 = .ok (.aload_n 0, 1) := by decide +kernel
theorem dX12_init_13 : decode cX12_init 13 = .ok (.bipush 8, 2) := by decide +kernel
theorem dX12_init_15 : decode cX12_init 15 = .ok (.newarray .int, 2) := by decide +kernel
theorem dX12_init_17 : decode cX12_init 17 = .ok (.putfield 13, 3) := by decide +kernel
theorem dX12_init_20 : decode cX12_init 20 = .ok (.aload_n 0, 1) := by decide +kernel
theorem dX12_init_21 : decode cX12_init 21 = .ok (.iconst 4, 1) := by decide +kernel
theorem dX12_init_22 : decode cX12_init 22 = .ok (.newarray .int, 2) := by decide +kernel
theorem dX12_init_24 : decode cX12_init 24 = .ok (.putfield 16, 3) := by decide +kernel
theorem dX12_init_27 : decode cX12_init 27 = .ok (.aload_n 0, 1) := by decide +kernel
theorem dX12_init_28 : decode cX12_init 28 = .ok (.iconst 4, 1) := by decide +kernel
theorem dX12_init_29 : decode cX12_init 29 = .ok (.newarray .int, 2) := by decide +kernel
theorem dX12_init_31 : decode cX12_init 31 = .ok (.putfield 19, 3) := by decide +kernel
theorem dX12_init_34 : decode cX12_init 34 = .ok (.aload_n 0, 1) := by decide +kernel
theorem dX12_init_35 : decode cX12_init 35 = .ok (.bipush 16, 2) := by decide +kernel
theorem dX12_init_37 : decode cX12_init 37 = .ok (.newarray .int, 2) := by decide +kernel
theorem dX12_init_39 : decode cX12_init 39 = .ok (.putfield 22, 3) := by decide +kernel
theorem dX12_init_42 : decode cX12_init 42 = .ok (.aload_n 0, 1) := by decide +kernel
theorem dX12_init_43 : decode cX12_init 43 = .ok (.bipush 48, 2) := by decide +kernel
theorem dX12_init_45 : decode cX12_init 45 = .ok (.newarray .int, 2) := by decide +kernel
theorem dX12_init_47 : decode cX12_init 47 = .ok (.putfield 25, 3) := by decide +kernel
theorem dX12_init_50 : decode cX12_init 50 = .ok (.aload_n 0, 1) := by decide +kernel
theorem dX12_init_51 : decode cX12_init 51 = .ok (.bipush 8, 2) := by decide +kernel
theorem dX12_init_53 : decode cX12_init 53 = .ok (.newarray .int, 2) := by decide +kernel
theorem dX12_init_55 : decode cX12_init 55 = .ok (.putfield 28, 3) := by decide +kernel
theorem dX12_init_58 : decode cX12_init 58 = .ok (.aload_n 0, 1) := by decide +kernel
theorem dX12_init_59 : decode cX12_init 59 = .ok (.iconst 4, 1) := by decide +kernel
theorem dX12_init_60 : decode cX12_init 60 = .ok (.newarray .int, 2) := by decide +kernel
theorem dX12_init_62 : decode cX12_init 62 = .ok (.putfield 31, 3) := by decide +kernel
theorem dX12_init_65 : decode cX12_init 65 = .ok (.aload_n 0, 1) := by decide +kernel
theorem dX12_init_66 : decode cX12_init 66 = .ok (.bipush 16, 2) := by decide +kernel
theorem dX12_init_68 : decode cX12_init 68 = .ok (.newarray .int, 2) := by decide +kernel
theorem dX12_init_70 : decode cX12_init 70 = .ok (.putfield 34, 3) := by decide +kernel
theorem dX12_init_73 : decode cX12_init 73 = .ok (.aload_n 0, 1) := by decide +kernel
theorem dX12_init_74 : decode cX12_init 74 = .ok (.iconst 4, 1) := by decide +kernel
theorem dX12_init_75 : decode cX12_init 75 = .ok (.newarray .int, 2) := by decide +kernel
theorem dX12_init_77 : decode cX12_init 77 = .ok (.putfield 37, 3) := by decide +kernel
theorem dX12_init_80 : decode cX12_init 80 = .ok (.aload_n 0, 1) := by decide +kernel
theorem dX12_init_81 : decode cX12_init 81 = .ok (.iconst 4, 1) := by decide +kernel
theorem dX12_init_82 : decode cX12_init 82 = .ok (.newarray .int, 2) := by decide +kernel
theorem dX12_init_84 : decode cX12_init 84 = .ok (.putfield 40, 3) := by decide +kernel
theorem dX12_init_87 : decode cX12_init 87 = .ok (.aload_n 0, 1) := by decide +kernel
theorem dX12_init_88 : decode cX12_init 88 = .ok (.iconst 4, 1) := by decide +kernel
theorem dX12_init_89 : decode cX12_init 89 = .ok (.newarray .int, 2) := by decide +kernel
theorem dX12_init_91 : decode cX12_init 91 = .ok (.putfield 43, 3) := by decide +kernel
theorem dX12_init_94 : decode cX12_init 94 = .ok (.aload_n 0, 1) := by decide +kernel
theorem dX12_init_95 : decode cX12_init 95 = .ok (.bipush 12, 2) := by decide +kernel
theorem dX12_init_97 : decode cX12_init 97 = .ok (.newarray .int, 2) := by decide +kernel
theorem dX12_init_99 : decode cX12_init 99 = .ok (.putfield 46, 3) := by decide +kernel
theorem dX12_init_102 : decode cX12_init 102 = .ok (.aload_n 0, 1) := by decide +kernel
theorem dX12_init_103 : decode cX12_init 103 = .ok (.bipush 21, 2) := by decide +kernel
theorem dX12_init_105 : decode cX12_init 105 = .ok (.newarray .int, 2) := by decide +kernel
theorem dX12_init_107 : decode cX12_init 107 = .ok (.putfield 49, 3) := by decide +kernel
theorem dX12_init_110 : decode cX12_init 110 = .ok (.aload_n 0, 1) := by decide +kernel
theorem dX12_init_111 : decode cX12_init 111 = .ok (.iconst 4, 1) := by decide +kernel
theorem dX12_init_112 : decode cX12_init 112 = .ok (.newarray .int, 2) := by decide +kernel
theorem dX12_init_114 : decode cX12_init 114 = .ok (.putfield 52, 3) := by decide +kernel
theorem dX12_init_117 : decode cX12_init 117 = .ok (.aload_n 0, 1) := by decide +kernel
theorem dX12_init_118 : decode cX12_init 118 = .ok (.bipush 16, 2) := by decide +kernel
theorem dX12_init_120 : decode cX12_init 120 = .ok (.newarray .int, 2) := by decide +kernel
theorem dX12_init_122 : decode cX12_init 122 = .ok (.putfield 55, 3) := by decide +kernel
theorem dX12_init_125 : decode cX12_init 125 = .ok (.aload_n 0, 1) := by decide +kernel
theorem dX12_init_126 : decode cX12_init 126 = .ok (.bipush 48, 2) := by decide +kernel
theorem dX12_init_128 : decode cX12_init 128 = .ok (.newarray .int, 2) := by decide +kernel
theorem dX12_init_130 : decode cX12_init 130 = .ok (.putfield 58, 3) := by decide +kernel
theorem dX12_init_133 : decode cX12_init 133 = .ok (.aload_n 0, 1) := by decide +kernel
theorem dX12_init_134 : decode cX12_init 134 = .ok (.bipush 8, 2) := by decide +kernel
theorem dX12_init_136 : decode cX12_init 136 = .ok (.newarray .int, 2) := by decide +kernel
theorem dX12_init_138 : decode cX12_init 138 = .ok (.putfield 61, 3) := by decide +kernel
theorem dX12_init_141 : decode cX12_init 141 = .ok (.aload_n 0, 1) := by decide +kernel
theorem dX12_init_142 : decode cX12_init 142 = .ok (.bipush 12, 2) := by decide +kernel
theorem dX12_init_144 : decode cX12_init 144 = .ok (.newarray .int, 2) := by decide +kernel
theorem dX12_init_146 : decode cX12_init 146 = .ok (.putfield 64, 3) := by decide +kernel
theorem dX12_init_149 : decode cX12_init 149 = .ok (.aload_n 0, 1) := by decide +kernel
theorem dX12_init_150 : decode cX12_init 150 = .ok (.iconst (-1), 1) := by decide +kernel
theorem dX12_init_151 : decode cX12_init 151 = .ok (.putfield 67, 3) := by decide +kernel
theorem dX12_init_154 : decode cX12_init 154 = .ok (.return_, 1) := by decide +kernel
theorem dX12_in_0 : decode cX12_in 0 = .ok (.lload_n 0, 1) := by decide +kernel
theorem dX12_in_1 : decode cX12_in 1 = .ok (.lload_n 2, 1) := by decide +kernel
theorem dX12_in_2 : decode cX12_in 2 = .ok (.lcmp, 1) := by decide +kernel
theorem dX12_in_3 : decode cX12_in 3 = .ok (.ifCond .lt 14, 3) := by decide +kernel
theorem dX12_in_6 : decode cX12_in 6 = .ok (.lload_n 0, 1) := by decide +kernel
theorem dX12_in_7 : decode cX12_in 7 = .ok (.lload 4, 2) := by decide +kernel
theorem dX12_in_9 : decode cX12_in 9 = .ok (.lcmp, 1) := by decide +kernel
theorem dX12_in_10 : decode cX12_in 10 = .ok (.ifCond .gt 7, 3) := by decide +kernel
theorem dX12_in_13 : decode cX12_in 13 = .ok (.iconst 1, 1) := by decide +kernel
theorem dX12_in_14 : decode cX12_in 14 = .ok (.goto 4, 3) := by decide +kernel
theorem dX12_in_17 : decode cX12_in 17 = .ok (.iconst 0, 1) := by decide +kernel
theorem dX12_in_18 : decode cX12_in 18 = .ok (.ireturn, 1) := by decide +kernel
theorem dX12_copy_0 : decode cX12_copy 0 = .ok (.iconst 0, 1) := by decide +kernel
theorem dX12_copy_1 : decode cX12_copy 1 = .ok (.istore_n 2, 1) := by decide +kernel
theorem dX12_copy_2 : decode cX12_copy 2 = .ok (.iload_n 2, 1) := by decide +kernel
theorem dX12_copy_3 : decode cX12_copy 3 = .ok (.aload_n 0, 1) := by decide +kernel
theorem dX12_copy_4 : decode cX12_copy 4 = .ok (.arraylength, 1) := by decide +kernel
theorem dX12_copy_5 : decode cX12_copy 5 = .ok (.if_icmp .ge 15, 3) := by decide +kernel
theorem dX12_copy_8 : decode cX12_copy 8 = .ok (.aload_n 1, 1) := by decide +kernel
theorem dX12_copy_9 : decode cX12_copy 9 = .ok (.iload_n 2, 1) := by decide +kernel
theorem dX12_copy_10 : decode cX12_copy 10 = .ok (.aload_n 0, 1) := by decide +kernel
theorem dX12_copy_11 : decode cX12_copy 11 = .ok (.iload_n 2, 1) := by decide +kernel
theorem dX12_copy_12 : decode cX12_copy 12 = .ok (.iaload, 1) := by decide +kernel
theorem dX12_copy_13 : decode cX12_copy 13 = .ok (.iastore, 1) := by decide +kernel
theorem dX12_copy_14 : decode cX12_copy 14 = .ok (.iinc 2 1, 3) := by decide +kernel
theorem dX12_copy_17 : decode cX12_copy 17 = .ok (.goto (-15), 3) := by decide +kernel
theorem dX12_copy_20 : decode cX12_copy 20 = .ok (.return_, 1) := by decide +kernel
set_option maxRecDepth 20000 in
theorem ggX12_letter_X12_in : GoodIn wsX12_letter wsX12_in := goodIn_r _ [7] (by decide +kernel) (by decide +kernel)
set_option maxRecDepth 20000 in
theorem gX12_letter_X12_in : GoodIn wsX12_letter (va_wsS RX12 73 yX12_in wsX12_in) := goodIn_app (goodIn_of _ (by decide +kernel)) ggX12_letter_X12_in
theorem dX12_letter_0 : decode cX12_letter 0 = .ok (.iload_n 1, 1) := by decide +kernel
theorem dX12_letter_1 : decode cX12_letter 1 = .ok (.i2l, 1) := by decide +kernel
theorem dX12_letter_2 : decode cX12_letter 2 = .ok (.lconst 1, 1) := by decide +kernel
theorem dX12_letter_3 : decode cX12_letter 3 = .ok (.ldc2_w 71, 3) := by decide +kernel
theorem dX12_letter_6 : decode cX12_letter 6 = .ok (.invokestatic 73, 3) := by decide +kernel
theorem dX12_letter_9 : decode cX12_letter 9 = .ok (.ifCond .ne 6, 3) := by decide +kernel
theorem dX12_letter_12 : decode cX12_letter 12 = .ok (.bipush (-102), 2) := by decide +kernel
theorem dX12_letter_14 : decode cX12_letter 14 = .ok (.ireturn, 1) := by decide +kernel
theorem dX12_letter_15 : decode cX12_letter 15 = .ok (.aload_n 0, 1) := by decide +kernel
theorem dX12_letter_16 : decode cX12_letter 16 = .ok (.getfield 77, 3) := by decide +kernel
theorem dX12_letter_19 : decode cX12_letter 19 = .ok (.bipush 16, 2) := by decide +kernel
theorem dX12_letter_21 : decode cX12_letter 21 = .ok (.if_icmp .ne 6, 3) := by decide +kernel
theorem dX12_letter_24 : decode cX12_letter 24 = .ok (.bipush (-104), 2) := by decide +kernel
theorem dX12_letter_26 : decode cX12_letter 26 = .ok (.ireturn, 1) := by decide +kernel
theorem dX12_letter_27 : decode cX12_letter 27 = .ok (.aload_n 0, 1) := by decide +kernel
theorem dX12_letter_28 : decode cX12_letter 28 = .ok (.getfield 7, 3) := by decide +kernel
theorem dX12_letter_31 : decode cX12_letter 31 = .ok (.aload_n 0, 1) := by decide +kernel
theorem dX12_letter_32 : decode cX12_letter 32 = .ok (.getfield 77, 3) := by decide +kernel
theorem dX12_letter_35 : decode cX12_letter 35 = .ok (.iload_n 1, 1) := by decide +kernel
theorem dX12_letter_36 : decode cX12_letter 36 = .ok (.iastore, 1) := by decide +kernel
theorem dX12_letter_37 : decode cX12_letter 37 = .ok (.aload_n 0, 1) := by decide +kernel
theorem dX12_letter_38 : decode cX12_letter 38 = .ok (.dup, 1) := by decide +kernel
theorem dX12_letter_39 : decode cX12_letter 39 = .ok (.getfield 77, 3) := by decide +kernel
theorem dX12_letter_42 : decode cX12_letter 42 = .ok (.iconst 1, 1) := by decide +kernel
theorem dX12_letter_43 : decode cX12_letter 43 = .ok (.iadd, 1) := by decide +kernel
theorem dX12_letter_44 : decode cX12_letter 44 = .ok (.putfield 77, 3) := by decide +kernel
theorem dX12_letter_47 : decode cX12_letter 47 = .ok (.aload_n 0, 1) := by decide +kernel
theorem dX12_letter_48 : decode cX12_letter 48 = .ok (.getfield 77, 3) := by decide +kernel
theorem dX12_letter_51 : decode cX12_letter 51 = .ok (.ireturn, 1) := by decide +kernel
theorem dX12_blank_0 : decode cX12_blank 0 = .ok (.aload_n 0, 1) := by decide +kernel
theorem dX12_blank_1 : decode cX12_blank 1 = .ok (.getfield 77, 3) := by decide +kernel
theorem dX12_blank_4 : decode cX12_blank 4 = .ok (.istore_n 1, 1) := by decide +kernel
theorem dX12_blank_5 : decode cX12_blank 5 = .ok (.aload_n 0, 1) := by decide +kernel
theorem dX12_blank_6 : decode cX12_blank 6 = .ok (.iconst 0, 1) := by decide +kernel
theorem dX12_blank_7 : decode cX12_blank 7 = .ok (.putfield 77, 3) := by decide +kernel
theorem dX12_blank_10 : decode cX12_blank 10 = .ok (.iload_n 1, 1) := by decide +kernel
theorem dX12_blank_11 : decode cX12_blank 11 = .ok (.ireturn, 1) := by decide +kernel
theorem dX12_kindBy_0 : decode cX12_kindBy 0 = .ok (.iload_n 0, 1) := by decide +kernel
theorem dX12_kindBy_1 : decode cX12_kindBy 1 = .ok (.bipush 99, 2) := by decide +kernel
theorem dX12_kindBy_3 : decode cX12_kindBy 3 = .ok (.if_icmp .ne 7, 3) := by decide +kernel
theorem dX12_kindBy_6 : decode cX12_kindBy 6 = .ok (.iconst 0, 1) := by decide +kernel
theorem dX12_kindBy_7 : decode cX12_kindBy 7 = .ok (.goto 44, 3) := by decide +kernel
theorem dX12_kindBy_10 : decode cX12_kindBy 10 = .ok (.iload_n 0, 1) := by decide +kernel
theorem dX12_kindBy_11 : decode cX12_kindBy 11 = .ok (.bipush 112, 2) := by decide +kernel
theorem dX12_kindBy_13 : decode cX12_kindBy 13 = .ok (.if_icmp .ne 7, 3) := by decide +kernel
theorem dX12_kindBy_16 : decode cX12_kindBy 16 = .ok (.iconst 1, 1) := by decide +kernel
theorem dX12_kindBy_17 : decode cX12_kindBy 17 = .ok (.goto 34, 3) := by decide +kernel
theorem dX12_kindBy_20 : decode cX12_kindBy 20 = .ok (.iload_n 0, 1) := by decide +kernel
theorem dX12_kindBy_21 : decode cX12_kindBy 21 = .ok (.bipush 111, 2) := by decide +kernel
theorem dX12_kindBy_23 : decode cX12_kindBy 23 = .ok (.if_icmp .ne 7, 3) := by decide +kernel
theorem dX12_kindBy_26 : decode cX12_kindBy 26 = .ok (.iconst 2, 1) := by decide +kernel
theorem dX12_kindBy_27 : decode cX12_kindBy 27 = .ok (.goto 24, 3) := by decide +kernel
theorem dX12_kindBy_30 : decode cX12_kindBy 30 = .ok (.iload_n 0, 1) := by decide +kernel
theorem dX12_kindBy_31 : decode cX12_kindBy 31 = .ok (.bipush 119, 2) := by decide +kernel
theorem dX12_kindBy_33 : decode cX12_kindBy 33 = .ok (.if_icmp .ne 7, 3) := by decide +kernel
theorem dX12_kindBy_36 : decode cX12_kindBy 36 = .ok (.iconst 3, 1) := by decide +kernel
theorem dX12_kindBy_37 : decode cX12_kindBy 37 = .ok (.goto 14, 3) := by decide +kernel
theorem dX12_kindBy_40 : decode cX12_kindBy 40 = .ok (.iload_n 0, 1) := by decide +kernel
theorem dX12_kindBy_41 : decode cX12_kindBy 41 = .ok (.bipush 107, 2) := by decide +kernel
theorem dX12_kindBy_43 : decode cX12_kindBy 43 = .ok (.if_icmp .ne 7, 3) := by decide +kernel
theorem dX12_kindBy_46 : decode cX12_kindBy 46 = .ok (.iconst 4, 1) := by decide +kernel
theorem dX12_kindBy_47 : decode cX12_kindBy 47 = .ok (.goto 4, 3) := by decide +kernel
theorem dX12_kindBy_50 : decode cX12_kindBy 50 = .ok (.iconst (-1), 1) := by decide +kernel
theorem dX12_kindBy_51 : decode cX12_kindBy 51 = .ok (.ireturn, 1) := by decide +kernel
set_option maxRecDepth 20000 in
theorem ggX12_go_X12_kindBy : GoodIn wsX12_go wsX12_kindBy := goodIn_r _ [10] (by decide +kernel) (by decide +kernel)
set_option maxRecDepth 20000 in
theorem gX12_go_X12_kindBy : GoodIn wsX12_go (va_wsS RX12 86 yX12_kindBy wsX12_kindBy) := goodIn_app (goodIn_of _ (by decide +kernel)) ggX12_go_X12_kindBy
set_option maxRecDepth 20000 in
theorem ggX12_go_X12_in : GoodIn wsX12_go wsX12_in := goodIn_r _ [13] (by decide +kernel) (by decide +kernel)
set_option maxRecDepth 20000 in
theorem gX12_go_X12_in : GoodIn wsX12_go (va_wsS RX12 73 yX12_in wsX12_in) := goodIn_app (goodIn_of _ (by decide +kernel)) ggX12_go_X12_in
theorem dX12_go_0 : decode cX12_go 0 = .ok (.iload_n 1, 1) := by decide +kernel
theorem dX12_go_1 : decode cX12_go 1 = .ok (.bipush 48, 2) := by decide +kernel
theorem dX12_go_3 : decode cX12_go 3 = .ok (.isub, 1) := by decide +kernel
theorem dX12_go_4 : decode cX12_go 4 = .ok (.istore_n 2, 1) := by decide +kernel
theorem dX12_go_5 : decode cX12_go 5 = .ok (.aload_n 0, 1) := by decide +kernel
theorem dX12_go_6 : decode cX12_go 6 = .ok (.getfield 80, 3) := by decide +kernel
theorem dX12_go_9 : decode cX12_go 9 = .ok (.istore_n 3, 1) := by decide +kernel
theorem dX12_go_10 : decode cX12_go 10 = .ok (.aload_n 0, 1) := by decide +kernel
theorem dX12_go_11 : decode cX12_go 11 = .ok (.dup, 1) := by decide +kernel
theorem dX12_go_12 : decode cX12_go 12 = .ok (.getfield 80, 3) := by decide +kernel
theorem dX12_go_15 : decode cX12_go 15 = .ok (.iconst 1, 1) := by decide +kernel
theorem dX12_go_16 : decode cX12_go 16 = .ok (.iadd, 1) := by decide +kernel
theorem dX12_go_17 : decode cX12_go 17 = .ok (.putfield 80, 3) := by decide +kernel
theorem dX12_go_20 : decode cX12_go 20 = .ok (.iload_n 3, 1) := by decide +kernel
theorem dX12_go_21 : decode cX12_go 21 = .ok (.tableswitch 166 0 3 #[31, 60, 94, 151], 31) := by decide +kernel
theorem dX12_go_52 : decode cX12_go 52 = .ok (.aload_n 0, 1) := by decide +kernel
theorem dX12_go_53 : decode cX12_go 53 = .ok (.getfield 13, 3) := by decide +kernel
theorem dX12_go_56 : decode cX12_go 56 = .ok (.iconst 2, 1) := by decide +kernel
theorem dX12_go_57 : decode cX12_go 57 = .ok (.aload_n 0, 1) := by decide +kernel
theorem dX12_go_58 : decode cX12_go 58 = .ok (.getfield 83, 3) := by decide +kernel
theorem dX12_go_61 : decode cX12_go 61 = .ok (.imul, 1) := by decide +kernel
theorem dX12_go_62 : decode cX12_go 62 = .ok (.iload_n 1, 1) := by decide +kernel
theorem dX12_go_63 : decode cX12_go 63 = .ok (.invokestatic 86, 3) := by decide +kernel
theorem dX12_go_66 : decode cX12_go 66 = .ok (.iastore, 1) := by decide +kernel
theorem dX12_go_67 : decode cX12_go 67 = .ok (.iload_n 1, 1) := by decide +kernel
theorem dX12_go_68 : decode cX12_go 68 = .ok (.invokestatic 86, 3) := by decide +kernel
theorem dX12_go_71 : decode cX12_go 71 = .ok (.iconst (-1), 1) := by decide +kernel
theorem dX12_go_72 : decode cX12_go 72 = .ok (.if_icmp .eq 7, 3) := by decide +kernel
theorem dX12_go_75 : decode cX12_go 75 = .ok (.iconst 1, 1) := by decide +kernel
theorem dX12_go_76 : decode cX12_go 76 = .ok (.goto 4, 3) := by decide +kernel
theorem dX12_go_79 : decode cX12_go 79 = .ok (.iconst 0, 1) := by decide +kernel
theorem dX12_go_80 : decode cX12_go 80 = .ok (.ireturn, 1) := by decide +kernel
theorem dX12_go_81 : decode cX12_go 81 = .ok (.aload_n 0, 1) := by decide +kernel
theorem dX12_go_82 : decode cX12_go 82 = .ok (.getfield 13, 3) := by decide +kernel
theorem dX12_go_85 : decode cX12_go 85 = .ok (.iconst 2, 1) := by decide +kernel
theorem dX12_go_86 : decode cX12_go 86 = .ok (.aload_n 0, 1) := by decide +kernel
theorem dX12_go_87 : decode cX12_go 87 = .ok (.getfield 83, 3) := by decide +kernel
theorem dX12_go_90 : decode cX12_go 90 = .ok (.imul, 1) := by decide +kernel
theorem dX12_go_91 : decode cX12_go 91 = .ok (.iconst 1, 1) := by decide +kernel
theorem dX12_go_92 : decode cX12_go 92 = .ok (.iadd, 1) := by decide +kernel
theorem dX12_go_93 : decode cX12_go 93 = .ok (.iload_n 2, 1) := by decide +kernel
theorem dX12_go_94 : decode cX12_go 94 = .ok (.iastore, 1) := by decide +kernel
theorem dX12_go_95 : decode cX12_go 95 = .ok (.aload_n 0, 1) := by decide +kernel
theorem dX12_go_96 : decode cX12_go 96 = .ok (.dup, 1) := by decide +kernel
theorem dX12_go_97 : decode cX12_go 97 = .ok (.getfield 83, 3) := by decide +kernel
theorem dX12_go_100 : decode cX12_go 100 = .ok (.iconst 1, 1) := by decide +kernel
theorem dX12_go_101 : decode cX12_go 101 = .ok (.iadd, 1) := by decide +kernel
theorem dX12_go_102 : decode cX12_go 102 = .ok (.putfield 83, 3) := by decide +kernel
theorem dX12_go_105 : decode cX12_go 105 = .ok (.iload_n 2, 1) := by decide +kernel
theorem dX12_go_106 : decode cX12_go 106 = .ok (.i2l, 1) := by decide +kernel
theorem dX12_go_107 : decode cX12_go 107 = .ok (.lconst 0, 1) := by decide +kernel
theorem dX12_go_108 : decode cX12_go 108 = .ok (.ldc2_w 90, 3) := by decide +kernel
theorem dX12_go_111 : decode cX12_go 111 = .ok (.invokestatic 73, 3) := by decide +kernel
theorem dX12_go_114 : decode cX12_go 114 = .ok (.ireturn, 1) := by decide +kernel
theorem dX12_go_115 : decode cX12_go 115 = .ok (.aload_n 0, 1) := by decide +kernel
theorem dX12_go_116 : decode cX12_go 116 = .ok (.iload_n 1, 1) := by decide +kernel
theorem dX12_go_117 : decode cX12_go 117 = .ok (.bipush 44, 2) := by decide +kernel
theorem dX12_go_119 : decode cX12_go 119 = .ok (.if_icmp .ne 7, 3) := by decide +kernel
theorem dX12_go_122 : decode cX12_go 122 = .ok (.iconst 0, 1) := by decide +kernel
theorem dX12_go_123 : decode cX12_go 123 = .ok (.goto 4, 3) := by decide +kernel
theorem dX12_go_126 : decode cX12_go 126 = .ok (.iconst 3, 1) := by decide +kernel
theorem dX12_go_127 : decode cX12_go 127 = .ok (.putfield 80, 3) := by decide +kernel
theorem dX12_go_130 : decode cX12_go 130 = .ok (.iload_n 1, 1) := by decide +kernel
theorem dX12_go_131 : decode cX12_go 131 = .ok (.bipush 44, 2) := by decide +kernel
theorem dX12_go_133 : decode cX12_go 133 = .ok (.if_icmp .ne 19, 3) := by decide +kernel
theorem dX12_go_136 : decode cX12_go 136 = .ok (.aload_n 0, 1) := by decide +kernel
theorem dX12_go_137 : decode cX12_go 137 = .ok (.getfield 83, 3) := by decide +kernel
theorem dX12_go_140 : decode cX12_go 140 = .ok (.iconst 4, 1) := by decide +kernel
theorem dX12_go_141 : decode cX12_go 141 = .ok (.if_icmp .ge 7, 3) := by decide +kernel
theorem dX12_go_144 : decode cX12_go 144 = .ok (.iconst 1, 1) := by decide +kernel
theorem dX12_go_145 : decode cX12_go 145 = .ok (.goto 26, 3) := by decide +kernel
theorem dX12_go_148 : decode cX12_go 148 = .ok (.iconst 0, 1) := by decide +kernel
theorem dX12_go_149 : decode cX12_go 149 = .ok (.goto 22, 3) := by decide +kernel
theorem dX12_go_152 : decode cX12_go 152 = .ok (.iload_n 1, 1) := by decide +kernel
theorem dX12_go_153 : decode cX12_go 153 = .ok (.bipush 59, 2) := by decide +kernel
theorem dX12_go_155 : decode cX12_go 155 = .ok (.if_icmp .ne 15, 3) := by decide +kernel
theorem dX12_go_158 : decode cX12_go 158 = .ok (.aload_n 0, 1) := by decide +kernel
theorem dX12_go_159 : decode cX12_go 159 = .ok (.getfield 83, 3) := by decide +kernel
theorem dX12_go_162 : decode cX12_go 162 = .ok (.iconst 1, 1) := by decide +kernel
theorem dX12_go_163 : decode cX12_go 163 = .ok (.if_icmp .le 7, 3) := by decide +kernel
theorem dX12_go_166 : decode cX12_go 166 = .ok (.iconst 1, 1) := by decide +kernel
theorem dX12_go_167 : decode cX12_go 167 = .ok (.goto 4, 3) := by decide +kernel
theorem dX12_go_170 : decode cX12_go 170 = .ok (.iconst 0, 1) := by decide +kernel
theorem dX12_go_171 : decode cX12_go 171 = .ok (.ireturn, 1) := by decide +kernel
theorem dX12_go_172 : decode cX12_go 172 = .ok (.aload_n 0, 1) := by decide +kernel
theorem dX12_go_173 : decode cX12_go 173 = .ok (.iload_n 2, 1) := by decide +kernel
theorem dX12_go_174 : decode cX12_go 174 = .ok (.putfield 92, 3) := by decide +kernel
theorem dX12_go_177 : decode cX12_go 177 = .ok (.iload_n 2, 1) := by decide +kernel
theorem dX12_go_178 : decode cX12_go 178 = .ok (.i2l, 1) := by decide +kernel
theorem dX12_go_179 : decode cX12_go 179 = .ok (.lconst 1, 1) := by decide +kernel
theorem dX12_go_180 : decode cX12_go 180 = .ok (.ldc2_w 95, 3) := by decide +kernel
theorem dX12_go_183 : decode cX12_go 183 = .ok (.invokestatic 73, 3) := by decide +kernel
theorem dX12_go_186 : decode cX12_go 186 = .ok (.ireturn, 1) := by decide +kernel
theorem dX12_go_187 : decode cX12_go 187 = .ok (.iconst 0, 1) := by decide +kernel
theorem dX12_go_188 : decode cX12_go 188 = .ok (.ireturn, 1) := by decide +kernel
set_option maxRecDepth 20000 in
theorem ggX12_faultOf_X12_go : GoodIn wsX12_faultOf wsX12_go := goodIn_r _ [9, 2, 10, 1, 11, 12, 13, 14, 15, 8, 16, 17, 18, 19, 20, 21, 22, 23, 24, 25, 26, 27, 28, 29, 30, 31, 32, 33, 34, 35, 36, 37, 38, 39, 40, 41, 42, 43, 44, 45, 46, 47, 48, 49, 50, 51, 52, 53, 54, 55, 56, 57] (by decide +kernel) (by decide +kernel)
set_option maxRecDepth 20000 in
theorem gX12_faultOf_X12_go : GoodIn wsX12_faultOf (wsV RX12 97 RX12 yX12_go wsX12_go) := goodIn_app (goodIn_of _ (by decide +kernel)) ggX12_faultOf_X12_go
theorem dX12_faultOf_0 : decode cX12_faultOf 0 = .ok (.aload_n 0, 1) := by decide +kernel
theorem dX12_faultOf_1 : decode cX12_faultOf 1 = .ok (.iconst 0, 1) := by decide +kernel
theorem dX12_faultOf_2 : decode cX12_faultOf 2 = .ok (.putfield 83, 3) := by decide +kernel
theorem dX12_faultOf_5 : decode cX12_faultOf 5 = .ok (.aload_n 0, 1) := by decide +kernel
theorem dX12_faultOf_6 : decode cX12_faultOf 6 = .ok (.iconst 0, 1) := by decide +kernel
theorem dX12_faultOf_7 : decode cX12_faultOf 7 = .ok (.putfield 80, 3) := by decide +kernel
theorem dX12_faultOf_10 : decode cX12_faultOf 10 = .ok (.iconst 0, 1) := by decide +kernel
theorem dX12_faultOf_11 : decode cX12_faultOf 11 = .ok (.istore_n 1, 1) := by decide +kernel
theorem dX12_faultOf_12 : decode cX12_faultOf 12 = .ok (.iload_n 1, 1) := by decide +kernel
theorem dX12_faultOf_13 : decode cX12_faultOf 13 = .ok (.aload_n 0, 1) := by decide +kernel
theorem dX12_faultOf_14 : decode cX12_faultOf 14 = .ok (.getfield 77, 3) := by decide +kernel
theorem dX12_faultOf_17 : decode cX12_faultOf 17 = .ok (.if_icmp .ge 22, 3) := by decide +kernel
theorem dX12_faultOf_20 : decode cX12_faultOf 20 = .ok (.aload_n 0, 1) := by decide +kernel
theorem dX12_faultOf_21 : decode cX12_faultOf 21 = .ok (.aload_n 0, 1) := by decide +kernel
theorem dX12_faultOf_22 : decode cX12_faultOf 22 = .ok (.getfield 7, 3) := by decide +kernel
theorem dX12_faultOf_25 : decode cX12_faultOf 25 = .ok (.iload_n 1, 1) := by decide +kernel
theorem dX12_faultOf_26 : decode cX12_faultOf 26 = .ok (.iaload, 1) := by decide +kernel
theorem dX12_faultOf_27 : decode cX12_faultOf 27 = .ok (.invokevirtual 97, 3) := by decide +kernel
theorem dX12_faultOf_30 : decode cX12_faultOf 30 = .ok (.ifCond .eq 9, 3) := by decide +kernel
theorem dX12_faultOf_33 : decode cX12_faultOf 33 = .ok (.iinc 1 1, 3) := by decide +kernel
theorem dX12_faultOf_36 : decode cX12_faultOf 36 = .ok (.goto (-24), 3) := by decide +kernel
theorem dX12_faultOf_39 : decode cX12_faultOf 39 = .ok (.iload_n 1, 1) := by decide +kernel
theorem dX12_faultOf_40 : decode cX12_faultOf 40 = .ok (.ireturn, 1) := by decide +kernel
set_option maxRecDepth 20000 in
theorem ggX12_fault_X12_faultOf : GoodIn wsX12_fault wsX12_faultOf := goodIn_r _ [5, 6, 7, 8, 9, 10, 11, 12, 4, 13, 14, 15, 16, 17, 18, 19, 20, 21, 22, 23, 24, 25, 26, 27, 28, 29, 30, 31, 32, 33, 34, 35, 36, 37, 38, 39, 40, 41, 42, 43, 44, 45, 46, 47, 48, 49, 50, 51, 52, 53, 54, 55, 56, 57, 58, 59, 60, 61] (by decide +kernel) (by decide +kernel)
set_option maxRecDepth 20000 in
theorem gX12_fault_X12_faultOf : GoodIn wsX12_fault (wsV RX12 101 RX12 yX12_faultOf wsX12_faultOf) := goodIn_app (goodIn_of _ (by decide +kernel)) ggX12_fault_X12_faultOf
theorem dX12_fault_0 : decode cX12_fault 0 = .ok (.aload_n 0, 1) := by decide +kernel
theorem dX12_fault_1 : decode cX12_fault 1 = .ok (.invokevirtual 101, 3) := by decide +kernel
theorem dX12_fault_4 : decode cX12_fault 4 = .ok (.ireturn, 1) := by decide +kernel
set_option maxRecDepth 20000 in
theorem ggX12_hills_X12_faultOf : GoodIn wsX12_hills wsX12_faultOf := goodIn_r _ [20, 3, 2, 1, 21, 22, 23, 24, 19, 25, 6, 26, 9, 27, 28, 29, 30, 31, 32, 33, 34, 35, 36, 37, 38, 39, 40, 41, 42, 43, 44, 45, 46, 47, 48, 49, 50, 51, 52, 53, 54, 55, 56, 57, 58, 59, 60, 61, 62, 63, 64, 65, 66, 67, 68, 69, 70, 71] (by decide +kernel) (by decide +kernel)
set_option maxRecDepth 20000 in
theorem gX12_hills_X12_faultOf : GoodIn wsX12_hills (wsV RX12 101 RX12 yX12_faultOf wsX12_faultOf) := goodIn_app (goodIn_of _ (by decide +kernel)) ggX12_hills_X12_faultOf
theorem dX12_hills_0 : decode cX12_hills 0 = .ok (.aload_n 0, 1) := by decide +kernel
theorem dX12_hills_1 : decode cX12_hills 1 = .ok (.invokevirtual 101, 3) := by decide +kernel
theorem dX12_hills_4 : decode cX12_hills 4 = .ok (.aload_n 0, 1) := by decide +kernel
theorem dX12_hills_5 : decode cX12_hills 5 = .ok (.getfield 77, 3) := by decide +kernel
theorem dX12_hills_8 : decode cX12_hills 8 = .ok (.if_icmp .lt 11, 3) := by decide +kernel
theorem dX12_hills_11 : decode cX12_hills 11 = .ok (.aload_n 0, 1) := by decide +kernel
theorem dX12_hills_12 : decode cX12_hills 12 = .ok (.getfield 80, 3) := by decide +kernel
theorem dX12_hills_15 : decode cX12_hills 15 = .ok (.iconst 4, 1) := by decide +kernel
theorem dX12_hills_16 : decode cX12_hills 16 = .ok (.if_icmp .eq 6, 3) := by decide +kernel
theorem dX12_hills_19 : decode cX12_hills 19 = .ok (.bipush (-103), 2) := by decide +kernel
theorem dX12_hills_21 : decode cX12_hills 21 = .ok (.ireturn, 1) := by decide +kernel
theorem dX12_hills_22 : decode cX12_hills 22 = .ok (.aload_n 0, 1) := by decide +kernel
theorem dX12_hills_23 : decode cX12_hills 23 = .ok (.aload_n 0, 1) := by decide +kernel
theorem dX12_hills_24 : decode cX12_hills 24 = .ok (.getfield 83, 3) := by decide +kernel
theorem dX12_hills_27 : decode cX12_hills 27 = .ok (.putfield 105, 3) := by decide +kernel
theorem dX12_hills_30 : decode cX12_hills 30 = .ok (.iconst 0, 1) := by decide +kernel
theorem dX12_hills_31 : decode cX12_hills 31 = .ok (.istore_n 1, 1) := by decide +kernel
theorem dX12_hills_32 : decode cX12_hills 32 = .ok (.iload_n 1, 1) := by decide +kernel
theorem dX12_hills_33 : decode cX12_hills 33 = .ok (.aload_n 0, 1) := by decide +kernel
theorem dX12_hills_34 : decode cX12_hills 34 = .ok (.getfield 105, 3) := by decide +kernel
theorem dX12_hills_37 : decode cX12_hills 37 = .ok (.if_icmp .ge 39, 3) := by decide +kernel
theorem dX12_hills_40 : decode cX12_hills 40 = .ok (.aload_n 0, 1) := by decide +kernel
theorem dX12_hills_41 : decode cX12_hills 41 = .ok (.getfield 16, 3) := by decide +kernel
theorem dX12_hills_44 : decode cX12_hills 44 = .ok (.iload_n 1, 1) := by decide +kernel
theorem dX12_hills_45 : decode cX12_hills 45 = .ok (.aload_n 0, 1) := by decide +kernel
theorem dX12_hills_46 : decode cX12_hills 46 = .ok (.getfield 13, 3) := by decide +kernel
theorem dX12_hills_49 : decode cX12_hills 49 = .ok (.iconst 2, 1) := by decide +kernel
theorem dX12_hills_50 : decode cX12_hills 50 = .ok (.iload_n 1, 1) := by decide +kernel
theorem dX12_hills_51 : decode cX12_hills 51 = .ok (.imul, 1) := by decide +kernel
theorem dX12_hills_52 : decode cX12_hills 52 = .ok (.iaload, 1) := by decide +kernel
theorem dX12_hills_53 : decode cX12_hills 53 = .ok (.iastore, 1) := by decide +kernel
