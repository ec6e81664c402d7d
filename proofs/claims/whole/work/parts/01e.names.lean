theorem dX5_bestAt_12 : decode cX5_bestAt 12 = .ok (.aload_n 0, 1) := by decide +kernel
theorem dX5_bestAt_13 : decode cX5_bestAt 13 = .ok (.getfield 21, 3) := by decide +kernel
theorem dX5_bestAt_16 : decode cX5_bestAt 16 = .ok (.iload_n 1, 1) := by decide +kernel
theorem dX5_bestAt_17 : decode cX5_bestAt 17 = .ok (.iaload, 1) := by decide +kernel
theorem dX5_bestAt_18 : decode cX5_bestAt 18 = .ok (.goto 4, 3) := by decide +kernel
theorem dX5_bestAt_21 : decode cX5_bestAt 21 = .ok (.iconst (-1), 1) := by decide +kernel
theorem dX5_bestAt_22 : decode cX5_bestAt 22 = .ok (.ireturn, 1) := by decide +kernel
set_option maxRecDepth 20000 in
theorem ggX5_highestRate_X5_startOrders : GoodIn wsX5_highestRate wsX5_startOrders := goodIn_r _ [6, 7, 91, 92, 93, 94, 95, 96] (by decide +kernel) (by decide +kernel)
set_option maxRecDepth 20000 in
theorem gX5_highestRate_X5_startOrders : GoodIn wsX5_highestRate (wsV RX5 31 RX5 yX5_startOrders wsX5_startOrders) := goodIn_app (goodIn_of _ (by decide +kernel)) ggX5_highestRate_X5_startOrders
set_option maxRecDepth 20000 in
theorem ggX5_highestRate_X2_copyFrom : GoodIn wsX5_highestRate wsX2_copyFrom := goodIn_r _ [12, 13, 14, 15, 16, 86, 87, 88, 89, 90] (by decide +kernel) (by decide +kernel)
set_option maxRecDepth 20000 in
theorem gX5_highestRate_X2_copyFrom : GoodIn wsX5_highestRate (wsV RX5 34 RX2 yX2_copyFrom wsX2_copyFrom) := goodIn_app (goodIn_of _ (by decide +kernel)) ggX5_highestRate_X2_copyFrom
set_option maxRecDepth 20000 in
theorem ggX5_highestRate_X5_marryInOrder : GoodIn wsX5_highestRate wsX5_marryInOrder := goodIn_r _ [20, 21, 7, 22, 23, 24, 25, 26, 11, 27, 28, 14, 29, 30, 31, 32, 33, 34, 35, 36, 37, 38, 39, 40, 41, 42, 43, 44, 45, 46, 47, 48, 49, 50, 51, 52, 53, 54, 55, 56, 57, 58, 59, 60, 15, 61, 62, 63, 16, 64, 65, 66, 67, 68, 69, 70, 71, 72, 73, 74, 75, 76, 77, 91, 92, 93, 94, 95, 96, 86, 87, 88, 89, 90] (by decide +kernel) (by decide +kernel)
set_option maxRecDepth 20000 in
theorem gX5_highestRate_X5_marryInOrder : GoodIn wsX5_highestRate (wsV RX5 40 RX5 yX5_marryInOrder wsX5_marryInOrder) := goodIn_app (goodIn_of _ (by decide +kernel)) ggX5_highestRate_X5_marryInOrder
set_option maxRecDepth 20000 in
theorem ggX5_highestRate_X5_owesMore : GoodIn wsX5_highestRate wsX5_owesMore := goodIn_r _ [80, 81, 82, 83, 84, 11, 85, 13, 16, 86, 87, 88, 89, 90] (by decide +kernel) (by decide +kernel)
set_option maxRecDepth 20000 in
theorem gX5_highestRate_X5_owesMore : GoodIn wsX5_highestRate (va_wsS RX5 68 yX5_owesMore wsX5_owesMore) := goodIn_app (goodIn_of _ (by decide +kernel)) ggX5_highestRate_X5_owesMore
theorem dX5_highestRate_0 : decode cX5_highestRate 0 = .ok (.aload_n 0, 1) := by decide +kernel
theorem dX5_highestRate_1 : decode cX5_highestRate 1 = .ok (.invokevirtual 31, 3) := by decide +kernel
theorem dX5_highestRate_4 : decode cX5_highestRate 4 = .ok (.bipush 9, 2) := by decide +kernel
theorem dX5_highestRate_6 : decode cX5_highestRate 6 = .ok (.istore_n 3, 1) := by decide +kernel
theorem dX5_highestRate_7 : decode cX5_highestRate 7 = .ok (.iload_n 3, 1) := by decide +kernel
theorem dX5_highestRate_8 : decode cX5_highestRate 8 = .ok (.iconst 1, 1) := by decide +kernel
theorem dX5_highestRate_9 : decode cX5_highestRate 9 = .ok (.if_icmp .lt 34, 3) := by decide +kernel
theorem dX5_highestRate_12 : decode cX5_highestRate 12 = .ok (.aload_n 2, 1) := by decide +kernel
theorem dX5_highestRate_13 : decode cX5_highestRate 13 = .ok (.aload_n 1, 1) := by decide +kernel
theorem dX5_highestRate_14 : decode cX5_highestRate 14 = .ok (.invokevirtual 34, 3) := by decide +kernel
theorem dX5_highestRate_17 : decode cX5_highestRate 17 = .ok (.aload_n 2, 1) := by decide +kernel
theorem dX5_highestRate_18 : decode cX5_highestRate 18 = .ok (.iload_n 3, 1) := by decide +kernel
theorem dX5_highestRate_19 : decode cX5_highestRate 19 = .ok (.putfield 65, 3) := by decide +kernel
theorem dX5_highestRate_22 : decode cX5_highestRate 22 = .ok (.aload_n 0, 1) := by decide +kernel
theorem dX5_highestRate_23 : decode cX5_highestRate 23 = .ok (.aload_n 2, 1) := by decide +kernel
theorem dX5_highestRate_24 : decode cX5_highestRate 24 = .ok (.invokevirtual 40, 3) := by decide +kernel
theorem dX5_highestRate_27 : decode cX5_highestRate 27 = .ok (.aload_n 2, 1) := by decide +kernel
theorem dX5_highestRate_28 : decode cX5_highestRate 28 = .ok (.aload_n 1, 1) := by decide +kernel
theorem dX5_highestRate_29 : decode cX5_highestRate 29 = .ok (.invokestatic 68, 3) := by decide +kernel
theorem dX5_highestRate_32 : decode cX5_highestRate 32 = .ok (.ifCond .ne 5, 3) := by decide +kernel
theorem dX5_highestRate_35 : decode cX5_highestRate 35 = .ok (.iload_n 3, 1) := by decide +kernel
theorem dX5_highestRate_36 : decode cX5_highestRate 36 = .ok (.ireturn, 1) := by decide +kernel
theorem dX5_highestRate_37 : decode cX5_highestRate 37 = .ok (.iinc 3 (-1), 3) := by decide +kernel
theorem dX5_highestRate_40 : decode cX5_highestRate 40 = .ok (.goto (-33), 3) := by decide +kernel
theorem dX5_highestRate_43 : decode cX5_highestRate 43 = .ok (.iconst (-1), 1) := by decide +kernel
theorem dX5_highestRate_44 : decode cX5_highestRate 44 = .ok (.ireturn, 1) := by decide +kernel
set_option maxRecDepth 20000 in
theorem ggX5_owesMore_X2_owedBy : GoodIn wsX5_owesMore wsX2_owedBy := goodIn_r _ [6, 7, 8, 9, 10, 11, 12, 13] (by decide +kernel) (by decide +kernel)
set_option maxRecDepth 20000 in
theorem gX5_owesMore_X2_owedBy : GoodIn wsX5_owesMore (wsV RX5 73 RX2 yX2_owedBy wsX2_owedBy) := goodIn_app (goodIn_of _ (by decide +kernel)) ggX5_owesMore_X2_owedBy
theorem dX5_owesMore_0 : decode cX5_owesMore 0 = .ok (.iconst 0, 1) := by decide +kernel
theorem dX5_owesMore_1 : decode cX5_owesMore 1 = .ok (.istore_n 2, 1) := by decide +kernel
theorem dX5_owesMore_2 : decode cX5_owesMore 2 = .ok (.iload_n 2, 1) := by decide +kernel
theorem dX5_owesMore_3 : decode cX5_owesMore 3 = .ok (.aload_n 1, 1) := by decide +kernel
theorem dX5_owesMore_4 : decode cX5_owesMore 4 = .ok (.getfield 72, 3) := by decide +kernel
theorem dX5_owesMore_7 : decode cX5_owesMore 7 = .ok (.if_icmp .ge 24, 3) := by decide +kernel
theorem dX5_owesMore_10 : decode cX5_owesMore 10 = .ok (.aload_n 0, 1) := by decide +kernel
theorem dX5_owesMore_11 : decode cX5_owesMore 11 = .ok (.iload_n 2, 1) := by decide +kernel
theorem dX5_owesMore_12 : decode cX5_owesMore 12 = .ok (.invokevirtual 73, 3) := by decide +kernel
theorem dX5_owesMore_15 : decode cX5_owesMore 15 = .ok (.aload_n 1, 1) := by decide +kernel
theorem dX5_owesMore_16 : decode cX5_owesMore 16 = .ok (.iload_n 2, 1) := by decide +kernel
theorem dX5_owesMore_17 : decode cX5_owesMore 17 = .ok (.invokevirtual 73, 3) := by decide +kernel
theorem dX5_owesMore_20 : decode cX5_owesMore 20 = .ok (.if_icmp .le 5, 3) := by decide +kernel
theorem dX5_owesMore_23 : decode cX5_owesMore 23 = .ok (.iconst 1, 1) := by decide +kernel
theorem dX5_owesMore_24 : decode cX5_owesMore 24 = .ok (.ireturn, 1) := by decide +kernel
theorem dX5_owesMore_25 : decode cX5_owesMore 25 = .ok (.iinc 2 1, 3) := by decide +kernel
theorem dX5_owesMore_28 : decode cX5_owesMore 28 = .ok (.goto (-26), 3) := by decide +kernel
theorem dX5_owesMore_31 : decode cX5_owesMore 31 = .ok (.iconst 0, 1) := by decide +kernel
theorem dX5_owesMore_32 : decode cX5_owesMore 32 = .ok (.ireturn, 1) := by decide +kernel
set_option maxRecDepth 20000 in
theorem ggX6_init_X1_init : GoodIn wsX6_init wsX1_init := goodIn_r _ [3, 4, 5, 6] (by decide +kernel) (by decide +kernel)
set_option maxRecDepth 20000 in
theorem gX6_init_X1_init_n3 : GoodIn wsX6_init (wsX1_init) := ggX6_init_X1_init
theorem dX6_init_0 : decode cX6_init 0 = .ok (.aload_n 0, 1) := by decide +kernel
theorem dX6_init_1 : decode cX6_init 1 = .ok (.invokespecial 3, 3) := by decide +kernel
theorem dX6_init_4 : decode cX6_init 4 = .ok (.return_, 1) := by decide +kernel
theorem dX6_number_0 : decode cX6_number 0 = .ok (.iconst 2, 1) := by decide +kernel
theorem dX6_number_1 : decode cX6_number 1 = .ok (.ireturn, 1) := by decide +kernel
theorem dX6_asks_0 : decode cX6_asks 0 = .ok (.iconst 1, 1) := by decide +kernel
theorem dX6_asks_1 : decode cX6_asks 1 = .ok (.iload_n 1, 1) := by decide +kernel
theorem dX6_asks_2 : decode cX6_asks 2 = .ok (.iconst 1, 1) := by decide +kernel
theorem dX6_asks_3 : decode cX6_asks 3 = .ok (.isub, 1) := by decide +kernel
theorem dX6_asks_4 : decode cX6_asks 4 = .ok (.invokestatic 9, 3) := by decide +kernel
theorem dX6_asks_7 : decode cX6_asks 7 = .ok (.ireturn, 1) := by decide +kernel
set_option maxRecDepth 20000 in
theorem ggX7_init_X1_init : GoodIn wsX7_init wsX1_init := goodIn_r _ [3, 4, 5, 6] (by decide +kernel) (by decide +kernel)
set_option maxRecDepth 20000 in
theorem gX7_init_X1_init_n3 : GoodIn wsX7_init (wsX1_init) := ggX7_init_X1_init
theorem dX7_init_0 : decode cX7_init 0 = .ok (.aload_n 0, 1) := by decide +kernel
theorem dX7_init_1 : decode cX7_init 1 = .ok (.invokespecial 3, 3) := by decide +kernel
theorem dX7_init_4 : decode cX7_init 4 = .ok (.return_, 1) := by decide +kernel
theorem dX7_number_0 : decode cX7_number 0 = .ok (.iconst 1, 1) := by decide +kernel
theorem dX7_number_1 : decode cX7_number 1 = .ok (.ireturn, 1) := by decide +kernel
theorem dX7_asks_0 : decode cX7_asks 0 = .ok (.iload_n 1, 1) := by decide +kernel
theorem dX7_asks_1 : decode cX7_asks 1 = .ok (.iconst 1, 1) := by decide +kernel
theorem dX7_asks_2 : decode cX7_asks 2 = .ok (.iadd, 1) := by decide +kernel
theorem dX7_asks_3 : decode cX7_asks 3 = .ok (.ireturn, 1) := by decide +kernel
set_option maxRecDepth 20000 in
theorem ggX8_init_X10_init : GoodIn wsX8_init wsX10_init := goodIn_r _ [22, 23, 2, 3, 24, 25, 26, 27, 28, 29, 55, 56, 57, 58, 59] (by decide +kernel) (by decide +kernel)
set_option maxRecDepth 20000 in
theorem gX8_init_X10_init_n9 : GoodIn wsX8_init (wsX10_init) := ggX8_init_X10_init
set_option maxRecDepth 20000 in
theorem ggX8_init_X5_init : GoodIn wsX8_init wsX5_init := goodIn_r _ [31, 32, 2, 3, 24, 33, 34, 35, 36, 37, 38, 65, 66, 67, 68, 69, 70] (by decide +kernel) (by decide +kernel)
set_option maxRecDepth 20000 in
theorem gX8_init_X5_init_n18 : GoodIn wsX8_init (wsX5_init) := ggX8_init_X5_init
set_option maxRecDepth 20000 in
theorem ggX8_init_X9_init : GoodIn wsX8_init wsX9_init := goodIn_r _ [40, 41, 2, 3, 24, 42, 43, 44, 71, 72, 73] (by decide +kernel) (by decide +kernel)
set_option maxRecDepth 20000 in
theorem gX8_init_X9_init_n25 : GoodIn wsX8_init (wsX9_init) := ggX8_init_X9_init
set_option maxRecDepth 20000 in
theorem ggX8_init_X2_init : GoodIn wsX8_init wsX2_init := goodIn_r _ [47, 48, 2, 3, 24, 49, 50, 51, 52, 53, 54, 74, 75, 76, 77, 78] (by decide +kernel) (by decide +kernel)
set_option maxRecDepth 20000 in
theorem gX8_init_X2_init : GoodIn wsX8_init (wsX2_init) := ggX8_init_X2_init
theorem dX8_init_0 : decode cX8_init 0 = .ok (.aload_n 0, 1) := by decide +kernel
theorem dX8_init_1 : decode cX8_init 1 = .ok (.invokespecial 1, 3) := by decide +kernel
theorem dX8_init_4 : decode cX8_init 4 = .ok (.aload_n 0, 1) := by decide +kernel
theorem dX8_init_5 : decode cX8_init 5 = .ok (.new 7, 3) := by decide +kernel
theorem dX8_init_8 : decode cX8_init 8 = .ok (.dup, 1) := by decide +kernel
theorem dX8_init_9 : decode cX8_init 9 = .ok (.invokespecial 9, 3) := by decide +kernel
theorem dX8_init_12 : decode cX8_init 12 = .ok (.putfield 10, 3) := by decide +kernel
theorem dX8_init_15 : decode cX8_init 15 = .ok (.aload_n 0, 1) := by decide +kernel
theorem dX8_init_16 : decode cX8_init 16 = .ok (.new 16, 3) := by decide +kernel
theorem dX8_init_19 : decode cX8_init 19 = .ok (.dup, 1) := by decide +kernel
theorem dX8_init_20 : decode cX8_init 20 = .ok (.invokespecial 18, 3) := by decide +kernel
theorem dX8_init_23 : decode cX8_init 23 = .ok (.putfield 19, 3) := by decide +kernel
theorem dX8_init_26 : decode cX8_init 26 = .ok (.aload_n 0, 1) := by decide +kernel
theorem dX8_init_27 : decode cX8_init 27 = .ok (.new 23, 3) := by decide +kernel
theorem dX8_init_30 : decode cX8_init 30 = .ok (.dup, 1) := by decide +kernel
theorem dX8_init_31 : decode cX8_init 31 = .ok (.invokespecial 25, 3) := by decide +kernel
theorem dX8_init_34 : decode cX8_init 34 = .ok (.putfield 26, 3) := by decide +kernel
theorem dX8_init_37 : decode cX8_init 37 = .ok (.aload_n 0, 1) := by decide +kernel
theorem dX8_init_38 : decode cX8_init 38 = .ok (.iconst 0, 1) := by decide +kernel
theorem dX8_init_39 : decode cX8_init 39 = .ok (.putfield 30, 3) := by decide +kernel
theorem dX8_init_42 : decode cX8_init 42 = .ok (.aload_n 0, 1) := by decide +kernel
theorem dX8_init_43 : decode cX8_init 43 = .ok (.new 34, 3) := by decide +kernel
theorem dX8_init_46 : decode cX8_init 46 = .ok (.dup, 1) := by decide +kernel
theorem dX8_init_47 : decode cX8_init 47 = .ok (.aload_n 1, 1) := by decide +kernel
theorem dX8_init_48 : decode cX8_init 48 = .ok (.invokespecial 36, 3) := by decide +kernel
theorem dX8_init_51 : decode cX8_init 51 = .ok (.putfield 39, 3) := by decide +kernel
theorem dX8_init_54 : decode cX8_init 54 = .ok (.return_, 1) := by decide +kernel
set_option maxRecDepth 20000 in
theorem ggX8_begin_X2_begin : GoodIn wsX8_begin wsX2_begin := goodIn_r _ [13, 14, 15, 16, 17, 37, 38, 39, 40, 41] (by decide +kernel) (by decide +kernel)
set_option maxRecDepth 20000 in
theorem gX8_begin_X2_begin : GoodIn wsX8_begin (wsV RX8 43 RX2 yX2_begin wsX2_begin) := goodIn_app (goodIn_of _ (by decide +kernel)) ggX8_begin_X2_begin
theorem dX8_begin_0 : decode cX8_begin 0 = .ok (.aload_n 0, 1) := by decide +kernel
theorem dX8_begin_1 : decode cX8_begin 1 = .ok (.getfield 39, 3) := by decide +kernel
theorem dX8_begin_4 : decode cX8_begin 4 = .ok (.iload_n 1, 1) := by decide +kernel
theorem dX8_begin_5 : decode cX8_begin 5 = .ok (.iload_n 2, 1) := by decide +kernel
theorem dX8_begin_6 : decode cX8_begin 6 = .ok (.invokevirtual 43, 3) := by decide +kernel
theorem dX8_begin_9 : decode cX8_begin 9 = .ok (.aload_n 0, 1) := by decide +kernel
theorem dX8_begin_10 : decode cX8_begin 10 = .ok (.getfield 10, 3) := by decide +kernel
theorem dX8_begin_13 : decode cX8_begin 13 = .ok (.iconst 0, 1) := by decide +kernel
theorem dX8_begin_14 : decode cX8_begin 14 = .ok (.putfield 47, 3) := by decide +kernel
theorem dX8_begin_17 : decode cX8_begin 17 = .ok (.aload_n 0, 1) := by decide +kernel
theorem dX8_begin_18 : decode cX8_begin 18 = .ok (.getfield 19, 3) := by decide +kernel
theorem dX8_begin_21 : decode cX8_begin 21 = .ok (.iconst 0, 1) := by decide +kernel
theorem dX8_begin_22 : decode cX8_begin 22 = .ok (.putfield 50, 3) := by decide +kernel
theorem dX8_begin_25 : decode cX8_begin 25 = .ok (.aload_n 0, 1) := by decide +kernel
theorem dX8_begin_26 : decode cX8_begin 26 = .ok (.getfield 26, 3) := by decide +kernel
theorem dX8_begin_29 : decode cX8_begin 29 = .ok (.iconst 0, 1) := by decide +kernel
theorem dX8_begin_30 : decode cX8_begin 30 = .ok (.putfield 51, 3) := by decide +kernel
theorem dX8_begin_33 : decode cX8_begin 33 = .ok (.aload_n 0, 1) := by decide +kernel
theorem dX8_begin_34 : decode cX8_begin 34 = .ok (.iconst 0, 1) := by decide +kernel
theorem dX8_begin_35 : decode cX8_begin 35 = .ok (.putfield 30, 3) := by decide +kernel
theorem dX8_begin_38 : decode cX8_begin 38 = .ok (.return_, 1) := by decide +kernel
set_option maxRecDepth 20000 in
theorem ggX8_copyFrom_X2_copyFrom : GoodIn wsX8_copyFrom wsX2_copyFrom := goodIn_r _ [10, 11, 12, 13, 14, 46, 47, 48, 49, 50] (by decide +kernel) (by decide +kernel)
set_option maxRecDepth 20000 in
theorem gX8_copyFrom_X2_copyFrom : GoodIn wsX8_copyFrom (wsV RX8 52 RX2 yX2_copyFrom wsX2_copyFrom) := goodIn_app (goodIn_of _ (by decide +kernel)) ggX8_copyFrom_X2_copyFrom
set_option maxRecDepth 20000 in
theorem ggX8_copyFrom_X10_copyFrom : GoodIn wsX8_copyFrom wsX10_copyFrom := goodIn_r _ [19, 20, 21, 22, 23, 24, 51, 52, 53, 54, 55] (by decide +kernel) (by decide +kernel)
set_option maxRecDepth 20000 in
theorem gX8_copyFrom_X10_copyFrom : GoodIn wsX8_copyFrom (wsV RX8 56 RX10 yX10_copyFrom wsX10_copyFrom) := goodIn_app (goodIn_of _ (by decide +kernel)) ggX8_copyFrom_X10_copyFrom
set_option maxRecDepth 20000 in
theorem ggX8_copyFrom_X5_copyFrom : GoodIn wsX8_copyFrom wsX5_copyFrom := goodIn_r _ [29, 30, 31, 32, 56, 57, 58, 59, 60, 61] (by decide +kernel) (by decide +kernel)
set_option maxRecDepth 20000 in
theorem gX8_copyFrom_X5_copyFrom : GoodIn wsX8_copyFrom (wsV RX8 59 RX5 yX5_copyFrom wsX5_copyFrom) := goodIn_app (goodIn_of _ (by decide +kernel)) ggX8_copyFrom_X5_copyFrom
set_option maxRecDepth 20000 in
theorem ggX8_copyFrom_X9_copyFrom : GoodIn wsX8_copyFrom wsX9_copyFrom := goodIn_r _ [37, 38, 39, 40, 62, 63, 64] (by decide +kernel) (by decide +kernel)
set_option maxRecDepth 20000 in
theorem gX8_copyFrom_X9_copyFrom : GoodIn wsX8_copyFrom (wsV RX8 62 RX9 yX9_copyFrom wsX9_copyFrom) := goodIn_app (goodIn_of _ (by decide +kernel)) ggX8_copyFrom_X9_copyFrom
theorem dX8_copyFrom_0 : decode cX8_copyFrom 0 = .ok (.aload_n 0, 1) := by decide +kernel
theorem dX8_copyFrom_1 : decode cX8_copyFrom 1 = .ok (.getfield 39, 3) := by decide +kernel
theorem dX8_copyFrom_4 : decode cX8_copyFrom 4 = .ok (.aload_n 1, 1) := by decide +kernel
theorem dX8_copyFrom_5 : decode cX8_copyFrom 5 = .ok (.getfield 39, 3) := by decide +kernel
theorem dX8_copyFrom_8 : decode cX8_copyFrom 8 = .ok (.invokevirtual 52, 3) := by decide +kernel
theorem dX8_copyFrom_11 : decode cX8_copyFrom 11 = .ok (.aload_n 0, 1) := by decide +kernel
theorem dX8_copyFrom_12 : decode cX8_copyFrom 12 = .ok (.getfield 10, 3) := by decide +kernel
theorem dX8_copyFrom_15 : decode cX8_copyFrom 15 = .ok (.aload_n 1, 1) := by decide +kernel
theorem dX8_copyFrom_16 : decode cX8_copyFrom 16 = .ok (.getfield 10, 3) := by decide +kernel
theorem dX8_copyFrom_19 : decode cX8_copyFrom 19 = .ok (.invokevirtual 56, 3) := by decide +kernel
theorem dX8_copyFrom_22 : decode cX8_copyFrom 22 = .ok (.aload_n 0, 1) := by decide +kernel
theorem dX8_copyFrom_23 : decode cX8_copyFrom 23 = .ok (.getfield 19, 3) := by decide +kernel
theorem dX8_copyFrom_26 : decode cX8_copyFrom 26 = .ok (.aload_n 1, 1) := by decide +kernel
theorem dX8_copyFrom_27 : decode cX8_copyFrom 27 = .ok (.getfield 19, 3) := by decide +kernel
theorem dX8_copyFrom_30 : decode cX8_copyFrom 30 = .ok (.invokevirtual 59, 3) := by decide +kernel
theorem dX8_copyFrom_33 : decode cX8_copyFrom 33 = .ok (.aload_n 0, 1) := by decide +kernel
theorem dX8_copyFrom_34 : decode cX8_copyFrom 34 = .ok (.getfield 26, 3) := by decide +kernel
theorem dX8_copyFrom_37 : decode cX8_copyFrom 37 = .ok (.aload_n 1, 1) := by decide +kernel
theorem dX8_copyFrom_38 : decode cX8_copyFrom 38 = .ok (.getfield 26, 3) := by decide +kernel
theorem dX8_copyFrom_41 : decode cX8_copyFrom 41 = .ok (.invokevirtual 62, 3) := by decide +kernel
theorem dX8_copyFrom_44 : decode cX8_copyFrom 44 = .ok (.aload_n 0, 1) := by decide +kernel
theorem dX8_copyFrom_45 : decode cX8_copyFrom 45 = .ok (.aload_n 1, 1) := by decide +kernel
theorem dX8_copyFrom_46 : decode cX8_copyFrom 46 = .ok (.getfield 30, 3) := by decide +kernel
theorem dX8_copyFrom_49 : decode cX8_copyFrom 49 = .ok (.putfield 30, 3) := by decide +kernel
theorem dX8_copyFrom_52 : decode cX8_copyFrom 52 = .ok (.return_, 1) := by decide +kernel
theorem dX9_init_0 : decode cX9_init 0 = .ok (.aload_n 0, 1) := by decide +kernel
theorem dX9_init_1 : decode cX9_init 1 = .ok (.invokespecial 3, 3) := by decide +kernel
theorem dX9_init_4 : decode cX9_init 4 = .ok (.aload_n 0, 1) := by decide +kernel
theorem dX9_init_5 : decode cX9_init 5 = .ok (.bipush 6, 2) := by decide +kernel
theorem dX9_init_7 : decode cX9_init 7 = .ok (.newarray .int, 2) := by decide +kernel
theorem dX9_init_9 : decode cX9_init 9 = .ok (.putfield 9, 3) := by decide +kernel
theorem dX9_init_12 : decode cX9_init 12 = .ok (.aload_n 0, 1) := by decide +kernel
theorem dX9_init_13 : decode cX9_init 13 = .ok (.bipush 6, 2) := by decide +kernel
theorem dX9_init_15 : decode cX9_init 15 = .ok (.newarray .int, 2) := by decide +kernel
theorem dX9_init_17 : decode cX9_init 17 = .ok (.putfield 15, 3) := by decide +kernel
theorem dX9_init_20 : decode cX9_init 20 = .ok (.aload_n 0, 1) := by decide +kernel
theorem dX9_init_21 : decode cX9_init 21 = .ok (.iconst 0, 1) := by decide +kernel
theorem dX9_init_22 : decode cX9_init 22 = .ok (.putfield 18, 3) := by decide +kernel
theorem dX9_init_25 : decode cX9_init 25 = .ok (.return_, 1) := by decide +kernel
theorem dX9_note_0 : decode cX9_note 0 = .ok (.aload_n 0, 1) := by decide +kernel
theorem dX9_note_1 : decode cX9_note 1 = .ok (.getfield 9, 3) := by decide +kernel
theorem dX9_note_4 : decode cX9_note 4 = .ok (.aload_n 0, 1) := by decide +kernel
theorem dX9_note_5 : decode cX9_note 5 = .ok (.getfield 18, 3) := by decide +kernel
theorem dX9_note_8 : decode cX9_note 8 = .ok (.iload_n 1, 1) := by decide +kernel
theorem dX9_note_9 : decode cX9_note 9 = .ok (.iastore, 1) := by decide +kernel
theorem dX9_note_10 : decode cX9_note 10 = .ok (.aload_n 0, 1) := by decide +kernel
theorem dX9_note_11 : decode cX9_note 11 = .ok (.getfield 15, 3) := by decide +kernel
theorem dX9_note_14 : decode cX9_note 14 = .ok (.aload_n 0, 1) := by decide +kernel
theorem dX9_note_15 : decode cX9_note 15 = .ok (.getfield 18, 3) := by decide +kernel
theorem dX9_note_18 : decode cX9_note 18 = .ok (.iload_n 2, 1) := by decide +kernel
theorem dX9_note_19 : decode cX9_note 19 = .ok (.iastore, 1) := by decide +kernel
theorem dX9_note_20 : decode cX9_note 20 = .ok (.aload_n 0, 1) := by decide +kernel
theorem dX9_note_21 : decode cX9_note 21 = .ok (.dup, 1) := by decide +kernel
theorem dX9_note_22 : decode cX9_note 22 = .ok (.getfield 18, 3) := by decide +kernel
theorem dX9_note_25 : decode cX9_note 25 = .ok (.iconst 1, 1) := by decide +kernel
theorem dX9_note_26 : decode cX9_note 26 = .ok (.iadd, 1) := by decide +kernel
theorem dX9_note_27 : decode cX9_note 27 = .ok (.putfield 18, 3) := by decide +kernel
theorem dX9_note_30 : decode cX9_note 30 = .ok (.aload_n 0, 1) := by decide +kernel
theorem dX9_note_31 : decode cX9_note 31 = .ok (.getfield 18, 3) := by decide +kernel
theorem dX9_note_34 : decode cX9_note 34 = .ok (.ireturn, 1) := by decide +kernel
theorem dX9_copyFrom_0 : decode cX9_copyFrom 0 = .ok (.aload_n 0, 1) := by decide +kernel
theorem dX9_copyFrom_1 : decode cX9_copyFrom 1 = .ok (.aload_n 1, 1) := by decide +kernel
theorem dX9_copyFrom_2 : decode cX9_copyFrom 2 = .ok (.getfield 18, 3) := by decide +kernel
theorem dX9_copyFrom_5 : decode cX9_copyFrom 5 = .ok (.putfield 18, 3) := by decide +kernel
theorem dX9_copyFrom_8 : decode cX9_copyFrom 8 = .ok (.iconst 0, 1) := by decide +kernel
theorem dX9_copyFrom_9 : decode cX9_copyFrom 9 = .ok (.istore_n 2, 1) := by decide +kernel
theorem dX9_copyFrom_10 : decode cX9_copyFrom 10 = .ok (.iload_n 2, 1) := by decide +kernel
theorem dX9_copyFrom_11 : decode cX9_copyFrom 11 = .ok (.bipush 6, 2) := by decide +kernel
theorem dX9_copyFrom_13 : decode cX9_copyFrom 13 = .ok (.if_icmp .ge 33, 3) := by decide +kernel
theorem dX9_copyFrom_16 : decode cX9_copyFrom 16 = .ok (.aload_n 0, 1) := by decide +kernel
theorem dX9_copyFrom_17 : decode cX9_copyFrom 17 = .ok (.getfield 9, 3) := by decide +kernel
theorem dX9_copyFrom_20 : decode cX9_copyFrom 20 = .ok (.iload_n 2, 1) := by decide +kernel
theorem dX9_copyFrom_21 : decode cX9_copyFrom 21 = .ok (.aload_n 1, 1) := by decide +kernel
theorem dX9_copyFrom_22 : decode cX9_copyFrom 22 = .ok (.getfield 9, 3) := by decide +kernel
theorem dX9_copyFrom_25 : decode cX9_copyFrom 25 = .ok (.iload_n 2, 1) := by decide +kernel
theorem dX9_copyFrom_26 : decode cX9_copyFrom 26 = .ok (.iaload, 1) := by decide +kernel
theorem dX9_copyFrom_27 : decode cX9_copyFrom 27 = .ok (.iastore, 1) := by decide +kernel
theorem dX9_copyFrom_28 : decode cX9_copyFrom 28 = .ok (.aload_n 0, 1) := by decide +kernel
theorem dX9_copyFrom_29 : decode cX9_copyFrom 29 = .ok (.getfield 15, 3) := by decide +kernel
theorem dX9_copyFrom_32 : decode cX9_copyFrom 32 = .ok (.iload_n 2, 1) := by decide +kernel
theorem dX9_copyFrom_33 : decode cX9_copyFrom 33 = .ok (.aload_n 1, 1) := by decide +kernel
theorem dX9_copyFrom_34 : decode cX9_copyFrom 34 = .ok (.getfield 15, 3) := by decide +kernel
theorem dX9_copyFrom_37 : decode cX9_copyFrom 37 = .ok (.iload_n 2, 1) := by decide +kernel
theorem dX9_copyFrom_38 : decode cX9_copyFrom 38 = .ok (.iaload, 1) := by decide +kernel
theorem dX9_copyFrom_39 : decode cX9_copyFrom 39 = .ok (.iastore, 1) := by decide +kernel
theorem dX9_copyFrom_40 : decode cX9_copyFrom 40 = .ok (.iinc 2 1, 3) := by decide +kernel
theorem dX9_copyFrom_43 : decode cX9_copyFrom 43 = .ok (.goto (-33), 3) := by decide +kernel
theorem dX9_copyFrom_46 : decode cX9_copyFrom 46 = .ok (.return_, 1) := by decide +kernel
set_option maxRecDepth 20000 in
theorem ggX9_kindsLeft_X9_canBe : GoodIn wsX9_kindsLeft wsX9_canBe := goodIn_r _ [5, 6, 7, 8, 9, 10, 11, 12, 13, 14, 15, 16, 17, 18, 19, 20, 21, 22, 23, 24, 25, 26, 27, 28, 29, 30, 31, 32, 33, 34, 35, 36, 37, 38, 39] (by decide +kernel) (by decide +kernel)
set_option maxRecDepth 20000 in
theorem gX9_kindsLeft_X9_canBe : GoodIn wsX9_kindsLeft (wsV RX9 22 RX9 yX9_canBe wsX9_canBe) := goodIn_app (goodIn_of _ (by decide +kernel)) ggX9_kindsLeft_X9_canBe
theorem dX9_kindsLeft_0 : decode cX9_kindsLeft 0 = .ok (.iconst 0, 1) := by decide +kernel
theorem dX9_kindsLeft_1 : decode cX9_kindsLeft 1 = .ok (.istore_n 2, 1) := by decide +kernel
theorem dX9_kindsLeft_2 : decode cX9_kindsLeft 2 = .ok (.iconst 0, 1) := by decide +kernel
theorem dX9_kindsLeft_3 : decode cX9_kindsLeft 3 = .ok (.istore_n 3, 1) := by decide +kernel
theorem dX9_kindsLeft_4 : decode cX9_kindsLeft 4 = .ok (.iload_n 3, 1) := by decide +kernel
theorem dX9_kindsLeft_5 : decode cX9_kindsLeft 5 = .ok (.aload_n 1, 1) := by decide +kernel
theorem dX9_kindsLeft_6 : decode cX9_kindsLeft 6 = .ok (.arraylength, 1) := by decide +kernel
theorem dX9_kindsLeft_7 : decode cX9_kindsLeft 7 = .ok (.if_icmp .ge 25, 3) := by decide +kernel
theorem dX9_kindsLeft_10 : decode cX9_kindsLeft 10 = .ok (.aload_n 0, 1) := by decide +kernel
theorem dX9_kindsLeft_11 : decode cX9_kindsLeft 11 = .ok (.aload_n 1, 1) := by decide +kernel
theorem dX9_kindsLeft_12 : decode cX9_kindsLeft 12 = .ok (.iload_n 3, 1) := by decide +kernel
theorem dX9_kindsLeft_13 : decode cX9_kindsLeft 13 = .ok (.aaload, 1) := by decide +kernel
theorem dX9_kindsLeft_14 : decode cX9_kindsLeft 14 = .ok (.invokevirtual 22, 3) := by decide +kernel
theorem dX9_kindsLeft_17 : decode cX9_kindsLeft 17 = .ok (.ifCond .eq 9, 3) := by decide +kernel
theorem dX9_kindsLeft_20 : decode cX9_kindsLeft 20 = .ok (.iload_n 2, 1) := by decide +kernel
theorem dX9_kindsLeft_21 : decode cX9_kindsLeft 21 = .ok (.iconst 1, 1) := by decide +kernel
theorem dX9_kindsLeft_22 : decode cX9_kindsLeft 22 = .ok (.iload_n 3, 1) := by decide +kernel
theorem dX9_kindsLeft_23 : decode cX9_kindsLeft 23 = .ok (.ishl, 1) := by decide +kernel
theorem dX9_kindsLeft_24 : decode cX9_kindsLeft 24 = .ok (.ior, 1) := by decide +kernel
theorem dX9_kindsLeft_25 : decode cX9_kindsLeft 25 = .ok (.istore_n 2, 1) := by decide +kernel
theorem dX9_kindsLeft_26 : decode cX9_kindsLeft 26 = .ok (.iinc 3 1, 3) := by decide +kernel
theorem dX9_kindsLeft_29 : decode cX9_kindsLeft 29 = .ok (.goto (-25), 3) := by decide +kernel
theorem dX9_kindsLeft_32 : decode cX9_kindsLeft 32 = .ok (.iload_n 2, 1) := by decide +kernel
theorem dX9_kindsLeft_33 : decode cX9_kindsLeft 33 = .ok (.ireturn, 1) := by decide +kernel
set_option maxRecDepth 20000 in
theorem ggX9_canBe_X1_asks : GoodIn wsX9_canBe wsX1_asks := goodIn_r _ [9] (by decide +kernel) (by decide +kernel)
set_option maxRecDepth 20000 in
theorem gX9_canBe_X1_asks_u26X0 : GoodIn wsX9_canBe (va_wsU RX9 26 RX0 "CowsOwed$Clan" ⟨"CowsOwed$Clan", "asks", "(I)I"⟩ yX1_asks wsX1_asks) := goodIn_app (goodIn_of _ (by decide +kernel)) ggX9_canBe_X1_asks
set_option maxRecDepth 20000 in
theorem gX9_canBe_X1_asks : GoodIn wsX9_canBe (wsV RX9 26 RX1 yX1_asks wsX1_asks) := goodIn_app (goodIn_of _ (by decide +kernel)) ggX9_canBe_X1_asks
set_option maxRecDepth 20000 in
theorem ggX9_canBe_X3_asks : GoodIn wsX9_canBe wsX3_asks := goodIn_r _ [16, 17, 18, 19, 20, 21, 22] (by decide +kernel) (by decide +kernel)
set_option maxRecDepth 20000 in
theorem gX9_canBe_X3_asks_u26X3 : GoodIn wsX9_canBe (va_wsO RX9 26 RX3 "CowsOwed$Clan" ⟨"CowsOwed$Clan", "asks", "(I)I"⟩ yX3_asks wsX3_asks) := goodIn_app (goodIn_of _ (by decide +kernel)) ggX9_canBe_X3_asks
set_option maxRecDepth 20000 in
theorem ggX9_canBe_X6_asks : GoodIn wsX9_canBe wsX6_asks := goodIn_r _ [26, 27, 28, 29, 30] (by decide +kernel) (by decide +kernel)
set_option maxRecDepth 20000 in
theorem gX9_canBe_X6_asks_u26X6 : GoodIn wsX9_canBe (va_wsO RX9 26 RX6 "CowsOwed$Clan" ⟨"CowsOwed$Clan", "asks", "(I)I"⟩ yX6_asks wsX6_asks) := goodIn_app (goodIn_of _ (by decide +kernel)) ggX9_canBe_X6_asks
set_option maxRecDepth 20000 in
theorem ggX9_canBe_X7_asks : GoodIn wsX9_canBe wsX7_asks := goodIn_r _ [22] (by decide +kernel) (by decide +kernel)
set_option maxRecDepth 20000 in
theorem gX9_canBe_X7_asks_u26X7 : GoodIn wsX9_canBe (va_wsO RX9 26 RX7 "CowsOwed$Clan" ⟨"CowsOwed$Clan", "asks", "(I)I"⟩ yX7_asks wsX7_asks) := goodIn_app (goodIn_of _ (by decide +kernel)) ggX9_canBe_X7_asks
theorem dX9_canBe_0 : decode cX9_canBe 0 = .ok (.iconst 0, 1) := by decide +kernel
theorem dX9_canBe_1 : decode cX9_canBe 1 = .ok (.istore_n 2, 1) := by decide +kernel
theorem dX9_canBe_2 : decode cX9_canBe 2 = .ok (.iload_n 2, 1) := by decide +kernel
theorem dX9_canBe_3 : decode cX9_canBe 3 = .ok (.aload_n 0, 1) := by decide +kernel
theorem dX9_canBe_4 : decode cX9_canBe 4 = .ok (.getfield 18, 3) := by decide +kernel
theorem dX9_canBe_7 : decode cX9_canBe 7 = .ok (.if_icmp .ge 30, 3) := by decide +kernel
theorem dX9_canBe_10 : decode cX9_canBe 10 = .ok (.aload_n 1, 1) := by decide +kernel
theorem dX9_canBe_11 : decode cX9_canBe 11 = .ok (.aload_n 0, 1) := by decide +kernel
theorem dX9_canBe_12 : decode cX9_canBe 12 = .ok (.getfield 9, 3) := by decide +kernel
theorem dX9_canBe_15 : decode cX9_canBe 15 = .ok (.iload_n 2, 1) := by decide +kernel
theorem dX9_canBe_16 : decode cX9_canBe 16 = .ok (.iaload, 1) := by decide +kernel
theorem dX9_canBe_17 : decode cX9_canBe 17 = .ok (.invokevirtual 26, 3) := by decide +kernel
theorem dX9_canBe_20 : decode cX9_canBe 20 = .ok (.aload_n 0, 1) := by decide +kernel
theorem dX9_canBe_21 : decode cX9_canBe 21 = .ok (.getfield 15, 3) := by decide +kernel
theorem dX9_canBe_24 : decode cX9_canBe 24 = .ok (.iload_n 2, 1) := by decide +kernel
theorem dX9_canBe_25 : decode cX9_canBe 25 = .ok (.iaload, 1) := by decide +kernel
theorem dX9_canBe_26 : decode cX9_canBe 26 = .ok (.if_icmp .eq 5, 3) := by decide +kernel
theorem dX9_canBe_29 : decode cX9_canBe 29 = .ok (.iconst 0, 1) := by decide +kernel
theorem dX9_canBe_30 : decode cX9_canBe 30 = .ok (.ireturn, 1) := by decide +kernel
theorem dX9_canBe_31 : decode cX9_canBe 31 = .ok (.iinc 2 1, 3) := by decide +kernel
theorem dX9_canBe_34 : decode cX9_canBe 34 = .ok (.goto (-32), 3) := by decide +kernel
theorem dX9_canBe_37 : decode cX9_canBe 37 = .ok (.iconst 1, 1) := by decide +kernel
theorem dX9_canBe_38 : decode cX9_canBe 38 = .ok (.ireturn, 1) := by decide +kernel
set_option maxRecDepth 20000 in
theorem ggX9_nextRate_X9_kindsLeft : GoodIn wsX9_nextRate wsX9_kindsLeft := goodIn_r _ [5, 6, 7, 8, 4, 9, 10, 11, 12, 13, 14, 15, 16, 17, 18, 19, 20, 21, 22, 23, 24, 25, 26, 27, 28, 29, 30, 31, 32, 33, 34, 35, 36, 37, 38, 39, 40, 51, 52, 53] (by decide +kernel) (by decide +kernel)
set_option maxRecDepth 20000 in
theorem gX9_nextRate_X9_kindsLeft : GoodIn wsX9_nextRate (wsV RX9 32 RX9 yX9_kindsLeft wsX9_kindsLeft) := goodIn_app (goodIn_of _ (by decide +kernel)) ggX9_nextRate_X9_kindsLeft
set_option maxRecDepth 20000 in
theorem ggX9_nextRate_X9_mostLeft : GoodIn wsX9_nextRate wsX9_mostLeft := goodIn_r _ [43, 44, 37, 38, 39, 45, 46, 4, 47, 13, 14, 15, 16, 17, 18, 19, 20, 21, 22, 23, 24, 25, 26, 27, 28, 29, 30, 31, 32, 33, 34, 35, 36, 40, 48, 49, 50] (by decide +kernel) (by decide +kernel)
set_option maxRecDepth 20000 in
theorem gX9_nextRate_X9_mostLeft : GoodIn wsX9_nextRate (va_wsS RX9 36 yX9_mostLeft wsX9_mostLeft) := goodIn_app (goodIn_of _ (by decide +kernel)) ggX9_nextRate_X9_mostLeft
theorem dX9_nextRate_0 : decode cX9_nextRate 0 = .ok (.aload_n 0, 1) := by decide +kernel
theorem dX9_nextRate_1 : decode cX9_nextRate 1 = .ok (.aload_n 1, 1) := by decide +kernel
theorem dX9_nextRate_2 : decode cX9_nextRate 2 = .ok (.invokevirtual 32, 3) := by decide +kernel
theorem dX9_nextRate_5 : decode cX9_nextRate 5 = .ok (.istore_n 2, 1) := by decide +kernel
theorem dX9_nextRate_6 : decode cX9_nextRate 6 = .ok (.iload_n 2, 1) := by decide +kernel
theorem dX9_nextRate_7 : decode cX9_nextRate 7 = .ok (.ifCond .ne 5, 3) := by decide +kernel
theorem dX9_nextRate_10 : decode cX9_nextRate 10 = .ok (.iconst (-1), 1) := by decide +kernel
theorem dX9_nextRate_11 : decode cX9_nextRate 11 = .ok (.ireturn, 1) := by decide +kernel
theorem dX9_nextRate_12 : decode cX9_nextRate 12 = .ok (.iconst (-1), 1) := by decide +kernel
theorem dX9_nextRate_13 : decode cX9_nextRate 13 = .ok (.istore_n 3, 1) := by decide +kernel
theorem dX9_nextRate_14 : decode cX9_nextRate 14 = .ok (.aload_n 1, 1) := by decide +kernel
theorem dX9_nextRate_15 : decode cX9_nextRate 15 = .ok (.arraylength, 1) := by decide +kernel
theorem dX9_nextRate_16 : decode cX9_nextRate 16 = .ok (.iconst 1, 1) := by decide +kernel
theorem dX9_nextRate_17 : decode cX9_nextRate 17 = .ok (.iadd, 1) := by decide +kernel
theorem dX9_nextRate_18 : decode cX9_nextRate 18 = .ok (.istore 4, 2) := by decide +kernel
theorem dX9_nextRate_20 : decode cX9_nextRate 20 = .ok (.iconst 1, 1) := by decide +kernel
theorem dX9_nextRate_21 : decode cX9_nextRate 21 = .ok (.istore 5, 2) := by decide +kernel
theorem dX9_nextRate_23 : decode cX9_nextRate 23 = .ok (.iload 5, 2) := by decide +kernel
theorem dX9_nextRate_25 : decode cX9_nextRate 25 = .ok (.bipush 9, 2) := by decide +kernel
theorem dX9_nextRate_27 : decode cX9_nextRate 27 = .ok (.if_icmp .gt 32, 3) := by decide +kernel
theorem dX9_nextRate_30 : decode cX9_nextRate 30 = .ok (.aload_n 1, 1) := by decide +kernel
theorem dX9_nextRate_31 : decode cX9_nextRate 31 = .ok (.iload_n 2, 1) := by decide +kernel
theorem dX9_nextRate_32 : decode cX9_nextRate 32 = .ok (.iload 5, 2) := by decide +kernel
theorem dX9_nextRate_34 : decode cX9_nextRate 34 = .ok (.invokestatic 36, 3) := by decide +kernel
theorem dX9_nextRate_37 : decode cX9_nextRate 37 = .ok (.istore 6, 2) := by decide +kernel
theorem dX9_nextRate_39 : decode cX9_nextRate 39 = .ok (.iload 6, 2) := by decide +kernel
theorem dX9_nextRate_41 : decode cX9_nextRate 41 = .ok (.iload 4, 2) := by decide +kernel
theorem dX9_nextRate_43 : decode cX9_nextRate 43 = .ok (.if_icmp .ge 10, 3) := by decide +kernel
theorem dX9_nextRate_46 : decode cX9_nextRate 46 = .ok (.iload 6, 2) := by decide +kernel
theorem dX9_nextRate_48 : decode cX9_nextRate 48 = .ok (.istore 4, 2) := by decide +kernel
theorem dX9_nextRate_50 : decode cX9_nextRate 50 = .ok (.iload 5, 2) := by decide +kernel
theorem dX9_nextRate_52 : decode cX9_nextRate 52 = .ok (.istore_n 3, 1) := by decide +kernel
theorem dX9_nextRate_53 : decode cX9_nextRate 53 = .ok (.iinc 5 1, 3) := by decide +kernel
theorem dX9_nextRate_56 : decode cX9_nextRate 56 = .ok (.goto (-33), 3) := by decide +kernel
theorem dX9_nextRate_59 : decode cX9_nextRate 59 = .ok (.iload_n 3, 1) := by decide +kernel
theorem dX9_nextRate_60 : decode cX9_nextRate 60 = .ok (.ireturn, 1) := by decide +kernel
set_option maxRecDepth 20000 in
theorem ggX9_mostLeft_X9_has : GoodIn wsX9_mostLeft wsX9_has := goodIn_r _ [8] (by decide +kernel) (by decide +kernel)
set_option maxRecDepth 20000 in
theorem gX9_mostLeft_X9_has : GoodIn wsX9_mostLeft (va_wsS RX9 40 yX9_has wsX9_has) := goodIn_app (goodIn_of _ (by decide +kernel)) ggX9_mostLeft_X9_has
set_option maxRecDepth 20000 in
theorem ggX9_mostLeft_X1_asks : GoodIn wsX9_mostLeft wsX1_asks := goodIn_r _ [14] (by decide +kernel) (by decide +kernel)
set_option maxRecDepth 20000 in
theorem gX9_mostLeft_X1_asks_u26X0 : GoodIn wsX9_mostLeft (va_wsU RX9 26 RX0 "CowsOwed$Clan" ⟨"CowsOwed$Clan", "asks", "(I)I"⟩ yX1_asks wsX1_asks) := goodIn_app (goodIn_of _ (by decide +kernel)) ggX9_mostLeft_X1_asks
set_option maxRecDepth 20000 in
theorem gX9_mostLeft_X1_asks : GoodIn wsX9_mostLeft (wsV RX9 26 RX1 yX1_asks wsX1_asks) := goodIn_app (goodIn_of _ (by decide +kernel)) ggX9_mostLeft_X1_asks
set_option maxRecDepth 20000 in
theorem ggX9_mostLeft_X3_asks : GoodIn wsX9_mostLeft wsX3_asks := goodIn_r _ [21, 22, 23, 24, 25, 26, 27] (by decide +kernel) (by decide +kernel)
set_option maxRecDepth 20000 in
theorem gX9_mostLeft_X3_asks_u26X3 : GoodIn wsX9_mostLeft (va_wsO RX9 26 RX3 "CowsOwed$Clan" ⟨"CowsOwed$Clan", "asks", "(I)I"⟩ yX3_asks wsX3_asks) := goodIn_app (goodIn_of _ (by decide +kernel)) ggX9_mostLeft_X3_asks
set_option maxRecDepth 20000 in
theorem ggX9_mostLeft_X6_asks : GoodIn wsX9_mostLeft wsX6_asks := goodIn_r _ [31, 32, 2, 3, 4] (by decide +kernel) (by decide +kernel)
set_option maxRecDepth 20000 in
theorem gX9_mostLeft_X6_asks_u26X6 : GoodIn wsX9_mostLeft (va_wsO RX9 26 RX6 "CowsOwed$Clan" ⟨"CowsOwed$Clan", "asks", "(I)I"⟩ yX6_asks wsX6_asks) := goodIn_app (goodIn_of _ (by decide +kernel)) ggX9_mostLeft_X6_asks
set_option maxRecDepth 20000 in
theorem ggX9_mostLeft_X7_asks : GoodIn wsX9_mostLeft wsX7_asks := goodIn_r _ [27] (by decide +kernel) (by decide +kernel)
set_option maxRecDepth 20000 in
theorem gX9_mostLeft_X7_asks_u26X7 : GoodIn wsX9_mostLeft (va_wsO RX9 26 RX7 "CowsOwed$Clan" ⟨"CowsOwed$Clan", "asks", "(I)I"⟩ yX7_asks wsX7_asks) := goodIn_app (goodIn_of _ (by decide +kernel)) ggX9_mostLeft_X7_asks
set_option maxRecDepth 20000 in
theorem ggX9_mostLeft_X9_alike : GoodIn wsX9_mostLeft wsX9_alike := goodIn_r _ [36, 5, 6, 7, 8, 9, 10, 11, 12, 13, 14, 15, 16, 17, 18, 19, 20, 21, 22, 23, 24, 25, 26, 27, 28, 29, 30, 31, 32, 2, 3, 4, 33] (by decide +kernel) (by decide +kernel)
set_option maxRecDepth 20000 in
theorem gX9_mostLeft_X9_alike : GoodIn wsX9_mostLeft (va_wsS RX9 44 yX9_alike wsX9_alike) := goodIn_app (goodIn_of _ (by decide +kernel)) ggX9_mostLeft_X9_alike
theorem dX9_mostLeft_0 : decode cX9_mostLeft 0 = .ok (.iconst 0, 1) := by decide +kernel
theorem dX9_mostLeft_1 : decode cX9_mostLeft 1 = .ok (.istore_n 3, 1) := by decide +kernel
theorem dX9_mostLeft_2 : decode cX9_mostLeft 2 = .ok (.iconst 0, 1) := by decide +kernel
theorem dX9_mostLeft_3 : decode cX9_mostLeft 3 = .ok (.istore 4, 2) := by decide +kernel
theorem dX9_mostLeft_5 : decode cX9_mostLeft 5 = .ok (.iload 4, 2) := by decide +kernel
theorem dX9_mostLeft_7 : decode cX9_mostLeft 7 = .ok (.aload_n 0, 1) := by decide +kernel
theorem dX9_mostLeft_8 : decode cX9_mostLeft 8 = .ok (.arraylength, 1) := by decide +kernel
theorem dX9_mostLeft_9 : decode cX9_mostLeft 9 = .ok (.if_icmp .ge 37, 3) := by decide +kernel
theorem dX9_mostLeft_12 : decode cX9_mostLeft 12 = .ok (.iload_n 1, 1) := by decide +kernel
theorem dX9_mostLeft_13 : decode cX9_mostLeft 13 = .ok (.iload 4, 2) := by decide +kernel
theorem dX9_mostLeft_15 : decode cX9_mostLeft 15 = .ok (.invokestatic 40, 3) := by decide +kernel
theorem dX9_mostLeft_18 : decode cX9_mostLeft 18 = .ok (.ifCond .eq 22, 3) := by decide +kernel
theorem dX9_mostLeft_21 : decode cX9_mostLeft 21 = .ok (.iload_n 3, 1) := by decide +kernel
theorem dX9_mostLeft_22 : decode cX9_mostLeft 22 = .ok (.aload_n 0, 1) := by decide +kernel
theorem dX9_mostLeft_23 : decode cX9_mostLeft 23 = .ok (.iload_n 1, 1) := by decide +kernel
theorem dX9_mostLeft_24 : decode cX9_mostLeft 24 = .ok (.iload_n 2, 1) := by decide +kernel
theorem dX9_mostLeft_25 : decode cX9_mostLeft 25 = .ok (.aload_n 0, 1) := by decide +kernel
theorem dX9_mostLeft_26 : decode cX9_mostLeft 26 = .ok (.iload 4, 2) := by decide +kernel
theorem dX9_mostLeft_28 : decode cX9_mostLeft 28 = .ok (.aaload, 1) := by decide +kernel
theorem dX9_mostLeft_29 : decode cX9_mostLeft 29 = .ok (.iload_n 2, 1) := by decide +kernel
theorem dX9_mostLeft_30 : decode cX9_mostLeft 30 = .ok (.invokevirtual 26, 3) := by decide +kernel
theorem dX9_mostLeft_33 : decode cX9_mostLeft 33 = .ok (.invokestatic 44, 3) := by decide +kernel
theorem dX9_mostLeft_36 : decode cX9_mostLeft 36 = .ok (.invokestatic 48, 3) := by decide +kernel
theorem dX9_mostLeft_39 : decode cX9_mostLeft 39 = .ok (.istore_n 3, 1) := by decide +kernel
theorem dX9_mostLeft_40 : decode cX9_mostLeft 40 = .ok (.iinc 4 1, 3) := by decide +kernel
theorem dX9_mostLeft_43 : decode cX9_mostLeft 43 = .ok (.goto (-38), 3) := by decide +kernel
theorem dX9_mostLeft_46 : decode cX9_mostLeft 46 = .ok (.iload_n 3, 1) := by decide +kernel
theorem dX9_mostLeft_47 : decode cX9_mostLeft 47 = .ok (.ireturn, 1) := by decide +kernel
set_option maxRecDepth 20000 in
theorem ggX9_alike_X9_has : GoodIn wsX9_alike wsX9_has := goodIn_r _ [4] (by decide +kernel) (by decide +kernel)
set_option maxRecDepth 20000 in
theorem gX9_alike_X9_has : GoodIn wsX9_alike (va_wsS RX9 40 yX9_has wsX9_has) := goodIn_app (goodIn_of _ (by decide +kernel)) ggX9_alike_X9_has
set_option maxRecDepth 20000 in
theorem ggX9_alike_X1_asks : GoodIn wsX9_alike wsX1_asks := goodIn_r _ [10] (by decide +kernel) (by decide +kernel)
set_option maxRecDepth 20000 in
theorem gX9_alike_X1_asks_u26X0 : GoodIn wsX9_alike (va_wsU RX9 26 RX0 "CowsOwed$Clan" ⟨"CowsOwed$Clan", "asks", "(I)I"⟩ yX1_asks wsX1_asks) := goodIn_app (goodIn_of _ (by decide +kernel)) ggX9_alike_X1_asks
set_option maxRecDepth 20000 in
theorem gX9_alike_X1_asks : GoodIn wsX9_alike (wsV RX9 26 RX1 yX1_asks wsX1_asks) := goodIn_app (goodIn_of _ (by decide +kernel)) ggX9_alike_X1_asks
set_option maxRecDepth 20000 in
theorem ggX9_alike_X3_asks : GoodIn wsX9_alike wsX3_asks := goodIn_r _ [17, 18, 19, 20, 21, 22, 23] (by decide +kernel) (by decide +kernel)
set_option maxRecDepth 20000 in
theorem gX9_alike_X3_asks_u26X3 : GoodIn wsX9_alike (va_wsO RX9 26 RX3 "CowsOwed$Clan" ⟨"CowsOwed$Clan", "asks", "(I)I"⟩ yX3_asks wsX3_asks) := goodIn_app (goodIn_of _ (by decide +kernel)) ggX9_alike_X3_asks
set_option maxRecDepth 20000 in
theorem ggX9_alike_X6_asks : GoodIn wsX9_alike wsX6_asks := goodIn_r _ [27, 28, 29, 30, 31] (by decide +kernel) (by decide +kernel)
set_option maxRecDepth 20000 in
theorem gX9_alike_X6_asks_u26X6 : GoodIn wsX9_alike (va_wsO RX9 26 RX6 "CowsOwed$Clan" ⟨"CowsOwed$Clan", "asks", "(I)I"⟩ yX6_asks wsX6_asks) := goodIn_app (goodIn_of _ (by decide +kernel)) ggX9_alike_X6_asks
set_option maxRecDepth 20000 in
theorem ggX9_alike_X7_asks : GoodIn wsX9_alike wsX7_asks := goodIn_r _ [23] (by decide +kernel) (by decide +kernel)
set_option maxRecDepth 20000 in
theorem gX9_alike_X7_asks_u26X7 : GoodIn wsX9_alike (va_wsO RX9 26 RX7 "CowsOwed$Clan" ⟨"CowsOwed$Clan", "asks", "(I)I"⟩ yX7_asks wsX7_asks) := goodIn_app (goodIn_of _ (by decide +kernel)) ggX9_alike_X7_asks
theorem dX9_alike_0 : decode cX9_alike 0 = .ok (.iconst 0, 1) := by decide +kernel
theorem dX9_alike_1 : decode cX9_alike 1 = .ok (.istore 4, 2) := by decide +kernel
theorem dX9_alike_3 : decode cX9_alike 3 = .ok (.iconst 0, 1) := by decide +kernel
theorem dX9_alike_4 : decode cX9_alike 4 = .ok (.istore 5, 2) := by decide +kernel
theorem dX9_alike_6 : decode cX9_alike 6 = .ok (.iload 5, 2) := by decide +kernel
theorem dX9_alike_8 : decode cX9_alike 8 = .ok (.aload_n 0, 1) := by decide +kernel
theorem dX9_alike_9 : decode cX9_alike 9 = .ok (.arraylength, 1) := by decide +kernel
theorem dX9_alike_10 : decode cX9_alike 10 = .ok (.if_icmp .ge 33, 3) := by decide +kernel
theorem dX9_alike_13 : decode cX9_alike 13 = .ok (.iload_n 1, 1) := by decide +kernel
theorem dX9_alike_14 : decode cX9_alike 14 = .ok (.iload 5, 2) := by decide +kernel
theorem dX9_alike_16 : decode cX9_alike 16 = .ok (.invokestatic 40, 3) := by decide +kernel
theorem dX9_alike_19 : decode cX9_alike 19 = .ok (.ifCond .eq 18, 3) := by decide +kernel
theorem dX9_alike_22 : decode cX9_alike 22 = .ok (.aload_n 0, 1) := by decide +kernel
theorem dX9_alike_23 : decode cX9_alike 23 = .ok (.iload 5, 2) := by decide +kernel
theorem dX9_alike_25 : decode cX9_alike 25 = .ok (.aaload, 1) := by decide +kernel
theorem dX9_alike_26 : decode cX9_alike 26 = .ok (.iload_n 2, 1) := by decide +kernel
theorem dX9_alike_27 : decode cX9_alike 27 = .ok (.invokevirtual 26, 3) := by decide +kernel
theorem dX9_alike_30 : decode cX9_alike 30 = .ok (.iload_n 3, 1) := by decide +kernel
theorem dX9_alike_31 : decode cX9_alike 31 = .ok (.if_icmp .ne 6, 3) := by decide +kernel
theorem dX9_alike_34 : decode cX9_alike 34 = .ok (.iinc 4 1, 3) := by decide +kernel
theorem dX9_alike_37 : decode cX9_alike 37 = .ok (.iinc 5 1, 3) := by decide +kernel
theorem dX9_alike_40 : decode cX9_alike 40 = .ok (.goto (-34), 3) := by decide +kernel
theorem dX9_alike_43 : decode cX9_alike 43 = .ok (.iload 4, 2) := by decide +kernel
theorem dX9_alike_45 : decode cX9_alike 45 = .ok (.ireturn, 1) := by decide +kernel
theorem dX9_has_0 : decode cX9_has 0 = .ok (.iload_n 0, 1) := by decide +kernel
theorem dX9_has_1 : decode cX9_has 1 = .ok (.iload_n 1, 1) := by decide +kernel
theorem dX9_has_2 : decode cX9_has 2 = .ok (.ishr, 1) := by decide +kernel
theorem dX9_has_3 : decode cX9_has 3 = .ok (.iconst 1, 1) := by decide +kernel
theorem dX9_has_4 : decode cX9_has 4 = .ok (.iand, 1) := by decide +kernel
theorem dX9_has_5 : decode cX9_has 5 = .ok (.iconst 1, 1) := by decide +kernel
theorem dX9_has_6 : decode cX9_has 6 = .ok (.if_icmp .ne 7, 3) := by decide +kernel
theorem dX9_has_9 : decode cX9_has 9 = .ok (.iconst 1, 1) := by decide +kernel
theorem dX9_has_10 : decode cX9_has 10 = .ok (.goto 4, 3) := by decide +kernel
theorem dX9_has_13 : decode cX9_has 13 = .ok (.iconst 0, 1) := by decide +kernel
theorem dX9_has_14 : decode cX9_has 14 = .ok (.ireturn, 1) := by decide +kernel
theorem dX10_init_0 : decode cX10_init 0 = .ok (.aload_n 0, 1) := by decide +kernel
theorem dX10_init_1 : decode cX10_init 1 = .ok (.invokespecial 3, 3) := by decide +kernel
theorem dX10_init_4 : decode cX10_init 4 = .ok (.aload_n 0, 1) := by decide +kernel
theorem dX10_init_5 : decode cX10_init 5 = .ok (.bipush 12, 2) := by decide +kernel
theorem dX10_init_7 : decode cX10_init 7 = .ok (.newarray .int, 2) := by decide +kernel
theorem dX10_init_9 : decode cX10_init 9 = .ok (.putfield 9, 3) := by decide +kernel
theorem dX10_init_12 : decode cX10_init 12 = .ok (.aload_n 0, 1) := by decide +kernel
theorem dX10_init_13 : decode cX10_init 13 = .ok (.bipush 12, 2) := by decide +kernel
theorem dX10_init_15 : decode cX10_init 15 = .ok (.newarray .int, 2) := by decide +kernel
theorem dX10_init_17 : decode cX10_init 17 = .ok (.putfield 15, 3) := by decide +kernel
theorem dX10_init_20 : decode cX10_init 20 = .ok (.aload_n 0, 1) := by decide +kernel
theorem dX10_init_21 : decode cX10_init 21 = .ok (.bipush 12, 2) := by decide +kernel
theorem dX10_init_23 : decode cX10_init 23 = .ok (.newarray .int, 2) := by decide +kernel
theorem dX10_init_25 : decode cX10_init 25 = .ok (.putfield 18, 3) := by decide +kernel
theorem dX10_init_28 : decode cX10_init 28 = .ok (.aload_n 0, 1) := by decide +kernel
theorem dX10_init_29 : decode cX10_init 29 = .ok (.bipush 12, 2) := by decide +kernel
theorem dX10_init_31 : decode cX10_init 31 = .ok (.newarray .int, 2) := by decide +kernel
theorem dX10_init_33 : decode cX10_init 33 = .ok (.putfield 21, 3) := by decide +kernel
theorem dX10_init_36 : decode cX10_init 36 = .ok (.aload_n 0, 1) := by decide +kernel
theorem dX10_init_37 : decode cX10_init 37 = .ok (.iconst 0, 1) := by decide +kernel
theorem dX10_init_38 : decode cX10_init 38 = .ok (.putfield 24, 3) := by decide +kernel
theorem dX10_init_41 : decode cX10_init 41 = .ok (.return_, 1) := by decide +kernel
theorem dX10_knows_0 : decode cX10_knows 0 = .ok (.iload_n 1, 1) := by decide +kernel
theorem dX10_knows_1 : decode cX10_knows 1 = .ok (.ifCond .lt 15, 3) := by decide +kernel
theorem dX10_knows_4 : decode cX10_knows 4 = .ok (.iload_n 1, 1) := by decide +kernel
theorem dX10_knows_5 : decode cX10_knows 5 = .ok (.aload_n 0, 1) := by decide +kernel
theorem dX10_knows_6 : decode cX10_knows 6 = .ok (.getfield 24, 3) := by decide +kernel
theorem dX10_knows_9 : decode cX10_knows 9 = .ok (.if_icmp .ge 7, 3) := by decide +kernel
theorem dX10_knows_12 : decode cX10_knows 12 = .ok (.iconst 1, 1) := by decide +kernel
theorem dX10_knows_13 : decode cX10_knows 13 = .ok (.goto 4, 3) := by decide +kernel
theorem dX10_knows_16 : decode cX10_knows 16 = .ok (.iconst 0, 1) := by decide +kernel
theorem dX10_knows_17 : decode cX10_knows 17 = .ok (.ireturn, 1) := by decide +kernel
theorem dX10_note_0 : decode cX10_note 0 = .ok (.aload_n 0, 1) := by decide +kernel
theorem dX10_note_1 : decode cX10_note 1 = .ok (.getfield 9, 3) := by decide +kernel
theorem dX10_note_4 : decode cX10_note 4 = .ok (.aload_n 0, 1) := by decide +kernel
theorem dX10_note_5 : decode cX10_note 5 = .ok (.getfield 24, 3) := by decide +kernel
theorem dX10_note_8 : decode cX10_note 8 = .ok (.iload_n 1, 1) := by decide +kernel
theorem dX10_note_9 : decode cX10_note 9 = .ok (.iastore, 1) := by decide +kernel
theorem dX10_note_10 : decode cX10_note 10 = .ok (.aload_n 0, 1) := by decide +kernel
theorem dX10_note_11 : decode cX10_note 11 = .ok (.getfield 15, 3) := by decide +kernel
theorem dX10_note_14 : decode cX10_note 14 = .ok (.aload_n 0, 1) := by decide +kernel
theorem dX10_note_15 : decode cX10_note 15 = .ok (.getfield 24, 3) := by decide +kernel
theorem dX10_note_18 : decode cX10_note 18 = .ok (.iload_n 2, 1) := by decide +kernel
theorem dX10_note_19 : decode cX10_note 19 = .ok (.iastore, 1) := by decide +kernel
theorem dX10_note_20 : decode cX10_note 20 = .ok (.aload_n 0, 1) := by decide +kernel
theorem dX10_note_21 : decode cX10_note 21 = .ok (.getfield 18, 3) := by decide +kernel
theorem dX10_note_24 : decode cX10_note 24 = .ok (.aload_n 0, 1) := by decide +kernel
theorem dX10_note_25 : decode cX10_note 25 = .ok (.getfield 24, 3) := by decide +kernel
theorem dX10_note_28 : decode cX10_note 28 = .ok (.iload_n 3, 1) := by decide +kernel
theorem dX10_note_29 : decode cX10_note 29 = .ok (.iastore, 1) := by decide +kernel
theorem dX10_note_30 : decode cX10_note 30 = .ok (.aload_n 0, 1) := by decide +kernel
theorem dX10_note_31 : decode cX10_note 31 = .ok (.getfield 21, 3) := by decide +kernel
theorem dX10_note_34 : decode cX10_note 34 = .ok (.aload_n 0, 1) := by decide +kernel
theorem dX10_note_35 : decode cX10_note 35 = .ok (.getfield 24, 3) := by decide +kernel
theorem dX10_note_38 : decode cX10_note 38 = .ok (.iconst 0, 1) := by decide +kernel
theorem dX10_note_39 : decode cX10_note 39 = .ok (.iastore, 1) := by decide +kernel
theorem dX10_note_40 : decode cX10_note 40 = .ok (.aload_n 0, 1) := by decide +kernel
theorem dX10_note_41 : decode cX10_note 41 = .ok (.dup, 1) := by decide +kernel
theorem dX10_note_42 : decode cX10_note 42 = .ok (.getfield 24, 3) := by decide +kernel
theorem dX10_note_45 : decode cX10_note 45 = .ok (.iconst 1, 1) := by decide +kernel
theorem dX10_note_46 : decode cX10_note 46 = .ok (.iadd, 1) := by decide +kernel
theorem dX10_note_47 : decode cX10_note 47 = .ok (.putfield 24, 3) := by decide +kernel
theorem dX10_note_50 : decode cX10_note 50 = .ok (.aload_n 0, 1) := by decide +kernel
theorem dX10_note_51 : decode cX10_note 51 = .ok (.getfield 24, 3) := by decide +kernel
theorem dX10_note_54 : decode cX10_note 54 = .ok (.iconst 1, 1) := by decide +kernel
theorem dX10_note_55 : decode cX10_note 55 = .ok (.isub, 1) := by decide +kernel
theorem dX10_note_56 : decode cX10_note 56 = .ok (.ireturn, 1) := by decide +kernel
theorem dX10_copyFrom_0 : decode cX10_copyFrom 0 = .ok (.aload_n 0, 1) := by decide +kernel
theorem dX10_copyFrom_1 : decode cX10_copyFrom 1 = .ok (.aload_n 1, 1) := by decide +kernel
theorem dX10_copyFrom_2 : decode cX10_copyFrom 2 = .ok (.getfield 24, 3) := by decide +kernel
theorem dX10_copyFrom_5 : decode cX10_copyFrom 5 = .ok (.putfield 24, 3) := by decide +kernel
theorem dX10_copyFrom_8 : decode cX10_copyFrom 8 = .ok (.iconst 0, 1) := by decide +kernel
theorem dX10_copyFrom_9 : decode cX10_copyFrom 9 = .ok (.istore_n 2, 1) := by decide +kernel
theorem dX10_copyFrom_10 : decode cX10_copyFrom 10 = .ok (.iload_n 2, 1) := by decide +kernel
theorem dX10_copyFrom_11 : decode cX10_copyFrom 11 = .ok (.bipush 12, 2) := by decide +kernel
theorem dX10_copyFrom_13 : decode cX10_copyFrom 13 = .ok (.if_icmp .ge 57, 3) := by decide +kernel
theorem dX10_copyFrom_16 : decode cX10_copyFrom 16 = .ok (.aload_n 0, 1) := by decide +kernel
theorem dX10_copyFrom_17 : decode cX10_copyFrom 17 = .ok (.getfield 9, 3) := by decide +kernel
theorem dX10_copyFrom_20 : decode cX10_copyFrom 20 = .ok (.iload_n 2, 1) := by decide +kernel
theorem dX10_copyFrom_21 : decode cX10_copyFrom 21 = .ok (.aload_n 1, 1) := by decide +kernel
theorem dX10_copyFrom_22 : decode cX10_copyFrom 22 = .ok (.getfield 9, 3) := by decide +kernel
theorem dX10_copyFrom_25 : decode cX10_copyFrom 25 = .ok (.iload_n 2, 1) := by decide +kernel
theorem dX10_copyFrom_26 : decode cX10_copyFrom 26 = .ok (.iaload, 1) := by decide +kernel
theorem dX10_copyFrom_27 : decode cX10_copyFrom 27 = .ok (.iastore, 1) := by decide +kernel
theorem dX10_copyFrom_28 : decode cX10_copyFrom 28 = .ok (.aload_n 0, 1) := by decide +kernel
theorem dX10_copyFrom_29 : decode cX10_copyFrom 29 = .ok (.getfield 15, 3) := by decide +kernel
theorem dX10_copyFrom_32 : decode cX10_copyFrom 32 = .ok (.iload_n 2, 1) := by decide +kernel
theorem dX10_copyFrom_33 : decode cX10_copyFrom 33 = .ok (.aload_n 1, 1) := by decide +kernel
theorem dX10_copyFrom_34 : decode cX10_copyFrom 34 = .ok (.getfield 15, 3) := by decide +kernel
theorem dX10_copyFrom_37 : decode cX10_copyFrom 37 = .ok (.iload_n 2, 1) := by decide +kernel
theorem dX10_copyFrom_38 : decode cX10_copyFrom 38 = .ok (.iaload, 1) := by decide +kernel
theorem dX10_copyFrom_39 : decode cX10_copyFrom 39 = .ok (.iastore, 1) := by decide +kernel
theorem dX10_copyFrom_40 : decode cX10_copyFrom 40 = .ok (.aload_n 0, 1) := by decide +kernel
theorem dX10_copyFrom_41 : decode cX10_copyFrom 41 = .ok (.getfield 18, 3) := by decide +kernel
theorem dX10_copyFrom_44 : decode cX10_copyFrom 44 = .ok (.iload_n 2, 1) := by decide +kernel
theorem dX10_copyFrom_45 : decode cX10_copyFrom 45 = .ok (.aload_n 1, 1) := by decide +kernel
theorem dX10_copyFrom_46 : decode cX10_copyFrom 46 = .ok (.getfield 18, 3) := by decide +kernel
theorem dX10_copyFrom_49 : decode cX10_copyFrom 49 = .ok (.iload_n 2, 1) := by decide +kernel
theorem dX10_copyFrom_50 : decode cX10_copyFrom 50 = .ok (.iaload, 1) := by decide +kernel
theorem dX10_copyFrom_51 : decode cX10_copyFrom 51 = .ok (.iastore, 1) := by decide +kernel
theorem dX10_copyFrom_52 : decode cX10_copyFrom 52 = .ok (.aload_n 0, 1) := by decide +kernel
theorem dX10_copyFrom_53 : decode cX10_copyFrom 53 = .ok (.getfield 21, 3) := by decide +kernel
theorem dX10_copyFrom_56 : decode cX10_copyFrom 56 = .ok (.iload_n 2, 1) := by decide +kernel
theorem dX10_copyFrom_57 : decode cX10_copyFrom 57 = .ok (.aload_n 1, 1) := by decide +kernel
theorem dX10_copyFrom_58 : decode cX10_copyFrom 58 = .ok (.getfield 21, 3) := by decide +kernel
theorem dX10_copyFrom_61 : decode cX10_copyFrom 61 = .ok (.iload_n 2, 1) := by decide +kernel
theorem dX10_copyFrom_62 : decode cX10_copyFrom 62 = .ok (.iaload, 1) := by decide +kernel
theorem dX10_copyFrom_63 : decode cX10_copyFrom 63 = .ok (.iastore, 1) := by decide +kernel
theorem dX10_copyFrom_64 : decode cX10_copyFrom 64 = .ok (.iinc 2 1, 3) := by decide +kernel
theorem dX10_copyFrom_67 : decode cX10_copyFrom 67 = .ok (.goto (-57), 3) := by decide +kernel
theorem dX10_copyFrom_70 : decode cX10_copyFrom 70 = .ok (.return_, 1) := by decide +kernel
set_option maxRecDepth 20000 in
theorem ggX11_init_X1_init : GoodIn wsX11_init wsX1_init := goodIn_r _ [37, 38, 2, 3] (by decide +kernel) (by decide +kernel)
set_option maxRecDepth 20000 in
theorem gX11_init_X1_init_n9 : GoodIn wsX11_init (wsX1_init) := ggX11_init_X1_init
set_option maxRecDepth 20000 in
theorem ggX11_init_X7_init : GoodIn wsX11_init wsX7_init := goodIn_r _ [40, 36, 6, 37, 38, 2, 3] (by decide +kernel) (by decide +kernel)
set_option maxRecDepth 20000 in
theorem gX11_init_X7_init_n12 : GoodIn wsX11_init (wsX7_init) := ggX11_init_X7_init
set_option maxRecDepth 20000 in
theorem ggX11_init_X6_init : GoodIn wsX11_init wsX6_init := goodIn_r _ [42, 36, 6, 37, 38, 2, 3] (by decide +kernel) (by decide +kernel)
set_option maxRecDepth 20000 in
theorem gX11_init_X6_init_n15 : GoodIn wsX11_init (wsX6_init) := ggX11_init_X6_init
set_option maxRecDepth 20000 in
theorem ggX11_init_X0_init : GoodIn wsX11_init wsX0_init := goodIn_r _ [44, 36, 6, 37, 38, 2, 3] (by decide +kernel) (by decide +kernel)
set_option maxRecDepth 20000 in
theorem gX11_init_X0_init_n18 : GoodIn wsX11_init (wsX0_init) := ggX11_init_X0_init
set_option maxRecDepth 20000 in
theorem ggX11_init_X3_init : GoodIn wsX11_init wsX3_init := goodIn_r _ [46, 39, 9, 40, 36, 6, 37, 38, 2, 3] (by decide +kernel) (by decide +kernel)
set_option maxRecDepth 20000 in
theorem gX11_init_X3_init_n21 : GoodIn wsX11_init (wsX3_init) := ggX11_init_X3_init
set_option maxRecDepth 20000 in
theorem ggX11_init_X4_init : GoodIn wsX11_init wsX4_init := goodIn_r _ [48, 49, 2, 3, 50, 51, 52, 114, 115] (by decide +kernel) (by decide +kernel)
set_option maxRecDepth 20000 in
theorem gX11_init_X4_init_n33 : GoodIn wsX11_init (wsX4_init) := ggX11_init_X4_init
set_option maxRecDepth 20000 in
theorem ggX11_init_X8_init : GoodIn wsX11_init wsX8_init := goodIn_r _ [55, 56, 2, 3, 57, 58, 59, 60, 61, 62, 63, 64, 65, 66, 67, 68, 69, 70, 31, 32, 71, 72, 73, 74, 50, 75, 76, 77, 78, 79, 80, 81, 82, 83, 84, 85, 86, 87, 88, 89, 90, 91, 92, 93, 94, 95, 96, 97, 98, 99, 100, 101, 102, 103, 104, 126, 127, 128, 129, 130, 116, 117, 118, 119, 120, 131, 132, 133, 134, 135, 136, 137, 138, 139, 121, 122, 123, 124, 125] (by decide +kernel) (by decide +kernel)
set_option maxRecDepth 20000 in
theorem gX11_init_X8_init : GoodIn wsX11_init (wsX8_init) := ggX11_init_X8_init
set_option maxRecDepth 20000 in
theorem ggX11_init_X2_init : GoodIn wsX11_init wsX2_init := goodIn_r _ [97, 98, 2, 3, 50, 99, 100, 101, 102, 103, 104, 121, 122, 123, 124, 125] (by decide +kernel) (by decide +kernel)
set_option maxRecDepth 20000 in
theorem gX11_init_X2_init : GoodIn wsX11_init (wsX2_init) := ggX11_init_X2_init
theorem dX11_init_0 : decode cX11_init 0 = .ok (.aload_n 0, 1) := by decide +kernel
theorem dX11_init_1 : decode cX11_init 1 = .ok (.invokespecial 1, 3) := by decide +kernel
theorem dX11_init_4 : decode cX11_init 4 = .ok (.new 7, 3) := by decide +kernel
theorem dX11_init_7 : decode cX11_init 7 = .ok (.dup, 1) := by decide +kernel
theorem dX11_init_8 : decode cX11_init 8 = .ok (.invokespecial 9, 3) := by decide +kernel
theorem dX11_init_11 : decode cX11_init 11 = .ok (.astore_n 1, 1) := by decide +kernel
theorem dX11_init_12 : decode cX11_init 12 = .ok (.aload_n 0, 1) := by decide +kernel
theorem dX11_init_13 : decode cX11_init 13 = .ok (.iconst 5, 1) := by decide +kernel
theorem dX11_init_14 : decode cX11_init 14 = .ok (.anewarray 7, 3) := by decide +kernel
theorem dX11_init_17 : decode cX11_init 17 = .ok (.dup, 1) := by decide +kernel
theorem dX11_init_18 : decode cX11_init 18 = .ok (.iconst 0, 1) := by decide +kernel
theorem dX11_init_19 : decode cX11_init 19 = .ok (.aload_n 1, 1) := by decide +kernel
theorem dX11_init_20 : decode cX11_init 20 = .ok (.aastore, 1) := by decide +kernel
theorem dX11_init_21 : decode cX11_init 21 = .ok (.dup, 1) := by decide +kernel
theorem dX11_init_22 : decode cX11_init 22 = .ok (.iconst 1, 1) := by decide +kernel
theorem dX11_init_23 : decode cX11_init 23 = .ok (.new 10, 3) := by decide +kernel
theorem dX11_init_26 : decode cX11_init 26 = .ok (.dup, 1) := by decide +kernel
theorem dX11_init_27 : decode cX11_init 27 = .ok (.invokespecial 12, 3) := by decide +kernel
theorem dX11_init_30 : decode cX11_init 30 = .ok (.aastore, 1) := by decide +kernel
theorem dX11_init_31 : decode cX11_init 31 = .ok (.dup, 1) := by decide +kernel
theorem dX11_init_32 : decode cX11_init 32 = .ok (.iconst 2, 1) := by decide +kernel
theorem dX11_init_33 : decode cX11_init 33 = .ok (.new 13, 3) := by decide +kernel
theorem dX11_init_36 : decode cX11_init 36 = .ok (.dup, 1) := by decide +kernel
theorem dX11_init_37 : decode cX11_init 37 = .ok (.invokespecial 15, 3) := by decide +kernel
theorem dX11_init_40 : decode cX11_init 40 = .ok (.aastore, 1) := by decide +kernel
theorem dX11_init_41 : decode cX11_init 41 = .ok (.dup, 1) := by decide +kernel
theorem dX11_init_42 : decode cX11_init 42 = .ok (.iconst 3, 1) := by decide +kernel
theorem dX11_init_43 : decode cX11_init 43 = .ok (.new 16, 3) := by decide +kernel
theorem dX11_init_46 : decode cX11_init 46 = .ok (.dup, 1) := by decide +kernel
theorem dX11_init_47 : decode cX11_init 47 = .ok (.invokespecial 18, 3) := by decide +kernel
theorem dX11_init_50 : decode cX11_init 50 = .ok (.aastore, 1) := by decide +kernel
theorem dX11_init_51 : decode cX11_init 51 = .ok (.dup, 1) := by decide +kernel
theorem dX11_init_52 : decode cX11_init 52 = .ok (.iconst 4, 1) := by decide +kernel
theorem dX11_init_53 : decode cX11_init 53 = .ok (.new 19, 3) := by decide +kernel
theorem dX11_init_56 : decode cX11_init 56 = .ok (.dup, 1) := by decide +kernel
theorem dX11_init_57 : decode cX11_init 57 = .ok (.invokespecial 21, 3) := by decide +kernel
theorem dX11_init_60 : decode cX11_init 60 = .ok (.aastore, 1) := by decide +kernel
theorem dX11_init_61 : decode cX11_init 61 = .ok (.putfield 22, 3) := by decide +kernel
theorem dX11_init_64 : decode cX11_init 64 = .ok (.aload_n 0, 1) := by decide +kernel
theorem dX11_init_65 : decode cX11_init 65 = .ok (.iconst 4, 1) := by decide +kernel
theorem dX11_init_66 : decode cX11_init 66 = .ok (.anewarray 7, 3) := by decide +kernel
theorem dX11_init_69 : decode cX11_init 69 = .ok (.dup, 1) := by decide +kernel
theorem dX11_init_70 : decode cX11_init 70 = .ok (.iconst 0, 1) := by decide +kernel
theorem dX11_init_71 : decode cX11_init 71 = .ok (.aload_n 1, 1) := by decide +kernel
theorem dX11_init_72 : decode cX11_init 72 = .ok (.aastore, 1) := by decide +kernel
theorem dX11_init_73 : decode cX11_init 73 = .ok (.dup, 1) := by decide +kernel
theorem dX11_init_74 : decode cX11_init 74 = .ok (.iconst 1, 1) := by decide +kernel
theorem dX11_init_75 : decode cX11_init 75 = .ok (.aload_n 1, 1) := by decide +kernel
theorem dX11_init_76 : decode cX11_init 76 = .ok (.aastore, 1) := by decide +kernel
theorem dX11_init_77 : decode cX11_init 77 = .ok (.dup, 1) := by decide +kernel
theorem dX11_init_78 : decode cX11_init 78 = .ok (.iconst 2, 1) := by decide +kernel
theorem dX11_init_79 : decode cX11_init 79 = .ok (.aload_n 1, 1) := by decide +kernel
theorem dX11_init_80 : decode cX11_init 80 = .ok (.aastore, 1) := by decide +kernel
theorem dX11_init_81 : decode cX11_init 81 = .ok (.dup, 1) := by decide +kernel
theorem dX11_init_82 : decode cX11_init 82 = .ok (.iconst 3, 1) := by decide +kernel
theorem dX11_init_83 : decode cX11_init 83 = .ok (.aload_n 1, 1) := by decide +kernel
theorem dX11_init_84 : decode cX11_init 84 = .ok (.aastore, 1) := by decide +kernel
theorem dX11_init_85 : decode cX11_init 85 = .ok (.putfield 28, 3) := by decide +kernel
theorem dX11_init_88 : decode cX11_init 88 = .ok (.aload_n 0, 1) := by decide +kernel
theorem dX11_init_89 : decode cX11_init 89 = .ok (.new 31, 3) := by decide +kernel
theorem dX11_init_92 : decode cX11_init 92 = .ok (.dup, 1) := by decide +kernel
theorem dX11_init_93 : decode cX11_init 93 = .ok (.invokespecial 33, 3) := by decide +kernel
theorem dX11_init_96 : decode cX11_init 96 = .ok (.putfield 34, 3) := by decide +kernel
theorem dX11_init_99 : decode cX11_init 99 = .ok (.aload_n 0, 1) := by decide +kernel
theorem dX11_init_100 : decode cX11_init 100 = .ok (.new 38, 3) := by decide +kernel
theorem dX11_init_103 : decode cX11_init 103 = .ok (.dup, 1) := by decide +kernel
theorem dX11_init_104 : decode cX11_init 104 = .ok (.aload_n 0, 1) := by decide +kernel
theorem dX11_init_105 : decode cX11_init 105 = .ok (.getfield 28, 3) := by decide +kernel
theorem dX11_init_108 : decode cX11_init 108 = .ok (.invokespecial 40, 3) := by decide +kernel
theorem dX11_init_111 : decode cX11_init 111 = .ok (.putfield 43, 3) := by decide +kernel
theorem dX11_init_114 : decode cX11_init 114 = .ok (.aload_n 0, 1) := by decide +kernel
theorem dX11_init_115 : decode cX11_init 115 = .ok (.new 38, 3) := by decide +kernel
theorem dX11_init_118 : decode cX11_init 118 = .ok (.dup, 1) := by decide +kernel
theorem dX11_init_119 : decode cX11_init 119 = .ok (.aload_n 0, 1) := by decide +kernel
theorem dX11_init_120 : decode cX11_init 120 = .ok (.getfield 28, 3) := by decide +kernel
theorem dX11_init_123 : decode cX11_init 123 = .ok (.invokespecial 40, 3) := by decide +kernel
theorem dX11_init_126 : decode cX11_init 126 = .ok (.putfield 47, 3) := by decide +kernel
theorem dX11_init_129 : decode cX11_init 129 = .ok (.aload_n 0, 1) := by decide +kernel
theorem dX11_init_130 : decode cX11_init 130 = .ok (.new 50, 3) := by decide +kernel
theorem dX11_init_133 : decode cX11_init 133 = .ok (.dup, 1) := by decide +kernel
theorem dX11_init_134 : decode cX11_init 134 = .ok (.aload_n 0, 1) := by decide +kernel
theorem dX11_init_135 : decode cX11_init 135 = .ok (.getfield 28, 3) := by decide +kernel
theorem dX11_init_138 : decode cX11_init 138 = .ok (.invokespecial 52, 3) := by decide +kernel
theorem dX11_init_141 : decode cX11_init 141 = .ok (.putfield 53, 3) := by decide +kernel
theorem dX11_init_144 : decode cX11_init 144 = .ok (.aload_n 0, 1) := by decide +kernel
theorem dX11_init_145 : decode cX11_init 145 = .ok (.iconst 0, 1) := by decide +kernel
theorem dX11_init_146 : decode cX11_init 146 = .ok (.putfield 57, 3) := by decide +kernel
theorem dX11_init_149 : decode cX11_init 149 = .ok (.aload_n 0, 1) := by decide +kernel
theorem dX11_init_150 : decode cX11_init 150 = .ok (.iconst 0, 1) := by decide +kernel
theorem dX11_init_151 : decode cX11_init 151 = .ok (.putfield 61, 3) := by decide +kernel
theorem dX11_init_154 : decode cX11_init 154 = .ok (.return_, 1) := by decide +kernel
set_option maxRecDepth 20000 in
theorem ggX11_letter_X4_put : GoodIn wsX11_letter wsX4_put := goodIn_r _ [7, 8, 9, 18, 19] (by decide +kernel) (by decide +kernel)
set_option maxRecDepth 20000 in
theorem gX11_letter_X4_put : GoodIn wsX11_letter (wsV RX11 68 RX4 yX4_put wsX4_put) := goodIn_app (goodIn_of _ (by decide +kernel)) ggX11_letter_X4_put
theorem dX11_letter_0 : decode cX11_letter 0 = .ok (.iload_n 1, 1) := by decide +kernel
theorem dX11_letter_1 : decode cX11_letter 1 = .ok (.iconst 1, 1) := by decide +kernel
theorem dX11_letter_2 : decode cX11_letter 2 = .ok (.if_icmp .lt 9, 3) := by decide +kernel
theorem dX11_letter_5 : decode cX11_letter 5 = .ok (.iload_n 1, 1) := by decide +kernel
theorem dX11_letter_6 : decode cX11_letter 6 = .ok (.bipush 126, 2) := by decide +kernel
theorem dX11_letter_8 : decode cX11_letter 8 = .ok (.if_icmp .le 6, 3) := by decide +kernel
theorem dX11_letter_11 : decode cX11_letter 11 = .ok (.bipush (-102), 2) := by decide +kernel
theorem dX11_letter_13 : decode cX11_letter 13 = .ok (.ireturn, 1) := by decide +kernel
theorem dX11_letter_14 : decode cX11_letter 14 = .ok (.aload_n 0, 1) := by decide +kernel
theorem dX11_letter_15 : decode cX11_letter 15 = .ok (.getfield 34, 3) := by decide +kernel
theorem dX11_letter_18 : decode cX11_letter 18 = .ok (.getfield 65, 3) := by decide +kernel
theorem dX11_letter_21 : decode cX11_letter 21 = .ok (.bipush 16, 2) := by decide +kernel
theorem dX11_letter_23 : decode cX11_letter 23 = .ok (.if_icmp .lt 6, 3) := by decide +kernel
theorem dX11_letter_26 : decode cX11_letter 26 = .ok (.bipush (-104), 2) := by decide +kernel
theorem dX11_letter_28 : decode cX11_letter 28 = .ok (.ireturn, 1) := by decide +kernel
theorem dX11_letter_29 : decode cX11_letter 29 = .ok (.aload_n 0, 1) := by decide +kernel
theorem dX11_letter_30 : decode cX11_letter 30 = .ok (.getfield 34, 3) := by decide +kernel
theorem dX11_letter_33 : decode cX11_letter 33 = .ok (.iload_n 1, 1) := by decide +kernel
theorem dX11_letter_34 : decode cX11_letter 34 = .ok (.invokevirtual 68, 3) := by decide +kernel
theorem dX11_letter_37 : decode cX11_letter 37 = .ok (.ireturn, 1) := by decide +kernel
theorem dX11_blank_0 : decode cX11_blank 0 = .ok (.aload_n 0, 1) := by decide +kernel
theorem dX11_blank_1 : decode cX11_blank 1 = .ok (.getfield 34, 3) := by decide +kernel
theorem dX11_blank_4 : decode cX11_blank 4 = .ok (.getfield 65, 3) := by decide +kernel
theorem dX11_blank_7 : decode cX11_blank 7 = .ok (.istore_n 1, 1) := by decide +kernel
theorem dX11_blank_8 : decode cX11_blank 8 = .ok (.aload_n 0, 1) := by decide +kernel
theorem dX11_blank_9 : decode cX11_blank 9 = .ok (.getfield 34, 3) := by decide +kernel
theorem dX11_blank_12 : decode cX11_blank 12 = .ok (.iconst 0, 1) := by decide +kernel
theorem dX11_blank_13 : decode cX11_blank 13 = .ok (.putfield 65, 3) := by decide +kernel
theorem dX11_blank_16 : decode cX11_blank 16 = .ok (.iload_n 1, 1) := by decide +kernel
theorem dX11_blank_17 : decode cX11_blank 17 = .ok (.ireturn, 1) := by decide +kernel
set_option maxRecDepth 20000 in
theorem ggX11_fault_X4_firstFault : GoodIn wsX11_fault wsX4_firstFault := goodIn_r _ [6, 7, 8, 9, 10, 5, 11, 12, 13, 14, 15, 16, 17, 18, 19, 20, 21, 22, 23, 24, 25, 26, 27, 28, 29, 30, 31, 32, 33, 34, 35, 36, 37, 38, 39, 40, 41, 42, 43, 44, 45, 46, 47, 48, 49, 50, 51, 52, 53, 54, 55, 56, 57, 58, 59, 60, 61, 62, 63, 64, 65, 66, 67, 68, 69, 70, 71, 72, 73, 74, 75, 76, 77, 78, 79, 80, 81, 82, 83, 84, 85, 86, 87, 88, 89, 90, 91, 92, 93, 94, 95, 96, 97, 98, 99, 100, 101, 102, 103, 104, 105, 106, 115, 116] (by decide +kernel) (by decide +kernel)
set_option maxRecDepth 20000 in
theorem gX11_fault_X4_firstFault : GoodIn wsX11_fault (wsV RX11 72 RX4 yX4_firstFault wsX4_firstFault) := goodIn_app (goodIn_of _ (by decide +kernel)) ggX11_fault_X4_firstFault
theorem dX11_fault_0 : decode cX11_fault 0 = .ok (.aload_n 0, 1) := by decide +kernel
theorem dX11_fault_1 : decode cX11_fault 1 = .ok (.getfield 34, 3) := by decide +kernel
theorem dX11_fault_4 : decode cX11_fault 4 = .ok (.invokevirtual 72, 3) := by decide +kernel
theorem dX11_fault_7 : decode cX11_fault 7 = .ok (.ireturn, 1) := by decide +kernel
set_option maxRecDepth 20000 in
theorem ggX11_hills_X4_isHills : GoodIn wsX11_hills wsX4_isHills := goodIn_r _ [13, 14, 15, 16, 17, 18, 12, 19, 20, 21, 22, 23, 24, 25, 26, 27, 28, 29, 30, 31, 32, 33, 34, 35, 36, 37, 38, 39, 40, 41, 42, 43, 44, 45, 46, 47, 48, 49, 50, 51, 52, 53, 54, 55, 56, 57, 58, 59, 60, 61, 62, 63, 64, 65, 66, 67, 68, 69, 70, 71, 72, 73, 74, 75, 76, 77, 78, 79, 80, 81, 82, 83, 84, 85, 86, 87, 88, 89, 90, 91, 92, 93, 94, 95, 96, 97, 98, 99, 100, 101, 102, 103, 104, 105, 106, 107, 108, 109, 110, 111, 112, 113, 114, 115, 116, 117, 180, 181] (by decide +kernel) (by decide +kernel)
set_option maxRecDepth 20000 in
theorem gX11_hills_X4_isHills : GoodIn wsX11_hills (wsV RX11 76 RX4 yX4_isHills wsX4_isHills) := goodIn_app (goodIn_of _ (by decide +kernel)) ggX11_hills_X4_isHills
set_option maxRecDepth 20000 in
theorem ggX11_hills_X4_clanCount : GoodIn wsX11_hills wsX4_clanCount := goodIn_r _ [121, 14, 180, 181] (by decide +kernel) (by decide +kernel)
set_option maxRecDepth 20000 in
theorem gX11_hills_X4_clanCount : GoodIn wsX11_hills (wsV RX11 80 RX4 yX4_clanCount wsX4_clanCount) := goodIn_app (goodIn_of _ (by decide +kernel)) ggX11_hills_X4_clanCount
set_option maxRecDepth 20000 in
theorem ggX11_hills_X4_rateDigit : GoodIn wsX11_hills wsX4_rateDigit := goodIn_r _ [125, 14, 15, 180, 181] (by decide +kernel) (by decide +kernel)
set_option maxRecDepth 20000 in
theorem gX11_hills_X4_rateDigit : GoodIn wsX11_hills (wsV RX11 83 RX4 yX4_rateDigit wsX4_rateDigit) := goodIn_app (goodIn_of _ (by decide +kernel)) ggX11_hills_X4_rateDigit
set_option maxRecDepth 20000 in
theorem ggX11_hills_X8_begin : GoodIn wsX11_hills wsX8_begin := goodIn_r _ [130, 131, 132, 133, 134, 135, 136, 137, 138, 139, 140, 141, 142, 143, 144, 145, 146, 147, 170, 171, 172, 173, 174, 182, 183, 184, 185, 186, 187, 188, 189, 190, 191, 192, 193, 194, 195, 175, 176, 177, 178, 179] (by decide +kernel) (by decide +kernel)
set_option maxRecDepth 20000 in
theorem gX11_hills_X8_begin : GoodIn wsX11_hills (wsV RX11 86 RX8 yX8_begin wsX8_begin) := goodIn_app (goodIn_of _ (by decide +kernel)) ggX11_hills_X8_begin
set_option maxRecDepth 20000 in
theorem ggX11_hills_X4_kindOf : GoodIn wsX11_hills wsX4_kindOf := goodIn_r _ [151, 15, 23, 24, 12, 25, 26, 27, 28, 29, 30, 31, 32, 33, 34, 35, 36, 37, 38, 39, 40, 41, 42, 43, 44, 45, 46, 47, 48, 49, 50, 51, 52, 53, 54, 55, 56, 57, 58, 59, 60, 61, 62, 63, 64, 65, 66, 67, 68, 69, 70, 71, 72, 73, 74, 75, 76, 77, 78, 79, 80, 81, 82, 83, 84, 85, 86, 87, 88, 89, 90, 91, 92, 93, 94, 95, 96, 97, 98, 99, 100, 101, 102, 103, 104, 105, 106, 107, 108, 109, 110, 111, 112, 113, 114, 180, 181] (by decide +kernel) (by decide +kernel)
set_option maxRecDepth 20000 in
theorem gX11_hills_X4_kindOf : GoodIn wsX11_hills (wsV RX11 90 RX4 yX4_kindOf wsX4_kindOf) := goodIn_app (goodIn_of _ (by decide +kernel)) ggX11_hills_X4_kindOf
set_option maxRecDepth 20000 in
theorem ggX11_hills_X11_kindAt : GoodIn wsX11_hills wsX11_kindAt := goodIn_r _ [156, 157, 162, 163, 164, 165, 166, 167, 168, 169] (by decide +kernel) (by decide +kernel)
set_option maxRecDepth 20000 in
theorem gX11_hills_X11_kindAt : GoodIn wsX11_hills (wsV RX11 93 RX11 yX11_kindAt wsX11_kindAt) := goodIn_app (goodIn_of _ (by decide +kernel)) ggX11_hills_X11_kindAt
set_option maxRecDepth 20000 in
theorem ggX11_hills_X4_herdOf : GoodIn wsX11_hills wsX4_herdOf := goodIn_r _ [161, 15, 180, 181] (by decide +kernel) (by decide +kernel)
set_option maxRecDepth 20000 in
theorem gX11_hills_X4_herdOf : GoodIn wsX11_hills (wsV RX11 104 RX4 yX4_herdOf wsX4_herdOf) := goodIn_app (goodIn_of _ (by decide +kernel)) ggX11_hills_X4_herdOf
theorem dX11_hills_0 : decode cX11_hills 0 = .ok (.aload_n 0, 1) := by decide +kernel
theorem dX11_hills_1 : decode cX11_hills 1 = .ok (.getfield 34, 3) := by decide +kernel
theorem dX11_hills_4 : decode cX11_hills 4 = .ok (.invokevirtual 76, 3) := by decide +kernel
theorem dX11_hills_7 : decode cX11_hills 7 = .ok (.ifCond .ne 6, 3) := by decide +kernel
theorem dX11_hills_10 : decode cX11_hills 10 = .ok (.bipush (-103), 2) := by decide +kernel
theorem dX11_hills_12 : decode cX11_hills 12 = .ok (.ireturn, 1) := by decide +kernel
theorem dX11_hills_13 : decode cX11_hills 13 = .ok (.aload_n 0, 1) := by decide +kernel
theorem dX11_hills_14 : decode cX11_hills 14 = .ok (.getfield 34, 3) := by decide +kernel
theorem dX11_hills_17 : decode cX11_hills 17 = .ok (.invokevirtual 80, 3) := by decide +kernel
theorem dX11_hills_20 : decode cX11_hills 20 = .ok (.istore_n 1, 1) := by decide +kernel
theorem dX11_hills_21 : decode cX11_hills 21 = .ok (.aload_n 0, 1) := by decide +kernel
theorem dX11_hills_22 : decode cX11_hills 22 = .ok (.getfield 43, 3) := by decide +kernel
theorem dX11_hills_25 : decode cX11_hills 25 = .ok (.iload_n 1, 1) := by decide +kernel
theorem dX11_hills_26 : decode cX11_hills 26 = .ok (.aload_n 0, 1) := by decide +kernel
theorem dX11_hills_27 : decode cX11_hills 27 = .ok (.getfield 34, 3) := by decide +kernel
theorem dX11_hills_30 : decode cX11_hills 30 = .ok (.invokevirtual 83, 3) := by decide +kernel
theorem dX11_hills_33 : decode cX11_hills 33 = .ok (.invokevirtual 86, 3) := by decide +kernel
theorem dX11_hills_36 : decode cX11_hills 36 = .ok (.iconst 0, 1) := by decide +kernel
theorem dX11_hills_37 : decode cX11_hills 37 = .ok (.istore_n 2, 1) := by decide +kernel
theorem dX11_hills_38 : decode cX11_hills 38 = .ok (.iload_n 2, 1) := by decide +kernel
theorem dX11_hills_39 : decode cX11_hills 39 = .ok (.iload_n 1, 1) := by decide +kernel
theorem dX11_hills_40 : decode cX11_hills 40 = .ok (.if_icmp .ge 47, 3) := by decide +kernel
theorem dX11_hills_43 : decode cX11_hills 43 = .ok (.aload_n 0, 1) := by decide +kernel
theorem dX11_hills_44 : decode cX11_hills 44 = .ok (.getfield 28, 3) := by decide +kernel
theorem dX11_hills_47 : decode cX11_hills 47 = .ok (.iload_n 2, 1) := by decide +kernel
theorem dX11_hills_48 : decode cX11_hills 48 = .ok (.aload_n 0, 1) := by decide +kernel
theorem dX11_hills_49 : decode cX11_hills 49 = .ok (.aload_n 0, 1) := by decide +kernel
theorem dX11_hills_50 : decode cX11_hills 50 = .ok (.getfield 34, 3) := by decide +kernel
theorem dX11_hills_53 : decode cX11_hills 53 = .ok (.iload_n 2, 1) := by decide +kernel
theorem dX11_hills_54 : decode cX11_hills 54 = .ok (.invokevirtual 90, 3) := by decide +kernel
theorem dX11_hills_57 : decode cX11_hills 57 = .ok (.invokevirtual 93, 3) := by decide +kernel
theorem dX11_hills_60 : decode cX11_hills 60 = .ok (.aastore, 1) := by decide +kernel
theorem dX11_hills_61 : decode cX11_hills 61 = .ok (.aload_n 0, 1) := by decide +kernel
theorem dX11_hills_62 : decode cX11_hills 62 = .ok (.getfield 43, 3) := by decide +kernel
theorem dX11_hills_65 : decode cX11_hills 65 = .ok (.getfield 97, 3) := by decide +kernel
theorem dX11_hills_68 : decode cX11_hills 68 = .ok (.getfield 100, 3) := by decide +kernel
theorem dX11_hills_71 : decode cX11_hills 71 = .ok (.iload_n 2, 1) := by decide +kernel
theorem dX11_hills_72 : decode cX11_hills 72 = .ok (.aload_n 0, 1) := by decide +kernel
theorem dX11_hills_73 : decode cX11_hills 73 = .ok (.getfield 34, 3) := by decide +kernel
theorem dX11_hills_76 : decode cX11_hills 76 = .ok (.iload_n 2, 1) := by decide +kernel
theorem dX11_hills_77 : decode cX11_hills 77 = .ok (.invokevirtual 104, 3) := by decide +kernel
theorem dX11_hills_80 : decode cX11_hills 80 = .ok (.iastore, 1) := by decide +kernel
theorem dX11_hills_81 : decode cX11_hills 81 = .ok (.iinc 2 1, 3) := by decide +kernel
theorem dX11_hills_84 : decode cX11_hills 84 = .ok (.goto (-46), 3) := by decide +kernel
theorem dX11_hills_87 : decode cX11_hills 87 = .ok (.aload_n 0, 1) := by decide +kernel
theorem dX11_hills_88 : decode cX11_hills 88 = .ok (.getfield 34, 3) := by decide +kernel
theorem dX11_hills_91 : decode cX11_hills 91 = .ok (.iconst 0, 1) := by decide +kernel
theorem dX11_hills_92 : decode cX11_hills 92 = .ok (.putfield 65, 3) := by decide +kernel
theorem dX11_hills_95 : decode cX11_hills 95 = .ok (.aload_n 0, 1) := by decide +kernel
theorem dX11_hills_96 : decode cX11_hills 96 = .ok (.iconst 0, 1) := by decide +kernel
theorem dX11_hills_97 : decode cX11_hills 97 = .ok (.putfield 57, 3) := by decide +kernel
theorem dX11_hills_100 : decode cX11_hills 100 = .ok (.aload_n 0, 1) := by decide +kernel
theorem dX11_hills_101 : decode cX11_hills 101 = .ok (.dup, 1) := by decide +kernel
theorem dX11_hills_102 : decode cX11_hills 102 = .ok (.getfield 61, 3) := by decide +kernel
theorem dX11_hills_105 : decode cX11_hills 105 = .ok (.iconst 1, 1) := by decide +kernel
theorem dX11_hills_106 : decode cX11_hills 106 = .ok (.iadd, 1) := by decide +kernel
theorem dX11_hills_107 : decode cX11_hills 107 = .ok (.putfield 61, 3) := by decide +kernel
theorem dX11_hills_110 : decode cX11_hills 110 = .ok (.iload_n 1, 1) := by decide +kernel
theorem dX11_hills_111 : decode cX11_hills 111 = .ok (.ireturn, 1) := by decide +kernel
set_option maxRecDepth 20000 in
theorem ggX11_clan_X2_knows : GoodIn wsX11_clan wsX2_knows := goodIn_r _ [10, 11, 106, 107, 108, 109, 110] (by decide +kernel) (by decide +kernel)
set_option maxRecDepth 20000 in
theorem gX11_clan_X2_knows : GoodIn wsX11_clan (wsV RX11 107 RX2 yX2_knows wsX2_knows) := goodIn_app (goodIn_of _ (by decide +kernel)) ggX11_clan_X2_knows
set_option maxRecDepth 20000 in
theorem ggX11_clan_X0_number : GoodIn wsX11_clan wsX0_number := goodIn_r _ [18] (by decide +kernel) (by decide +kernel)
set_option maxRecDepth 20000 in
theorem gX11_clan_X0_number_u115X0 : GoodIn wsX11_clan (va_wsO RX11 115 RX0 "CowsOwed$Clan" ⟨"CowsOwed$Clan", "number", "()I"⟩ yX0_number wsX0_number) := goodIn_app (goodIn_of _ (by decide +kernel)) ggX11_clan_X0_number
set_option maxRecDepth 20000 in
theorem ggX11_clan_X1_number : GoodIn wsX11_clan wsX1_number := goodIn_r _ [19] (by decide +kernel) (by decide +kernel)
set_option maxRecDepth 20000 in
theorem gX11_clan_X1_number : GoodIn wsX11_clan (wsV RX11 115 RX1 yX1_number wsX1_number) := goodIn_app (goodIn_of _ (by decide +kernel)) ggX11_clan_X1_number
set_option maxRecDepth 20000 in
theorem ggX11_clan_X3_number : GoodIn wsX11_clan wsX3_number := goodIn_r _ [27] (by decide +kernel) (by decide +kernel)
set_option maxRecDepth 20000 in
theorem gX11_clan_X3_number_u115X3 : GoodIn wsX11_clan (va_wsO RX11 115 RX3 "CowsOwed$Clan" ⟨"CowsOwed$Clan", "number", "()I"⟩ yX3_number wsX3_number) := goodIn_app (goodIn_of _ (by decide +kernel)) ggX11_clan_X3_number
set_option maxRecDepth 20000 in
theorem ggX11_clan_X6_number : GoodIn wsX11_clan wsX6_number := goodIn_r _ [31] (by decide +kernel) (by decide +kernel)
set_option maxRecDepth 20000 in
theorem gX11_clan_X6_number_u115X6 : GoodIn wsX11_clan (va_wsO RX11 115 RX6 "CowsOwed$Clan" ⟨"CowsOwed$Clan", "number", "()I"⟩ yX6_number wsX6_number) := goodIn_app (goodIn_of _ (by decide +kernel)) ggX11_clan_X6_number
set_option maxRecDepth 20000 in
theorem ggX11_clan_X7_number : GoodIn wsX11_clan wsX7_number := goodIn_r _ [35] (by decide +kernel) (by decide +kernel)
set_option maxRecDepth 20000 in
theorem gX11_clan_X7_number_u115X7 : GoodIn wsX11_clan (va_wsO RX11 115 RX7 "CowsOwed$Clan" ⟨"CowsOwed$Clan", "number", "()I"⟩ yX7_number wsX7_number) := goodIn_app (goodIn_of _ (by decide +kernel)) ggX11_clan_X7_number
set_option maxRecDepth 20000 in
theorem ggX11_clan_X2_askedBy : GoodIn wsX11_clan wsX2_askedBy := goodIn_r _ [39, 40, 41, 42, 43, 44, 45, 23, 46, 47, 48, 49, 50, 51, 26, 52, 53, 54, 55, 56, 34, 57, 58, 59, 30, 60, 61, 62, 63, 64, 65, 106, 107, 108, 109, 110] (by decide +kernel) (by decide +kernel)
set_option maxRecDepth 20000 in
theorem gX11_clan_X2_askedBy : GoodIn wsX11_clan (wsV RX11 118 RX2 yX2_askedBy wsX2_askedBy) := goodIn_app (goodIn_of _ (by decide +kernel)) ggX11_clan_X2_askedBy
set_option maxRecDepth 20000 in
theorem ggX11_clan_X2_sparedBy : GoodIn wsX11_clan wsX2_sparedBy := goodIn_r _ [69, 40, 70, 71, 72, 73, 74, 75, 17, 76, 77, 78, 79, 80, 23, 81, 82, 83, 106, 107, 108, 109, 110] (by decide +kernel) (by decide +kernel)
set_option maxRecDepth 20000 in
theorem gX11_clan_X2_sparedBy : GoodIn wsX11_clan (wsV RX11 121 RX2 yX2_sparedBy wsX2_sparedBy) := goodIn_app (goodIn_of _ (by decide +kernel)) ggX11_clan_X2_sparedBy
set_option maxRecDepth 20000 in
theorem ggX11_clan_X2_owedBy : GoodIn wsX11_clan wsX2_owedBy := goodIn_r _ [87, 11, 88, 106, 107, 108, 109, 110] (by decide +kernel) (by decide +kernel)
set_option maxRecDepth 20000 in
theorem gX11_clan_X2_owedBy : GoodIn wsX11_clan (wsV RX11 124 RX2 yX2_owedBy wsX2_owedBy) := goodIn_app (goodIn_of _ (by decide +kernel)) ggX11_clan_X2_owedBy
set_option maxRecDepth 20000 in
theorem ggX11_clan_X2_owedTo : GoodIn wsX11_clan wsX2_owedTo := goodIn_r _ [92, 11, 88, 106, 107, 108, 109, 110] (by decide +kernel) (by decide +kernel)
set_option maxRecDepth 20000 in
theorem gX11_clan_X2_owedTo : GoodIn wsX11_clan (wsV RX11 127 RX2 yX2_owedTo wsX2_owedTo) := goodIn_app (goodIn_of _ (by decide +kernel)) ggX11_clan_X2_owedTo
theorem dX11_clan_0 : decode cX11_clan 0 = .ok (.aload_n 0, 1) := by decide +kernel
theorem dX11_clan_1 : decode cX11_clan 1 = .ok (.getfield 43, 3) := by decide +kernel
theorem dX11_clan_4 : decode cX11_clan 4 = .ok (.getfield 97, 3) := by decide +kernel
theorem dX11_clan_7 : decode cX11_clan 7 = .ok (.astore_n 3, 1) := by decide +kernel
theorem dX11_clan_8 : decode cX11_clan 8 = .ok (.aload_n 3, 1) := by decide +kernel
theorem dX11_clan_9 : decode cX11_clan 9 = .ok (.iload_n 1, 1) := by decide +kernel
theorem dX11_clan_10 : decode cX11_clan 10 = .ok (.invokevirtual 107, 3) := by decide +kernel
theorem dX11_clan_13 : decode cX11_clan 13 = .ok (.ifCond .ne 6, 3) := by decide +kernel
theorem dX11_clan_16 : decode cX11_clan 16 = .ok (.bipush (-101), 2) := by decide +kernel
theorem dX11_clan_18 : decode cX11_clan 18 = .ok (.ireturn, 1) := by decide +kernel
theorem dX11_clan_19 : decode cX11_clan 19 = .ok (.iload_n 2, 1) := by decide +kernel
theorem dX11_clan_20 : decode cX11_clan 20 = .ok (.bipush 10, 2) := by decide +kernel
theorem dX11_clan_22 : decode cX11_clan 22 = .ok (.if_icmp .lt 21, 3) := by decide +kernel
theorem dX11_clan_25 : decode cX11_clan 25 = .ok (.iload_n 2, 1) := by decide +kernel
theorem dX11_clan_26 : decode cX11_clan 26 = .ok (.bipush 14, 2) := by decide +kernel
theorem dX11_clan_28 : decode cX11_clan 28 = .ok (.if_icmp .ge 15, 3) := by decide +kernel
theorem dX11_clan_31 : decode cX11_clan 31 = .ok (.aload_n 3, 1) := by decide +kernel
theorem dX11_clan_32 : decode cX11_clan 32 = .ok (.getfield 111, 3) := by decide +kernel
theorem dX11_clan_35 : decode cX11_clan 35 = .ok (.iload_n 1, 1) := by decide +kernel
theorem dX11_clan_36 : decode cX11_clan 36 = .ok (.aaload, 1) := by decide +kernel
theorem dX11_clan_37 : decode cX11_clan 37 = .ok (.iload_n 2, 1) := by decide +kernel
theorem dX11_clan_38 : decode cX11_clan 38 = .ok (.bipush 10, 2) := by decide +kernel
theorem dX11_clan_40 : decode cX11_clan 40 = .ok (.isub, 1) := by decide +kernel
theorem dX11_clan_41 : decode cX11_clan 41 = .ok (.iaload, 1) := by decide +kernel
theorem dX11_clan_42 : decode cX11_clan 42 = .ok (.ireturn, 1) := by decide +kernel
theorem dX11_clan_43 : decode cX11_clan 43 = .ok (.iload_n 2, 1) := by decide +kernel
theorem dX11_clan_44 : decode cX11_clan 44 = .ok (.tableswitch 108 0 6 #[44, 54, 61, 67, 73, 79, 85], 44) := by decide +kernel
theorem dX11_clan_88 : decode cX11_clan 88 = .ok (.aload_n 0, 1) := by decide +kernel
theorem dX11_clan_89 : decode cX11_clan 89 = .ok (.getfield 28, 3) := by decide +kernel
theorem dX11_clan_92 : decode cX11_clan 92 = .ok (.iload_n 1, 1) := by decide +kernel
theorem dX11_clan_93 : decode cX11_clan 93 = .ok (.aaload, 1) := by decide +kernel
theorem dX11_clan_94 : decode cX11_clan 94 = .ok (.invokevirtual 115, 3) := by decide +kernel
theorem dX11_clan_97 : decode cX11_clan 97 = .ok (.ireturn, 1) := by decide +kernel
theorem dX11_clan_98 : decode cX11_clan 98 = .ok (.aload_n 3, 1) := by decide +kernel
theorem dX11_clan_99 : decode cX11_clan 99 = .ok (.getfield 100, 3) := by decide +kernel
theorem dX11_clan_102 : decode cX11_clan 102 = .ok (.iload_n 1, 1) := by decide +kernel
theorem dX11_clan_103 : decode cX11_clan 103 = .ok (.iaload, 1) := by decide +kernel
theorem dX11_clan_104 : decode cX11_clan 104 = .ok (.ireturn, 1) := by decide +kernel
theorem dX11_clan_105 : decode cX11_clan 105 = .ok (.aload_n 3, 1) := by decide +kernel
theorem dX11_clan_106 : decode cX11_clan 106 = .ok (.iload_n 1, 1) := by decide +kernel
theorem dX11_clan_107 : decode cX11_clan 107 = .ok (.invokevirtual 118, 3) := by decide +kernel
theorem dX11_clan_110 : decode cX11_clan 110 = .ok (.ireturn, 1) := by decide +kernel
theorem dX11_clan_111 : decode cX11_clan 111 = .ok (.aload_n 3, 1) := by decide +kernel
theorem dX11_clan_112 : decode cX11_clan 112 = .ok (.iload_n 1, 1) := by decide +kernel
theorem dX11_clan_113 : decode cX11_clan 113 = .ok (.invokevirtual 121, 3) := by decide +kernel
theorem dX11_clan_116 : decode cX11_clan 116 = .ok (.ireturn, 1) := by decide +kernel
theorem dX11_clan_117 : decode cX11_clan 117 = .ok (.aload_n 3, 1) := by decide +kernel
theorem dX11_clan_118 : decode cX11_clan 118 = .ok (.iload_n 1, 1) := by decide +kernel
theorem dX11_clan_119 : decode cX11_clan 119 = .ok (.invokevirtual 124, 3) := by decide +kernel
theorem dX11_clan_122 : decode cX11_clan 122 = .ok (.ireturn, 1) := by decide +kernel
theorem dX11_clan_123 : decode cX11_clan 123 = .ok (.aload_n 3, 1) := by decide +kernel
theorem dX11_clan_124 : decode cX11_clan 124 = .ok (.iload_n 1, 1) := by decide +kernel
theorem dX11_clan_125 : decode cX11_clan 125 = .ok (.invokevirtual 127, 3) := by decide +kernel
theorem dX11_clan_128 : decode cX11_clan 128 = .ok (.ireturn, 1) := by decide +kernel
theorem dX11_clan_129 : decode cX11_clan 129 = .ok (.sipush 1000, 3) := by decide +kernel
theorem dX11_clan_132 : decode cX11_clan 132 = .ok (.aload_n 3, 1) := by decide +kernel
theorem dX11_clan_133 : decode cX11_clan 133 = .ok (.getfield 100, 3) := by decide +kernel
theorem dX11_clan_136 : decode cX11_clan 136 = .ok (.iload_n 1, 1) := by decide +kernel
theorem dX11_clan_137 : decode cX11_clan 137 = .ok (.iaload, 1) := by decide +kernel
theorem dX11_clan_138 : decode cX11_clan 138 = .ok (.iadd, 1) := by decide +kernel
theorem dX11_clan_139 : decode cX11_clan 139 = .ok (.aload_n 3, 1) := by decide +kernel
theorem dX11_clan_140 : decode cX11_clan 140 = .ok (.iload_n 1, 1) := by decide +kernel
theorem dX11_clan_141 : decode cX11_clan 141 = .ok (.invokevirtual 127, 3) := by decide +kernel
theorem dX11_clan_144 : decode cX11_clan 144 = .ok (.iadd, 1) := by decide +kernel
theorem dX11_clan_145 : decode cX11_clan 145 = .ok (.aload_n 3, 1) := by decide +kernel
theorem dX11_clan_146 : decode cX11_clan 146 = .ok (.iload_n 1, 1) := by decide +kernel
theorem dX11_clan_147 : decode cX11_clan 147 = .ok (.invokevirtual 124, 3) := by decide +kernel
theorem dX11_clan_150 : decode cX11_clan 150 = .ok (.isub, 1) := by decide +kernel
theorem dX11_clan_151 : decode cX11_clan 151 = .ok (.ireturn, 1) := by decide +kernel
theorem dX11_clan_152 : decode cX11_clan 152 = .ok (.bipush (-102), 2) := by decide +kernel
theorem dX11_clan_154 : decode cX11_clan 154 = .ok (.ireturn, 1) := by decide +kernel
set_option maxRecDepth 20000 in
theorem ggX11_as_X2_knows : GoodIn wsX11_as wsX2_knows := goodIn_r _ [8, 9, 31, 32, 33, 34, 35] (by decide +kernel) (by decide +kernel)
set_option maxRecDepth 20000 in
theorem gX11_as_X2_knows : GoodIn wsX11_as (wsV RX11 107 RX2 yX2_knows wsX2_knows) := goodIn_app (goodIn_of _ (by decide +kernel)) ggX11_as_X2_knows
set_option maxRecDepth 20000 in
theorem ggX11_as_X11_isOfKind : GoodIn wsX11_as wsX11_isOfKind := goodIn_r _ [13, 14, 15, 16, 17] (by decide +kernel) (by decide +kernel)
set_option maxRecDepth 20000 in
theorem gX11_as_X11_isOfKind : GoodIn wsX11_as (va_wsS RX11 130 yX11_isOfKind wsX11_isOfKind) := goodIn_app (goodIn_of _ (by decide +kernel)) ggX11_as_X11_isOfKind
theorem dX11_as_0 : decode cX11_as 0 = .ok (.aload_n 0, 1) := by decide +kernel
theorem dX11_as_1 : decode cX11_as 1 = .ok (.getfield 43, 3) := by decide +kernel
theorem dX11_as_4 : decode cX11_as 4 = .ok (.getfield 97, 3) := by decide +kernel
theorem dX11_as_7 : decode cX11_as 7 = .ok (.iload_n 1, 1) := by decide +kernel
theorem dX11_as_8 : decode cX11_as 8 = .ok (.invokevirtual 107, 3) := by decide +kernel
theorem dX11_as_11 : decode cX11_as 11 = .ok (.ifCond .ne 6, 3) := by decide +kernel
theorem dX11_as_14 : decode cX11_as 14 = .ok (.bipush (-101), 2) := by decide +kernel
theorem dX11_as_16 : decode cX11_as 16 = .ok (.ireturn, 1) := by decide +kernel
theorem dX11_as_17 : decode cX11_as 17 = .ok (.iload_n 2, 1) := by decide +kernel
theorem dX11_as_18 : decode cX11_as 18 = .ok (.ifCond .lt 8, 3) := by decide +kernel
theorem dX11_as_21 : decode cX11_as 21 = .ok (.iload_n 2, 1) := by decide +kernel
theorem dX11_as_22 : decode cX11_as 22 = .ok (.iconst 5, 1) := by decide +kernel
theorem dX11_as_23 : decode cX11_as 23 = .ok (.if_icmp .lt 6, 3) := by decide +kernel
theorem dX11_as_26 : decode cX11_as 26 = .ok (.bipush (-102), 2) := by decide +kernel
theorem dX11_as_28 : decode cX11_as 28 = .ok (.ireturn, 1) := by decide +kernel
theorem dX11_as_29 : decode cX11_as 29 = .ok (.aload_n 0, 1) := by decide +kernel
theorem dX11_as_30 : decode cX11_as 30 = .ok (.getfield 28, 3) := by decide +kernel
theorem dX11_as_33 : decode cX11_as 33 = .ok (.iload_n 1, 1) := by decide +kernel
theorem dX11_as_34 : decode cX11_as 34 = .ok (.aaload, 1) := by decide +kernel
theorem dX11_as_35 : decode cX11_as 35 = .ok (.iload_n 2, 1) := by decide +kernel
theorem dX11_as_36 : decode cX11_as 36 = .ok (.invokestatic 130, 3) := by decide +kernel
theorem dX11_as_39 : decode cX11_as 39 = .ok (.ifCond .eq 7, 3) := by decide +kernel
theorem dX11_as_42 : decode cX11_as 42 = .ok (.iload_n 1, 1) := by decide +kernel
theorem dX11_as_43 : decode cX11_as 43 = .ok (.goto 4, 3) := by decide +kernel
theorem dX11_as_46 : decode cX11_as 46 = .ok (.iconst (-1), 1) := by decide +kernel
theorem dX11_as_47 : decode cX11_as 47 = .ok (.ireturn, 1) := by decide +kernel
set_option maxRecDepth 20000 in
theorem ggX11_rate_X11_isRate : GoodIn wsX11_rate wsX11_isRate := goodIn_r _ [7] (by decide +kernel) (by decide +kernel)
set_option maxRecDepth 20000 in
theorem gX11_rate_X11_isRate : GoodIn wsX11_rate (va_wsS RX11 134 yX11_isRate wsX11_isRate) := goodIn_app (goodIn_of _ (by decide +kernel)) ggX11_rate_X11_isRate
set_option maxRecDepth 20000 in
theorem ggX11_rate_X11_hasHills : GoodIn wsX11_rate wsX11_hasHills := goodIn_r _ [11, 1, 2, 12, 13, 14, 15, 16, 17, 18, 19, 20, 21, 22, 23, 24, 25, 26, 27, 28, 29, 30] (by decide +kernel) (by decide +kernel)
set_option maxRecDepth 20000 in
theorem gX11_rate_X11_hasHills : GoodIn wsX11_rate (wsV RX11 137 RX11 yX11_hasHills wsX11_hasHills) := goodIn_app (goodIn_of _ (by decide +kernel)) ggX11_rate_X11_hasHills
theorem dX11_rate_0 : decode cX11_rate 0 = .ok (.iload_n 1, 1) := by decide +kernel
theorem dX11_rate_1 : decode cX11_rate 1 = .ok (.invokestatic 134, 3) := by decide +kernel
theorem dX11_rate_4 : decode cX11_rate 4 = .ok (.ifCond .ne 6, 3) := by decide +kernel
theorem dX11_rate_7 : decode cX11_rate 7 = .ok (.bipush (-102), 2) := by decide +kernel
theorem dX11_rate_9 : decode cX11_rate 9 = .ok (.ireturn, 1) := by decide +kernel
theorem dX11_rate_10 : decode cX11_rate 10 = .ok (.aload_n 0, 1) := by decide +kernel
theorem dX11_rate_11 : decode cX11_rate 11 = .ok (.invokevirtual 137, 3) := by decide +kernel
theorem dX11_rate_14 : decode cX11_rate 14 = .ok (.ifCond .ne 6, 3) := by decide +kernel
theorem dX11_rate_17 : decode cX11_rate 17 = .ok (.bipush (-103), 2) := by decide +kernel
theorem dX11_rate_19 : decode cX11_rate 19 = .ok (.ireturn, 1) := by decide +kernel
theorem dX11_rate_20 : decode cX11_rate 20 = .ok (.aload_n 0, 1) := by decide +kernel
theorem dX11_rate_21 : decode cX11_rate 21 = .ok (.getfield 43, 3) := by decide +kernel
theorem dX11_rate_24 : decode cX11_rate 24 = .ok (.getfield 97, 3) := by decide +kernel
theorem dX11_rate_27 : decode cX11_rate 27 = .ok (.getfield 140, 3) := by decide +kernel
theorem dX11_rate_30 : decode cX11_rate 30 = .ok (.istore_n 2, 1) := by decide +kernel
theorem dX11_rate_31 : decode cX11_rate 31 = .ok (.aload_n 0, 1) := by decide +kernel
theorem dX11_rate_32 : decode cX11_rate 32 = .ok (.getfield 43, 3) := by decide +kernel
theorem dX11_rate_35 : decode cX11_rate 35 = .ok (.getfield 97, 3) := by decide +kernel
theorem dX11_rate_38 : decode cX11_rate 38 = .ok (.iload_n 1, 1) := by decide +kernel
theorem dX11_rate_39 : decode cX11_rate 39 = .ok (.putfield 140, 3) := by decide +kernel
theorem dX11_rate_42 : decode cX11_rate 42 = .ok (.iload_n 2, 1) := by decide +kernel
theorem dX11_rate_43 : decode cX11_rate 43 = .ok (.ireturn, 1) := by decide +kernel
set_option maxRecDepth 20000 in
theorem ggX11_wed_X2_knowsCouple : GoodIn wsX11_wed wsX2_knowsCouple := goodIn_r _ [9, 10, 11, 12, 8, 13, 14, 100, 101, 102, 103, 104] (by decide +kernel) (by decide +kernel)
set_option maxRecDepth 20000 in
theorem gX11_wed_X2_knowsCouple : GoodIn wsX11_wed (wsV RX11 143 RX2 yX2_knowsCouple wsX2_knowsCouple) := goodIn_app (goodIn_of _ (by decide +kernel)) ggX11_wed_X2_knowsCouple
set_option maxRecDepth 20000 in
theorem ggX11_wed_X2_marry : GoodIn wsX11_wed wsX2_marry := goodIn_r _ [18, 19, 20, 21, 22, 23, 24, 25, 26, 27, 28, 29, 30, 31, 32, 33, 34, 35, 36, 37, 38, 39, 40, 41, 42, 43, 44, 45, 46, 47, 48, 49, 50, 51, 8, 52, 53, 54, 55, 56, 57, 58, 59, 60, 61, 62, 63, 64, 65, 66, 67, 68, 69, 70, 71, 100, 101, 102, 103, 104] (by decide +kernel) (by decide +kernel)
set_option maxRecDepth 20000 in
theorem gX11_wed_X2_marry : GoodIn wsX11_wed (wsV RX11 154 RX2 yX2_marry wsX2_marry) := goodIn_app (goodIn_of _ (by decide +kernel)) ggX11_wed_X2_marry
set_option maxRecDepth 20000 in
theorem ggX11_wed_X10_note : GoodIn wsX11_wed wsX10_note := goodIn_r _ [76, 77, 78, 79, 80, 81, 95, 96, 97, 98, 99] (by decide +kernel) (by decide +kernel)
set_option maxRecDepth 20000 in
theorem gX11_wed_X10_note : GoodIn wsX11_wed (wsV RX11 158 RX10 yX10_note wsX10_note) := goodIn_app (goodIn_of _ (by decide +kernel)) ggX11_wed_X10_note
theorem dX11_wed_0 : decode cX11_wed 0 = .ok (.aload_n 0, 1) := by decide +kernel
theorem dX11_wed_1 : decode cX11_wed 1 = .ok (.getfield 43, 3) := by decide +kernel
theorem dX11_wed_4 : decode cX11_wed 4 = .ok (.getfield 97, 3) := by decide +kernel
theorem dX11_wed_7 : decode cX11_wed 7 = .ok (.iload_n 1, 1) := by decide +kernel
theorem dX11_wed_8 : decode cX11_wed 8 = .ok (.iload_n 2, 1) := by decide +kernel
theorem dX11_wed_9 : decode cX11_wed 9 = .ok (.invokevirtual 143, 3) := by decide +kernel
theorem dX11_wed_12 : decode cX11_wed 12 = .ok (.ifCond .ne 6, 3) := by decide +kernel
theorem dX11_wed_15 : decode cX11_wed 15 = .ok (.bipush (-101), 2) := by decide +kernel
theorem dX11_wed_17 : decode cX11_wed 17 = .ok (.ireturn, 1) := by decide +kernel
theorem dX11_wed_18 : decode cX11_wed 18 = .ok (.aload_n 0, 1) := by decide +kernel
theorem dX11_wed_19 : decode cX11_wed 19 = .ok (.getfield 43, 3) := by decide +kernel
theorem dX11_wed_22 : decode cX11_wed 22 = .ok (.getfield 147, 3) := by decide +kernel
theorem dX11_wed_25 : decode cX11_wed 25 = .ok (.getfield 151, 3) := by decide +kernel
theorem dX11_wed_28 : decode cX11_wed 28 = .ok (.bipush 12, 2) := by decide +kernel
theorem dX11_wed_30 : decode cX11_wed 30 = .ok (.if_icmp .lt 6, 3) := by decide +kernel
theorem dX11_wed_33 : decode cX11_wed 33 = .ok (.bipush (-104), 2) := by decide +kernel
theorem dX11_wed_35 : decode cX11_wed 35 = .ok (.ireturn, 1) := by decide +kernel
theorem dX11_wed_36 : decode cX11_wed 36 = .ok (.aload_n 0, 1) := by decide +kernel
theorem dX11_wed_37 : decode cX11_wed 37 = .ok (.getfield 43, 3) := by decide +kernel
theorem dX11_wed_40 : decode cX11_wed 40 = .ok (.getfield 97, 3) := by decide +kernel
theorem dX11_wed_43 : decode cX11_wed 43 = .ok (.iload_n 1, 1) := by decide +kernel
theorem dX11_wed_44 : decode cX11_wed 44 = .ok (.iload_n 2, 1) := by decide +kernel
theorem dX11_wed_45 : decode cX11_wed 45 = .ok (.invokevirtual 154, 3) := by decide +kernel
theorem dX11_wed_48 : decode cX11_wed 48 = .ok (.istore_n 3, 1) := by decide +kernel
theorem dX11_wed_49 : decode cX11_wed 49 = .ok (.aload_n 0, 1) := by decide +kernel
theorem dX11_wed_50 : decode cX11_wed 50 = .ok (.getfield 43, 3) := by decide +kernel
theorem dX11_wed_53 : decode cX11_wed 53 = .ok (.getfield 147, 3) := by decide +kernel
theorem dX11_wed_56 : decode cX11_wed 56 = .ok (.iload_n 1, 1) := by decide +kernel
theorem dX11_wed_57 : decode cX11_wed 57 = .ok (.iload_n 2, 1) := by decide +kernel
theorem dX11_wed_58 : decode cX11_wed 58 = .ok (.iload_n 3, 1) := by decide +kernel
theorem dX11_wed_59 : decode cX11_wed 59 = .ok (.invokevirtual 158, 3) := by decide +kernel
theorem dX11_wed_62 : decode cX11_wed 62 = .ok (.ireturn, 1) := by decide +kernel
set_option maxRecDepth 20000 in
theorem ggX11_wedding_X10_knows : GoodIn wsX11_wedding wsX10_knows := goodIn_r _ [11, 12, 26, 27, 28, 29, 30] (by decide +kernel) (by decide +kernel)
set_option maxRecDepth 20000 in
theorem gX11_wedding_X10_knows : GoodIn wsX11_wedding (wsV RX11 162 RX10 yX10_knows wsX10_knows) := goodIn_app (goodIn_of _ (by decide +kernel)) ggX11_wedding_X10_knows
theorem dX11_wedding_0 : decode cX11_wedding 0 = .ok (.aload_n 0, 1) := by decide +kernel
theorem dX11_wedding_1 : decode cX11_wedding 1 = .ok (.getfield 43, 3) := by decide +kernel
theorem dX11_wedding_4 : decode cX11_wedding 4 = .ok (.getfield 147, 3) := by decide +kernel
theorem dX11_wedding_7 : decode cX11_wedding 7 = .ok (.astore_n 3, 1) := by decide +kernel
theorem dX11_wedding_8 : decode cX11_wedding 8 = .ok (.aload_n 3, 1) := by decide +kernel
theorem dX11_wedding_9 : decode cX11_wedding 9 = .ok (.iload_n 1, 1) := by decide +kernel
theorem dX11_wedding_10 : decode cX11_wedding 10 = .ok (.invokevirtual 162, 3) := by decide +kernel
theorem dX11_wedding_13 : decode cX11_wedding 13 = .ok (.ifCond .ne 6, 3) := by decide +kernel
theorem dX11_wedding_16 : decode cX11_wedding 16 = .ok (.bipush (-101), 2) := by decide +kernel
theorem dX11_wedding_18 : decode cX11_wedding 18 = .ok (.ireturn, 1) := by decide +kernel
theorem dX11_wedding_19 : decode cX11_wedding 19 = .ok (.iload_n 2, 1) := by decide +kernel
theorem dX11_wedding_20 : decode cX11_wedding 20 = .ok (.tableswitch 60 0 3 #[32, 39, 46, 53], 32) := by decide +kernel
theorem dX11_wedding_52 : decode cX11_wedding 52 = .ok (.aload_n 3, 1) := by decide +kernel
theorem dX11_wedding_53 : decode cX11_wedding 53 = .ok (.getfield 163, 3) := by decide +kernel
theorem dX11_wedding_56 : decode cX11_wedding 56 = .ok (.iload_n 1, 1) := by decide +kernel
theorem dX11_wedding_57 : decode cX11_wedding 57 = .ok (.iaload, 1) := by decide +kernel
theorem dX11_wedding_58 : decode cX11_wedding 58 = .ok (.ireturn, 1) := by decide +kernel
theorem dX11_wedding_59 : decode cX11_wedding 59 = .ok (.aload_n 3, 1) := by decide +kernel
