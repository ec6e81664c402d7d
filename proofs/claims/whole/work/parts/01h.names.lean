theorem dX12_orderOf_0 : decode cX12_orderOf 0 = .ok (.aload_n 0, 1) := by decide +kernel
theorem dX12_orderOf_1 : decode cX12_orderOf 1 = .ok (.invokevirtual 193, 3) := by decide +kernel
theorem dX12_orderOf_4 : decode cX12_orderOf 4 = .ok (.istore_n 2, 1) := by decide +kernel
theorem dX12_orderOf_5 : decode cX12_orderOf 5 = .ok (.iload_n 1, 1) := by decide +kernel
theorem dX12_orderOf_6 : decode cX12_orderOf 6 = .ok (.ifCond .ne 7, 3) := by decide +kernel
theorem dX12_orderOf_9 : decode cX12_orderOf 9 = .ok (.iload_n 2, 1) := by decide +kernel
theorem dX12_orderOf_10 : decode cX12_orderOf 10 = .ok (.goto 27, 3) := by decide +kernel
theorem dX12_orderOf_13 : decode cX12_orderOf 13 = .ok (.iload_n 1, 1) := by decide +kernel
theorem dX12_orderOf_14 : decode cX12_orderOf 14 = .ok (.bipush 10, 2) := by decide +kernel
theorem dX12_orderOf_16 : decode cX12_orderOf 16 = .ok (.isub, 1) := by decide +kernel
theorem dX12_orderOf_17 : decode cX12_orderOf 17 = .ok (.aload_n 0, 1) := by decide +kernel
theorem dX12_orderOf_18 : decode cX12_orderOf 18 = .ok (.getfield 117, 3) := by decide +kernel
theorem dX12_orderOf_21 : decode cX12_orderOf 21 = .ok (.if_icmp .ge 15, 3) := by decide +kernel
theorem dX12_orderOf_24 : decode cX12_orderOf 24 = .ok (.aload_n 0, 1) := by decide +kernel
theorem dX12_orderOf_25 : decode cX12_orderOf 25 = .ok (.getfield 40, 3) := by decide +kernel
theorem dX12_orderOf_28 : decode cX12_orderOf 28 = .ok (.iload_n 1, 1) := by decide +kernel
theorem dX12_orderOf_29 : decode cX12_orderOf 29 = .ok (.bipush 10, 2) := by decide +kernel
theorem dX12_orderOf_31 : decode cX12_orderOf 31 = .ok (.isub, 1) := by decide +kernel
theorem dX12_orderOf_32 : decode cX12_orderOf 32 = .ok (.iaload, 1) := by decide +kernel
theorem dX12_orderOf_33 : decode cX12_orderOf 33 = .ok (.goto 4, 3) := by decide +kernel
theorem dX12_orderOf_36 : decode cX12_orderOf 36 = .ok (.iconst (-1), 1) := by decide +kernel
theorem dX12_orderOf_37 : decode cX12_orderOf 37 = .ok (.ireturn, 1) := by decide +kernel
set_option maxRecDepth 20000 in
theorem ggX12_order_X12_in : GoodIn wsX12_order wsX12_in := goodIn_r _ [6] (by decide +kernel) (by decide +kernel)
set_option maxRecDepth 20000 in
theorem gX12_order_X12_in : GoodIn wsX12_order (va_wsS RX12 73 yX12_in wsX12_in) := goodIn_app (goodIn_of _ (by decide +kernel)) ggX12_order_X12_in
set_option maxRecDepth 20000 in
theorem ggX12_order_X12_lacks : GoodIn wsX12_order wsX12_lacks := goodIn_r _ [10, 11, 68, 69, 70, 71, 72, 73, 74, 75, 76, 77, 78, 79, 80, 81, 82, 83, 84, 85, 86, 87, 88, 89, 90, 91, 92, 93, 94, 95, 96, 97, 98, 99, 100, 101, 102, 103, 104, 105] (by decide +kernel) (by decide +kernel)
set_option maxRecDepth 20000 in
theorem gX12_order_X12_lacks : GoodIn wsX12_order (wsV RX12 155 RX12 yX12_lacks wsX12_lacks) := goodIn_app (goodIn_of _ (by decide +kernel)) ggX12_order_X12_lacks
set_option maxRecDepth 20000 in
theorem ggX12_order_X12_orderOf : GoodIn wsX12_order wsX12_orderOf := goodIn_r _ [15, 16, 17, 18, 19, 20, 5, 21, 22, 23, 24, 25, 26, 27, 28, 29, 30, 31, 32, 33, 34, 35, 36, 37, 38, 39, 40, 41, 42, 43, 44, 45, 46, 47, 48, 49, 50, 51, 52, 53, 54, 55, 56, 57, 58, 59, 60, 61, 62, 63, 64, 65, 66, 67, 68, 69, 70, 71, 72, 73, 74, 75, 76, 77, 78, 79, 80, 81, 82, 83, 84, 85, 86, 87, 88, 89, 90, 91, 92, 93, 94, 95, 96, 97, 98, 99, 100, 101, 102, 103, 104, 105] (by decide +kernel) (by decide +kernel)
set_option maxRecDepth 20000 in
theorem gX12_order_X12_orderOf : GoodIn wsX12_order (wsV RX12 196 RX12 yX12_orderOf wsX12_orderOf) := goodIn_app (goodIn_of _ (by decide +kernel)) ggX12_order_X12_orderOf
theorem dX12_order_0 : decode cX12_order 0 = .ok (.iload_n 1, 1) := by decide +kernel
theorem dX12_order_1 : decode cX12_order 1 = .ok (.ifCond .eq 20, 3) := by decide +kernel
theorem dX12_order_4 : decode cX12_order 4 = .ok (.iload_n 1, 1) := by decide +kernel
theorem dX12_order_5 : decode cX12_order 5 = .ok (.i2l, 1) := by decide +kernel
theorem dX12_order_6 : decode cX12_order 6 = .ok (.ldc2_w 136, 3) := by decide +kernel
theorem dX12_order_9 : decode cX12_order 9 = .ok (.ldc2_w 138, 3) := by decide +kernel
theorem dX12_order_12 : decode cX12_order 12 = .ok (.invokestatic 73, 3) := by decide +kernel
theorem dX12_order_15 : decode cX12_order 15 = .ok (.ifCond .ne 6, 3) := by decide +kernel
theorem dX12_order_18 : decode cX12_order 18 = .ok (.bipush (-102), 2) := by decide +kernel
theorem dX12_order_20 : decode cX12_order 20 = .ok (.ireturn, 1) := by decide +kernel
theorem dX12_order_21 : decode cX12_order 21 = .ok (.aload_n 0, 1) := by decide +kernel
theorem dX12_order_22 : decode cX12_order 22 = .ok (.invokevirtual 155, 3) := by decide +kernel
theorem dX12_order_25 : decode cX12_order 25 = .ok (.ifCond .eq 8, 3) := by decide +kernel
theorem dX12_order_28 : decode cX12_order 28 = .ok (.bipush (-103), 2) := by decide +kernel
theorem dX12_order_30 : decode cX12_order 30 = .ok (.goto 8, 3) := by decide +kernel
theorem dX12_order_33 : decode cX12_order 33 = .ok (.aload_n 0, 1) := by decide +kernel
theorem dX12_order_34 : decode cX12_order 34 = .ok (.iload_n 1, 1) := by decide +kernel
theorem dX12_order_35 : decode cX12_order 35 = .ok (.invokevirtual 196, 3) := by decide +kernel
theorem dX12_order_38 : decode cX12_order 38 = .ok (.ireturn, 1) := by decide +kernel
set_option maxRecDepth 20000 in
theorem ggX12_highOf_X12_owesOf : GoodIn wsX12_highOf wsX12_owesOf := goodIn_r _ [9, 10, 45, 46, 47, 48, 49, 50, 51, 52, 53, 54, 55, 56, 57, 58, 59, 60, 61, 62, 63, 64, 65, 66, 67, 68, 69, 70, 71, 72, 73, 74, 75, 76, 77, 78, 79, 80, 81, 82] (by decide +kernel) (by decide +kernel)
set_option maxRecDepth 20000 in
theorem gX12_highOf_X12_owesOf : GoodIn wsX12_highOf (wsV RX12 144 RX12 yX12_owesOf wsX12_owesOf) := goodIn_app (goodIn_of _ (by decide +kernel)) ggX12_highOf_X12_owesOf
set_option maxRecDepth 20000 in
theorem ggX12_highOf_X12_layAside : GoodIn wsX12_highOf wsX12_layAside := goodIn_r _ [14, 15, 16, 10, 17, 18, 19, 8, 20, 45, 46, 47, 48, 49, 50, 51, 52, 53, 54, 55, 56, 57, 58, 59, 60, 61, 62, 63, 64, 65, 66, 67, 68, 69, 70, 71, 72, 73, 74, 75, 76, 77, 78, 79, 80, 81, 82] (by decide +kernel) (by decide +kernel)
set_option maxRecDepth 20000 in
theorem gX12_highOf_X12_layAside : GoodIn wsX12_highOf (wsV RX12 184 RX12 yX12_layAside wsX12_layAside) := goodIn_app (goodIn_of _ (by decide +kernel)) ggX12_highOf_X12_layAside
set_option maxRecDepth 20000 in
theorem ggX12_highOf_X12_marry : GoodIn wsX12_highOf wsX12_marry := goodIn_r _ [24, 25, 26, 27, 8, 28, 29, 30, 31, 32, 10, 33, 34, 35, 36, 15, 37, 38, 39, 40, 45, 46, 47, 48, 49, 50, 51, 52, 53, 54, 55, 56, 57, 58, 59, 60, 61, 62, 63, 64, 65, 66, 67, 68, 69, 70, 71, 72, 73, 74, 75, 76, 77, 78, 79, 80, 81, 82] (by decide +kernel) (by decide +kernel)
set_option maxRecDepth 20000 in
theorem gX12_highOf_X12_marry : GoodIn wsX12_highOf (wsV RX12 166 RX12 yX12_marry wsX12_marry) := goodIn_app (goodIn_of _ (by decide +kernel)) ggX12_highOf_X12_marry
set_option maxRecDepth 20000 in
theorem ggX12_highOf_X12_layBack : GoodIn wsX12_highOf wsX12_layBack := goodIn_r _ [44, 16, 15, 17, 10, 18, 19, 8, 20, 45, 46, 47, 48, 49, 50, 51, 52, 53, 54, 55, 56, 57, 58, 59, 60, 61, 62, 63, 64, 65, 66, 67, 68, 69, 70, 71, 72, 73, 74, 75, 76, 77, 78, 79, 80, 81, 82] (by decide +kernel) (by decide +kernel)
set_option maxRecDepth 20000 in
theorem gX12_highOf_X12_layBack : GoodIn wsX12_highOf (wsV RX12 190 RX12 yX12_layBack wsX12_layBack) := goodIn_app (goodIn_of _ (by decide +kernel)) ggX12_highOf_X12_layBack
theorem dX12_highOf_0 : decode cX12_highOf 0 = .ok (.iconst 0, 1) := by decide +kernel
theorem dX12_highOf_1 : decode cX12_highOf 1 = .ok (.istore_n 1, 1) := by decide +kernel
theorem dX12_highOf_2 : decode cX12_highOf 2 = .ok (.iload_n 1, 1) := by decide +kernel
theorem dX12_highOf_3 : decode cX12_highOf 3 = .ok (.aload_n 0, 1) := by decide +kernel
theorem dX12_highOf_4 : decode cX12_highOf 4 = .ok (.getfield 105, 3) := by decide +kernel
theorem dX12_highOf_7 : decode cX12_highOf 7 = .ok (.if_icmp .ge 20, 3) := by decide +kernel
theorem dX12_highOf_10 : decode cX12_highOf 10 = .ok (.aload_n 0, 1) := by decide +kernel
theorem dX12_highOf_11 : decode cX12_highOf 11 = .ok (.getfield 43, 3) := by decide +kernel
theorem dX12_highOf_14 : decode cX12_highOf 14 = .ok (.iload_n 1, 1) := by decide +kernel
theorem dX12_highOf_15 : decode cX12_highOf 15 = .ok (.aload_n 0, 1) := by decide +kernel
theorem dX12_highOf_16 : decode cX12_highOf 16 = .ok (.iload_n 1, 1) := by decide +kernel
theorem dX12_highOf_17 : decode cX12_highOf 17 = .ok (.invokevirtual 144, 3) := by decide +kernel
theorem dX12_highOf_20 : decode cX12_highOf 20 = .ok (.iastore, 1) := by decide +kernel
theorem dX12_highOf_21 : decode cX12_highOf 21 = .ok (.iinc 1 1, 3) := by decide +kernel
theorem dX12_highOf_24 : decode cX12_highOf 24 = .ok (.goto (-22), 3) := by decide +kernel
theorem dX12_highOf_27 : decode cX12_highOf 27 = .ok (.iconst (-1), 1) := by decide +kernel
theorem dX12_highOf_28 : decode cX12_highOf 28 = .ok (.istore_n 1, 1) := by decide +kernel
theorem dX12_highOf_29 : decode cX12_highOf 29 = .ok (.aload_n 0, 1) := by decide +kernel
theorem dX12_highOf_30 : decode cX12_highOf 30 = .ok (.invokevirtual 184, 3) := by decide +kernel
theorem dX12_highOf_33 : decode cX12_highOf 33 = .ok (.iconst 1, 1) := by decide +kernel
theorem dX12_highOf_34 : decode cX12_highOf 34 = .ok (.istore_n 2, 1) := by decide +kernel
theorem dX12_highOf_35 : decode cX12_highOf 35 = .ok (.iload_n 2, 1) := by decide +kernel
theorem dX12_highOf_36 : decode cX12_highOf 36 = .ok (.bipush 10, 2) := by decide +kernel
theorem dX12_highOf_38 : decode cX12_highOf 38 = .ok (.if_icmp .ge 110, 3) := by decide +kernel
theorem dX12_highOf_41 : decode cX12_highOf 41 = .ok (.iconst 0, 1) := by decide +kernel
theorem dX12_highOf_42 : decode cX12_highOf 42 = .ok (.istore_n 3, 1) := by decide +kernel
theorem dX12_highOf_43 : decode cX12_highOf 43 = .ok (.iload_n 3, 1) := by decide +kernel
theorem dX12_highOf_44 : decode cX12_highOf 44 = .ok (.aload_n 0, 1) := by decide +kernel
theorem dX12_highOf_45 : decode cX12_highOf 45 = .ok (.getfield 117, 3) := by decide +kernel
theorem dX12_highOf_48 : decode cX12_highOf 48 = .ok (.if_icmp .ge 34, 3) := by decide +kernel
theorem dX12_highOf_51 : decode cX12_highOf 51 = .ok (.aload_n 0, 1) := by decide +kernel
theorem dX12_highOf_52 : decode cX12_highOf 52 = .ok (.aload_n 0, 1) := by decide +kernel
theorem dX12_highOf_53 : decode cX12_highOf 53 = .ok (.getfield 28, 3) := by decide +kernel
theorem dX12_highOf_56 : decode cX12_highOf 56 = .ok (.iconst 2, 1) := by decide +kernel
theorem dX12_highOf_57 : decode cX12_highOf 57 = .ok (.iload_n 3, 1) := by decide +kernel
theorem dX12_highOf_58 : decode cX12_highOf 58 = .ok (.imul, 1) := by decide +kernel
theorem dX12_highOf_59 : decode cX12_highOf 59 = .ok (.iaload, 1) := by decide +kernel
theorem dX12_highOf_60 : decode cX12_highOf 60 = .ok (.aload_n 0, 1) := by decide +kernel
theorem dX12_highOf_61 : decode cX12_highOf 61 = .ok (.getfield 28, 3) := by decide +kernel
theorem dX12_highOf_64 : decode cX12_highOf 64 = .ok (.iconst 2, 1) := by decide +kernel
theorem dX12_highOf_65 : decode cX12_highOf 65 = .ok (.iload_n 3, 1) := by decide +kernel
theorem dX12_highOf_66 : decode cX12_highOf 66 = .ok (.imul, 1) := by decide +kernel
theorem dX12_highOf_67 : decode cX12_highOf 67 = .ok (.iconst 1, 1) := by decide +kernel
theorem dX12_highOf_68 : decode cX12_highOf 68 = .ok (.iadd, 1) := by decide +kernel
theorem dX12_highOf_69 : decode cX12_highOf 69 = .ok (.iaload, 1) := by decide +kernel
theorem dX12_highOf_70 : decode cX12_highOf 70 = .ok (.iload_n 2, 1) := by decide +kernel
theorem dX12_highOf_71 : decode cX12_highOf 71 = .ok (.invokevirtual 166, 3) := by decide +kernel
theorem dX12_highOf_74 : decode cX12_highOf 74 = .ok (.istore 4, 2) := by decide +kernel
theorem dX12_highOf_76 : decode cX12_highOf 76 = .ok (.iinc 3 1, 3) := by decide +kernel
theorem dX12_highOf_79 : decode cX12_highOf 79 = .ok (.goto (-36), 3) := by decide +kernel
theorem dX12_highOf_82 : decode cX12_highOf 82 = .ok (.iconst 1, 1) := by decide +kernel
theorem dX12_highOf_83 : decode cX12_highOf 83 = .ok (.istore_n 3, 1) := by decide +kernel
theorem dX12_highOf_84 : decode cX12_highOf 84 = .ok (.iconst 0, 1) := by decide +kernel
theorem dX12_highOf_85 : decode cX12_highOf 85 = .ok (.istore 4, 2) := by decide +kernel
theorem dX12_highOf_87 : decode cX12_highOf 87 = .ok (.iload 4, 2) := by decide +kernel
theorem dX12_highOf_89 : decode cX12_highOf 89 = .ok (.aload_n 0, 1) := by decide +kernel
theorem dX12_highOf_90 : decode cX12_highOf 90 = .ok (.getfield 105, 3) := by decide +kernel
theorem dX12_highOf_93 : decode cX12_highOf 93 = .ok (.if_icmp .ge 35, 3) := by decide +kernel
theorem dX12_highOf_96 : decode cX12_highOf 96 = .ok (.iload_n 3, 1) := by decide +kernel
theorem dX12_highOf_97 : decode cX12_highOf 97 = .ok (.ifCond .eq 23, 3) := by decide +kernel
theorem dX12_highOf_100 : decode cX12_highOf 100 = .ok (.aload_n 0, 1) := by decide +kernel
theorem dX12_highOf_101 : decode cX12_highOf 101 = .ok (.iload 4, 2) := by decide +kernel
theorem dX12_highOf_103 : decode cX12_highOf 103 = .ok (.invokevirtual 144, 3) := by decide +kernel
theorem dX12_highOf_106 : decode cX12_highOf 106 = .ok (.aload_n 0, 1) := by decide +kernel
theorem dX12_highOf_107 : decode cX12_highOf 107 = .ok (.getfield 43, 3) := by decide +kernel
theorem dX12_highOf_110 : decode cX12_highOf 110 = .ok (.iload 4, 2) := by decide +kernel
theorem dX12_highOf_112 : decode cX12_highOf 112 = .ok (.iaload, 1) := by decide +kernel
theorem dX12_highOf_113 : decode cX12_highOf 113 = .ok (.if_icmp .gt 7, 3) := by decide +kernel
theorem dX12_highOf_116 : decode cX12_highOf 116 = .ok (.iconst 1, 1) := by decide +kernel
theorem dX12_highOf_117 : decode cX12_highOf 117 = .ok (.goto 4, 3) := by decide +kernel
theorem dX12_highOf_120 : decode cX12_highOf 120 = .ok (.iconst 0, 1) := by decide +kernel
theorem dX12_highOf_121 : decode cX12_highOf 121 = .ok (.istore_n 3, 1) := by decide +kernel
theorem dX12_highOf_122 : decode cX12_highOf 122 = .ok (.iinc 4 1, 3) := by decide +kernel
theorem dX12_highOf_125 : decode cX12_highOf 125 = .ok (.goto (-38), 3) := by decide +kernel
theorem dX12_highOf_128 : decode cX12_highOf 128 = .ok (.iload_n 3, 1) := by decide +kernel
theorem dX12_highOf_129 : decode cX12_highOf 129 = .ok (.ifCond .eq 7, 3) := by decide +kernel
theorem dX12_highOf_132 : decode cX12_highOf 132 = .ok (.iload_n 2, 1) := by decide +kernel
theorem dX12_highOf_133 : decode cX12_highOf 133 = .ok (.goto 4, 3) := by decide +kernel
theorem dX12_highOf_136 : decode cX12_highOf 136 = .ok (.iload_n 1, 1) := by decide +kernel
theorem dX12_highOf_137 : decode cX12_highOf 137 = .ok (.istore_n 1, 1) := by decide +kernel
theorem dX12_highOf_138 : decode cX12_highOf 138 = .ok (.aload_n 0, 1) := by decide +kernel
theorem dX12_highOf_139 : decode cX12_highOf 139 = .ok (.invokevirtual 190, 3) := by decide +kernel
theorem dX12_highOf_142 : decode cX12_highOf 142 = .ok (.iinc 2 1, 3) := by decide +kernel
theorem dX12_highOf_145 : decode cX12_highOf 145 = .ok (.goto (-110), 3) := by decide +kernel
theorem dX12_highOf_148 : decode cX12_highOf 148 = .ok (.iload_n 1, 1) := by decide +kernel
theorem dX12_highOf_149 : decode cX12_highOf 149 = .ok (.ireturn, 1) := by decide +kernel
set_option maxRecDepth 20000 in
theorem ggX12_high_X12_lacks : GoodIn wsX12_high wsX12_lacks := goodIn_r _ [5, 6, 53, 54, 55, 56, 57, 58, 59, 60, 61, 62, 63, 64, 65, 66, 67, 68, 69, 70, 71, 72, 73, 74, 75, 76, 77, 78, 79, 80, 81, 82, 83, 84, 85, 86, 87, 88, 89, 90] (by decide +kernel) (by decide +kernel)
set_option maxRecDepth 20000 in
theorem gX12_high_X12_lacks : GoodIn wsX12_high (wsV RX12 155 RX12 yX12_lacks wsX12_lacks) := goodIn_app (goodIn_of _ (by decide +kernel)) ggX12_high_X12_lacks
set_option maxRecDepth 20000 in
theorem ggX12_high_X12_highOf : GoodIn wsX12_high wsX12_highOf := goodIn_r _ [10, 6, 11, 12, 13, 14, 15, 16, 4, 17, 18, 19, 20, 21, 22, 23, 24, 25, 26, 27, 28, 29, 30, 31, 32, 33, 34, 35, 36, 37, 38, 39, 40, 41, 42, 43, 44, 45, 46, 47, 48, 49, 50, 51, 52, 53, 54, 55, 56, 57, 58, 59, 60, 61, 62, 63, 64, 65, 66, 67, 68, 69, 70, 71, 72, 73, 74, 75, 76, 77, 78, 79, 80, 81, 82, 83, 84, 85, 86, 87, 88, 89, 90] (by decide +kernel) (by decide +kernel)
set_option maxRecDepth 20000 in
theorem gX12_high_X12_highOf : GoodIn wsX12_high (wsV RX12 199 RX12 yX12_highOf wsX12_highOf) := goodIn_app (goodIn_of _ (by decide +kernel)) ggX12_high_X12_highOf
theorem dX12_high_0 : decode cX12_high 0 = .ok (.aload_n 0, 1) := by decide +kernel
theorem dX12_high_1 : decode cX12_high 1 = .ok (.invokevirtual 155, 3) := by decide +kernel
theorem dX12_high_4 : decode cX12_high 4 = .ok (.ifCond .eq 8, 3) := by decide +kernel
theorem dX12_high_7 : decode cX12_high 7 = .ok (.bipush (-103), 2) := by decide +kernel
theorem dX12_high_9 : decode cX12_high 9 = .ok (.goto 7, 3) := by decide +kernel
theorem dX12_high_12 : decode cX12_high 12 = .ok (.aload_n 0, 1) := by decide +kernel
theorem dX12_high_13 : decode cX12_high 13 = .ok (.invokevirtual 199, 3) := by decide +kernel
theorem dX12_high_16 : decode cX12_high 16 = .ok (.ireturn, 1) := by decide +kernel
set_option maxRecDepth 20000 in
theorem ggX12_tell_X12_in : GoodIn wsX12_tell wsX12_in := goodIn_r _ [8] (by decide +kernel) (by decide +kernel)
set_option maxRecDepth 20000 in
theorem gX12_tell_X12_in : GoodIn wsX12_tell (va_wsS RX12 73 yX12_in wsX12_in) := goodIn_app (goodIn_of _ (by decide +kernel)) ggX12_tell_X12_in
theorem dX12_tell_0 : decode cX12_tell 0 = .ok (.iload_n 1, 1) := by decide +kernel
theorem dX12_tell_1 : decode cX12_tell 1 = .ok (.i2l, 1) := by decide +kernel
theorem dX12_tell_2 : decode cX12_tell 2 = .ok (.lconst 1, 1) := by decide +kernel
theorem dX12_tell_3 : decode cX12_tell 3 = .ok (.ldc2_w 90, 3) := by decide +kernel
theorem dX12_tell_6 : decode cX12_tell 6 = .ok (.invokestatic 73, 3) := by decide +kernel
theorem dX12_tell_9 : decode cX12_tell 9 = .ok (.ifCond .eq 15, 3) := by decide +kernel
theorem dX12_tell_12 : decode cX12_tell 12 = .ok (.iload_n 2, 1) := by decide +kernel
theorem dX12_tell_13 : decode cX12_tell 13 = .ok (.i2l, 1) := by decide +kernel
theorem dX12_tell_14 : decode cX12_tell 14 = .ok (.lconst 1, 1) := by decide +kernel
theorem dX12_tell_15 : decode cX12_tell 15 = .ok (.ldc2_w 202, 3) := by decide +kernel
theorem dX12_tell_18 : decode cX12_tell 18 = .ok (.invokestatic 73, 3) := by decide +kernel
theorem dX12_tell_21 : decode cX12_tell 21 = .ok (.ifCond .ne 6, 3) := by decide +kernel
theorem dX12_tell_24 : decode cX12_tell 24 = .ok (.bipush (-102), 2) := by decide +kernel
theorem dX12_tell_26 : decode cX12_tell 26 = .ok (.ireturn, 1) := by decide +kernel
theorem dX12_tell_27 : decode cX12_tell 27 = .ok (.aload_n 0, 1) := by decide +kernel
theorem dX12_tell_28 : decode cX12_tell 28 = .ok (.getfield 120, 3) := by decide +kernel
theorem dX12_tell_31 : decode cX12_tell 31 = .ok (.bipush 6, 2) := by decide +kernel
theorem dX12_tell_33 : decode cX12_tell 33 = .ok (.if_icmp .ne 6, 3) := by decide +kernel
theorem dX12_tell_36 : decode cX12_tell 36 = .ok (.bipush (-104), 2) := by decide +kernel
theorem dX12_tell_38 : decode cX12_tell 38 = .ok (.ireturn, 1) := by decide +kernel
theorem dX12_tell_39 : decode cX12_tell 39 = .ok (.aload_n 0, 1) := by decide +kernel
theorem dX12_tell_40 : decode cX12_tell 40 = .ok (.getfield 46, 3) := by decide +kernel
theorem dX12_tell_43 : decode cX12_tell 43 = .ok (.iconst 2, 1) := by decide +kernel
theorem dX12_tell_44 : decode cX12_tell 44 = .ok (.aload_n 0, 1) := by decide +kernel
theorem dX12_tell_45 : decode cX12_tell 45 = .ok (.getfield 120, 3) := by decide +kernel
theorem dX12_tell_48 : decode cX12_tell 48 = .ok (.imul, 1) := by decide +kernel
theorem dX12_tell_49 : decode cX12_tell 49 = .ok (.iload_n 1, 1) := by decide +kernel
theorem dX12_tell_50 : decode cX12_tell 50 = .ok (.iastore, 1) := by decide +kernel
theorem dX12_tell_51 : decode cX12_tell 51 = .ok (.aload_n 0, 1) := by decide +kernel
theorem dX12_tell_52 : decode cX12_tell 52 = .ok (.getfield 46, 3) := by decide +kernel
theorem dX12_tell_55 : decode cX12_tell 55 = .ok (.iconst 2, 1) := by decide +kernel
theorem dX12_tell_56 : decode cX12_tell 56 = .ok (.aload_n 0, 1) := by decide +kernel
theorem dX12_tell_57 : decode cX12_tell 57 = .ok (.getfield 120, 3) := by decide +kernel
theorem dX12_tell_60 : decode cX12_tell 60 = .ok (.imul, 1) := by decide +kernel
theorem dX12_tell_61 : decode cX12_tell 61 = .ok (.iconst 1, 1) := by decide +kernel
theorem dX12_tell_62 : decode cX12_tell 62 = .ok (.iadd, 1) := by decide +kernel
theorem dX12_tell_63 : decode cX12_tell 63 = .ok (.iload_n 2, 1) := by decide +kernel
theorem dX12_tell_64 : decode cX12_tell 64 = .ok (.iastore, 1) := by decide +kernel
theorem dX12_tell_65 : decode cX12_tell 65 = .ok (.aload_n 0, 1) := by decide +kernel
theorem dX12_tell_66 : decode cX12_tell 66 = .ok (.dup, 1) := by decide +kernel
theorem dX12_tell_67 : decode cX12_tell 67 = .ok (.getfield 120, 3) := by decide +kernel
theorem dX12_tell_70 : decode cX12_tell 70 = .ok (.iconst 1, 1) := by decide +kernel
theorem dX12_tell_71 : decode cX12_tell 71 = .ok (.iadd, 1) := by decide +kernel
theorem dX12_tell_72 : decode cX12_tell 72 = .ok (.putfield 120, 3) := by decide +kernel
theorem dX12_tell_75 : decode cX12_tell 75 = .ok (.aload_n 0, 1) := by decide +kernel
theorem dX12_tell_76 : decode cX12_tell 76 = .ok (.getfield 120, 3) := by decide +kernel
theorem dX12_tell_79 : decode cX12_tell 79 = .ok (.ireturn, 1) := by decide +kernel
theorem dX12_forget_0 : decode cX12_forget 0 = .ok (.aload_n 0, 1) := by decide +kernel
theorem dX12_forget_1 : decode cX12_forget 1 = .ok (.getfield 120, 3) := by decide +kernel
theorem dX12_forget_4 : decode cX12_forget 4 = .ok (.istore_n 1, 1) := by decide +kernel
theorem dX12_forget_5 : decode cX12_forget 5 = .ok (.aload_n 0, 1) := by decide +kernel
theorem dX12_forget_6 : decode cX12_forget 6 = .ok (.iconst 0, 1) := by decide +kernel
theorem dX12_forget_7 : decode cX12_forget 7 = .ok (.putfield 120, 3) := by decide +kernel
theorem dX12_forget_10 : decode cX12_forget 10 = .ok (.iload_n 1, 1) := by decide +kernel
theorem dX12_forget_11 : decode cX12_forget 11 = .ok (.ireturn, 1) := by decide +kernel
set_option maxRecDepth 20000 in
theorem ggX12_whichOf_X12_asksBy : GoodIn wsX12_whichOf wsX12_asksBy := goodIn_r _ [6] (by decide +kernel) (by decide +kernel)
set_option maxRecDepth 20000 in
theorem gX12_whichOf_X12_asksBy : GoodIn wsX12_whichOf (va_wsS RX12 140 yX12_asksBy wsX12_asksBy) := goodIn_app (goodIn_of _ (by decide +kernel)) ggX12_whichOf_X12_asksBy
theorem dX12_whichOf_0 : decode cX12_whichOf 0 = .ok (.iconst 0, 1) := by decide +kernel
theorem dX12_whichOf_1 : decode cX12_whichOf 1 = .ok (.istore_n 1, 1) := by decide +kernel
theorem dX12_whichOf_2 : decode cX12_whichOf 2 = .ok (.iconst 0, 1) := by decide +kernel
theorem dX12_whichOf_3 : decode cX12_whichOf 3 = .ok (.istore_n 2, 1) := by decide +kernel
theorem dX12_whichOf_4 : decode cX12_whichOf 4 = .ok (.iload_n 2, 1) := by decide +kernel
theorem dX12_whichOf_5 : decode cX12_whichOf 5 = .ok (.iconst 5, 1) := by decide +kernel
theorem dX12_whichOf_6 : decode cX12_whichOf 6 = .ok (.if_icmp .ge 80, 3) := by decide +kernel
theorem dX12_whichOf_9 : decode cX12_whichOf 9 = .ok (.iconst 1, 1) := by decide +kernel
theorem dX12_whichOf_10 : decode cX12_whichOf 10 = .ok (.istore_n 3, 1) := by decide +kernel
theorem dX12_whichOf_11 : decode cX12_whichOf 11 = .ok (.iconst 0, 1) := by decide +kernel
theorem dX12_whichOf_12 : decode cX12_whichOf 12 = .ok (.istore 4, 2) := by decide +kernel
theorem dX12_whichOf_14 : decode cX12_whichOf 14 = .ok (.iload 4, 2) := by decide +kernel
theorem dX12_whichOf_16 : decode cX12_whichOf 16 = .ok (.aload_n 0, 1) := by decide +kernel
theorem dX12_whichOf_17 : decode cX12_whichOf 17 = .ok (.getfield 120, 3) := by decide +kernel
theorem dX12_whichOf_20 : decode cX12_whichOf 20 = .ok (.if_icmp .ge 46, 3) := by decide +kernel
theorem dX12_whichOf_23 : decode cX12_whichOf 23 = .ok (.iload_n 3, 1) := by decide +kernel
theorem dX12_whichOf_24 : decode cX12_whichOf 24 = .ok (.ifCond .eq 34, 3) := by decide +kernel
theorem dX12_whichOf_27 : decode cX12_whichOf 27 = .ok (.iload_n 2, 1) := by decide +kernel
theorem dX12_whichOf_28 : decode cX12_whichOf 28 = .ok (.aload_n 0, 1) := by decide +kernel
theorem dX12_whichOf_29 : decode cX12_whichOf 29 = .ok (.getfield 46, 3) := by decide +kernel
theorem dX12_whichOf_32 : decode cX12_whichOf 32 = .ok (.iconst 2, 1) := by decide +kernel
theorem dX12_whichOf_33 : decode cX12_whichOf 33 = .ok (.iload 4, 2) := by decide +kernel
theorem dX12_whichOf_35 : decode cX12_whichOf 35 = .ok (.imul, 1) := by decide +kernel
theorem dX12_whichOf_36 : decode cX12_whichOf 36 = .ok (.iaload, 1) := by decide +kernel
theorem dX12_whichOf_37 : decode cX12_whichOf 37 = .ok (.invokestatic 140, 3) := by decide +kernel
theorem dX12_whichOf_40 : decode cX12_whichOf 40 = .ok (.aload_n 0, 1) := by decide +kernel
theorem dX12_whichOf_41 : decode cX12_whichOf 41 = .ok (.getfield 46, 3) := by decide +kernel
theorem dX12_whichOf_44 : decode cX12_whichOf 44 = .ok (.iconst 2, 1) := by decide +kernel
theorem dX12_whichOf_45 : decode cX12_whichOf 45 = .ok (.iload 4, 2) := by decide +kernel
theorem dX12_whichOf_47 : decode cX12_whichOf 47 = .ok (.imul, 1) := by decide +kernel
theorem dX12_whichOf_48 : decode cX12_whichOf 48 = .ok (.iconst 1, 1) := by decide +kernel
theorem dX12_whichOf_49 : decode cX12_whichOf 49 = .ok (.iadd, 1) := by decide +kernel
theorem dX12_whichOf_50 : decode cX12_whichOf 50 = .ok (.iaload, 1) := by decide +kernel
theorem dX12_whichOf_51 : decode cX12_whichOf 51 = .ok (.if_icmp .ne 7, 3) := by decide +kernel
theorem dX12_whichOf_54 : decode cX12_whichOf 54 = .ok (.iconst 1, 1) := by decide +kernel
theorem dX12_whichOf_55 : decode cX12_whichOf 55 = .ok (.goto 4, 3) := by decide +kernel
theorem dX12_whichOf_58 : decode cX12_whichOf 58 = .ok (.iconst 0, 1) := by decide +kernel
theorem dX12_whichOf_59 : decode cX12_whichOf 59 = .ok (.istore_n 3, 1) := by decide +kernel
theorem dX12_whichOf_60 : decode cX12_whichOf 60 = .ok (.iinc 4 1, 3) := by decide +kernel
theorem dX12_whichOf_63 : decode cX12_whichOf 63 = .ok (.goto (-49), 3) := by decide +kernel
theorem dX12_whichOf_66 : decode cX12_whichOf 66 = .ok (.iload_n 1, 1) := by decide +kernel
theorem dX12_whichOf_67 : decode cX12_whichOf 67 = .ok (.iload_n 3, 1) := by decide +kernel
theorem dX12_whichOf_68 : decode cX12_whichOf 68 = .ok (.ifCond .eq 9, 3) := by decide +kernel
theorem dX12_whichOf_71 : decode cX12_whichOf 71 = .ok (.iconst 1, 1) := by decide +kernel
theorem dX12_whichOf_72 : decode cX12_whichOf 72 = .ok (.iload_n 2, 1) := by decide +kernel
theorem dX12_whichOf_73 : decode cX12_whichOf 73 = .ok (.ishl, 1) := by decide +kernel
theorem dX12_whichOf_74 : decode cX12_whichOf 74 = .ok (.goto 4, 3) := by decide +kernel
theorem dX12_whichOf_77 : decode cX12_whichOf 77 = .ok (.iconst 0, 1) := by decide +kernel
theorem dX12_whichOf_78 : decode cX12_whichOf 78 = .ok (.ior, 1) := by decide +kernel
theorem dX12_whichOf_79 : decode cX12_whichOf 79 = .ok (.istore_n 1, 1) := by decide +kernel
theorem dX12_whichOf_80 : decode cX12_whichOf 80 = .ok (.iinc 2 1, 3) := by decide +kernel
theorem dX12_whichOf_83 : decode cX12_whichOf 83 = .ok (.goto (-79), 3) := by decide +kernel
theorem dX12_whichOf_86 : decode cX12_whichOf 86 = .ok (.iload_n 1, 1) := by decide +kernel
theorem dX12_whichOf_87 : decode cX12_whichOf 87 = .ok (.ireturn, 1) := by decide +kernel
set_option maxRecDepth 20000 in
theorem ggX12_which_X12_whichOf : GoodIn wsX12_which wsX12_whichOf := goodIn_r _ [5, 6, 7, 8, 9, 4, 10, 11, 12, 13, 14, 15, 16, 17, 18, 19, 20, 21, 22, 23, 24, 25, 26, 27, 28, 29, 30, 31, 32, 33, 34, 35, 36, 37, 38, 39, 40, 41, 42, 43, 44, 45, 46, 47, 48] (by decide +kernel) (by decide +kernel)
set_option maxRecDepth 20000 in
theorem gX12_which_X12_whichOf : GoodIn wsX12_which (wsV RX12 204 RX12 yX12_whichOf wsX12_whichOf) := goodIn_app (goodIn_of _ (by decide +kernel)) ggX12_which_X12_whichOf
theorem dX12_which_0 : decode cX12_which 0 = .ok (.aload_n 0, 1) := by decide +kernel
theorem dX12_which_1 : decode cX12_which 1 = .ok (.invokevirtual 204, 3) := by decide +kernel
theorem dX12_which_4 : decode cX12_which 4 = .ok (.ireturn, 1) := by decide +kernel
set_option maxRecDepth 20000 in
theorem ggX12_askOf_X12_whichOf : GoodIn wsX12_askOf wsX12_whichOf := goodIn_r _ [6, 7, 8, 9, 10, 5, 11, 12, 13, 14, 15, 16, 17, 18, 19, 20, 21, 22, 23, 24, 25, 26, 27, 28, 29, 30, 31, 32, 33, 34, 35, 36, 37, 38, 39, 40, 41, 42, 43, 44, 45, 46, 47, 48, 49] (by decide +kernel) (by decide +kernel)
set_option maxRecDepth 20000 in
theorem gX12_askOf_X12_whichOf : GoodIn wsX12_askOf (wsV RX12 204 RX12 yX12_whichOf wsX12_whichOf) := goodIn_app (goodIn_of _ (by decide +kernel)) ggX12_askOf_X12_whichOf
set_option maxRecDepth 20000 in
theorem ggX12_askOf_X12_asksBy : GoodIn wsX12_askOf wsX12_asksBy := goodIn_r _ [11] (by decide +kernel) (by decide +kernel)
set_option maxRecDepth 20000 in
theorem gX12_askOf_X12_asksBy : GoodIn wsX12_askOf (va_wsS RX12 140 yX12_asksBy wsX12_asksBy) := goodIn_app (goodIn_of _ (by decide +kernel)) ggX12_askOf_X12_asksBy
theorem dX12_askOf_0 : decode cX12_askOf 0 = .ok (.aload_n 0, 1) := by decide +kernel
theorem dX12_askOf_1 : decode cX12_askOf 1 = .ok (.invokevirtual 204, 3) := by decide +kernel
theorem dX12_askOf_4 : decode cX12_askOf 4 = .ok (.istore_n 1, 1) := by decide +kernel
theorem dX12_askOf_5 : decode cX12_askOf 5 = .ok (.iconst (-1), 1) := by decide +kernel
theorem dX12_askOf_6 : decode cX12_askOf 6 = .ok (.istore_n 2, 1) := by decide +kernel
theorem dX12_askOf_7 : decode cX12_askOf 7 = .ok (.bipush 6, 2) := by decide +kernel
theorem dX12_askOf_9 : decode cX12_askOf 9 = .ok (.istore_n 3, 1) := by decide +kernel
theorem dX12_askOf_10 : decode cX12_askOf 10 = .ok (.iconst 1, 1) := by decide +kernel
theorem dX12_askOf_11 : decode cX12_askOf 11 = .ok (.istore 4, 2) := by decide +kernel
theorem dX12_askOf_13 : decode cX12_askOf 13 = .ok (.iload 4, 2) := by decide +kernel
theorem dX12_askOf_15 : decode cX12_askOf 15 = .ok (.bipush 10, 2) := by decide +kernel
theorem dX12_askOf_17 : decode cX12_askOf 17 = .ok (.if_icmp .ge 132, 3) := by decide +kernel
theorem dX12_askOf_20 : decode cX12_askOf 20 = .ok (.iload_n 1, 1) := by decide +kernel
theorem dX12_askOf_21 : decode cX12_askOf 21 = .ok (.ifCond .eq 128, 3) := by decide +kernel
theorem dX12_askOf_24 : decode cX12_askOf 24 = .ok (.iconst 0, 1) := by decide +kernel
theorem dX12_askOf_25 : decode cX12_askOf 25 = .ok (.istore 5, 2) := by decide +kernel
theorem dX12_askOf_27 : decode cX12_askOf 27 = .ok (.iload 5, 2) := by decide +kernel
theorem dX12_askOf_29 : decode cX12_askOf 29 = .ok (.bipush 21, 2) := by decide +kernel
theorem dX12_askOf_31 : decode cX12_askOf 31 = .ok (.if_icmp .ge 17, 3) := by decide +kernel
theorem dX12_askOf_34 : decode cX12_askOf 34 = .ok (.aload_n 0, 1) := by decide +kernel
theorem dX12_askOf_35 : decode cX12_askOf 35 = .ok (.getfield 49, 3) := by decide +kernel
theorem dX12_askOf_38 : decode cX12_askOf 38 = .ok (.iload 5, 2) := by decide +kernel
theorem dX12_askOf_40 : decode cX12_askOf 40 = .ok (.iconst 0, 1) := by decide +kernel
theorem dX12_askOf_41 : decode cX12_askOf 41 = .ok (.iastore, 1) := by decide +kernel
theorem dX12_askOf_42 : decode cX12_askOf 42 = .ok (.iinc 5 1, 3) := by decide +kernel
theorem dX12_askOf_45 : decode cX12_askOf 45 = .ok (.goto (-18), 3) := by decide +kernel
theorem dX12_askOf_48 : decode cX12_askOf 48 = .ok (.iconst 0, 1) := by decide +kernel
theorem dX12_askOf_49 : decode cX12_askOf 49 = .ok (.istore 5, 2) := by decide +kernel
theorem dX12_askOf_51 : decode cX12_askOf 51 = .ok (.iconst 0, 1) := by decide +kernel
theorem dX12_askOf_52 : decode cX12_askOf 52 = .ok (.istore 6, 2) := by decide +kernel
theorem dX12_askOf_54 : decode cX12_askOf 54 = .ok (.iload 6, 2) := by decide +kernel
theorem dX12_askOf_56 : decode cX12_askOf 56 = .ok (.iconst 5, 1) := by decide +kernel
theorem dX12_askOf_57 : decode cX12_askOf 57 = .ok (.if_icmp .ge 60, 3) := by decide +kernel
theorem dX12_askOf_60 : decode cX12_askOf 60 = .ok (.iload 6, 2) := by decide +kernel
theorem dX12_askOf_62 : decode cX12_askOf 62 = .ok (.iload 4, 2) := by decide +kernel
theorem dX12_askOf_64 : decode cX12_askOf 64 = .ok (.invokestatic 140, 3) := by decide +kernel
theorem dX12_askOf_67 : decode cX12_askOf 67 = .ok (.istore 7, 2) := by decide +kernel
theorem dX12_askOf_69 : decode cX12_askOf 69 = .ok (.aload_n 0, 1) := by decide +kernel
theorem dX12_askOf_70 : decode cX12_askOf 70 = .ok (.getfield 49, 3) := by decide +kernel
theorem dX12_askOf_73 : decode cX12_askOf 73 = .ok (.iload 7, 2) := by decide +kernel
theorem dX12_askOf_75 : decode cX12_askOf 75 = .ok (.dup2, 1) := by decide +kernel
theorem dX12_askOf_76 : decode cX12_askOf 76 = .ok (.iaload, 1) := by decide +kernel
theorem dX12_askOf_77 : decode cX12_askOf 77 = .ok (.iload_n 1, 1) := by decide +kernel
theorem dX12_askOf_78 : decode cX12_askOf 78 = .ok (.iload 6, 2) := by decide +kernel
theorem dX12_askOf_80 : decode cX12_askOf 80 = .ok (.ishr, 1) := by decide +kernel
theorem dX12_askOf_81 : decode cX12_askOf 81 = .ok (.iconst 1, 1) := by decide +kernel
theorem dX12_askOf_82 : decode cX12_askOf 82 = .ok (.iand, 1) := by decide +kernel
theorem dX12_askOf_83 : decode cX12_askOf 83 = .ok (.iadd, 1) := by decide +kernel
theorem dX12_askOf_84 : decode cX12_askOf 84 = .ok (.iastore, 1) := by decide +kernel
theorem dX12_askOf_85 : decode cX12_askOf 85 = .ok (.aload_n 0, 1) := by decide +kernel
theorem dX12_askOf_86 : decode cX12_askOf 86 = .ok (.getfield 49, 3) := by decide +kernel
theorem dX12_askOf_89 : decode cX12_askOf 89 = .ok (.iload 7, 2) := by decide +kernel
theorem dX12_askOf_91 : decode cX12_askOf 91 = .ok (.iaload, 1) := by decide +kernel
theorem dX12_askOf_92 : decode cX12_askOf 92 = .ok (.iload 5, 2) := by decide +kernel
theorem dX12_askOf_94 : decode cX12_askOf 94 = .ok (.if_icmp .le 13, 3) := by decide +kernel
theorem dX12_askOf_97 : decode cX12_askOf 97 = .ok (.aload_n 0, 1) := by decide +kernel
theorem dX12_askOf_98 : decode cX12_askOf 98 = .ok (.getfield 49, 3) := by decide +kernel
theorem dX12_askOf_101 : decode cX12_askOf 101 = .ok (.iload 7, 2) := by decide +kernel
theorem dX12_askOf_103 : decode cX12_askOf 103 = .ok (.iaload, 1) := by decide +kernel
theorem dX12_askOf_104 : decode cX12_askOf 104 = .ok (.goto 5, 3) := by decide +kernel
theorem dX12_askOf_107 : decode cX12_askOf 107 = .ok (.iload 5, 2) := by decide +kernel
theorem dX12_askOf_109 : decode cX12_askOf 109 = .ok (.istore 5, 2) := by decide +kernel
theorem dX12_askOf_111 : decode cX12_askOf 111 = .ok (.iinc 6 1, 3) := by decide +kernel
theorem dX12_askOf_114 : decode cX12_askOf 114 = .ok (.goto (-60), 3) := by decide +kernel
theorem dX12_askOf_117 : decode cX12_askOf 117 = .ok (.iload 5, 2) := by decide +kernel
theorem dX12_askOf_119 : decode cX12_askOf 119 = .ok (.iload_n 3, 1) := by decide +kernel
theorem dX12_askOf_120 : decode cX12_askOf 120 = .ok (.if_icmp .ge 8, 3) := by decide +kernel
theorem dX12_askOf_123 : decode cX12_askOf 123 = .ok (.iload 4, 2) := by decide +kernel
theorem dX12_askOf_125 : decode cX12_askOf 125 = .ok (.goto 4, 3) := by decide +kernel
theorem dX12_askOf_128 : decode cX12_askOf 128 = .ok (.iload_n 2, 1) := by decide +kernel
theorem dX12_askOf_129 : decode cX12_askOf 129 = .ok (.istore_n 2, 1) := by decide +kernel
theorem dX12_askOf_130 : decode cX12_askOf 130 = .ok (.iload 5, 2) := by decide +kernel
theorem dX12_askOf_132 : decode cX12_askOf 132 = .ok (.iload_n 3, 1) := by decide +kernel
theorem dX12_askOf_133 : decode cX12_askOf 133 = .ok (.if_icmp .ge 8, 3) := by decide +kernel
theorem dX12_askOf_136 : decode cX12_askOf 136 = .ok (.iload 5, 2) := by decide +kernel
theorem dX12_askOf_138 : decode cX12_askOf 138 = .ok (.goto 4, 3) := by decide +kernel
theorem dX12_askOf_141 : decode cX12_askOf 141 = .ok (.iload_n 3, 1) := by decide +kernel
theorem dX12_askOf_142 : decode cX12_askOf 142 = .ok (.istore_n 3, 1) := by decide +kernel
theorem dX12_askOf_143 : decode cX12_askOf 143 = .ok (.iinc 4 1, 3) := by decide +kernel
theorem dX12_askOf_146 : decode cX12_askOf 146 = .ok (.goto (-133), 3) := by decide +kernel
theorem dX12_askOf_149 : decode cX12_askOf 149 = .ok (.iload_n 2, 1) := by decide +kernel
theorem dX12_askOf_150 : decode cX12_askOf 150 = .ok (.ireturn, 1) := by decide +kernel
set_option maxRecDepth 20000 in
theorem ggX12_ask_X12_askOf : GoodIn wsX12_ask wsX12_askOf := goodIn_r _ [5, 6, 7, 8, 9, 4, 10, 11, 12, 13, 14, 15, 16, 17, 18, 19, 20, 21, 22, 23, 24, 25, 26, 27, 28, 29, 30, 31, 32, 33, 34, 35, 36, 37, 38, 39, 40, 41, 42, 43, 44, 45, 46, 47, 48, 49, 50, 51, 52, 53] (by decide +kernel) (by decide +kernel)
set_option maxRecDepth 20000 in
theorem gX12_ask_X12_askOf : GoodIn wsX12_ask (wsV RX12 207 RX12 yX12_askOf wsX12_askOf) := goodIn_app (goodIn_of _ (by decide +kernel)) ggX12_ask_X12_askOf
theorem dX12_ask_0 : decode cX12_ask 0 = .ok (.aload_n 0, 1) := by decide +kernel
theorem dX12_ask_1 : decode cX12_ask 1 = .ok (.invokevirtual 207, 3) := by decide +kernel
theorem dX12_ask_4 : decode cX12_ask 4 = .ok (.ireturn, 1) := by decide +kernel
theorem dX12_draw_0 : decode cX12_draw 0 = .ok (.aload_n 0, 1) := by decide +kernel
theorem dX12_draw_1 : decode cX12_draw 1 = .ok (.ldc2_w 210, 3) := by decide +kernel
theorem dX12_draw_4 : decode cX12_draw 4 = .ok (.aload_n 0, 1) := by decide +kernel
theorem dX12_draw_5 : decode cX12_draw 5 = .ok (.getfield 212, 3) := by decide +kernel
theorem dX12_draw_8 : decode cX12_draw 8 = .ok (.i2l, 1) := by decide +kernel
theorem dX12_draw_9 : decode cX12_draw 9 = .ok (.lmul, 1) := by decide +kernel
theorem dX12_draw_10 : decode cX12_draw 10 = .ok (.ldc2_w 215, 3) := by decide +kernel
theorem dX12_draw_13 : decode cX12_draw 13 = .ok (.ladd, 1) := by decide +kernel
theorem dX12_draw_14 : decode cX12_draw 14 = .ok (.ldc2_w 217, 3) := by decide +kernel
theorem dX12_draw_17 : decode cX12_draw 17 = .ok (.land, 1) := by decide +kernel
theorem dX12_draw_18 : decode cX12_draw 18 = .ok (.l2i, 1) := by decide +kernel
theorem dX12_draw_19 : decode cX12_draw 19 = .ok (.putfield 212, 3) := by decide +kernel
theorem dX12_draw_22 : decode cX12_draw 22 = .ok (.aload_n 0, 1) := by decide +kernel
theorem dX12_draw_23 : decode cX12_draw 23 = .ok (.getfield 212, 3) := by decide +kernel
theorem dX12_draw_26 : decode cX12_draw 26 = .ok (.ldc 219, 2) := by decide +kernel
theorem dX12_draw_28 : decode cX12_draw 28 = .ok (.idiv, 1) := by decide +kernel
theorem dX12_draw_29 : decode cX12_draw 29 = .ok (.iload_n 1, 1) := by decide +kernel
theorem dX12_draw_30 : decode cX12_draw 30 = .ok (.irem, 1) := by decide +kernel
theorem dX12_draw_31 : decode cX12_draw 31 = .ok (.ireturn, 1) := by decide +kernel
set_option maxRecDepth 20000 in
theorem ggX12_ages_X12_in : GoodIn wsX12_ages wsX12_in := goodIn_r _ [9] (by decide +kernel) (by decide +kernel)
set_option maxRecDepth 20000 in
theorem gX12_ages_X12_in : GoodIn wsX12_ages (va_wsS RX12 73 yX12_in wsX12_in) := goodIn_app (goodIn_of _ (by decide +kernel)) ggX12_ages_X12_in
set_option maxRecDepth 20000 in
theorem ggX12_ages_X12_lacks : GoodIn wsX12_ages wsX12_lacks := goodIn_r _ [13, 4, 73, 74, 75, 76, 77, 78, 79, 80, 81, 82, 83, 84, 85, 86, 87, 88, 89, 90, 91, 92, 93, 94, 95, 96, 97, 98, 99, 100, 101, 102, 103, 104, 105, 106, 107, 108, 109, 110] (by decide +kernel) (by decide +kernel)
set_option maxRecDepth 20000 in
theorem gX12_ages_X12_lacks : GoodIn wsX12_ages (wsV RX12 155 RX12 yX12_lacks wsX12_lacks) := goodIn_app (goodIn_of _ (by decide +kernel)) ggX12_ages_X12_lacks
set_option maxRecDepth 20000 in
theorem ggX12_ages_X12_layAside : GoodIn wsX12_ages wsX12_layAside := goodIn_r _ [17, 18, 19, 20, 21, 22, 23, 8, 24, 73, 74, 75, 76, 77, 78, 79, 80, 81, 82, 83, 84, 85, 86, 87, 88, 89, 90, 91, 92, 93, 94, 95, 96, 97, 98, 99, 100, 101, 102, 103, 104, 105, 106, 107, 108, 109, 110] (by decide +kernel) (by decide +kernel)
set_option maxRecDepth 20000 in
theorem gX12_ages_X12_layAside : GoodIn wsX12_ages (wsV RX12 184 RX12 yX12_layAside wsX12_layAside) := goodIn_app (goodIn_of _ (by decide +kernel)) ggX12_ages_X12_layAside
set_option maxRecDepth 20000 in
theorem ggX12_ages_X12_draw : GoodIn wsX12_ages wsX12_draw := goodIn_r _ [28, 29, 3, 30, 31, 32, 73, 74, 75, 76, 77, 78, 79, 80, 81, 82, 83, 84, 85, 86, 87, 88, 89, 90, 91, 92, 93, 94, 95, 96, 97, 98, 99, 100, 101, 102, 103, 104, 105, 106, 107, 108, 109, 110] (by decide +kernel) (by decide +kernel)
set_option maxRecDepth 20000 in
theorem gX12_ages_X12_draw : GoodIn wsX12_ages (wsV RX12 224 RX12 yX12_draw wsX12_draw) := goodIn_app (goodIn_of _ (by decide +kernel)) ggX12_ages_X12_draw
set_option maxRecDepth 20000 in
theorem ggX12_ages_X12_marry : GoodIn wsX12_ages wsX12_marry := goodIn_r _ [36, 37, 38, 39, 8, 40, 41, 42, 43, 44, 20, 45, 46, 47, 48, 18, 49, 50, 51, 52, 73, 74, 75, 76, 77, 78, 79, 80, 81, 82, 83, 84, 85, 86, 87, 88, 89, 90, 91, 92, 93, 94, 95, 96, 97, 98, 99, 100, 101, 102, 103, 104, 105, 106, 107, 108, 109, 110] (by decide +kernel) (by decide +kernel)
set_option maxRecDepth 20000 in
theorem gX12_ages_X12_marry : GoodIn wsX12_ages (wsV RX12 166 RX12 yX12_marry wsX12_marry) := goodIn_app (goodIn_of _ (by decide +kernel)) ggX12_ages_X12_marry
set_option maxRecDepth 20000 in
theorem ggX12_ages_X12_passYear : GoodIn wsX12_ages wsX12_passYear := goodIn_r _ [56, 4, 18, 20, 57, 58, 59, 8, 60, 6, 7, 9, 45, 46, 47, 48, 49, 50, 51, 52, 37, 73, 74, 75, 76, 77, 78, 79, 80, 81, 82, 83, 84, 85, 86, 87, 88, 89, 90, 91, 92, 93, 94, 95, 96, 97, 98, 99, 100, 101, 102, 103, 104, 105, 106, 107, 108, 109, 110] (by decide +kernel) (by decide +kernel)
set_option maxRecDepth 20000 in
theorem gX12_ages_X12_passYear : GoodIn wsX12_ages (wsV RX12 171 RX12 yX12_passYear wsX12_passYear) := goodIn_app (goodIn_of _ (by decide +kernel)) ggX12_ages_X12_passYear
set_option maxRecDepth 20000 in
theorem ggX12_ages_X12_owedAll : GoodIn wsX12_ages wsX12_owedAll := goodIn_r _ [64, 20, 73, 74, 75, 76, 77, 78, 79, 80, 81, 82, 83, 84, 85, 86, 87, 88, 89, 90, 91, 92, 93, 94, 95, 96, 97, 98, 99, 100, 101, 102, 103, 104, 105, 106, 107, 108, 109, 110] (by decide +kernel) (by decide +kernel)
set_option maxRecDepth 20000 in
theorem gX12_ages_X12_owedAll : GoodIn wsX12_ages (wsV RX12 174 RX12 yX12_owedAll wsX12_owedAll) := goodIn_app (goodIn_of _ (by decide +kernel)) ggX12_ages_X12_owedAll
set_option maxRecDepth 20000 in
theorem ggX12_ages_X12_cowsAll : GoodIn wsX12_ages wsX12_cowsAll := goodIn_r _ [68, 4, 18, 73, 74, 75, 76, 77, 78, 79, 80, 81, 82, 83, 84, 85, 86, 87, 88, 89, 90, 91, 92, 93, 94, 95, 96, 97, 98, 99, 100, 101, 102, 103, 104, 105, 106, 107, 108, 109, 110] (by decide +kernel) (by decide +kernel)
set_option maxRecDepth 20000 in
theorem gX12_ages_X12_cowsAll : GoodIn wsX12_ages (wsV RX12 227 RX12 yX12_cowsAll wsX12_cowsAll) := goodIn_app (goodIn_of _ (by decide +kernel)) ggX12_ages_X12_cowsAll
set_option maxRecDepth 20000 in
theorem ggX12_ages_X12_layBack : GoodIn wsX12_ages wsX12_layBack := goodIn_r _ [72, 19, 18, 21, 20, 22, 23, 8, 24, 73, 74, 75, 76, 77, 78, 79, 80, 81, 82, 83, 84, 85, 86, 87, 88, 89, 90, 91, 92, 93, 94, 95, 96, 97, 98, 99, 100, 101, 102, 103, 104, 105, 106, 107, 108, 109, 110] (by decide +kernel) (by decide +kernel)
set_option maxRecDepth 20000 in
theorem gX12_ages_X12_layBack : GoodIn wsX12_ages (wsV RX12 190 RX12 yX12_layBack wsX12_layBack) := goodIn_app (goodIn_of _ (by decide +kernel)) ggX12_ages_X12_layBack
theorem dX12_ages_0 : decode cX12_ages 0 = .ok (.iload_n 1, 1) := by decide +kernel
theorem dX12_ages_1 : decode cX12_ages 1 = .ok (.i2l, 1) := by decide +kernel
theorem dX12_ages_2 : decode cX12_ages 2 = .ok (.lconst 1, 1) := by decide +kernel
theorem dX12_ages_3 : decode cX12_ages 3 = .ok (.ldc2_w 220, 3) := by decide +kernel
theorem dX12_ages_6 : decode cX12_ages 6 = .ok (.invokestatic 73, 3) := by decide +kernel
theorem dX12_ages_9 : decode cX12_ages 9 = .ok (.ifCond .eq 19, 3) := by decide +kernel
theorem dX12_ages_12 : decode cX12_ages 12 = .ok (.iload_n 2, 1) := by decide +kernel
theorem dX12_ages_13 : decode cX12_ages 13 = .ok (.ifCond .lt 15, 3) := by decide +kernel
theorem dX12_ages_16 : decode cX12_ages 16 = .ok (.iload_n 3, 1) := by decide +kernel
theorem dX12_ages_17 : decode cX12_ages 17 = .ok (.i2l, 1) := by decide +kernel
theorem dX12_ages_18 : decode cX12_ages 18 = .ok (.lconst 0, 1) := by decide +kernel
theorem dX12_ages_19 : decode cX12_ages 19 = .ok (.ldc2_w 222, 3) := by decide +kernel
theorem dX12_ages_22 : decode cX12_ages 22 = .ok (.invokestatic 73, 3) := by decide +kernel
theorem dX12_ages_25 : decode cX12_ages 25 = .ok (.ifCond .ne 6, 3) := by decide +kernel
theorem dX12_ages_28 : decode cX12_ages 28 = .ok (.bipush (-102), 2) := by decide +kernel
theorem dX12_ages_30 : decode cX12_ages 30 = .ok (.ireturn, 1) := by decide +kernel
theorem dX12_ages_31 : decode cX12_ages 31 = .ok (.aload_n 0, 1) := by decide +kernel
theorem dX12_ages_32 : decode cX12_ages 32 = .ok (.invokevirtual 155, 3) := by decide +kernel
theorem dX12_ages_35 : decode cX12_ages 35 = .ok (.ifCond .eq 6, 3) := by decide +kernel
theorem dX12_ages_38 : decode cX12_ages 38 = .ok (.bipush (-103), 2) := by decide +kernel
theorem dX12_ages_40 : decode cX12_ages 40 = .ok (.ireturn, 1) := by decide +kernel
theorem dX12_ages_41 : decode cX12_ages 41 = .ok (.aload_n 0, 1) := by decide +kernel
theorem dX12_ages_42 : decode cX12_ages 42 = .ok (.invokevirtual 184, 3) := by decide +kernel
theorem dX12_ages_45 : decode cX12_ages 45 = .ok (.aload_n 0, 1) := by decide +kernel
theorem dX12_ages_46 : decode cX12_ages 46 = .ok (.iload_n 2, 1) := by decide +kernel
theorem dX12_ages_47 : decode cX12_ages 47 = .ok (.putfield 212, 3) := by decide +kernel
theorem dX12_ages_50 : decode cX12_ages 50 = .ok (.iconst 0, 1) := by decide +kernel
theorem dX12_ages_51 : decode cX12_ages 51 = .ok (.istore 4, 2) := by decide +kernel
theorem dX12_ages_53 : decode cX12_ages 53 = .ok (.iload 4, 2) := by decide +kernel
theorem dX12_ages_55 : decode cX12_ages 55 = .ok (.iload_n 1, 1) := by decide +kernel
theorem dX12_ages_56 : decode cX12_ages 56 = .ok (.if_icmp .ge 54, 3) := by decide +kernel
theorem dX12_ages_59 : decode cX12_ages 59 = .ok (.aload_n 0, 1) := by decide +kernel
theorem dX12_ages_60 : decode cX12_ages 60 = .ok (.aload_n 0, 1) := by decide +kernel
theorem dX12_ages_61 : decode cX12_ages 61 = .ok (.getfield 105, 3) := by decide +kernel
theorem dX12_ages_64 : decode cX12_ages 64 = .ok (.invokevirtual 224, 3) := by decide +kernel
theorem dX12_ages_67 : decode cX12_ages 67 = .ok (.istore 5, 2) := by decide +kernel
theorem dX12_ages_69 : decode cX12_ages 69 = .ok (.aload_n 0, 1) := by decide +kernel
theorem dX12_ages_70 : decode cX12_ages 70 = .ok (.aload_n 0, 1) := by decide +kernel
theorem dX12_ages_71 : decode cX12_ages 71 = .ok (.getfield 105, 3) := by decide +kernel
theorem dX12_ages_74 : decode cX12_ages 74 = .ok (.invokevirtual 224, 3) := by decide +kernel
theorem dX12_ages_77 : decode cX12_ages 77 = .ok (.istore 6, 2) := by decide +kernel
theorem dX12_ages_79 : decode cX12_ages 79 = .ok (.iload 5, 2) := by decide +kernel
theorem dX12_ages_81 : decode cX12_ages 81 = .ok (.iload 6, 2) := by decide +kernel
theorem dX12_ages_83 : decode cX12_ages 83 = .ok (.if_icmp .eq 17, 3) := by decide +kernel
theorem dX12_ages_86 : decode cX12_ages 86 = .ok (.aload_n 0, 1) := by decide +kernel
theorem dX12_ages_87 : decode cX12_ages 87 = .ok (.iload 5, 2) := by decide +kernel
theorem dX12_ages_89 : decode cX12_ages 89 = .ok (.iload 6, 2) := by decide +kernel
theorem dX12_ages_91 : decode cX12_ages 91 = .ok (.aload_n 0, 1) := by decide +kernel
theorem dX12_ages_92 : decode cX12_ages 92 = .ok (.getfield 108, 3) := by decide +kernel
theorem dX12_ages_95 : decode cX12_ages 95 = .ok (.invokevirtual 166, 3) := by decide +kernel
theorem dX12_ages_98 : decode cX12_ages 98 = .ok (.istore 7, 2) := by decide +kernel
theorem dX12_ages_100 : decode cX12_ages 100 = .ok (.aload_n 0, 1) := by decide +kernel
theorem dX12_ages_101 : decode cX12_ages 101 = .ok (.invokevirtual 171, 3) := by decide +kernel
theorem dX12_ages_104 : decode cX12_ages 104 = .ok (.iinc 4 1, 3) := by decide +kernel
theorem dX12_ages_107 : decode cX12_ages 107 = .ok (.goto (-54), 3) := by decide +kernel
theorem dX12_ages_110 : decode cX12_ages 110 = .ok (.aload_n 0, 1) := by decide +kernel
theorem dX12_ages_111 : decode cX12_ages 111 = .ok (.invokevirtual 174, 3) := by decide +kernel
theorem dX12_ages_114 : decode cX12_ages 114 = .ok (.istore 4, 2) := by decide +kernel
theorem dX12_ages_116 : decode cX12_ages 116 = .ok (.aload_n 0, 1) := by decide +kernel
theorem dX12_ages_117 : decode cX12_ages 117 = .ok (.invokevirtual 227, 3) := by decide +kernel
theorem dX12_ages_120 : decode cX12_ages 120 = .ok (.istore 5, 2) := by decide +kernel
theorem dX12_ages_122 : decode cX12_ages 122 = .ok (.aload_n 0, 1) := by decide +kernel
theorem dX12_ages_123 : decode cX12_ages 123 = .ok (.invokevirtual 190, 3) := by decide +kernel
theorem dX12_ages_126 : decode cX12_ages 126 = .ok (.iload_n 3, 1) := by decide +kernel
theorem dX12_ages_127 : decode cX12_ages 127 = .ok (.ifCond .ne 8, 3) := by decide +kernel
theorem dX12_ages_130 : decode cX12_ages 130 = .ok (.iload 4, 2) := by decide +kernel
theorem dX12_ages_132 : decode cX12_ages 132 = .ok (.goto 17, 3) := by decide +kernel
theorem dX12_ages_135 : decode cX12_ages 135 = .ok (.iload_n 3, 1) := by decide +kernel
theorem dX12_ages_136 : decode cX12_ages 136 = .ok (.iconst 1, 1) := by decide +kernel
theorem dX12_ages_137 : decode cX12_ages 137 = .ok (.if_icmp .ne 8, 3) := by decide +kernel
theorem dX12_ages_140 : decode cX12_ages 140 = .ok (.iload 5, 2) := by decide +kernel
theorem dX12_ages_142 : decode cX12_ages 142 = .ok (.goto 7, 3) := by decide +kernel
theorem dX12_ages_145 : decode cX12_ages 145 = .ok (.aload_n 0, 1) := by decide +kernel
theorem dX12_ages_146 : decode cX12_ages 146 = .ok (.getfield 212, 3) := by decide +kernel
theorem dX12_ages_149 : decode cX12_ages 149 = .ok (.ireturn, 1) := by decide +kernel
set_option maxRecDepth 20000 in
theorem ggX12_image_X12_lacks : GoodIn wsX12_image wsX12_lacks := goodIn_r _ [27, 28, 32, 33, 34, 35, 36, 37, 38, 39, 40, 41, 42, 43, 44, 45, 46, 47, 48, 49, 50, 51, 52, 53, 54, 55, 56, 57, 58, 59, 60, 61, 62, 63, 64, 65, 66, 67, 68, 69] (by decide +kernel) (by decide +kernel)
set_option maxRecDepth 20000 in
theorem gX12_image_X12_lacks : GoodIn wsX12_image (wsV RX12 155 RX12 yX12_lacks wsX12_lacks) := goodIn_app (goodIn_of _ (by decide +kernel)) ggX12_image_X12_lacks
set_option maxRecDepth 20000 in
theorem ggX12_image_X12_copy : GoodIn wsX12_image wsX12_copy := goodIn_r _ [31] (by decide +kernel) (by decide +kernel)
set_option maxRecDepth 20000 in
theorem gX12_image_X12_copy : GoodIn wsX12_image (va_wsS RX12 180 yX12_copy wsX12_copy) := goodIn_app (goodIn_of _ (by decide +kernel)) ggX12_image_X12_copy
theorem dX12_image_0 : decode cX12_image 0 = .ok (.aload_n 0, 1) := by decide +kernel
theorem dX12_image_1 : decode cX12_image 1 = .ok (.invokevirtual 155, 3) := by decide +kernel
theorem dX12_image_4 : decode cX12_image 4 = .ok (.ifCond .eq 6, 3) := by decide +kernel
theorem dX12_image_7 : decode cX12_image 7 = .ok (.bipush (-103), 2) := by decide +kernel
theorem dX12_image_9 : decode cX12_image 9 = .ok (.ireturn, 1) := by decide +kernel
theorem dX12_image_10 : decode cX12_image 10 = .ok (.aload_n 0, 1) := by decide +kernel
theorem dX12_image_11 : decode cX12_image 11 = .ok (.getfield 19, 3) := by decide +kernel
theorem dX12_image_14 : decode cX12_image 14 = .ok (.aload_n 0, 1) := by decide +kernel
theorem dX12_image_15 : decode cX12_image 15 = .ok (.getfield 52, 3) := by decide +kernel
theorem dX12_image_18 : decode cX12_image 18 = .ok (.invokestatic 180, 3) := by decide +kernel
theorem dX12_image_21 : decode cX12_image 21 = .ok (.aload_n 0, 1) := by decide +kernel
theorem dX12_image_22 : decode cX12_image 22 = .ok (.getfield 22, 3) := by decide +kernel
theorem dX12_image_25 : decode cX12_image 25 = .ok (.aload_n 0, 1) := by decide +kernel
theorem dX12_image_26 : decode cX12_image 26 = .ok (.getfield 55, 3) := by decide +kernel
theorem dX12_image_29 : decode cX12_image 29 = .ok (.invokestatic 180, 3) := by decide +kernel
theorem dX12_image_32 : decode cX12_image 32 = .ok (.aload_n 0, 1) := by decide +kernel
theorem dX12_image_33 : decode cX12_image 33 = .ok (.getfield 25, 3) := by decide +kernel
theorem dX12_image_36 : decode cX12_image 36 = .ok (.aload_n 0, 1) := by decide +kernel
theorem dX12_image_37 : decode cX12_image 37 = .ok (.getfield 58, 3) := by decide +kernel
theorem dX12_image_40 : decode cX12_image 40 = .ok (.invokestatic 180, 3) := by decide +kernel
theorem dX12_image_43 : decode cX12_image 43 = .ok (.aload_n 0, 1) := by decide +kernel
theorem dX12_image_44 : decode cX12_image 44 = .ok (.getfield 28, 3) := by decide +kernel
theorem dX12_image_47 : decode cX12_image 47 = .ok (.aload_n 0, 1) := by decide +kernel
theorem dX12_image_48 : decode cX12_image 48 = .ok (.getfield 61, 3) := by decide +kernel
theorem dX12_image_51 : decode cX12_image 51 = .ok (.invokestatic 180, 3) := by decide +kernel
theorem dX12_image_54 : decode cX12_image 54 = .ok (.aload_n 0, 1) := by decide +kernel
theorem dX12_image_55 : decode cX12_image 55 = .ok (.getfield 46, 3) := by decide +kernel
theorem dX12_image_58 : decode cX12_image 58 = .ok (.aload_n 0, 1) := by decide +kernel
theorem dX12_image_59 : decode cX12_image 59 = .ok (.getfield 64, 3) := by decide +kernel
theorem dX12_image_62 : decode cX12_image 62 = .ok (.invokestatic 180, 3) := by decide +kernel
theorem dX12_image_65 : decode cX12_image 65 = .ok (.aload_n 0, 1) := by decide +kernel
theorem dX12_image_66 : decode cX12_image 66 = .ok (.aload_n 0, 1) := by decide +kernel
theorem dX12_image_67 : decode cX12_image 67 = .ok (.getfield 108, 3) := by decide +kernel
theorem dX12_image_70 : decode cX12_image 70 = .ok (.putfield 230, 3) := by decide +kernel
theorem dX12_image_73 : decode cX12_image 73 = .ok (.aload_n 0, 1) := by decide +kernel
theorem dX12_image_74 : decode cX12_image 74 = .ok (.aload_n 0, 1) := by decide +kernel
theorem dX12_image_75 : decode cX12_image 75 = .ok (.getfield 111, 3) := by decide +kernel
theorem dX12_image_78 : decode cX12_image 78 = .ok (.putfield 233, 3) := by decide +kernel
theorem dX12_image_81 : decode cX12_image 81 = .ok (.aload_n 0, 1) := by decide +kernel
theorem dX12_image_82 : decode cX12_image 82 = .ok (.aload_n 0, 1) := by decide +kernel
theorem dX12_image_83 : decode cX12_image 83 = .ok (.getfield 114, 3) := by decide +kernel
theorem dX12_image_86 : decode cX12_image 86 = .ok (.putfield 236, 3) := by decide +kernel
theorem dX12_image_89 : decode cX12_image 89 = .ok (.aload_n 0, 1) := by decide +kernel
theorem dX12_image_90 : decode cX12_image 90 = .ok (.aload_n 0, 1) := by decide +kernel
theorem dX12_image_91 : decode cX12_image 91 = .ok (.getfield 117, 3) := by decide +kernel
theorem dX12_image_94 : decode cX12_image 94 = .ok (.putfield 239, 3) := by decide +kernel
theorem dX12_image_97 : decode cX12_image 97 = .ok (.aload_n 0, 1) := by decide +kernel
theorem dX12_image_98 : decode cX12_image 98 = .ok (.aload_n 0, 1) := by decide +kernel
theorem dX12_image_99 : decode cX12_image 99 = .ok (.getfield 120, 3) := by decide +kernel
theorem dX12_image_102 : decode cX12_image 102 = .ok (.putfield 242, 3) := by decide +kernel
theorem dX12_image_105 : decode cX12_image 105 = .ok (.aload_n 0, 1) := by decide +kernel
theorem dX12_image_106 : decode cX12_image 106 = .ok (.aload_n 0, 1) := by decide +kernel
theorem dX12_image_107 : decode cX12_image 107 = .ok (.getfield 123, 3) := by decide +kernel
theorem dX12_image_110 : decode cX12_image 110 = .ok (.putfield 67, 3) := by decide +kernel
theorem dX12_image_113 : decode cX12_image 113 = .ok (.aload_n 0, 1) := by decide +kernel
theorem dX12_image_114 : decode cX12_image 114 = .ok (.getfield 111, 3) := by decide +kernel
theorem dX12_image_117 : decode cX12_image 117 = .ok (.ireturn, 1) := by decide +kernel
set_option maxRecDepth 20000 in
theorem ggX12_restore_X12_copy : GoodIn wsX12_restore wsX12_copy := goodIn_r _ [26] (by decide +kernel) (by decide +kernel)
set_option maxRecDepth 20000 in
theorem gX12_restore_X12_copy : GoodIn wsX12_restore (va_wsS RX12 180 yX12_copy wsX12_copy) := goodIn_app (goodIn_of _ (by decide +kernel)) ggX12_restore_X12_copy
theorem dX12_restore_0 : decode cX12_restore 0 = .ok (.aload_n 0, 1) := by decide +kernel
theorem dX12_restore_1 : decode cX12_restore 1 = .ok (.getfield 67, 3) := by decide +kernel
theorem dX12_restore_4 : decode cX12_restore 4 = .ok (.aload_n 0, 1) := by decide +kernel
theorem dX12_restore_5 : decode cX12_restore 5 = .ok (.getfield 123, 3) := by decide +kernel
theorem dX12_restore_8 : decode cX12_restore 8 = .ok (.if_icmp .eq 6, 3) := by decide +kernel
theorem dX12_restore_11 : decode cX12_restore 11 = .ok (.bipush (-103), 2) := by decide +kernel
theorem dX12_restore_13 : decode cX12_restore 13 = .ok (.ireturn, 1) := by decide +kernel
theorem dX12_restore_14 : decode cX12_restore 14 = .ok (.aload_n 0, 1) := by decide +kernel
theorem dX12_restore_15 : decode cX12_restore 15 = .ok (.getfield 52, 3) := by decide +kernel
theorem dX12_restore_18 : decode cX12_restore 18 = .ok (.aload_n 0, 1) := by decide +kernel
theorem dX12_restore_19 : decode cX12_restore 19 = .ok (.getfield 19, 3) := by decide +kernel
theorem dX12_restore_22 : decode cX12_restore 22 = .ok (.invokestatic 180, 3) := by decide +kernel
theorem dX12_restore_25 : decode cX12_restore 25 = .ok (.aload_n 0, 1) := by decide +kernel
theorem dX12_restore_26 : decode cX12_restore 26 = .ok (.getfield 55, 3) := by decide +kernel
theorem dX12_restore_29 : decode cX12_restore 29 = .ok (.aload_n 0, 1) := by decide +kernel
theorem dX12_restore_30 : decode cX12_restore 30 = .ok (.getfield 22, 3) := by decide +kernel
theorem dX12_restore_33 : decode cX12_restore 33 = .ok (.invokestatic 180, 3) := by decide +kernel
theorem dX12_restore_36 : decode cX12_restore 36 = .ok (.aload_n 0, 1) := by decide +kernel
theorem dX12_restore_37 : decode cX12_restore 37 = .ok (.getfield 58, 3) := by decide +kernel
theorem dX12_restore_40 : decode cX12_restore 40 = .ok (.aload_n 0, 1) := by decide +kernel
theorem dX12_restore_41 : decode cX12_restore 41 = .ok (.getfield 25, 3) := by decide +kernel
theorem dX12_restore_44 : decode cX12_restore 44 = .ok (.invokestatic 180, 3) := by decide +kernel
theorem dX12_restore_47 : decode cX12_restore 47 = .ok (.aload_n 0, 1) := by decide +kernel
theorem dX12_restore_48 : decode cX12_restore 48 = .ok (.getfield 61, 3) := by decide +kernel
theorem dX12_restore_51 : decode cX12_restore 51 = .ok (.aload_n 0, 1) := by decide +kernel
theorem dX12_restore_52 : decode cX12_restore 52 = .ok (.getfield 28, 3) := by decide +kernel
theorem dX12_restore_55 : decode cX12_restore 55 = .ok (.invokestatic 180, 3) := by decide +kernel
theorem dX12_restore_58 : decode cX12_restore 58 = .ok (.aload_n 0, 1) := by decide +kernel
theorem dX12_restore_59 : decode cX12_restore 59 = .ok (.getfield 64, 3) := by decide +kernel
theorem dX12_restore_62 : decode cX12_restore 62 = .ok (.aload_n 0, 1) := by decide +kernel
theorem dX12_restore_63 : decode cX12_restore 63 = .ok (.getfield 46, 3) := by decide +kernel
theorem dX12_restore_66 : decode cX12_restore 66 = .ok (.invokestatic 180, 3) := by decide +kernel
theorem dX12_restore_69 : decode cX12_restore 69 = .ok (.aload_n 0, 1) := by decide +kernel
theorem dX12_restore_70 : decode cX12_restore 70 = .ok (.aload_n 0, 1) := by decide +kernel
theorem dX12_restore_71 : decode cX12_restore 71 = .ok (.getfield 230, 3) := by decide +kernel
theorem dX12_restore_74 : decode cX12_restore 74 = .ok (.putfield 108, 3) := by decide +kernel
theorem dX12_restore_77 : decode cX12_restore 77 = .ok (.aload_n 0, 1) := by decide +kernel
theorem dX12_restore_78 : decode cX12_restore 78 = .ok (.aload_n 0, 1) := by decide +kernel
theorem dX12_restore_79 : decode cX12_restore 79 = .ok (.getfield 233, 3) := by decide +kernel
theorem dX12_restore_82 : decode cX12_restore 82 = .ok (.putfield 111, 3) := by decide +kernel
theorem dX12_restore_85 : decode cX12_restore 85 = .ok (.aload_n 0, 1) := by decide +kernel
theorem dX12_restore_86 : decode cX12_restore 86 = .ok (.aload_n 0, 1) := by decide +kernel
theorem dX12_restore_87 : decode cX12_restore 87 = .ok (.getfield 236, 3) := by decide +kernel
theorem dX12_restore_90 : decode cX12_restore 90 = .ok (.putfield 114, 3) := by decide +kernel
theorem dX12_restore_93 : decode cX12_restore 93 = .ok (.aload_n 0, 1) := by decide +kernel
theorem dX12_restore_94 : decode cX12_restore 94 = .ok (.aload_n 0, 1) := by decide +kernel
theorem dX12_restore_95 : decode cX12_restore 95 = .ok (.getfield 239, 3) := by decide +kernel
theorem dX12_restore_98 : decode cX12_restore 98 = .ok (.putfield 117, 3) := by decide +kernel
theorem dX12_restore_101 : decode cX12_restore 101 = .ok (.aload_n 0, 1) := by decide +kernel
theorem dX12_restore_102 : decode cX12_restore 102 = .ok (.aload_n 0, 1) := by decide +kernel
theorem dX12_restore_103 : decode cX12_restore 103 = .ok (.getfield 242, 3) := by decide +kernel
theorem dX12_restore_106 : decode cX12_restore 106 = .ok (.putfield 120, 3) := by decide +kernel
theorem dX12_restore_109 : decode cX12_restore 109 = .ok (.aload_n 0, 1) := by decide +kernel
theorem dX12_restore_110 : decode cX12_restore 110 = .ok (.getfield 111, 3) := by decide +kernel
theorem dX12_restore_113 : decode cX12_restore 113 = .ok (.ireturn, 1) := by decide +kernel
set_option maxRecDepth 20000 in
theorem ggX12_countOf_X12_cowsAll : GoodIn wsX12_countOf wsX12_cowsAll := goodIn_r _ [13, 1, 14, 20, 21, 22, 23, 24, 25, 26, 27, 28, 29, 30, 31, 32, 33, 34, 35, 36, 37, 38, 39, 40, 41, 42, 43, 44, 45, 46, 47, 48, 49, 50, 51, 52, 53, 54, 55, 56, 57] (by decide +kernel) (by decide +kernel)
set_option maxRecDepth 20000 in
theorem gX12_countOf_X12_cowsAll : GoodIn wsX12_countOf (wsV RX12 227 RX12 yX12_cowsAll wsX12_cowsAll) := goodIn_app (goodIn_of _ (by decide +kernel)) ggX12_countOf_X12_cowsAll
set_option maxRecDepth 20000 in
theorem ggX12_countOf_X12_owedAll : GoodIn wsX12_countOf wsX12_owedAll := goodIn_r _ [18, 19, 20, 21, 22, 23, 24, 25, 26, 27, 28, 29, 30, 31, 32, 33, 34, 35, 36, 37, 38, 39, 40, 41, 42, 43, 44, 45, 46, 47, 48, 49, 50, 51, 52, 53, 54, 55, 56, 57] (by decide +kernel) (by decide +kernel)
set_option maxRecDepth 20000 in
theorem gX12_countOf_X12_owedAll : GoodIn wsX12_countOf (wsV RX12 174 RX12 yX12_owedAll wsX12_owedAll) := goodIn_app (goodIn_of _ (by decide +kernel)) ggX12_countOf_X12_owedAll
theorem dX12_countOf_0 : decode cX12_countOf 0 = .ok (.iload_n 1, 1) := by decide +kernel
theorem dX12_countOf_1 : decode cX12_countOf 1 = .ok (.tableswitch 105 0 9 #[55, 60, 65, 70, 75, 80, 85, 90, 95, 100], 55) := by decide +kernel
theorem dX12_countOf_56 : decode cX12_countOf 56 = .ok (.aload_n 0, 1) := by decide +kernel
theorem dX12_countOf_57 : decode cX12_countOf 57 = .ok (.getfield 105, 3) := by decide +kernel
theorem dX12_countOf_60 : decode cX12_countOf 60 = .ok (.ireturn, 1) := by decide +kernel
theorem dX12_countOf_61 : decode cX12_countOf 61 = .ok (.aload_n 0, 1) := by decide +kernel
theorem dX12_countOf_62 : decode cX12_countOf 62 = .ok (.getfield 108, 3) := by decide +kernel
theorem dX12_countOf_65 : decode cX12_countOf 65 = .ok (.ireturn, 1) := by decide +kernel
theorem dX12_countOf_66 : decode cX12_countOf 66 = .ok (.aload_n 0, 1) := by decide +kernel
theorem dX12_countOf_67 : decode cX12_countOf 67 = .ok (.invokevirtual 227, 3) := by decide +kernel
theorem dX12_countOf_70 : decode cX12_countOf 70 = .ok (.ireturn, 1) := by decide +kernel
theorem dX12_countOf_71 : decode cX12_countOf 71 = .ok (.aload_n 0, 1) := by decide +kernel
theorem dX12_countOf_72 : decode cX12_countOf 72 = .ok (.invokevirtual 174, 3) := by decide +kernel
theorem dX12_countOf_75 : decode cX12_countOf 75 = .ok (.ireturn, 1) := by decide +kernel
theorem dX12_countOf_76 : decode cX12_countOf 76 = .ok (.aload_n 0, 1) := by decide +kernel
theorem dX12_countOf_77 : decode cX12_countOf 77 = .ok (.getfield 114, 3) := by decide +kernel
theorem dX12_countOf_80 : decode cX12_countOf 80 = .ok (.ireturn, 1) := by decide +kernel
theorem dX12_countOf_81 : decode cX12_countOf 81 = .ok (.aload_n 0, 1) := by decide +kernel
theorem dX12_countOf_82 : decode cX12_countOf 82 = .ok (.getfield 111, 3) := by decide +kernel
theorem dX12_countOf_85 : decode cX12_countOf 85 = .ok (.ireturn, 1) := by decide +kernel
theorem dX12_countOf_86 : decode cX12_countOf 86 = .ok (.aload_n 0, 1) := by decide +kernel
theorem dX12_countOf_87 : decode cX12_countOf 87 = .ok (.getfield 117, 3) := by decide +kernel
theorem dX12_countOf_90 : decode cX12_countOf 90 = .ok (.ireturn, 1) := by decide +kernel
theorem dX12_countOf_91 : decode cX12_countOf 91 = .ok (.aload_n 0, 1) := by decide +kernel
theorem dX12_countOf_92 : decode cX12_countOf 92 = .ok (.getfield 120, 3) := by decide +kernel
theorem dX12_countOf_95 : decode cX12_countOf 95 = .ok (.ireturn, 1) := by decide +kernel
theorem dX12_countOf_96 : decode cX12_countOf 96 = .ok (.aload_n 0, 1) := by decide +kernel
theorem dX12_countOf_97 : decode cX12_countOf 97 = .ok (.getfield 77, 3) := by decide +kernel
theorem dX12_countOf_100 : decode cX12_countOf 100 = .ok (.ireturn, 1) := by decide +kernel
theorem dX12_countOf_101 : decode cX12_countOf 101 = .ok (.aload_n 0, 1) := by decide +kernel
theorem dX12_countOf_102 : decode cX12_countOf 102 = .ok (.getfield 123, 3) := by decide +kernel
theorem dX12_countOf_105 : decode cX12_countOf 105 = .ok (.ireturn, 1) := by decide +kernel
theorem dX12_countOf_106 : decode cX12_countOf 106 = .ok (.bipush (-102), 2) := by decide +kernel
theorem dX12_countOf_108 : decode cX12_countOf 108 = .ok (.ireturn, 1) := by decide +kernel
set_option maxRecDepth 20000 in
theorem ggX12_count_X12_countOf : GoodIn wsX12_count wsX12_countOf := goodIn_r _ [5, 6, 7, 8, 9, 10, 11, 12, 13, 14, 15, 16, 4, 17, 18, 19, 20, 21, 22, 23, 24, 25, 26, 27, 28, 29, 30, 31, 32, 33, 34, 35, 36, 37, 38, 39, 40, 41, 42, 43, 44, 45, 46, 47, 48, 49, 50, 51, 52, 53, 54, 55, 56, 57, 58, 59, 60, 61] (by decide +kernel) (by decide +kernel)
set_option maxRecDepth 20000 in
theorem gX12_count_X12_countOf : GoodIn wsX12_count (wsV RX12 245 RX12 yX12_countOf wsX12_countOf) := goodIn_app (goodIn_of _ (by decide +kernel)) ggX12_count_X12_countOf
theorem dX12_count_0 : decode cX12_count 0 = .ok (.aload_n 0, 1) := by decide +kernel
theorem dX12_count_1 : decode cX12_count 1 = .ok (.iload_n 1, 1) := by decide +kernel
theorem dX12_count_2 : decode cX12_count 2 = .ok (.invokevirtual 245, 3) := by decide +kernel
theorem dX12_count_5 : decode cX12_count 5 = .ok (.ireturn, 1) := by decide +kernel
theorem dX12_say_0 : decode cX12_say 0 = .ok (.aload_n 0, 1) := by decide +kernel
theorem dX12_say_1 : decode cX12_say 1 = .ok (.ldc2_w 248, 3) := by decide +kernel
theorem dX12_say_4 : decode cX12_say 4 = .ok (.aload_n 0, 1) := by decide +kernel
theorem dX12_say_5 : decode cX12_say 5 = .ok (.getfield 250, 3) := by decide +kernel
theorem dX12_say_8 : decode cX12_say 8 = .ok (.lmul, 1) := by decide +kernel
theorem dX12_say_9 : decode cX12_say 9 = .ok (.lload_n 1, 1) := by decide +kernel
theorem dX12_say_10 : decode cX12_say 10 = .ok (.ladd, 1) := by decide +kernel
theorem dX12_say_11 : decode cX12_say 11 = .ok (.putfield 250, 3) := by decide +kernel
theorem dX12_say_14 : decode cX12_say 14 = .ok (.return_, 1) := by decide +kernel
set_option maxRecDepth 20000 in
theorem ggX12_sayClan_X12_clanOf : GoodIn wsX12_sayClan wsX12_clanOf := goodIn_r _ [5, 6, 7, 8, 9, 10, 11, 12, 13, 4, 14, 15, 16, 17, 18, 19, 20, 21, 22, 23, 24, 25, 26, 27, 28, 29, 36, 37, 38, 39, 40, 41, 42, 43, 44, 45, 46, 47, 48, 49, 50, 51, 52, 53, 54, 55, 56, 57, 58, 59, 60, 61, 62, 63, 64, 65, 66, 67, 68, 69, 70, 71, 72, 73] (by decide +kernel) (by decide +kernel)
set_option maxRecDepth 20000 in
theorem gX12_sayClan_X12_clanOf : GoodIn wsX12_sayClan (wsV RX12 150 RX12 yX12_clanOf wsX12_clanOf) := goodIn_app (goodIn_of _ (by decide +kernel)) ggX12_sayClan_X12_clanOf
set_option maxRecDepth 20000 in
theorem ggX12_sayClan_X12_say : GoodIn wsX12_sayClan wsX12_say := goodIn_r _ [33, 34, 35, 36, 37, 38, 39, 40, 41, 42, 43, 44, 45, 46, 47, 48, 49, 50, 51, 52, 53, 54, 55, 56, 57, 58, 59, 60, 61, 62, 63, 64, 65, 66, 67, 68, 69, 70, 71, 72, 73] (by decide +kernel) (by decide +kernel)
set_option maxRecDepth 20000 in
theorem gX12_sayClan_X12_say : GoodIn wsX12_sayClan (wsV RX12 254 RX12 yX12_say wsX12_say) := goodIn_app (goodIn_of _ (by decide +kernel)) ggX12_sayClan_X12_say
theorem dX12_sayClan_0 : decode cX12_sayClan 0 = .ok (.iconst 0, 1) := by decide +kernel
theorem dX12_sayClan_1 : decode cX12_sayClan 1 = .ok (.istore_n 2, 1) := by decide +kernel
theorem dX12_sayClan_2 : decode cX12_sayClan 2 = .ok (.iload_n 2, 1) := by decide +kernel
theorem dX12_sayClan_3 : decode cX12_sayClan 3 = .ok (.bipush 14, 2) := by decide +kernel
theorem dX12_sayClan_5 : decode cX12_sayClan 5 = .ok (.if_icmp .ge 32, 3) := by decide +kernel
theorem dX12_sayClan_8 : decode cX12_sayClan 8 = .ok (.iload_n 2, 1) := by decide +kernel
theorem dX12_sayClan_9 : decode cX12_sayClan 9 = .ok (.bipush 7, 2) := by decide +kernel
theorem dX12_sayClan_11 : decode cX12_sayClan 11 = .ok (.if_icmp .lt 9, 3) := by decide +kernel
theorem dX12_sayClan_14 : decode cX12_sayClan 14 = .ok (.iload_n 2, 1) := by decide +kernel
theorem dX12_sayClan_15 : decode cX12_sayClan 15 = .ok (.bipush 9, 2) := by decide +kernel
theorem dX12_sayClan_17 : decode cX12_sayClan 17 = .ok (.if_icmp .le 14, 3) := by decide +kernel
theorem dX12_sayClan_20 : decode cX12_sayClan 20 = .ok (.aload_n 0, 1) := by decide +kernel
theorem dX12_sayClan_21 : decode cX12_sayClan 21 = .ok (.aload_n 0, 1) := by decide +kernel
theorem dX12_sayClan_22 : decode cX12_sayClan 22 = .ok (.iload_n 1, 1) := by decide +kernel
theorem dX12_sayClan_23 : decode cX12_sayClan 23 = .ok (.iload_n 2, 1) := by decide +kernel
theorem dX12_sayClan_24 : decode cX12_sayClan 24 = .ok (.invokevirtual 150, 3) := by decide +kernel
theorem dX12_sayClan_27 : decode cX12_sayClan 27 = .ok (.i2l, 1) := by decide +kernel
theorem dX12_sayClan_28 : decode cX12_sayClan 28 = .ok (.invokevirtual 254, 3) := by decide +kernel
theorem dX12_sayClan_31 : decode cX12_sayClan 31 = .ok (.iinc 2 1, 3) := by decide +kernel
theorem dX12_sayClan_34 : decode cX12_sayClan 34 = .ok (.goto (-32), 3) := by decide +kernel
theorem dX12_sayClan_37 : decode cX12_sayClan 37 = .ok (.return_, 1) := by decide +kernel
set_option maxRecDepth 20000 in
theorem ggX12_digest_X12_sayClan : GoodIn wsX12_digest wsX12_sayClan := goodIn_r _ [12, 13, 14, 15, 11, 16, 17, 18, 19, 20, 21, 22, 23, 24, 25, 26, 27, 28, 29, 30, 31, 32, 33, 34, 35, 36, 37, 38, 39, 40, 41, 42, 43, 44, 45, 2, 125, 126, 127, 128, 129, 130, 131, 132, 133, 134, 135, 136, 137, 138, 139, 140, 141, 142, 143, 144, 145, 146, 147, 148, 149, 150, 151, 152, 153, 154, 155, 156, 157, 158, 159, 160, 161, 162] (by decide +kernel) (by decide +kernel)
set_option maxRecDepth 20000 in
theorem gX12_digest_X12_sayClan : GoodIn wsX12_digest (wsV RX12 260 RX12 yX12_sayClan wsX12_sayClan) := goodIn_app (goodIn_of _ (by decide +kernel)) ggX12_digest_X12_sayClan
set_option maxRecDepth 20000 in
theorem ggX12_digest_X12_say : GoodIn wsX12_digest wsX12_say := goodIn_r _ [44, 45, 2, 125, 126, 127, 128, 129, 130, 131, 132, 133, 134, 135, 136, 137, 138, 139, 140, 141, 142, 143, 144, 145, 146, 147, 148, 149, 150, 151, 152, 153, 154, 155, 156, 157, 158, 159, 160, 161, 162] (by decide +kernel) (by decide +kernel)
set_option maxRecDepth 20000 in
theorem gX12_digest_X12_say : GoodIn wsX12_digest (wsV RX12 254 RX12 yX12_say wsX12_say) := goodIn_app (goodIn_of _ (by decide +kernel)) ggX12_digest_X12_say
set_option maxRecDepth 20000 in
theorem ggX12_digest_X12_lacks : GoodIn wsX12_digest wsX12_lacks := goodIn_r _ [49, 3, 125, 126, 127, 128, 129, 130, 131, 132, 133, 134, 135, 136, 137, 138, 139, 140, 141, 142, 143, 144, 145, 146, 147, 148, 149, 150, 151, 152, 153, 154, 155, 156, 157, 158, 159, 160, 161, 162] (by decide +kernel) (by decide +kernel)
set_option maxRecDepth 20000 in
theorem gX12_digest_X12_lacks : GoodIn wsX12_digest (wsV RX12 155 RX12 yX12_lacks wsX12_lacks) := goodIn_app (goodIn_of _ (by decide +kernel)) ggX12_digest_X12_lacks
set_option maxRecDepth 20000 in
theorem ggX12_digest_X12_settledOf : GoodIn wsX12_digest wsX12_settledOf := goodIn_r _ [53, 3, 37, 38, 39, 11, 40, 19, 33, 34, 35, 36, 125, 126, 127, 128, 129, 130, 131, 132, 133, 134, 135, 136, 137, 138, 139, 140, 141, 142, 143, 144, 145, 146, 147, 148, 149, 150, 151, 152, 153, 154, 155, 156, 157, 158, 159, 160, 161, 162] (by decide +kernel) (by decide +kernel)
set_option maxRecDepth 20000 in
theorem gX12_digest_X12_settledOf : GoodIn wsX12_digest (wsV RX12 177 RX12 yX12_settledOf wsX12_settledOf) := goodIn_app (goodIn_of _ (by decide +kernel)) ggX12_digest_X12_settledOf
set_option maxRecDepth 20000 in
theorem ggX12_digest_X12_orderOf : GoodIn wsX12_digest wsX12_orderOf := goodIn_r _ [57, 58, 59, 60, 61, 62, 11, 63, 64, 65, 22, 66, 67, 68, 69, 21, 70, 19, 71, 72, 73, 74, 75, 76, 77, 78, 79, 80, 81, 82, 20, 26, 27, 28, 83, 84, 85, 86, 87, 88, 89, 90, 29, 30, 31, 32, 91, 92, 93, 94, 95, 96, 97, 98, 125, 126, 127, 128, 129, 130, 131, 132, 133, 134, 135, 136, 137, 138, 139, 140, 141, 142, 143, 144, 145, 146, 147, 148, 149, 150, 151, 152, 153, 154, 155, 156, 157, 158, 159, 160, 161, 162] (by decide +kernel) (by decide +kernel)
set_option maxRecDepth 20000 in
theorem gX12_digest_X12_orderOf : GoodIn wsX12_digest (wsV RX12 196 RX12 yX12_orderOf wsX12_orderOf) := goodIn_app (goodIn_of _ (by decide +kernel)) ggX12_digest_X12_orderOf
set_option maxRecDepth 20000 in
theorem ggX12_digest_X12_highOf : GoodIn wsX12_digest wsX12_highOf := goodIn_r _ [102, 3, 103, 58, 64, 33, 34, 35, 11, 36, 19, 66, 67, 68, 69, 21, 70, 71, 72, 73, 74, 79, 80, 81, 82, 20, 26, 27, 28, 83, 84, 85, 86, 87, 88, 89, 90, 29, 30, 31, 32, 95, 96, 97, 98, 125, 126, 127, 128, 129, 130, 131, 132, 133, 134, 135, 136, 137, 138, 139, 140, 141, 142, 143, 144, 145, 146, 147, 148, 149, 150, 151, 152, 153, 154, 155, 156, 157, 158, 159, 160, 161, 162] (by decide +kernel) (by decide +kernel)
set_option maxRecDepth 20000 in
theorem gX12_digest_X12_highOf : GoodIn wsX12_digest (wsV RX12 199 RX12 yX12_highOf wsX12_highOf) := goodIn_app (goodIn_of _ (by decide +kernel)) ggX12_digest_X12_highOf
set_option maxRecDepth 20000 in
theorem ggX12_digest_X12_whichOf : GoodIn wsX12_digest wsX12_whichOf := goodIn_r _ [107, 108, 109, 26, 27, 11, 28, 125, 126, 127, 128, 129, 130, 131, 132, 133, 134, 135, 136, 137, 138, 139, 140, 141, 142, 143, 144, 145, 146, 147, 148, 149, 150, 151, 152, 153, 154, 155, 156, 157, 158, 159, 160, 161, 162] (by decide +kernel) (by decide +kernel)
set_option maxRecDepth 20000 in
theorem gX12_digest_X12_whichOf : GoodIn wsX12_digest (wsV RX12 204 RX12 yX12_whichOf wsX12_whichOf) := goodIn_app (goodIn_of _ (by decide +kernel)) ggX12_digest_X12_whichOf
set_option maxRecDepth 20000 in
theorem ggX12_digest_X12_askOf : GoodIn wsX12_digest wsX12_askOf := goodIn_r _ [113, 114, 104, 105, 106, 11, 107, 108, 109, 26, 27, 28, 125, 126, 127, 128, 129, 130, 131, 132, 133, 134, 135, 136, 137, 138, 139, 140, 141, 142, 143, 144, 145, 146, 147, 148, 149, 150, 151, 152, 153, 154, 155, 156, 157, 158, 159, 160, 161, 162] (by decide +kernel) (by decide +kernel)
set_option maxRecDepth 20000 in
theorem gX12_digest_X12_askOf : GoodIn wsX12_digest (wsV RX12 207 RX12 yX12_askOf wsX12_askOf) := goodIn_app (goodIn_of _ (by decide +kernel)) ggX12_digest_X12_askOf
set_option maxRecDepth 20000 in
theorem ggX12_digest_X12_countOf : GoodIn wsX12_digest wsX12_countOf := goodIn_r _ [118, 3, 22, 4, 119, 58, 108, 6, 120, 121, 122, 123, 11, 124, 21, 91, 92, 93, 94, 19, 125, 126, 127, 128, 129, 130, 131, 132, 133, 134, 135, 136, 137, 138, 139, 140, 141, 142, 143, 144, 145, 146, 147, 148, 149, 150, 151, 152, 153, 154, 155, 156, 157, 158, 159, 160, 161, 162] (by decide +kernel) (by decide +kernel)
set_option maxRecDepth 20000 in
theorem gX12_digest_X12_countOf : GoodIn wsX12_digest (wsV RX12 245 RX12 yX12_countOf wsX12_countOf) := goodIn_app (goodIn_of _ (by decide +kernel)) ggX12_digest_X12_countOf
theorem dX12_digest_0 : decode cX12_digest 0 = .ok (.aload_n 0, 1) := by decide +kernel
theorem dX12_digest_1 : decode cX12_digest 1 = .ok (.ldc2_w 258, 3) := by decide +kernel
theorem dX12_digest_4 : decode cX12_digest 4 = .ok (.putfield 250, 3) := by decide +kernel
theorem dX12_digest_7 : decode cX12_digest 7 = .ok (.iconst 0, 1) := by decide +kernel
theorem dX12_digest_8 : decode cX12_digest 8 = .ok (.istore_n 1, 1) := by decide +kernel
theorem dX12_digest_9 : decode cX12_digest 9 = .ok (.iload_n 1, 1) := by decide +kernel
theorem dX12_digest_10 : decode cX12_digest 10 = .ok (.aload_n 0, 1) := by decide +kernel
theorem dX12_digest_11 : decode cX12_digest 11 = .ok (.getfield 105, 3) := by decide +kernel
theorem dX12_digest_14 : decode cX12_digest 14 = .ok (.if_icmp .ge 14, 3) := by decide +kernel
theorem dX12_digest_17 : decode cX12_digest 17 = .ok (.aload_n 0, 1) := by decide +kernel
theorem dX12_digest_18 : decode cX12_digest 18 = .ok (.iload_n 1, 1) := by decide +kernel
theorem dX12_digest_19 : decode cX12_digest 19 = .ok (.invokevirtual 260, 3) := by decide +kernel
theorem dX12_digest_22 : decode cX12_digest 22 = .ok (.iinc 1 1, 3) := by decide +kernel
theorem dX12_digest_25 : decode cX12_digest 25 = .ok (.goto (-16), 3) := by decide +kernel
theorem dX12_digest_28 : decode cX12_digest 28 = .ok (.iconst 0, 1) := by decide +kernel
theorem dX12_digest_29 : decode cX12_digest 29 = .ok (.istore_n 1, 1) := by decide +kernel
theorem dX12_digest_30 : decode cX12_digest 30 = .ok (.iload_n 1, 1) := by decide +kernel
theorem dX12_digest_31 : decode cX12_digest 31 = .ok (.iconst 4, 1) := by decide +kernel
theorem dX12_digest_32 : decode cX12_digest 32 = .ok (.aload_n 0, 1) := by decide +kernel
theorem dX12_digest_33 : decode cX12_digest 33 = .ok (.getfield 114, 3) := by decide +kernel
theorem dX12_digest_36 : decode cX12_digest 36 = .ok (.imul, 1) := by decide +kernel
theorem dX12_digest_37 : decode cX12_digest 37 = .ok (.if_icmp .ge 20, 3) := by decide +kernel
theorem dX12_digest_40 : decode cX12_digest 40 = .ok (.aload_n 0, 1) := by decide +kernel
theorem dX12_digest_41 : decode cX12_digest 41 = .ok (.aload_n 0, 1) := by decide +kernel
theorem dX12_digest_42 : decode cX12_digest 42 = .ok (.getfield 25, 3) := by decide +kernel
theorem dX12_digest_45 : decode cX12_digest 45 = .ok (.iload_n 1, 1) := by decide +kernel
theorem dX12_digest_46 : decode cX12_digest 46 = .ok (.iaload, 1) := by decide +kernel
theorem dX12_digest_47 : decode cX12_digest 47 = .ok (.i2l, 1) := by decide +kernel
theorem dX12_digest_48 : decode cX12_digest 48 = .ok (.invokevirtual 254, 3) := by decide +kernel
theorem dX12_digest_51 : decode cX12_digest 51 = .ok (.iinc 1 1, 3) := by decide +kernel
theorem dX12_digest_54 : decode cX12_digest 54 = .ok (.goto (-24), 3) := by decide +kernel
theorem dX12_digest_57 : decode cX12_digest 57 = .ok (.aload_n 0, 1) := by decide +kernel
theorem dX12_digest_58 : decode cX12_digest 58 = .ok (.invokevirtual 155, 3) := by decide +kernel
theorem dX12_digest_61 : decode cX12_digest 61 = .ok (.ifCond .ne 56, 3) := by decide +kernel
theorem dX12_digest_64 : decode cX12_digest 64 = .ok (.aload_n 0, 1) := by decide +kernel
theorem dX12_digest_65 : decode cX12_digest 65 = .ok (.aload_n 0, 1) := by decide +kernel
theorem dX12_digest_66 : decode cX12_digest 66 = .ok (.invokevirtual 177, 3) := by decide +kernel
theorem dX12_digest_69 : decode cX12_digest 69 = .ok (.i2l, 1) := by decide +kernel
theorem dX12_digest_70 : decode cX12_digest 70 = .ok (.invokevirtual 254, 3) := by decide +kernel
theorem dX12_digest_73 : decode cX12_digest 73 = .ok (.aload_n 0, 1) := by decide +kernel
theorem dX12_digest_74 : decode cX12_digest 74 = .ok (.aload_n 0, 1) := by decide +kernel
theorem dX12_digest_75 : decode cX12_digest 75 = .ok (.iconst 0, 1) := by decide +kernel
theorem dX12_digest_76 : decode cX12_digest 76 = .ok (.invokevirtual 196, 3) := by decide +kernel
theorem dX12_digest_79 : decode cX12_digest 79 = .ok (.i2l, 1) := by decide +kernel
theorem dX12_digest_80 : decode cX12_digest 80 = .ok (.invokevirtual 254, 3) := by decide +kernel
theorem dX12_digest_83 : decode cX12_digest 83 = .ok (.bipush 10, 2) := by decide +kernel
theorem dX12_digest_85 : decode cX12_digest 85 = .ok (.istore_n 1, 1) := by decide +kernel
theorem dX12_digest_86 : decode cX12_digest 86 = .ok (.iload_n 1, 1) := by decide +kernel
theorem dX12_digest_87 : decode cX12_digest 87 = .ok (.bipush 14, 2) := by decide +kernel
theorem dX12_digest_89 : decode cX12_digest 89 = .ok (.if_icmp .ge 19, 3) := by decide +kernel
theorem dX12_digest_92 : decode cX12_digest 92 = .ok (.aload_n 0, 1) := by decide +kernel
theorem dX12_digest_93 : decode cX12_digest 93 = .ok (.aload_n 0, 1) := by decide +kernel
theorem dX12_digest_94 : decode cX12_digest 94 = .ok (.iload_n 1, 1) := by decide +kernel
theorem dX12_digest_95 : decode cX12_digest 95 = .ok (.invokevirtual 196, 3) := by decide +kernel
theorem dX12_digest_98 : decode cX12_digest 98 = .ok (.i2l, 1) := by decide +kernel
theorem dX12_digest_99 : decode cX12_digest 99 = .ok (.invokevirtual 254, 3) := by decide +kernel
theorem dX12_digest_102 : decode cX12_digest 102 = .ok (.iinc 1 1, 3) := by decide +kernel
theorem dX12_digest_105 : decode cX12_digest 105 = .ok (.goto (-19), 3) := by decide +kernel
theorem dX12_digest_108 : decode cX12_digest 108 = .ok (.aload_n 0, 1) := by decide +kernel
theorem dX12_digest_109 : decode cX12_digest 109 = .ok (.aload_n 0, 1) := by decide +kernel
theorem dX12_digest_110 : decode cX12_digest 110 = .ok (.invokevirtual 199, 3) := by decide +kernel
theorem dX12_digest_113 : decode cX12_digest 113 = .ok (.i2l, 1) := by decide +kernel
theorem dX12_digest_114 : decode cX12_digest 114 = .ok (.invokevirtual 254, 3) := by decide +kernel
theorem dX12_digest_117 : decode cX12_digest 117 = .ok (.aload_n 0, 1) := by decide +kernel
theorem dX12_digest_118 : decode cX12_digest 118 = .ok (.aload_n 0, 1) := by decide +kernel
theorem dX12_digest_119 : decode cX12_digest 119 = .ok (.invokevirtual 204, 3) := by decide +kernel
theorem dX12_digest_122 : decode cX12_digest 122 = .ok (.i2l, 1) := by decide +kernel
theorem dX12_digest_123 : decode cX12_digest 123 = .ok (.invokevirtual 254, 3) := by decide +kernel
theorem dX12_digest_126 : decode cX12_digest 126 = .ok (.aload_n 0, 1) := by decide +kernel
theorem dX12_digest_127 : decode cX12_digest 127 = .ok (.aload_n 0, 1) := by decide +kernel
theorem dX12_digest_128 : decode cX12_digest 128 = .ok (.invokevirtual 207, 3) := by decide +kernel
theorem dX12_digest_131 : decode cX12_digest 131 = .ok (.i2l, 1) := by decide +kernel
theorem dX12_digest_132 : decode cX12_digest 132 = .ok (.invokevirtual 254, 3) := by decide +kernel
theorem dX12_digest_135 : decode cX12_digest 135 = .ok (.iconst 0, 1) := by decide +kernel
theorem dX12_digest_136 : decode cX12_digest 136 = .ok (.istore_n 1, 1) := by decide +kernel
theorem dX12_digest_137 : decode cX12_digest 137 = .ok (.iload_n 1, 1) := by decide +kernel
theorem dX12_digest_138 : decode cX12_digest 138 = .ok (.aload_n 0, 1) := by decide +kernel
theorem dX12_digest_139 : decode cX12_digest 139 = .ok (.getfield 77, 3) := by decide +kernel
theorem dX12_digest_142 : decode cX12_digest 142 = .ok (.if_icmp .ge 20, 3) := by decide +kernel
theorem dX12_digest_145 : decode cX12_digest 145 = .ok (.aload_n 0, 1) := by decide +kernel
theorem dX12_digest_146 : decode cX12_digest 146 = .ok (.aload_n 0, 1) := by decide +kernel
theorem dX12_digest_147 : decode cX12_digest 147 = .ok (.getfield 7, 3) := by decide +kernel
theorem dX12_digest_150 : decode cX12_digest 150 = .ok (.iload_n 1, 1) := by decide +kernel
theorem dX12_digest_151 : decode cX12_digest 151 = .ok (.iaload, 1) := by decide +kernel
theorem dX12_digest_152 : decode cX12_digest 152 = .ok (.i2l, 1) := by decide +kernel
theorem dX12_digest_153 : decode cX12_digest 153 = .ok (.invokevirtual 254, 3) := by decide +kernel
theorem dX12_digest_156 : decode cX12_digest 156 = .ok (.iinc 1 1, 3) := by decide +kernel
theorem dX12_digest_159 : decode cX12_digest 159 = .ok (.goto (-22), 3) := by decide +kernel
theorem dX12_digest_162 : decode cX12_digest 162 = .ok (.iconst 0, 1) := by decide +kernel
theorem dX12_digest_163 : decode cX12_digest 163 = .ok (.istore_n 1, 1) := by decide +kernel
theorem dX12_digest_164 : decode cX12_digest 164 = .ok (.iload_n 1, 1) := by decide +kernel
theorem dX12_digest_165 : decode cX12_digest 165 = .ok (.bipush 10, 2) := by decide +kernel
theorem dX12_digest_167 : decode cX12_digest 167 = .ok (.if_icmp .ge 19, 3) := by decide +kernel
theorem dX12_digest_170 : decode cX12_digest 170 = .ok (.aload_n 0, 1) := by decide +kernel
theorem dX12_digest_171 : decode cX12_digest 171 = .ok (.aload_n 0, 1) := by decide +kernel
theorem dX12_digest_172 : decode cX12_digest 172 = .ok (.iload_n 1, 1) := by decide +kernel
theorem dX12_digest_173 : decode cX12_digest 173 = .ok (.invokevirtual 245, 3) := by decide +kernel
theorem dX12_digest_176 : decode cX12_digest 176 = .ok (.i2l, 1) := by decide +kernel
theorem dX12_digest_177 : decode cX12_digest 177 = .ok (.invokevirtual 254, 3) := by decide +kernel
theorem dX12_digest_180 : decode cX12_digest 180 = .ok (.iinc 1 1, 3) := by decide +kernel
theorem dX12_digest_183 : decode cX12_digest 183 = .ok (.goto (-19), 3) := by decide +kernel
theorem dX12_digest_186 : decode cX12_digest 186 = .ok (.aload_n 0, 1) := by decide +kernel
theorem dX12_digest_187 : decode cX12_digest 187 = .ok (.getfield 250, 3) := by decide +kernel
theorem dX12_digest_190 : decode cX12_digest 190 = .ok (.lreturn, 1) := by decide +kernel
theorem dJ11_isValidCodePoint_9a6ad_0 : decode cJ11_isValidCodePoint_9a6ad 0 = .ok (.iload_n 0, 1) := by decide +kernel
theorem dJ11_isValidCodePoint_9a6ad_1 : decode cJ11_isValidCodePoint_9a6ad 1 = .ok (.bipush 16, 2) := by decide +kernel
theorem dJ11_isValidCodePoint_9a6ad_3 : decode cJ11_isValidCodePoint_9a6ad 3 = .ok (.iushr, 1) := by decide +kernel
theorem dJ11_isValidCodePoint_9a6ad_4 : decode cJ11_isValidCodePoint_9a6ad 4 = .ok (.istore_n 1, 1) := by decide +kernel
theorem dJ11_isValidCodePoint_9a6ad_5 : decode cJ11_isValidCodePoint_9a6ad 5 = .ok (.iload_n 1, 1) := by decide +kernel
theorem dJ11_isValidCodePoint_9a6ad_6 : decode cJ11_isValidCodePoint_9a6ad 6 = .ok (.bipush 17, 2) := by decide +kernel
theorem dJ11_isValidCodePoint_9a6ad_8 : decode cJ11_isValidCodePoint_9a6ad 8 = .ok (.if_icmp .ge 7, 3) := by decide +kernel
theorem dJ11_isValidCodePoint_9a6ad_11 : decode cJ11_isValidCodePoint_9a6ad 11 = .ok (.iconst 1, 1) := by decide +kernel
theorem dJ11_isValidCodePoint_9a6ad_12 : decode cJ11_isValidCodePoint_9a6ad 12 = .ok (.goto 4, 3) := by decide +kernel
theorem dJ11_isValidCodePoint_9a6ad_15 : decode cJ11_isValidCodePoint_9a6ad 15 = .ok (.iconst 0, 1) := by decide +kernel
theorem dJ11_isValidCodePoint_9a6ad_16 : decode cJ11_isValidCodePoint_9a6ad 16 = .ok (.ireturn, 1) := by decide +kernel
theorem dJ11_highSurrogate_5068e_0 : decode cJ11_highSurrogate_5068e 0 = .ok (.iload_n 0, 1) := by decide +kernel
theorem dJ11_highSurrogate_5068e_1 : decode cJ11_highSurrogate_5068e 1 = .ok (.bipush 10, 2) := by decide +kernel
theorem dJ11_highSurrogate_5068e_3 : decode cJ11_highSurrogate_5068e 3 = .ok (.iushr, 1) := by decide +kernel
theorem dJ11_highSurrogate_5068e_4 : decode cJ11_highSurrogate_5068e 4 = .ok (.ldc 110, 2) := by decide +kernel
theorem dJ11_highSurrogate_5068e_6 : decode cJ11_highSurrogate_5068e 6 = .ok (.iadd, 1) := by decide +kernel
theorem dJ11_highSurrogate_5068e_7 : decode cJ11_highSurrogate_5068e 7 = .ok (.i2c, 1) := by decide +kernel
theorem dJ11_highSurrogate_5068e_8 : decode cJ11_highSurrogate_5068e 8 = .ok (.ireturn, 1) := by decide +kernel
theorem dJ11_lowSurrogate_5068e_0 : decode cJ11_lowSurrogate_5068e 0 = .ok (.iload_n 0, 1) := by decide +kernel
theorem dJ11_lowSurrogate_5068e_1 : decode cJ11_lowSurrogate_5068e 1 = .ok (.sipush 1023, 3) := by decide +kernel
theorem dJ11_lowSurrogate_5068e_4 : decode cJ11_lowSurrogate_5068e 4 = .ok (.iand, 1) := by decide +kernel
theorem dJ11_lowSurrogate_5068e_5 : decode cJ11_lowSurrogate_5068e 5 = .ok (.ldc 76, 2) := by decide +kernel
theorem dJ11_lowSurrogate_5068e_7 : decode cJ11_lowSurrogate_5068e 7 = .ok (.iadd, 1) := by decide +kernel
theorem dJ11_lowSurrogate_5068e_8 : decode cJ11_lowSurrogate_5068e 8 = .ok (.i2c, 1) := by decide +kernel
theorem dJ11_lowSurrogate_5068e_9 : decode cJ11_lowSurrogate_5068e 9 = .ok (.ireturn, 1) := by decide +kernel
theorem dJ9_max_7cf53_0 : decode cJ9_max_7cf53 0 = .ok (.iload_n 0, 1) := by decide +kernel
theorem dJ9_max_7cf53_1 : decode cJ9_max_7cf53 1 = .ok (.iload_n 1, 1) := by decide +kernel
theorem dJ9_max_7cf53_2 : decode cJ9_max_7cf53 2 = .ok (.if_icmp .lt 7, 3) := by decide +kernel
theorem dJ9_max_7cf53_5 : decode cJ9_max_7cf53 5 = .ok (.iload_n 0, 1) := by decide +kernel
theorem dJ9_max_7cf53_6 : decode cJ9_max_7cf53 6 = .ok (.goto 4, 3) := by decide +kernel
theorem dJ9_max_7cf53_9 : decode cJ9_max_7cf53 9 = .ok (.iload_n 1, 1) := by decide +kernel
theorem dJ9_max_7cf53_10 : decode cJ9_max_7cf53 10 = .ok (.ireturn, 1) := by decide +kernel
theorem dJ9_min_7cf53_0 : decode cJ9_min_7cf53 0 = .ok (.iload_n 0, 1) := by decide +kernel
theorem dJ9_min_7cf53_1 : decode cJ9_min_7cf53 1 = .ok (.iload_n 1, 1) := by decide +kernel
theorem dJ9_min_7cf53_2 : decode cJ9_min_7cf53 2 = .ok (.if_icmp .gt 7, 3) := by decide +kernel
theorem dJ9_min_7cf53_5 : decode cJ9_min_7cf53 5 = .ok (.iload_n 0, 1) := by decide +kernel
theorem dJ9_min_7cf53_6 : decode cJ9_min_7cf53 6 = .ok (.goto 4, 3) := by decide +kernel
theorem dJ9_min_7cf53_9 : decode cJ9_min_7cf53 9 = .ok (.iload_n 1, 1) := by decide +kernel
theorem dJ9_min_7cf53_10 : decode cJ9_min_7cf53 10 = .ok (.ireturn, 1) := by decide +kernel
set_option maxRecDepth 20000 in
theorem ggJ0_length_8abf5_J0_coder_7d493 : GoodIn wsJ0_length_8abf5 wsJ0_coder_7d493 := goodIn_r _ [6, 7, 8] (by decide +kernel) (by decide +kernel)
set_option maxRecDepth 20000 in
theorem gJ0_length_8abf5_J0_coder_7d493 : GoodIn wsJ0_length_8abf5 (wsV RJ0 335 RJ0 yJ0_coder_7d493 wsJ0_coder_7d493) := goodIn_app (goodIn_of _ (by decide +kernel)) ggJ0_length_8abf5_J0_coder_7d493
theorem dJ0_length_8abf5_0 : decode cJ0_length_8abf5 0 = .ok (.aload_n 0, 1) := by decide +kernel
theorem dJ0_length_8abf5_1 : decode cJ0_length_8abf5 1 = .ok (.getfield 9, 3) := by decide +kernel
theorem dJ0_length_8abf5_4 : decode cJ0_length_8abf5 4 = .ok (.arraylength, 1) := by decide +kernel
theorem dJ0_length_8abf5_5 : decode cJ0_length_8abf5 5 = .ok (.aload_n 0, 1) := by decide +kernel
theorem dJ0_length_8abf5_6 : decode cJ0_length_8abf5 6 = .ok (.invokevirtual 335, 3) := by decide +kernel
theorem dJ0_length_8abf5_9 : decode cJ0_length_8abf5 9 = .ok (.ishr, 1) := by decide +kernel
theorem dJ0_length_8abf5_10 : decode cJ0_length_8abf5 10 = .ok (.ireturn, 1) := by decide +kernel
set_option maxRecDepth 20000 in
theorem ggJ0_indexOf_0f7a4_J0_indexOf_7cf53 : GoodIn wsJ0_indexOf_0f7a4 wsJ0_indexOf_7cf53 := goodIn_r _ [5, 6, 7, 8, 9, 4, 10, 11, 12, 13, 14, 15, 16, 17, 18, 19, 20, 21, 22, 23, 24, 25, 26, 27, 28, 29, 30, 31, 32, 33, 34, 35, 36, 37, 38, 39, 40, 41, 42, 43, 44, 45, 46, 47, 48, 49, 50, 51, 52, 53, 54, 55, 56, 57, 58, 59, 60, 61, 62, 63, 64, 65, 66, 67, 68, 69, 70, 71, 72, 73, 74, 75, 76, 77, 78, 79, 80, 81, 82, 83, 84, 85] (by decide +kernel) (by decide +kernel)
set_option maxRecDepth 20000 in
theorem gJ0_indexOf_0f7a4_J0_indexOf_7cf53 : GoodIn wsJ0_indexOf_0f7a4 (wsV RJ0 633 RJ0 yJ0_indexOf_7cf53 wsJ0_indexOf_7cf53) := goodIn_app (goodIn_of _ (by decide +kernel)) ggJ0_indexOf_0f7a4_J0_indexOf_7cf53
theorem dJ0_indexOf_0f7a4_0 : decode cJ0_indexOf_0f7a4 0 = .ok (.aload_n 0, 1) := by decide +kernel
theorem dJ0_indexOf_0f7a4_1 : decode cJ0_indexOf_0f7a4 1 = .ok (.iload_n 1, 1) := by decide +kernel
theorem dJ0_indexOf_0f7a4_2 : decode cJ0_indexOf_0f7a4 2 = .ok (.iconst 0, 1) := by decide +kernel
theorem dJ0_indexOf_0f7a4_3 : decode cJ0_indexOf_0f7a4 3 = .ok (.invokevirtual 633, 3) := by decide +kernel
theorem dJ0_indexOf_0f7a4_6 : decode cJ0_indexOf_0f7a4 6 = .ok (.ireturn, 1) := by decide +kernel
set_option maxRecDepth 20000 in
theorem ggJ0_indexOf_7cf53_J0_isLatin1_aae02 : GoodIn wsJ0_indexOf_7cf53 wsJ0_isLatin1_aae02 := goodIn_r _ [6, 7, 8] (by decide +kernel) (by decide +kernel)
set_option maxRecDepth 20000 in
theorem gJ0_indexOf_7cf53_J0_isLatin1_aae02 : GoodIn wsJ0_indexOf_7cf53 (wsV RJ0 492 RJ0 yJ0_isLatin1_aae02 wsJ0_isLatin1_aae02) := goodIn_app (goodIn_of _ (by decide +kernel)) ggJ0_indexOf_7cf53_J0_isLatin1_aae02
set_option maxRecDepth 20000 in
theorem ggJ0_indexOf_7cf53_J0_length_8abf5 : GoodIn wsJ0_indexOf_7cf53 wsJ0_length_8abf5 := goodIn_r _ [12, 1, 13, 14, 15, 5, 16, 7, 8] (by decide +kernel) (by decide +kernel)
set_option maxRecDepth 20000 in
theorem gJ0_indexOf_7cf53_J0_length_8abf5 : GoodIn wsJ0_indexOf_7cf53 (wsV RJ0 505 RJ0 yJ0_length_8abf5 wsJ0_length_8abf5) := goodIn_app (goodIn_of _ (by decide +kernel)) ggJ0_indexOf_7cf53_J0_length_8abf5
set_option maxRecDepth 20000 in
theorem ggJ0_indexOf_7cf53_J1_indexOf_4cfef : GoodIn wsJ0_indexOf_7cf53 wsJ1_indexOf_4cfef := goodIn_r _ [20, 21, 22, 23, 24, 25, 26, 27, 28, 29, 19, 30, 31, 32, 33] (by decide +kernel) (by decide +kernel)
set_option maxRecDepth 20000 in
theorem gJ0_indexOf_7cf53_J1_indexOf_4cfef : GoodIn wsJ0_indexOf_7cf53 (va_wsS RJ0 637 yJ1_indexOf_4cfef wsJ1_indexOf_4cfef) := goodIn_app (goodIn_of _ (by decide +kernel)) ggJ0_indexOf_7cf53_J1_indexOf_4cfef
set_option maxRecDepth 20000 in
theorem ggJ0_indexOf_7cf53_J2_indexOf_4cfef : GoodIn wsJ0_indexOf_7cf53 wsJ2_indexOf_4cfef := goodIn_r _ [37, 38, 22, 23, 24, 39, 26, 27, 40, 41, 42, 36, 43, 44, 45, 46, 47, 48, 49, 50, 51, 5, 52, 53, 54, 55, 56, 57, 58, 59, 60, 61, 62, 63, 64, 65, 66, 67, 68, 69, 70, 71, 72, 73, 74, 75, 76, 77, 78, 79, 80, 81] (by decide +kernel) (by decide +kernel)
set_option maxRecDepth 20000 in
theorem gJ0_indexOf_7cf53_J2_indexOf_4cfef : GoodIn wsJ0_indexOf_7cf53 (va_wsS RJ0 640 yJ2_indexOf_4cfef wsJ2_indexOf_4cfef) := goodIn_app (goodIn_of _ (by decide +kernel)) ggJ0_indexOf_7cf53_J2_indexOf_4cfef
theorem dJ0_indexOf_7cf53_0 : decode cJ0_indexOf_7cf53 0 = .ok (.aload_n 0, 1) := by decide +kernel
theorem dJ0_indexOf_7cf53_1 : decode cJ0_indexOf_7cf53 1 = .ok (.invokevirtual 492, 3) := by decide +kernel
theorem dJ0_indexOf_7cf53_4 : decode cJ0_indexOf_7cf53 4 = .ok (.ifCond .eq 19, 3) := by decide +kernel
theorem dJ0_indexOf_7cf53_7 : decode cJ0_indexOf_7cf53 7 = .ok (.aload_n 0, 1) := by decide +kernel
theorem dJ0_indexOf_7cf53_8 : decode cJ0_indexOf_7cf53 8 = .ok (.getfield 9, 3) := by decide +kernel
theorem dJ0_indexOf_7cf53_11 : decode cJ0_indexOf_7cf53 11 = .ok (.iload_n 1, 1) := by decide +kernel
theorem dJ0_indexOf_7cf53_12 : decode cJ0_indexOf_7cf53 12 = .ok (.iload_n 2, 1) := by decide +kernel
theorem dJ0_indexOf_7cf53_13 : decode cJ0_indexOf_7cf53 13 = .ok (.aload_n 0, 1) := by decide +kernel
theorem dJ0_indexOf_7cf53_14 : decode cJ0_indexOf_7cf53 14 = .ok (.invokevirtual 505, 3) := by decide +kernel
theorem dJ0_indexOf_7cf53_17 : decode cJ0_indexOf_7cf53 17 = .ok (.invokestatic 637, 3) := by decide +kernel
theorem dJ0_indexOf_7cf53_20 : decode cJ0_indexOf_7cf53 20 = .ok (.goto 16, 3) := by decide +kernel
theorem dJ0_indexOf_7cf53_23 : decode cJ0_indexOf_7cf53 23 = .ok (.aload_n 0, 1) := by decide +kernel
theorem dJ0_indexOf_7cf53_24 : decode cJ0_indexOf_7cf53 24 = .ok (.getfield 9, 3) := by decide +kernel
theorem dJ0_indexOf_7cf53_27 : decode cJ0_indexOf_7cf53 27 = .ok (.iload_n 1, 1) := by decide +kernel
theorem dJ0_indexOf_7cf53_28 : decode cJ0_indexOf_7cf53 28 = .ok (.iload_n 2, 1) := by decide +kernel
theorem dJ0_indexOf_7cf53_29 : decode cJ0_indexOf_7cf53 29 = .ok (.aload_n 0, 1) := by decide +kernel
theorem dJ0_indexOf_7cf53_30 : decode cJ0_indexOf_7cf53 30 = .ok (.invokevirtual 505, 3) := by decide +kernel
theorem dJ0_indexOf_7cf53_33 : decode cJ0_indexOf_7cf53 33 = .ok (.invokestatic 640, 3) := by decide +kernel
theorem dJ0_indexOf_7cf53_36 : decode cJ0_indexOf_7cf53 36 = .ok (.ireturn, 1) := by decide +kernel
theorem dJ0_coder_7d493_0 : decode cJ0_coder_7d493 0 = .ok (.getstatic 38, 3) := by decide +kernel
theorem dJ0_coder_7d493_3 : decode cJ0_coder_7d493 3 = .ok (.ifCond .eq 10, 3) := by decide +kernel
theorem dJ0_coder_7d493_6 : decode cJ0_coder_7d493 6 = .ok (.aload_n 0, 1) := by decide +kernel
theorem dJ0_coder_7d493_7 : decode cJ0_coder_7d493 7 = .ok (.getfield 15, 3) := by decide +kernel
theorem dJ0_coder_7d493_10 : decode cJ0_coder_7d493 10 = .ok (.goto 4, 3) := by decide +kernel
theorem dJ0_coder_7d493_13 : decode cJ0_coder_7d493 13 = .ok (.iconst 1, 1) := by decide +kernel
theorem dJ0_coder_7d493_14 : decode cJ0_coder_7d493 14 = .ok (.ireturn, 1) := by decide +kernel
theorem dJ0_isLatin1_aae02_0 : decode cJ0_isLatin1_aae02 0 = .ok (.getstatic 38, 3) := by decide +kernel
theorem dJ0_isLatin1_aae02_3 : decode cJ0_isLatin1_aae02 3 = .ok (.ifCond .eq 14, 3) := by decide +kernel
theorem dJ0_isLatin1_aae02_6 : decode cJ0_isLatin1_aae02 6 = .ok (.aload_n 0, 1) := by decide +kernel
theorem dJ0_isLatin1_aae02_7 : decode cJ0_isLatin1_aae02 7 = .ok (.getfield 15, 3) := by decide +kernel
theorem dJ0_isLatin1_aae02_10 : decode cJ0_isLatin1_aae02 10 = .ok (.ifCond .ne 7, 3) := by decide +kernel
theorem dJ0_isLatin1_aae02_13 : decode cJ0_isLatin1_aae02 13 = .ok (.iconst 1, 1) := by decide +kernel
theorem dJ0_isLatin1_aae02_14 : decode cJ0_isLatin1_aae02 14 = .ok (.goto 4, 3) := by decide +kernel
theorem dJ0_isLatin1_aae02_17 : decode cJ0_isLatin1_aae02 17 = .ok (.iconst 0, 1) := by decide +kernel
theorem dJ0_isLatin1_aae02_18 : decode cJ0_isLatin1_aae02 18 = .ok (.ireturn, 1) := by decide +kernel
set_option maxRecDepth 20000 in
theorem ggJ0_checkBoundsBeginEnd_23922_J3_checkFromToIndex_8c36e : GoodIn wsJ0_checkBoundsBeginEnd_23922 wsJ3_checkFromToIndex_8c36e := goodIn_r _ [5] (by decide +kernel) (by decide +kernel)
set_option maxRecDepth 20000 in
theorem gJ0_checkBoundsBeginEnd_23922_J3_checkFromToIndex_8c36e : GoodIn wsJ0_checkBoundsBeginEnd_23922 (va_wsS RJ0 1062 yJ3_checkFromToIndex_8c36e wsJ3_checkFromToIndex_8c36e) := goodIn_app (goodIn_of _ (by decide +kernel)) ggJ0_checkBoundsBeginEnd_23922_J3_checkFromToIndex_8c36e
theorem dJ0_checkBoundsBeginEnd_23922_0 : decode cJ0_checkBoundsBeginEnd_23922 0 = .ok (.iload_n 0, 1) := by decide +kernel
theorem dJ0_checkBoundsBeginEnd_23922_1 : decode cJ0_checkBoundsBeginEnd_23922 1 = .ok (.iload_n 1, 1) := by decide +kernel
theorem dJ0_checkBoundsBeginEnd_23922_2 : decode cJ0_checkBoundsBeginEnd_23922 2 = .ok (.iload_n 2, 1) := by decide +kernel
theorem dJ0_checkBoundsBeginEnd_23922_3 : decode cJ0_checkBoundsBeginEnd_23922 3 = .ok (.getstatic 1053, 3) := by decide +kernel
theorem dJ0_checkBoundsBeginEnd_23922_6 : decode cJ0_checkBoundsBeginEnd_23922 6 = .ok (.invokestatic 1062, 3) := by decide +kernel
theorem dJ0_checkBoundsBeginEnd_23922_9 : decode cJ0_checkBoundsBeginEnd_23922 9 = .ok (.pop, 1) := by decide +kernel
theorem dJ0_checkBoundsBeginEnd_23922_10 : decode cJ0_checkBoundsBeginEnd_23922 10 = .ok (.return_, 1) := by decide +kernel
theorem dJ1_canEncode_9a6ad_0 : decode cJ1_canEncode_9a6ad 0 = .ok (.iload_n 0, 1) := by decide +kernel
theorem dJ1_canEncode_9a6ad_1 : decode cJ1_canEncode_9a6ad 1 = .ok (.ifCond .lt 14, 3) := by decide +kernel
theorem dJ1_canEncode_9a6ad_4 : decode cJ1_canEncode_9a6ad 4 = .ok (.iload_n 0, 1) := by decide +kernel
theorem dJ1_canEncode_9a6ad_5 : decode cJ1_canEncode_9a6ad 5 = .ok (.sipush 255, 3) := by decide +kernel
theorem dJ1_canEncode_9a6ad_8 : decode cJ1_canEncode_9a6ad 8 = .ok (.if_icmp .gt 7, 3) := by decide +kernel
theorem dJ1_canEncode_9a6ad_11 : decode cJ1_canEncode_9a6ad 11 = .ok (.iconst 1, 1) := by decide +kernel
theorem dJ1_canEncode_9a6ad_12 : decode cJ1_canEncode_9a6ad 12 = .ok (.goto 4, 3) := by decide +kernel
theorem dJ1_canEncode_9a6ad_15 : decode cJ1_canEncode_9a6ad 15 = .ok (.iconst 0, 1) := by decide +kernel
theorem dJ1_canEncode_9a6ad_16 : decode cJ1_canEncode_9a6ad 16 = .ok (.ireturn, 1) := by decide +kernel
set_option maxRecDepth 20000 in
theorem ggJ1_indexOf_4cfef_J1_canEncode_9a6ad : GoodIn wsJ1_indexOf_4cfef wsJ1_canEncode_9a6ad := goodIn_r _ [11] (by decide +kernel) (by decide +kernel)
set_option maxRecDepth 20000 in
theorem gJ1_indexOf_4cfef_J1_canEncode_9a6ad : GoodIn wsJ1_indexOf_4cfef (va_wsS RJ1 88 yJ1_canEncode_9a6ad wsJ1_canEncode_9a6ad) := goodIn_app (goodIn_of _ (by decide +kernel)) ggJ1_indexOf_4cfef_J1_canEncode_9a6ad
set_option maxRecDepth 20000 in
theorem ggJ1_indexOf_4cfef_J1_indexOfChar_4cfef : GoodIn wsJ1_indexOf_4cfef wsJ1_indexOfChar_4cfef := goodIn_r _ [14] (by decide +kernel) (by decide +kernel)
set_option maxRecDepth 20000 in
theorem gJ1_indexOf_4cfef_J1_indexOfChar_4cfef : GoodIn wsJ1_indexOf_4cfef (va_wsS RJ1 95 yJ1_indexOfChar_4cfef wsJ1_indexOfChar_4cfef) := goodIn_app (goodIn_of _ (by decide +kernel)) ggJ1_indexOf_4cfef_J1_indexOfChar_4cfef
theorem dJ1_indexOf_4cfef_0 : decode cJ1_indexOf_4cfef 0 = .ok (.iload_n 1, 1) := by decide +kernel
theorem dJ1_indexOf_4cfef_1 : decode cJ1_indexOf_4cfef 1 = .ok (.invokestatic 88, 3) := by decide +kernel
theorem dJ1_indexOf_4cfef_4 : decode cJ1_indexOf_4cfef 4 = .ok (.ifCond .ne 5, 3) := by decide +kernel
theorem dJ1_indexOf_4cfef_7 : decode cJ1_indexOf_4cfef 7 = .ok (.iconst (-1), 1) := by decide +kernel
theorem dJ1_indexOf_4cfef_8 : decode cJ1_indexOf_4cfef 8 = .ok (.ireturn, 1) := by decide +kernel
theorem dJ1_indexOf_4cfef_9 : decode cJ1_indexOf_4cfef 9 = .ok (.iload_n 2, 1) := by decide +kernel
theorem dJ1_indexOf_4cfef_10 : decode cJ1_indexOf_4cfef 10 = .ok (.iconst 0, 1) := by decide +kernel
theorem dJ1_indexOf_4cfef_11 : decode cJ1_indexOf_4cfef 11 = .ok (.invokestatic 92, 3) := by decide +kernel
theorem dJ1_indexOf_4cfef_14 : decode cJ1_indexOf_4cfef 14 = .ok (.istore_n 2, 1) := by decide +kernel
theorem dJ1_indexOf_4cfef_15 : decode cJ1_indexOf_4cfef 15 = .ok (.iload_n 3, 1) := by decide +kernel
theorem dJ1_indexOf_4cfef_16 : decode cJ1_indexOf_4cfef 16 = .ok (.aload_n 0, 1) := by decide +kernel
theorem dJ1_indexOf_4cfef_17 : decode cJ1_indexOf_4cfef 17 = .ok (.arraylength, 1) := by decide +kernel
theorem dJ1_indexOf_4cfef_18 : decode cJ1_indexOf_4cfef 18 = .ok (.invokestatic 38, 3) := by decide +kernel
theorem dJ1_indexOf_4cfef_21 : decode cJ1_indexOf_4cfef 21 = .ok (.istore_n 3, 1) := by decide +kernel
theorem dJ1_indexOf_4cfef_22 : decode cJ1_indexOf_4cfef 22 = .ok (.iload_n 2, 1) := by decide +kernel
theorem dJ1_indexOf_4cfef_23 : decode cJ1_indexOf_4cfef 23 = .ok (.iload_n 3, 1) := by decide +kernel
theorem dJ1_indexOf_4cfef_24 : decode cJ1_indexOf_4cfef 24 = .ok (.if_icmp .lt 5, 3) := by decide +kernel
theorem dJ1_indexOf_4cfef_27 : decode cJ1_indexOf_4cfef 27 = .ok (.iconst (-1), 1) := by decide +kernel
theorem dJ1_indexOf_4cfef_28 : decode cJ1_indexOf_4cfef 28 = .ok (.ireturn, 1) := by decide +kernel
theorem dJ1_indexOf_4cfef_29 : decode cJ1_indexOf_4cfef 29 = .ok (.aload_n 0, 1) := by decide +kernel
theorem dJ1_indexOf_4cfef_30 : decode cJ1_indexOf_4cfef 30 = .ok (.iload_n 1, 1) := by decide +kernel
theorem dJ1_indexOf_4cfef_31 : decode cJ1_indexOf_4cfef 31 = .ok (.iload_n 2, 1) := by decide +kernel
theorem dJ1_indexOf_4cfef_32 : decode cJ1_indexOf_4cfef 32 = .ok (.iload_n 3, 1) := by decide +kernel
theorem dJ1_indexOf_4cfef_33 : decode cJ1_indexOf_4cfef 33 = .ok (.invokestatic 95, 3) := by decide +kernel
theorem dJ1_indexOf_4cfef_36 : decode cJ1_indexOf_4cfef 36 = .ok (.ireturn, 1) := by decide +kernel
theorem dJ1_indexOfChar_4cfef_0 : decode cJ1_indexOfChar_4cfef 0 = .ok (.iload_n 1, 1) := by decide +kernel
theorem dJ1_indexOfChar_4cfef_1 : decode cJ1_indexOfChar_4cfef 1 = .ok (.i2b, 1) := by decide +kernel
theorem dJ1_indexOfChar_4cfef_2 : decode cJ1_indexOfChar_4cfef 2 = .ok (.istore 4, 2) := by decide +kernel
theorem dJ1_indexOfChar_4cfef_4 : decode cJ1_indexOfChar_4cfef 4 = .ok (.iload_n 2, 1) := by decide +kernel
theorem dJ1_indexOfChar_4cfef_5 : decode cJ1_indexOfChar_4cfef 5 = .ok (.istore 5, 2) := by decide +kernel
theorem dJ1_indexOfChar_4cfef_7 : decode cJ1_indexOfChar_4cfef 7 = .ok (.iload 5, 2) := by decide +kernel
theorem dJ1_indexOfChar_4cfef_9 : decode cJ1_indexOfChar_4cfef 9 = .ok (.iload_n 3, 1) := by decide +kernel
theorem dJ1_indexOfChar_4cfef_10 : decode cJ1_indexOfChar_4cfef 10 = .ok (.if_icmp .ge 21, 3) := by decide +kernel
theorem dJ1_indexOfChar_4cfef_13 : decode cJ1_indexOfChar_4cfef 13 = .ok (.aload_n 0, 1) := by decide +kernel
theorem dJ1_indexOfChar_4cfef_14 : decode cJ1_indexOfChar_4cfef 14 = .ok (.iload 5, 2) := by decide +kernel
theorem dJ1_indexOfChar_4cfef_16 : decode cJ1_indexOfChar_4cfef 16 = .ok (.baload, 1) := by decide +kernel
theorem dJ1_indexOfChar_4cfef_17 : decode cJ1_indexOfChar_4cfef 17 = .ok (.iload 4, 2) := by decide +kernel
theorem dJ1_indexOfChar_4cfef_19 : decode cJ1_indexOfChar_4cfef 19 = .ok (.if_icmp .ne 6, 3) := by decide +kernel
theorem dJ1_indexOfChar_4cfef_22 : decode cJ1_indexOfChar_4cfef 22 = .ok (.iload 5, 2) := by decide +kernel
theorem dJ1_indexOfChar_4cfef_24 : decode cJ1_indexOfChar_4cfef 24 = .ok (.ireturn, 1) := by decide +kernel
theorem dJ1_indexOfChar_4cfef_25 : decode cJ1_indexOfChar_4cfef 25 = .ok (.iinc 5 1, 3) := by decide +kernel
theorem dJ1_indexOfChar_4cfef_28 : decode cJ1_indexOfChar_4cfef 28 = .ok (.goto (-21), 3) := by decide +kernel
theorem dJ1_indexOfChar_4cfef_31 : decode cJ1_indexOfChar_4cfef 31 = .ok (.iconst (-1), 1) := by decide +kernel
theorem dJ1_indexOfChar_4cfef_32 : decode cJ1_indexOfChar_4cfef 32 = .ok (.ireturn, 1) := by decide +kernel
set_option maxRecDepth 20000 in
theorem ggJ2_getChar_3b067_J2_length_9d52b : GoodIn wsJ2_getChar_3b067 wsJ2_length_9d52b := goodIn_r _ [7] (by decide +kernel) (by decide +kernel)
set_option maxRecDepth 20000 in
theorem gJ2_getChar_3b067_J2_length_9d52b : GoodIn wsJ2_getChar_3b067 (va_wsS RJ2 48 yJ2_length_9d52b wsJ2_length_9d52b) := goodIn_app (goodIn_of _ (by decide +kernel)) ggJ2_getChar_3b067_J2_length_9d52b
theorem dJ2_getChar_3b067_0 : decode cJ2_getChar_3b067 0 = .ok (.getstatic 44, 3) := by decide +kernel
theorem dJ2_getChar_3b067_3 : decode cJ2_getChar_3b067 3 = .ok (.ifCond .ne 25, 3) := by decide +kernel
theorem dJ2_getChar_3b067_6 : decode cJ2_getChar_3b067 6 = .ok (.iload_n 1, 1) := by decide +kernel
theorem dJ2_getChar_3b067_7 : decode cJ2_getChar_3b067 7 = .ok (.ifCond .lt 11, 3) := by decide +kernel
theorem dJ2_getChar_3b067_10 : decode cJ2_getChar_3b067 10 = .ok (.iload_n 1, 1) := by decide +kernel
theorem dJ2_getChar_3b067_11 : decode cJ2_getChar_3b067 11 = .ok (.aload_n 0, 1) := by decide +kernel
theorem dJ2_getChar_3b067_12 : decode cJ2_getChar_3b067 12 = .ok (.invokestatic 48, 3) := by decide +kernel
theorem dJ2_getChar_3b067_15 : decode cJ2_getChar_3b067 15 = .ok (.if_icmp .lt 13, 3) := by decide +kernel
theorem dJ2_getChar_3b067_18 : decode cJ2_getChar_3b067 18 = .ok (.new 52, 3) := by decide +kernel
theorem dJ2_getChar_3b067_21 : decode cJ2_getChar_3b067 21 = .ok (.dup, 1) := by decide +kernel
theorem dJ2_getChar_3b067_22 : decode cJ2_getChar_3b067 22 = .ok (.ldc 54, 2) := by decide +kernel
theorem dJ2_getChar_3b067_24 : decode cJ2_getChar_3b067 24 = .ok (.invokespecial 56, 3) := by decide +kernel
theorem dJ2_getChar_3b067_27 : decode cJ2_getChar_3b067 27 = .ok (.athrow, 1) := by decide +kernel
theorem dJ2_getChar_3b067_28 : decode cJ2_getChar_3b067 28 = .ok (.iload_n 1, 1) := by decide +kernel
theorem dJ2_getChar_3b067_29 : decode cJ2_getChar_3b067 29 = .ok (.iconst 1, 1) := by decide +kernel
theorem dJ2_getChar_3b067_30 : decode cJ2_getChar_3b067 30 = .ok (.ishl, 1) := by decide +kernel
theorem dJ2_getChar_3b067_31 : decode cJ2_getChar_3b067 31 = .ok (.istore_n 1, 1) := by decide +kernel
theorem dJ2_getChar_3b067_32 : decode cJ2_getChar_3b067 32 = .ok (.aload_n 0, 1) := by decide +kernel
theorem dJ2_getChar_3b067_33 : decode cJ2_getChar_3b067 33 = .ok (.iload_n 1, 1) := by decide +kernel
theorem dJ2_getChar_3b067_34 : decode cJ2_getChar_3b067 34 = .ok (.iinc 1 1, 3) := by decide +kernel
theorem dJ2_getChar_3b067_37 : decode cJ2_getChar_3b067 37 = .ok (.baload, 1) := by decide +kernel
theorem dJ2_getChar_3b067_38 : decode cJ2_getChar_3b067 38 = .ok (.sipush 255, 3) := by decide +kernel
theorem dJ2_getChar_3b067_41 : decode cJ2_getChar_3b067 41 = .ok (.iand, 1) := by decide +kernel
theorem dJ2_getChar_3b067_42 : decode cJ2_getChar_3b067 42 = .ok (.getstatic 59, 3) := by decide +kernel
theorem dJ2_getChar_3b067_45 : decode cJ2_getChar_3b067 45 = .ok (.ishl, 1) := by decide +kernel
theorem dJ2_getChar_3b067_46 : decode cJ2_getChar_3b067 46 = .ok (.aload_n 0, 1) := by decide +kernel
theorem dJ2_getChar_3b067_47 : decode cJ2_getChar_3b067 47 = .ok (.iload_n 1, 1) := by decide +kernel
theorem dJ2_getChar_3b067_48 : decode cJ2_getChar_3b067 48 = .ok (.baload, 1) := by decide +kernel
theorem dJ2_getChar_3b067_49 : decode cJ2_getChar_3b067 49 = .ok (.sipush 255, 3) := by decide +kernel
theorem dJ2_getChar_3b067_52 : decode cJ2_getChar_3b067 52 = .ok (.iand, 1) := by decide +kernel
theorem dJ2_getChar_3b067_53 : decode cJ2_getChar_3b067 53 = .ok (.getstatic 63, 3) := by decide +kernel
theorem dJ2_getChar_3b067_56 : decode cJ2_getChar_3b067 56 = .ok (.ishl, 1) := by decide +kernel
theorem dJ2_getChar_3b067_57 : decode cJ2_getChar_3b067 57 = .ok (.ior, 1) := by decide +kernel
theorem dJ2_getChar_3b067_58 : decode cJ2_getChar_3b067 58 = .ok (.i2c, 1) := by decide +kernel
theorem dJ2_getChar_3b067_59 : decode cJ2_getChar_3b067 59 = .ok (.ireturn, 1) := by decide +kernel
theorem dJ2_length_9d52b_0 : decode cJ2_length_9d52b 0 = .ok (.aload_n 0, 1) := by decide +kernel
theorem dJ2_length_9d52b_1 : decode cJ2_length_9d52b 1 = .ok (.arraylength, 1) := by decide +kernel
theorem dJ2_length_9d52b_2 : decode cJ2_length_9d52b 2 = .ok (.iconst 1, 1) := by decide +kernel
theorem dJ2_length_9d52b_3 : decode cJ2_length_9d52b 3 = .ok (.ishr, 1) := by decide +kernel
theorem dJ2_length_9d52b_4 : decode cJ2_length_9d52b 4 = .ok (.ireturn, 1) := by decide +kernel
set_option maxRecDepth 20000 in
theorem ggJ2_indexOf_4cfef_J2_indexOfChar_4cfef : GoodIn wsJ2_indexOf_4cfef wsJ2_indexOfChar_4cfef := goodIn_r _ [12, 13, 14, 11, 15, 16, 17, 18, 19, 20, 21, 22, 23, 24, 25, 26, 27, 28, 29, 30, 31, 32, 33, 34, 35, 36] (by decide +kernel) (by decide +kernel)
set_option maxRecDepth 20000 in
theorem gJ2_indexOf_4cfef_J2_indexOfChar_4cfef : GoodIn wsJ2_indexOf_4cfef (va_wsS RJ2 228 yJ2_indexOfChar_4cfef wsJ2_indexOfChar_4cfef) := goodIn_app (goodIn_of _ (by decide +kernel)) ggJ2_indexOf_4cfef_J2_indexOfChar_4cfef
set_option maxRecDepth 20000 in
theorem ggJ2_indexOf_4cfef_J2_indexOfSupplementary_4cfef : GoodIn wsJ2_indexOf_4cfef wsJ2_indexOfSupplementary_4cfef := goodIn_r _ [39, 40, 41, 42, 43, 44, 45, 46, 47, 48, 49, 50, 51, 13, 14, 11, 15, 16, 17, 18, 19, 20, 21, 22, 23, 24, 25, 26, 27, 31, 32, 33, 34, 35, 36] (by decide +kernel) (by decide +kernel)
set_option maxRecDepth 20000 in
theorem gJ2_indexOf_4cfef_J2_indexOfSupplementary_4cfef : GoodIn wsJ2_indexOf_4cfef (va_wsS RJ2 232 yJ2_indexOfSupplementary_4cfef wsJ2_indexOfSupplementary_4cfef) := goodIn_app (goodIn_of _ (by decide +kernel)) ggJ2_indexOf_4cfef_J2_indexOfSupplementary_4cfef
