theorem dX12_hills_54 : decode cX12_hills 54 = .ok (.aload_n 0, 1) := by decide +kernel
theorem dX12_hills_55 : decode cX12_hills 55 = .ok (.getfield 19, 3) := by decide +kernel
theorem dX12_hills_58 : decode cX12_hills 58 = .ok (.iload_n 1, 1) := by decide +kernel
theorem dX12_hills_59 : decode cX12_hills 59 = .ok (.aload_n 0, 1) := by decide +kernel
theorem dX12_hills_60 : decode cX12_hills 60 = .ok (.getfield 13, 3) := by decide +kernel
theorem dX12_hills_63 : decode cX12_hills 63 = .ok (.iconst 2, 1) := by decide +kernel
theorem dX12_hills_64 : decode cX12_hills 64 = .ok (.iload_n 1, 1) := by decide +kernel
theorem dX12_hills_65 : decode cX12_hills 65 = .ok (.imul, 1) := by decide +kernel
theorem dX12_hills_66 : decode cX12_hills 66 = .ok (.iconst 1, 1) := by decide +kernel
theorem dX12_hills_67 : decode cX12_hills 67 = .ok (.iadd, 1) := by decide +kernel
theorem dX12_hills_68 : decode cX12_hills 68 = .ok (.iaload, 1) := by decide +kernel
theorem dX12_hills_69 : decode cX12_hills 69 = .ok (.iastore, 1) := by decide +kernel
theorem dX12_hills_70 : decode cX12_hills 70 = .ok (.iinc 1 1, 3) := by decide +kernel
theorem dX12_hills_73 : decode cX12_hills 73 = .ok (.goto (-41), 3) := by decide +kernel
theorem dX12_hills_76 : decode cX12_hills 76 = .ok (.iconst 0, 1) := by decide +kernel
theorem dX12_hills_77 : decode cX12_hills 77 = .ok (.istore_n 1, 1) := by decide +kernel
theorem dX12_hills_78 : decode cX12_hills 78 = .ok (.iload_n 1, 1) := by decide +kernel
theorem dX12_hills_79 : decode cX12_hills 79 = .ok (.bipush 16, 2) := by decide +kernel
theorem dX12_hills_81 : decode cX12_hills 81 = .ok (.if_icmp .ge 16, 3) := by decide +kernel
theorem dX12_hills_84 : decode cX12_hills 84 = .ok (.aload_n 0, 1) := by decide +kernel
theorem dX12_hills_85 : decode cX12_hills 85 = .ok (.getfield 22, 3) := by decide +kernel
theorem dX12_hills_88 : decode cX12_hills 88 = .ok (.iload_n 1, 1) := by decide +kernel
theorem dX12_hills_89 : decode cX12_hills 89 = .ok (.iconst 0, 1) := by decide +kernel
theorem dX12_hills_90 : decode cX12_hills 90 = .ok (.iastore, 1) := by decide +kernel
theorem dX12_hills_91 : decode cX12_hills 91 = .ok (.iinc 1 1, 3) := by decide +kernel
theorem dX12_hills_94 : decode cX12_hills 94 = .ok (.goto (-16), 3) := by decide +kernel
theorem dX12_hills_97 : decode cX12_hills 97 = .ok (.aload_n 0, 1) := by decide +kernel
theorem dX12_hills_98 : decode cX12_hills 98 = .ok (.aload_n 0, 1) := by decide +kernel
theorem dX12_hills_99 : decode cX12_hills 99 = .ok (.getfield 92, 3) := by decide +kernel
theorem dX12_hills_102 : decode cX12_hills 102 = .ok (.putfield 108, 3) := by decide +kernel
theorem dX12_hills_105 : decode cX12_hills 105 = .ok (.aload_n 0, 1) := by decide +kernel
theorem dX12_hills_106 : decode cX12_hills 106 = .ok (.iconst 0, 1) := by decide +kernel
theorem dX12_hills_107 : decode cX12_hills 107 = .ok (.putfield 111, 3) := by decide +kernel
theorem dX12_hills_110 : decode cX12_hills 110 = .ok (.aload_n 0, 1) := by decide +kernel
theorem dX12_hills_111 : decode cX12_hills 111 = .ok (.iconst 0, 1) := by decide +kernel
theorem dX12_hills_112 : decode cX12_hills 112 = .ok (.putfield 114, 3) := by decide +kernel
theorem dX12_hills_115 : decode cX12_hills 115 = .ok (.aload_n 0, 1) := by decide +kernel
theorem dX12_hills_116 : decode cX12_hills 116 = .ok (.iconst 0, 1) := by decide +kernel
theorem dX12_hills_117 : decode cX12_hills 117 = .ok (.putfield 117, 3) := by decide +kernel
theorem dX12_hills_120 : decode cX12_hills 120 = .ok (.aload_n 0, 1) := by decide +kernel
theorem dX12_hills_121 : decode cX12_hills 121 = .ok (.iconst 0, 1) := by decide +kernel
theorem dX12_hills_122 : decode cX12_hills 122 = .ok (.putfield 120, 3) := by decide +kernel
theorem dX12_hills_125 : decode cX12_hills 125 = .ok (.aload_n 0, 1) := by decide +kernel
theorem dX12_hills_126 : decode cX12_hills 126 = .ok (.dup, 1) := by decide +kernel
theorem dX12_hills_127 : decode cX12_hills 127 = .ok (.getfield 123, 3) := by decide +kernel
theorem dX12_hills_130 : decode cX12_hills 130 = .ok (.iconst 1, 1) := by decide +kernel
theorem dX12_hills_131 : decode cX12_hills 131 = .ok (.iadd, 1) := by decide +kernel
theorem dX12_hills_132 : decode cX12_hills 132 = .ok (.putfield 123, 3) := by decide +kernel
theorem dX12_hills_135 : decode cX12_hills 135 = .ok (.aload_n 0, 1) := by decide +kernel
theorem dX12_hills_136 : decode cX12_hills 136 = .ok (.iconst 0, 1) := by decide +kernel
theorem dX12_hills_137 : decode cX12_hills 137 = .ok (.putfield 77, 3) := by decide +kernel
theorem dX12_hills_140 : decode cX12_hills 140 = .ok (.aload_n 0, 1) := by decide +kernel
theorem dX12_hills_141 : decode cX12_hills 141 = .ok (.getfield 105, 3) := by decide +kernel
theorem dX12_hills_144 : decode cX12_hills 144 = .ok (.ireturn, 1) := by decide +kernel
theorem dX12_lacks_0 : decode cX12_lacks 0 = .ok (.aload_n 0, 1) := by decide +kernel
theorem dX12_lacks_1 : decode cX12_lacks 1 = .ok (.getfield 105, 3) := by decide +kernel
theorem dX12_lacks_4 : decode cX12_lacks 4 = .ok (.ifCond .ne 7, 3) := by decide +kernel
theorem dX12_lacks_7 : decode cX12_lacks 7 = .ok (.iconst 1, 1) := by decide +kernel
theorem dX12_lacks_8 : decode cX12_lacks 8 = .ok (.goto 4, 3) := by decide +kernel
theorem dX12_lacks_11 : decode cX12_lacks 11 = .ok (.iconst 0, 1) := by decide +kernel
theorem dX12_lacks_12 : decode cX12_lacks 12 = .ok (.ireturn, 1) := by decide +kernel
set_option maxRecDepth 20000 in
theorem ggX12_isClan_X12_in : GoodIn wsX12_isClan wsX12_in := goodIn_r _ [5] (by decide +kernel) (by decide +kernel)
set_option maxRecDepth 20000 in
theorem gX12_isClan_X12_in : GoodIn wsX12_isClan (va_wsS RX12 73 yX12_in wsX12_in) := goodIn_app (goodIn_of _ (by decide +kernel)) ggX12_isClan_X12_in
theorem dX12_isClan_0 : decode cX12_isClan 0 = .ok (.iload_n 1, 1) := by decide +kernel
theorem dX12_isClan_1 : decode cX12_isClan 1 = .ok (.i2l, 1) := by decide +kernel
theorem dX12_isClan_2 : decode cX12_isClan 2 = .ok (.lconst 0, 1) := by decide +kernel
theorem dX12_isClan_3 : decode cX12_isClan 3 = .ok (.aload_n 0, 1) := by decide +kernel
theorem dX12_isClan_4 : decode cX12_isClan 4 = .ok (.getfield 105, 3) := by decide +kernel
theorem dX12_isClan_7 : decode cX12_isClan 7 = .ok (.iconst 1, 1) := by decide +kernel
theorem dX12_isClan_8 : decode cX12_isClan 8 = .ok (.isub, 1) := by decide +kernel
theorem dX12_isClan_9 : decode cX12_isClan 9 = .ok (.i2l, 1) := by decide +kernel
theorem dX12_isClan_10 : decode cX12_isClan 10 = .ok (.invokestatic 73, 3) := by decide +kernel
theorem dX12_isClan_13 : decode cX12_isClan 13 = .ok (.ireturn, 1) := by decide +kernel
set_option maxRecDepth 20000 in
theorem ggX12_areTwo_X12_isClan : GoodIn wsX12_areTwo wsX12_isClan := goodIn_r _ [5, 6, 7, 8, 4, 9, 10, 11, 12, 13, 14, 15, 16, 17, 18, 19, 20, 21, 22, 23, 24, 25, 26, 27, 28, 29, 30, 31, 32, 33, 34, 35, 36, 37, 38, 39, 40, 41, 42, 43, 44, 45, 46, 47] (by decide +kernel) (by decide +kernel)
set_option maxRecDepth 20000 in
theorem gX12_areTwo_X12_isClan : GoodIn wsX12_areTwo (wsV RX12 126 RX12 yX12_isClan wsX12_isClan) := goodIn_app (goodIn_of _ (by decide +kernel)) ggX12_areTwo_X12_isClan
theorem dX12_areTwo_0 : decode cX12_areTwo 0 = .ok (.aload_n 0, 1) := by decide +kernel
theorem dX12_areTwo_1 : decode cX12_areTwo 1 = .ok (.iload_n 1, 1) := by decide +kernel
theorem dX12_areTwo_2 : decode cX12_areTwo 2 = .ok (.invokevirtual 126, 3) := by decide +kernel
theorem dX12_areTwo_5 : decode cX12_areTwo 5 = .ok (.ifCond .eq 20, 3) := by decide +kernel
theorem dX12_areTwo_8 : decode cX12_areTwo 8 = .ok (.aload_n 0, 1) := by decide +kernel
theorem dX12_areTwo_9 : decode cX12_areTwo 9 = .ok (.iload_n 2, 1) := by decide +kernel
theorem dX12_areTwo_10 : decode cX12_areTwo 10 = .ok (.invokevirtual 126, 3) := by decide +kernel
theorem dX12_areTwo_13 : decode cX12_areTwo 13 = .ok (.ifCond .eq 12, 3) := by decide +kernel
theorem dX12_areTwo_16 : decode cX12_areTwo 16 = .ok (.iload_n 1, 1) := by decide +kernel
theorem dX12_areTwo_17 : decode cX12_areTwo 17 = .ok (.iload_n 2, 1) := by decide +kernel
theorem dX12_areTwo_18 : decode cX12_areTwo 18 = .ok (.if_icmp .eq 7, 3) := by decide +kernel
theorem dX12_areTwo_21 : decode cX12_areTwo 21 = .ok (.iconst 1, 1) := by decide +kernel
theorem dX12_areTwo_22 : decode cX12_areTwo 22 = .ok (.goto 4, 3) := by decide +kernel
theorem dX12_areTwo_25 : decode cX12_areTwo 25 = .ok (.iconst 0, 1) := by decide +kernel
theorem dX12_areTwo_26 : decode cX12_areTwo 26 = .ok (.ireturn, 1) := by decide +kernel
theorem dX12_asksBy_0 : decode cX12_asksBy 0 = .ok (.iload_n 0, 1) := by decide +kernel
theorem dX12_asksBy_1 : decode cX12_asksBy 1 = .ok (.iconst 1, 1) := by decide +kernel
theorem dX12_asksBy_2 : decode cX12_asksBy 2 = .ok (.if_icmp .ne 9, 3) := by decide +kernel
theorem dX12_asksBy_5 : decode cX12_asksBy 5 = .ok (.iload_n 1, 1) := by decide +kernel
theorem dX12_asksBy_6 : decode cX12_asksBy 6 = .ok (.iconst 1, 1) := by decide +kernel
theorem dX12_asksBy_7 : decode cX12_asksBy 7 = .ok (.iadd, 1) := by decide +kernel
theorem dX12_asksBy_8 : decode cX12_asksBy 8 = .ok (.goto 37, 3) := by decide +kernel
theorem dX12_asksBy_11 : decode cX12_asksBy 11 = .ok (.iload_n 0, 1) := by decide +kernel
theorem dX12_asksBy_12 : decode cX12_asksBy 12 = .ok (.iconst 2, 1) := by decide +kernel
theorem dX12_asksBy_13 : decode cX12_asksBy 13 = .ok (.if_icmp .ne 18, 3) := by decide +kernel
theorem dX12_asksBy_16 : decode cX12_asksBy 16 = .ok (.iload_n 1, 1) := by decide +kernel
theorem dX12_asksBy_17 : decode cX12_asksBy 17 = .ok (.iconst 1, 1) := by decide +kernel
theorem dX12_asksBy_18 : decode cX12_asksBy 18 = .ok (.if_icmp .le 9, 3) := by decide +kernel
theorem dX12_asksBy_21 : decode cX12_asksBy 21 = .ok (.iload_n 1, 1) := by decide +kernel
theorem dX12_asksBy_22 : decode cX12_asksBy 22 = .ok (.iconst 1, 1) := by decide +kernel
theorem dX12_asksBy_23 : decode cX12_asksBy 23 = .ok (.isub, 1) := by decide +kernel
theorem dX12_asksBy_24 : decode cX12_asksBy 24 = .ok (.goto 21, 3) := by decide +kernel
theorem dX12_asksBy_27 : decode cX12_asksBy 27 = .ok (.iconst 1, 1) := by decide +kernel
theorem dX12_asksBy_28 : decode cX12_asksBy 28 = .ok (.goto 17, 3) := by decide +kernel
theorem dX12_asksBy_31 : decode cX12_asksBy 31 = .ok (.iload_n 0, 1) := by decide +kernel
theorem dX12_asksBy_32 : decode cX12_asksBy 32 = .ok (.iconst 4, 1) := by decide +kernel
theorem dX12_asksBy_33 : decode cX12_asksBy 33 = .ok (.if_icmp .ne 11, 3) := by decide +kernel
theorem dX12_asksBy_36 : decode cX12_asksBy 36 = .ok (.iconst 2, 1) := by decide +kernel
theorem dX12_asksBy_37 : decode cX12_asksBy 37 = .ok (.iload_n 1, 1) := by decide +kernel
theorem dX12_asksBy_38 : decode cX12_asksBy 38 = .ok (.imul, 1) := by decide +kernel
theorem dX12_asksBy_39 : decode cX12_asksBy 39 = .ok (.iconst 2, 1) := by decide +kernel
theorem dX12_asksBy_40 : decode cX12_asksBy 40 = .ok (.iadd, 1) := by decide +kernel
theorem dX12_asksBy_41 : decode cX12_asksBy 41 = .ok (.goto 4, 3) := by decide +kernel
theorem dX12_asksBy_44 : decode cX12_asksBy 44 = .ok (.iload_n 1, 1) := by decide +kernel
theorem dX12_asksBy_45 : decode cX12_asksBy 45 = .ok (.ireturn, 1) := by decide +kernel
theorem dX12_spareOf_0 : decode cX12_spareOf 0 = .ok (.aload_n 0, 1) := by decide +kernel
theorem dX12_spareOf_1 : decode cX12_spareOf 1 = .ok (.getfield 16, 3) := by decide +kernel
theorem dX12_spareOf_4 : decode cX12_spareOf 4 = .ok (.iload_n 1, 1) := by decide +kernel
theorem dX12_spareOf_5 : decode cX12_spareOf 5 = .ok (.iaload, 1) := by decide +kernel
theorem dX12_spareOf_6 : decode cX12_spareOf 6 = .ok (.iconst 3, 1) := by decide +kernel
theorem dX12_spareOf_7 : decode cX12_spareOf 7 = .ok (.if_icmp .ne 7, 3) := by decide +kernel
theorem dX12_spareOf_10 : decode cX12_spareOf 10 = .ok (.iconst 1, 1) := by decide +kernel
theorem dX12_spareOf_11 : decode cX12_spareOf 11 = .ok (.goto 4, 3) := by decide +kernel
theorem dX12_spareOf_14 : decode cX12_spareOf 14 = .ok (.iconst 0, 1) := by decide +kernel
theorem dX12_spareOf_15 : decode cX12_spareOf 15 = .ok (.istore_n 2, 1) := by decide +kernel
theorem dX12_spareOf_16 : decode cX12_spareOf 16 = .ok (.aload_n 0, 1) := by decide +kernel
theorem dX12_spareOf_17 : decode cX12_spareOf 17 = .ok (.getfield 19, 3) := by decide +kernel
theorem dX12_spareOf_20 : decode cX12_spareOf 20 = .ok (.iload_n 1, 1) := by decide +kernel
theorem dX12_spareOf_21 : decode cX12_spareOf 21 = .ok (.iaload, 1) := by decide +kernel
theorem dX12_spareOf_22 : decode cX12_spareOf 22 = .ok (.iload_n 2, 1) := by decide +kernel
theorem dX12_spareOf_23 : decode cX12_spareOf 23 = .ok (.if_icmp .le 14, 3) := by decide +kernel
theorem dX12_spareOf_26 : decode cX12_spareOf 26 = .ok (.aload_n 0, 1) := by decide +kernel
theorem dX12_spareOf_27 : decode cX12_spareOf 27 = .ok (.getfield 19, 3) := by decide +kernel
theorem dX12_spareOf_30 : decode cX12_spareOf 30 = .ok (.iload_n 1, 1) := by decide +kernel
theorem dX12_spareOf_31 : decode cX12_spareOf 31 = .ok (.iaload, 1) := by decide +kernel
theorem dX12_spareOf_32 : decode cX12_spareOf 32 = .ok (.iload_n 2, 1) := by decide +kernel
theorem dX12_spareOf_33 : decode cX12_spareOf 33 = .ok (.isub, 1) := by decide +kernel
theorem dX12_spareOf_34 : decode cX12_spareOf 34 = .ok (.goto 4, 3) := by decide +kernel
theorem dX12_spareOf_37 : decode cX12_spareOf 37 = .ok (.iconst 0, 1) := by decide +kernel
theorem dX12_spareOf_38 : decode cX12_spareOf 38 = .ok (.ireturn, 1) := by decide +kernel
set_option maxRecDepth 20000 in
theorem ggX12_paysNow_X12_spareOf : GoodIn wsX12_paysNow wsX12_spareOf := goodIn_r _ [6, 7, 1, 8, 9, 10, 11, 12, 13, 14, 15, 16, 17, 18, 19, 20, 21, 22, 23, 24, 25, 26, 27, 28, 29, 30, 31, 32, 33, 34, 35, 36, 37, 38, 39, 40, 41, 42, 43, 44, 45] (by decide +kernel) (by decide +kernel)
set_option maxRecDepth 20000 in
theorem gX12_paysNow_X12_spareOf : GoodIn wsX12_paysNow (wsV RX12 129 RX12 yX12_spareOf wsX12_spareOf) := goodIn_app (goodIn_of _ (by decide +kernel)) ggX12_paysNow_X12_spareOf
theorem dX12_paysNow_0 : decode cX12_paysNow 0 = .ok (.iload_n 3, 1) := by decide +kernel
theorem dX12_paysNow_1 : decode cX12_paysNow 1 = .ok (.aload_n 0, 1) := by decide +kernel
theorem dX12_paysNow_2 : decode cX12_paysNow 2 = .ok (.iload_n 1, 1) := by decide +kernel
theorem dX12_paysNow_3 : decode cX12_paysNow 3 = .ok (.invokevirtual 129, 3) := by decide +kernel
theorem dX12_paysNow_6 : decode cX12_paysNow 6 = .ok (.if_icmp .ge 7, 3) := by decide +kernel
theorem dX12_paysNow_9 : decode cX12_paysNow 9 = .ok (.iload_n 3, 1) := by decide +kernel
theorem dX12_paysNow_10 : decode cX12_paysNow 10 = .ok (.goto 8, 3) := by decide +kernel
theorem dX12_paysNow_13 : decode cX12_paysNow 13 = .ok (.aload_n 0, 1) := by decide +kernel
theorem dX12_paysNow_14 : decode cX12_paysNow 14 = .ok (.iload_n 1, 1) := by decide +kernel
theorem dX12_paysNow_15 : decode cX12_paysNow 15 = .ok (.invokevirtual 129, 3) := by decide +kernel
theorem dX12_paysNow_18 : decode cX12_paysNow 18 = .ok (.istore 4, 2) := by decide +kernel
theorem dX12_paysNow_20 : decode cX12_paysNow 20 = .ok (.aload_n 0, 1) := by decide +kernel
theorem dX12_paysNow_21 : decode cX12_paysNow 21 = .ok (.getfield 19, 3) := by decide +kernel
theorem dX12_paysNow_24 : decode cX12_paysNow 24 = .ok (.iload_n 1, 1) := by decide +kernel
theorem dX12_paysNow_25 : decode cX12_paysNow 25 = .ok (.dup2, 1) := by decide +kernel
theorem dX12_paysNow_26 : decode cX12_paysNow 26 = .ok (.iaload, 1) := by decide +kernel
theorem dX12_paysNow_27 : decode cX12_paysNow 27 = .ok (.iload 4, 2) := by decide +kernel
theorem dX12_paysNow_29 : decode cX12_paysNow 29 = .ok (.isub, 1) := by decide +kernel
theorem dX12_paysNow_30 : decode cX12_paysNow 30 = .ok (.iastore, 1) := by decide +kernel
theorem dX12_paysNow_31 : decode cX12_paysNow 31 = .ok (.aload_n 0, 1) := by decide +kernel
theorem dX12_paysNow_32 : decode cX12_paysNow 32 = .ok (.getfield 19, 3) := by decide +kernel
theorem dX12_paysNow_35 : decode cX12_paysNow 35 = .ok (.iload_n 2, 1) := by decide +kernel
theorem dX12_paysNow_36 : decode cX12_paysNow 36 = .ok (.dup2, 1) := by decide +kernel
theorem dX12_paysNow_37 : decode cX12_paysNow 37 = .ok (.iaload, 1) := by decide +kernel
theorem dX12_paysNow_38 : decode cX12_paysNow 38 = .ok (.iload 4, 2) := by decide +kernel
theorem dX12_paysNow_40 : decode cX12_paysNow 40 = .ok (.iadd, 1) := by decide +kernel
theorem dX12_paysNow_41 : decode cX12_paysNow 41 = .ok (.iastore, 1) := by decide +kernel
theorem dX12_paysNow_42 : decode cX12_paysNow 42 = .ok (.iload 4, 2) := by decide +kernel
theorem dX12_paysNow_44 : decode cX12_paysNow 44 = .ok (.ireturn, 1) := by decide +kernel
set_option maxRecDepth 20000 in
theorem ggX12_pays_X12_paysNow : GoodIn wsX12_pays wsX12_paysNow := goodIn_r _ [6, 7, 8, 9, 10, 5, 11, 12, 13, 14, 15, 16, 17, 18, 19, 20, 21, 22, 23, 24, 25, 26, 27, 28, 29, 30, 31, 32, 33, 34, 35, 36, 37, 38, 39, 40, 41, 42, 43, 44, 45, 46, 47, 48, 49, 50] (by decide +kernel) (by decide +kernel)
set_option maxRecDepth 20000 in
theorem gX12_pays_X12_paysNow : GoodIn wsX12_pays (wsV RX12 132 RX12 yX12_paysNow wsX12_paysNow) := goodIn_app (goodIn_of _ (by decide +kernel)) ggX12_pays_X12_paysNow
theorem dX12_pays_0 : decode cX12_pays 0 = .ok (.aload_n 0, 1) := by decide +kernel
theorem dX12_pays_1 : decode cX12_pays 1 = .ok (.iload_n 1, 1) := by decide +kernel
theorem dX12_pays_2 : decode cX12_pays 2 = .ok (.iload_n 2, 1) := by decide +kernel
theorem dX12_pays_3 : decode cX12_pays 3 = .ok (.iload_n 3, 1) := by decide +kernel
theorem dX12_pays_4 : decode cX12_pays 4 = .ok (.invokevirtual 132, 3) := by decide +kernel
theorem dX12_pays_7 : decode cX12_pays 7 = .ok (.istore 4, 2) := by decide +kernel
theorem dX12_pays_9 : decode cX12_pays 9 = .ok (.aload_n 0, 1) := by decide +kernel
theorem dX12_pays_10 : decode cX12_pays 10 = .ok (.getfield 22, 3) := by decide +kernel
theorem dX12_pays_13 : decode cX12_pays 13 = .ok (.iconst 4, 1) := by decide +kernel
theorem dX12_pays_14 : decode cX12_pays 14 = .ok (.iload_n 1, 1) := by decide +kernel
theorem dX12_pays_15 : decode cX12_pays 15 = .ok (.imul, 1) := by decide +kernel
theorem dX12_pays_16 : decode cX12_pays 16 = .ok (.iload_n 2, 1) := by decide +kernel
theorem dX12_pays_17 : decode cX12_pays 17 = .ok (.iadd, 1) := by decide +kernel
theorem dX12_pays_18 : decode cX12_pays 18 = .ok (.dup2, 1) := by decide +kernel
theorem dX12_pays_19 : decode cX12_pays 19 = .ok (.iaload, 1) := by decide +kernel
theorem dX12_pays_20 : decode cX12_pays 20 = .ok (.iload_n 3, 1) := by decide +kernel
theorem dX12_pays_21 : decode cX12_pays 21 = .ok (.iload 4, 2) := by decide +kernel
theorem dX12_pays_23 : decode cX12_pays 23 = .ok (.isub, 1) := by decide +kernel
theorem dX12_pays_24 : decode cX12_pays 24 = .ok (.iadd, 1) := by decide +kernel
theorem dX12_pays_25 : decode cX12_pays 25 = .ok (.iastore, 1) := by decide +kernel
theorem dX12_pays_26 : decode cX12_pays 26 = .ok (.iload 4, 2) := by decide +kernel
theorem dX12_pays_28 : decode cX12_pays 28 = .ok (.ireturn, 1) := by decide +kernel
theorem dX12_owesOf_0 : decode cX12_owesOf 0 = .ok (.aload_n 0, 1) := by decide +kernel
theorem dX12_owesOf_1 : decode cX12_owesOf 1 = .ok (.getfield 22, 3) := by decide +kernel
theorem dX12_owesOf_4 : decode cX12_owesOf 4 = .ok (.iconst 4, 1) := by decide +kernel
theorem dX12_owesOf_5 : decode cX12_owesOf 5 = .ok (.iload_n 1, 1) := by decide +kernel
theorem dX12_owesOf_6 : decode cX12_owesOf 6 = .ok (.imul, 1) := by decide +kernel
theorem dX12_owesOf_7 : decode cX12_owesOf 7 = .ok (.iaload, 1) := by decide +kernel
theorem dX12_owesOf_8 : decode cX12_owesOf 8 = .ok (.aload_n 0, 1) := by decide +kernel
theorem dX12_owesOf_9 : decode cX12_owesOf 9 = .ok (.getfield 22, 3) := by decide +kernel
theorem dX12_owesOf_12 : decode cX12_owesOf 12 = .ok (.iconst 4, 1) := by decide +kernel
theorem dX12_owesOf_13 : decode cX12_owesOf 13 = .ok (.iload_n 1, 1) := by decide +kernel
theorem dX12_owesOf_14 : decode cX12_owesOf 14 = .ok (.imul, 1) := by decide +kernel
theorem dX12_owesOf_15 : decode cX12_owesOf 15 = .ok (.iconst 1, 1) := by decide +kernel
theorem dX12_owesOf_16 : decode cX12_owesOf 16 = .ok (.iadd, 1) := by decide +kernel
theorem dX12_owesOf_17 : decode cX12_owesOf 17 = .ok (.iaload, 1) := by decide +kernel
theorem dX12_owesOf_18 : decode cX12_owesOf 18 = .ok (.iadd, 1) := by decide +kernel
theorem dX12_owesOf_19 : decode cX12_owesOf 19 = .ok (.aload_n 0, 1) := by decide +kernel
theorem dX12_owesOf_20 : decode cX12_owesOf 20 = .ok (.getfield 22, 3) := by decide +kernel
theorem dX12_owesOf_23 : decode cX12_owesOf 23 = .ok (.iconst 4, 1) := by decide +kernel
theorem dX12_owesOf_24 : decode cX12_owesOf 24 = .ok (.iload_n 1, 1) := by decide +kernel
theorem dX12_owesOf_25 : decode cX12_owesOf 25 = .ok (.imul, 1) := by decide +kernel
theorem dX12_owesOf_26 : decode cX12_owesOf 26 = .ok (.iconst 2, 1) := by decide +kernel
theorem dX12_owesOf_27 : decode cX12_owesOf 27 = .ok (.iadd, 1) := by decide +kernel
theorem dX12_owesOf_28 : decode cX12_owesOf 28 = .ok (.iaload, 1) := by decide +kernel
theorem dX12_owesOf_29 : decode cX12_owesOf 29 = .ok (.iadd, 1) := by decide +kernel
theorem dX12_owesOf_30 : decode cX12_owesOf 30 = .ok (.aload_n 0, 1) := by decide +kernel
theorem dX12_owesOf_31 : decode cX12_owesOf 31 = .ok (.getfield 22, 3) := by decide +kernel
theorem dX12_owesOf_34 : decode cX12_owesOf 34 = .ok (.iconst 4, 1) := by decide +kernel
theorem dX12_owesOf_35 : decode cX12_owesOf 35 = .ok (.iload_n 1, 1) := by decide +kernel
theorem dX12_owesOf_36 : decode cX12_owesOf 36 = .ok (.imul, 1) := by decide +kernel
theorem dX12_owesOf_37 : decode cX12_owesOf 37 = .ok (.iconst 3, 1) := by decide +kernel
theorem dX12_owesOf_38 : decode cX12_owesOf 38 = .ok (.iadd, 1) := by decide +kernel
theorem dX12_owesOf_39 : decode cX12_owesOf 39 = .ok (.iaload, 1) := by decide +kernel
theorem dX12_owesOf_40 : decode cX12_owesOf 40 = .ok (.iadd, 1) := by decide +kernel
theorem dX12_owesOf_41 : decode cX12_owesOf 41 = .ok (.ireturn, 1) := by decide +kernel
theorem dX12_owedTo_0 : decode cX12_owedTo 0 = .ok (.aload_n 0, 1) := by decide +kernel
theorem dX12_owedTo_1 : decode cX12_owedTo 1 = .ok (.getfield 22, 3) := by decide +kernel
theorem dX12_owedTo_4 : decode cX12_owedTo 4 = .ok (.iload_n 1, 1) := by decide +kernel
theorem dX12_owedTo_5 : decode cX12_owedTo 5 = .ok (.iaload, 1) := by decide +kernel
theorem dX12_owedTo_6 : decode cX12_owedTo 6 = .ok (.aload_n 0, 1) := by decide +kernel
theorem dX12_owedTo_7 : decode cX12_owedTo 7 = .ok (.getfield 22, 3) := by decide +kernel
theorem dX12_owedTo_10 : decode cX12_owedTo 10 = .ok (.iconst 4, 1) := by decide +kernel
theorem dX12_owedTo_11 : decode cX12_owedTo 11 = .ok (.iload_n 1, 1) := by decide +kernel
theorem dX12_owedTo_12 : decode cX12_owedTo 12 = .ok (.iadd, 1) := by decide +kernel
theorem dX12_owedTo_13 : decode cX12_owedTo 13 = .ok (.iaload, 1) := by decide +kernel
theorem dX12_owedTo_14 : decode cX12_owedTo 14 = .ok (.iadd, 1) := by decide +kernel
theorem dX12_owedTo_15 : decode cX12_owedTo 15 = .ok (.aload_n 0, 1) := by decide +kernel
theorem dX12_owedTo_16 : decode cX12_owedTo 16 = .ok (.getfield 22, 3) := by decide +kernel
theorem dX12_owedTo_19 : decode cX12_owedTo 19 = .ok (.bipush 8, 2) := by decide +kernel
theorem dX12_owedTo_21 : decode cX12_owedTo 21 = .ok (.iload_n 1, 1) := by decide +kernel
theorem dX12_owedTo_22 : decode cX12_owedTo 22 = .ok (.iadd, 1) := by decide +kernel
theorem dX12_owedTo_23 : decode cX12_owedTo 23 = .ok (.iaload, 1) := by decide +kernel
theorem dX12_owedTo_24 : decode cX12_owedTo 24 = .ok (.iadd, 1) := by decide +kernel
theorem dX12_owedTo_25 : decode cX12_owedTo 25 = .ok (.aload_n 0, 1) := by decide +kernel
theorem dX12_owedTo_26 : decode cX12_owedTo 26 = .ok (.getfield 22, 3) := by decide +kernel
theorem dX12_owedTo_29 : decode cX12_owedTo 29 = .ok (.bipush 12, 2) := by decide +kernel
theorem dX12_owedTo_31 : decode cX12_owedTo 31 = .ok (.iload_n 1, 1) := by decide +kernel
theorem dX12_owedTo_32 : decode cX12_owedTo 32 = .ok (.iadd, 1) := by decide +kernel
theorem dX12_owedTo_33 : decode cX12_owedTo 33 = .ok (.iaload, 1) := by decide +kernel
theorem dX12_owedTo_34 : decode cX12_owedTo 34 = .ok (.iadd, 1) := by decide +kernel
theorem dX12_owedTo_35 : decode cX12_owedTo 35 = .ok (.ireturn, 1) := by decide +kernel
theorem dX12_owedAll_0 : decode cX12_owedAll 0 = .ok (.iconst 0, 1) := by decide +kernel
theorem dX12_owedAll_1 : decode cX12_owedAll 1 = .ok (.istore_n 1, 1) := by decide +kernel
theorem dX12_owedAll_2 : decode cX12_owedAll 2 = .ok (.iconst 0, 1) := by decide +kernel
theorem dX12_owedAll_3 : decode cX12_owedAll 3 = .ok (.istore_n 2, 1) := by decide +kernel
theorem dX12_owedAll_4 : decode cX12_owedAll 4 = .ok (.iload_n 2, 1) := by decide +kernel
theorem dX12_owedAll_5 : decode cX12_owedAll 5 = .ok (.bipush 16, 2) := by decide +kernel
theorem dX12_owedAll_7 : decode cX12_owedAll 7 = .ok (.if_icmp .ge 18, 3) := by decide +kernel
theorem dX12_owedAll_10 : decode cX12_owedAll 10 = .ok (.iload_n 1, 1) := by decide +kernel
theorem dX12_owedAll_11 : decode cX12_owedAll 11 = .ok (.aload_n 0, 1) := by decide +kernel
theorem dX12_owedAll_12 : decode cX12_owedAll 12 = .ok (.getfield 22, 3) := by decide +kernel
theorem dX12_owedAll_15 : decode cX12_owedAll 15 = .ok (.iload_n 2, 1) := by decide +kernel
theorem dX12_owedAll_16 : decode cX12_owedAll 16 = .ok (.iaload, 1) := by decide +kernel
theorem dX12_owedAll_17 : decode cX12_owedAll 17 = .ok (.iadd, 1) := by decide +kernel
theorem dX12_owedAll_18 : decode cX12_owedAll 18 = .ok (.istore_n 1, 1) := by decide +kernel
theorem dX12_owedAll_19 : decode cX12_owedAll 19 = .ok (.iinc 2 1, 3) := by decide +kernel
theorem dX12_owedAll_22 : decode cX12_owedAll 22 = .ok (.goto (-18), 3) := by decide +kernel
theorem dX12_owedAll_25 : decode cX12_owedAll 25 = .ok (.iload_n 1, 1) := by decide +kernel
theorem dX12_owedAll_26 : decode cX12_owedAll 26 = .ok (.ireturn, 1) := by decide +kernel
theorem dX12_cowsAll_0 : decode cX12_cowsAll 0 = .ok (.iconst 0, 1) := by decide +kernel
theorem dX12_cowsAll_1 : decode cX12_cowsAll 1 = .ok (.istore_n 1, 1) := by decide +kernel
theorem dX12_cowsAll_2 : decode cX12_cowsAll 2 = .ok (.iconst 0, 1) := by decide +kernel
theorem dX12_cowsAll_3 : decode cX12_cowsAll 3 = .ok (.istore_n 2, 1) := by decide +kernel
theorem dX12_cowsAll_4 : decode cX12_cowsAll 4 = .ok (.iload_n 2, 1) := by decide +kernel
theorem dX12_cowsAll_5 : decode cX12_cowsAll 5 = .ok (.aload_n 0, 1) := by decide +kernel
theorem dX12_cowsAll_6 : decode cX12_cowsAll 6 = .ok (.getfield 105, 3) := by decide +kernel
theorem dX12_cowsAll_9 : decode cX12_cowsAll 9 = .ok (.if_icmp .ge 18, 3) := by decide +kernel
theorem dX12_cowsAll_12 : decode cX12_cowsAll 12 = .ok (.iload_n 1, 1) := by decide +kernel
theorem dX12_cowsAll_13 : decode cX12_cowsAll 13 = .ok (.aload_n 0, 1) := by decide +kernel
theorem dX12_cowsAll_14 : decode cX12_cowsAll 14 = .ok (.getfield 19, 3) := by decide +kernel
theorem dX12_cowsAll_17 : decode cX12_cowsAll 17 = .ok (.iload_n 2, 1) := by decide +kernel
theorem dX12_cowsAll_18 : decode cX12_cowsAll 18 = .ok (.iaload, 1) := by decide +kernel
theorem dX12_cowsAll_19 : decode cX12_cowsAll 19 = .ok (.iadd, 1) := by decide +kernel
theorem dX12_cowsAll_20 : decode cX12_cowsAll 20 = .ok (.istore_n 1, 1) := by decide +kernel
theorem dX12_cowsAll_21 : decode cX12_cowsAll 21 = .ok (.iinc 2 1, 3) := by decide +kernel
theorem dX12_cowsAll_24 : decode cX12_cowsAll 24 = .ok (.goto (-20), 3) := by decide +kernel
theorem dX12_cowsAll_27 : decode cX12_cowsAll 27 = .ok (.iload_n 1, 1) := by decide +kernel
theorem dX12_cowsAll_28 : decode cX12_cowsAll 28 = .ok (.ireturn, 1) := by decide +kernel
set_option maxRecDepth 20000 in
theorem ggX12_clanOf_X12_in : GoodIn wsX12_clanOf wsX12_in := goodIn_r _ [10] (by decide +kernel) (by decide +kernel)
set_option maxRecDepth 20000 in
theorem gX12_clanOf_X12_in : GoodIn wsX12_clanOf (va_wsS RX12 73 yX12_in wsX12_in) := goodIn_app (goodIn_of _ (by decide +kernel)) ggX12_clanOf_X12_in
set_option maxRecDepth 20000 in
theorem ggX12_clanOf_X12_asksBy : GoodIn wsX12_clanOf wsX12_asksBy := goodIn_r _ [13] (by decide +kernel) (by decide +kernel)
set_option maxRecDepth 20000 in
theorem gX12_clanOf_X12_asksBy : GoodIn wsX12_clanOf (va_wsS RX12 140 yX12_asksBy wsX12_asksBy) := goodIn_app (goodIn_of _ (by decide +kernel)) ggX12_clanOf_X12_asksBy
set_option maxRecDepth 20000 in
theorem ggX12_clanOf_X12_spareOf : GoodIn wsX12_clanOf wsX12_spareOf := goodIn_r _ [17, 4, 5, 26, 27, 28, 29, 30, 31, 32, 33, 34, 35, 36, 37, 38, 39, 40, 41, 42, 43, 44, 45, 46, 47, 48, 49, 50, 51, 52, 53, 54, 55, 56, 57, 58, 59, 60, 61, 62, 63] (by decide +kernel) (by decide +kernel)
set_option maxRecDepth 20000 in
theorem gX12_clanOf_X12_spareOf : GoodIn wsX12_clanOf (wsV RX12 129 RX12 yX12_spareOf wsX12_spareOf) := goodIn_app (goodIn_of _ (by decide +kernel)) ggX12_clanOf_X12_spareOf
set_option maxRecDepth 20000 in
theorem ggX12_clanOf_X12_owesOf : GoodIn wsX12_clanOf wsX12_owesOf := goodIn_r _ [21, 3, 26, 27, 28, 29, 30, 31, 32, 33, 34, 35, 36, 37, 38, 39, 40, 41, 42, 43, 44, 45, 46, 47, 48, 49, 50, 51, 52, 53, 54, 55, 56, 57, 58, 59, 60, 61, 62, 63] (by decide +kernel) (by decide +kernel)
set_option maxRecDepth 20000 in
theorem gX12_clanOf_X12_owesOf : GoodIn wsX12_clanOf (wsV RX12 144 RX12 yX12_owesOf wsX12_owesOf) := goodIn_app (goodIn_of _ (by decide +kernel)) ggX12_clanOf_X12_owesOf
set_option maxRecDepth 20000 in
theorem ggX12_clanOf_X12_owedTo : GoodIn wsX12_clanOf wsX12_owedTo := goodIn_r _ [25, 3, 26, 27, 28, 29, 30, 31, 32, 33, 34, 35, 36, 37, 38, 39, 40, 41, 42, 43, 44, 45, 46, 47, 48, 49, 50, 51, 52, 53, 54, 55, 56, 57, 58, 59, 60, 61, 62, 63] (by decide +kernel) (by decide +kernel)
set_option maxRecDepth 20000 in
theorem gX12_clanOf_X12_owedTo : GoodIn wsX12_clanOf (wsV RX12 147 RX12 yX12_owedTo wsX12_owedTo) := goodIn_app (goodIn_of _ (by decide +kernel)) ggX12_clanOf_X12_owedTo
theorem dX12_clanOf_0 : decode cX12_clanOf 0 = .ok (.iload_n 2, 1) := by decide +kernel
theorem dX12_clanOf_1 : decode cX12_clanOf 1 = .ok (.i2l, 1) := by decide +kernel
theorem dX12_clanOf_2 : decode cX12_clanOf 2 = .ok (.ldc2_w 136, 3) := by decide +kernel
theorem dX12_clanOf_5 : decode cX12_clanOf 5 = .ok (.ldc2_w 138, 3) := by decide +kernel
theorem dX12_clanOf_8 : decode cX12_clanOf 8 = .ok (.invokestatic 73, 3) := by decide +kernel
theorem dX12_clanOf_11 : decode cX12_clanOf 11 = .ok (.ifCond .eq 17, 3) := by decide +kernel
theorem dX12_clanOf_14 : decode cX12_clanOf 14 = .ok (.aload_n 0, 1) := by decide +kernel
theorem dX12_clanOf_15 : decode cX12_clanOf 15 = .ok (.getfield 22, 3) := by decide +kernel
theorem dX12_clanOf_18 : decode cX12_clanOf 18 = .ok (.iconst 4, 1) := by decide +kernel
theorem dX12_clanOf_19 : decode cX12_clanOf 19 = .ok (.iload_n 1, 1) := by decide +kernel
theorem dX12_clanOf_20 : decode cX12_clanOf 20 = .ok (.imul, 1) := by decide +kernel
theorem dX12_clanOf_21 : decode cX12_clanOf 21 = .ok (.iload_n 2, 1) := by decide +kernel
theorem dX12_clanOf_22 : decode cX12_clanOf 22 = .ok (.iadd, 1) := by decide +kernel
theorem dX12_clanOf_23 : decode cX12_clanOf 23 = .ok (.bipush 10, 2) := by decide +kernel
theorem dX12_clanOf_25 : decode cX12_clanOf 25 = .ok (.isub, 1) := by decide +kernel
theorem dX12_clanOf_26 : decode cX12_clanOf 26 = .ok (.iaload, 1) := by decide +kernel
theorem dX12_clanOf_27 : decode cX12_clanOf 27 = .ok (.ireturn, 1) := by decide +kernel
theorem dX12_clanOf_28 : decode cX12_clanOf 28 = .ok (.iload_n 2, 1) := by decide +kernel
theorem dX12_clanOf_29 : decode cX12_clanOf 29 = .ok (.tableswitch 112 0 6 #[43, 50, 57, 71, 77, 83, 89], 43) := by decide +kernel
theorem dX12_clanOf_72 : decode cX12_clanOf 72 = .ok (.aload_n 0, 1) := by decide +kernel
theorem dX12_clanOf_73 : decode cX12_clanOf 73 = .ok (.getfield 16, 3) := by decide +kernel
theorem dX12_clanOf_76 : decode cX12_clanOf 76 = .ok (.iload_n 1, 1) := by decide +kernel
theorem dX12_clanOf_77 : decode cX12_clanOf 77 = .ok (.iaload, 1) := by decide +kernel
theorem dX12_clanOf_78 : decode cX12_clanOf 78 = .ok (.ireturn, 1) := by decide +kernel
theorem dX12_clanOf_79 : decode cX12_clanOf 79 = .ok (.aload_n 0, 1) := by decide +kernel
theorem dX12_clanOf_80 : decode cX12_clanOf 80 = .ok (.getfield 19, 3) := by decide +kernel
theorem dX12_clanOf_83 : decode cX12_clanOf 83 = .ok (.iload_n 1, 1) := by decide +kernel
theorem dX12_clanOf_84 : decode cX12_clanOf 84 = .ok (.iaload, 1) := by decide +kernel
theorem dX12_clanOf_85 : decode cX12_clanOf 85 = .ok (.ireturn, 1) := by decide +kernel
theorem dX12_clanOf_86 : decode cX12_clanOf 86 = .ok (.aload_n 0, 1) := by decide +kernel
theorem dX12_clanOf_87 : decode cX12_clanOf 87 = .ok (.getfield 16, 3) := by decide +kernel
theorem dX12_clanOf_90 : decode cX12_clanOf 90 = .ok (.iload_n 1, 1) := by decide +kernel
theorem dX12_clanOf_91 : decode cX12_clanOf 91 = .ok (.iaload, 1) := by decide +kernel
theorem dX12_clanOf_92 : decode cX12_clanOf 92 = .ok (.aload_n 0, 1) := by decide +kernel
theorem dX12_clanOf_93 : decode cX12_clanOf 93 = .ok (.getfield 108, 3) := by decide +kernel
theorem dX12_clanOf_96 : decode cX12_clanOf 96 = .ok (.invokestatic 140, 3) := by decide +kernel
theorem dX12_clanOf_99 : decode cX12_clanOf 99 = .ok (.ireturn, 1) := by decide +kernel
theorem dX12_clanOf_100 : decode cX12_clanOf 100 = .ok (.aload_n 0, 1) := by decide +kernel
theorem dX12_clanOf_101 : decode cX12_clanOf 101 = .ok (.iload_n 1, 1) := by decide +kernel
theorem dX12_clanOf_102 : decode cX12_clanOf 102 = .ok (.invokevirtual 129, 3) := by decide +kernel
theorem dX12_clanOf_105 : decode cX12_clanOf 105 = .ok (.ireturn, 1) := by decide +kernel
theorem dX12_clanOf_106 : decode cX12_clanOf 106 = .ok (.aload_n 0, 1) := by decide +kernel
theorem dX12_clanOf_107 : decode cX12_clanOf 107 = .ok (.iload_n 1, 1) := by decide +kernel
theorem dX12_clanOf_108 : decode cX12_clanOf 108 = .ok (.invokevirtual 144, 3) := by decide +kernel
theorem dX12_clanOf_111 : decode cX12_clanOf 111 = .ok (.ireturn, 1) := by decide +kernel
theorem dX12_clanOf_112 : decode cX12_clanOf 112 = .ok (.aload_n 0, 1) := by decide +kernel
theorem dX12_clanOf_113 : decode cX12_clanOf 113 = .ok (.iload_n 1, 1) := by decide +kernel
theorem dX12_clanOf_114 : decode cX12_clanOf 114 = .ok (.invokevirtual 147, 3) := by decide +kernel
theorem dX12_clanOf_117 : decode cX12_clanOf 117 = .ok (.ireturn, 1) := by decide +kernel
theorem dX12_clanOf_118 : decode cX12_clanOf 118 = .ok (.sipush 1000, 3) := by decide +kernel
theorem dX12_clanOf_121 : decode cX12_clanOf 121 = .ok (.aload_n 0, 1) := by decide +kernel
theorem dX12_clanOf_122 : decode cX12_clanOf 122 = .ok (.getfield 19, 3) := by decide +kernel
theorem dX12_clanOf_125 : decode cX12_clanOf 125 = .ok (.iload_n 1, 1) := by decide +kernel
theorem dX12_clanOf_126 : decode cX12_clanOf 126 = .ok (.iaload, 1) := by decide +kernel
theorem dX12_clanOf_127 : decode cX12_clanOf 127 = .ok (.iadd, 1) := by decide +kernel
theorem dX12_clanOf_128 : decode cX12_clanOf 128 = .ok (.aload_n 0, 1) := by decide +kernel
theorem dX12_clanOf_129 : decode cX12_clanOf 129 = .ok (.iload_n 1, 1) := by decide +kernel
theorem dX12_clanOf_130 : decode cX12_clanOf 130 = .ok (.invokevirtual 147, 3) := by decide +kernel
theorem dX12_clanOf_133 : decode cX12_clanOf 133 = .ok (.iadd, 1) := by decide +kernel
theorem dX12_clanOf_134 : decode cX12_clanOf 134 = .ok (.aload_n 0, 1) := by decide +kernel
theorem dX12_clanOf_135 : decode cX12_clanOf 135 = .ok (.iload_n 1, 1) := by decide +kernel
theorem dX12_clanOf_136 : decode cX12_clanOf 136 = .ok (.invokevirtual 144, 3) := by decide +kernel
theorem dX12_clanOf_139 : decode cX12_clanOf 139 = .ok (.isub, 1) := by decide +kernel
theorem dX12_clanOf_140 : decode cX12_clanOf 140 = .ok (.ireturn, 1) := by decide +kernel
theorem dX12_clanOf_141 : decode cX12_clanOf 141 = .ok (.bipush (-102), 2) := by decide +kernel
theorem dX12_clanOf_143 : decode cX12_clanOf 143 = .ok (.ireturn, 1) := by decide +kernel
set_option maxRecDepth 20000 in
theorem ggX12_clan_X12_isClan : GoodIn wsX12_clan wsX12_isClan := goodIn_r _ [5, 6, 7, 8, 4, 9, 35, 36, 37, 38, 39, 40, 41, 42, 43, 44, 45, 46, 47, 48, 49, 50, 51, 52, 53, 54, 55, 56, 57, 58, 59, 60, 61, 62, 63, 64, 65, 66, 67, 68, 69, 70, 71, 72] (by decide +kernel) (by decide +kernel)
set_option maxRecDepth 20000 in
theorem gX12_clan_X12_isClan : GoodIn wsX12_clan (wsV RX12 126 RX12 yX12_isClan wsX12_isClan) := goodIn_app (goodIn_of _ (by decide +kernel)) ggX12_clan_X12_isClan
set_option maxRecDepth 20000 in
theorem ggX12_clan_X12_clanOf : GoodIn wsX12_clan wsX12_clanOf := goodIn_r _ [13, 14, 15, 16, 17, 18, 19, 7, 8, 4, 9, 20, 21, 22, 23, 24, 25, 26, 27, 28, 29, 30, 31, 32, 33, 34, 35, 36, 37, 38, 39, 40, 41, 42, 43, 44, 45, 46, 47, 48, 49, 50, 51, 52, 53, 54, 55, 56, 57, 58, 59, 60, 61, 62, 63, 64, 65, 66, 67, 68, 69, 70, 71, 72] (by decide +kernel) (by decide +kernel)
set_option maxRecDepth 20000 in
theorem gX12_clan_X12_clanOf : GoodIn wsX12_clan (wsV RX12 150 RX12 yX12_clanOf wsX12_clanOf) := goodIn_app (goodIn_of _ (by decide +kernel)) ggX12_clan_X12_clanOf
theorem dX12_clan_0 : decode cX12_clan 0 = .ok (.aload_n 0, 1) := by decide +kernel
theorem dX12_clan_1 : decode cX12_clan 1 = .ok (.iload_n 1, 1) := by decide +kernel
theorem dX12_clan_2 : decode cX12_clan 2 = .ok (.invokevirtual 126, 3) := by decide +kernel
theorem dX12_clan_5 : decode cX12_clan 5 = .ok (.ifCond .eq 12, 3) := by decide +kernel
theorem dX12_clan_8 : decode cX12_clan 8 = .ok (.aload_n 0, 1) := by decide +kernel
theorem dX12_clan_9 : decode cX12_clan 9 = .ok (.iload_n 1, 1) := by decide +kernel
theorem dX12_clan_10 : decode cX12_clan 10 = .ok (.iload_n 2, 1) := by decide +kernel
theorem dX12_clan_11 : decode cX12_clan 11 = .ok (.invokevirtual 150, 3) := by decide +kernel
theorem dX12_clan_14 : decode cX12_clan 14 = .ok (.goto 5, 3) := by decide +kernel
theorem dX12_clan_17 : decode cX12_clan 17 = .ok (.bipush (-101), 2) := by decide +kernel
theorem dX12_clan_19 : decode cX12_clan 19 = .ok (.ireturn, 1) := by decide +kernel
set_option maxRecDepth 20000 in
theorem ggX12_as_X12_isClan : GoodIn wsX12_as wsX12_isClan := goodIn_r _ [7, 8, 9, 10, 6, 11, 12, 13, 14, 15, 16, 17, 18, 19, 20, 21, 22, 23, 24, 25, 26, 27, 28, 29, 30, 31, 32, 33, 34, 35, 36, 37, 38, 39, 40, 41, 42, 43, 44, 45, 46, 47, 48, 49] (by decide +kernel) (by decide +kernel)
set_option maxRecDepth 20000 in
theorem gX12_as_X12_isClan : GoodIn wsX12_as (wsV RX12 126 RX12 yX12_isClan wsX12_isClan) := goodIn_app (goodIn_of _ (by decide +kernel)) ggX12_as_X12_isClan
set_option maxRecDepth 20000 in
theorem ggX12_as_X12_in : GoodIn wsX12_as wsX12_in := goodIn_r _ [11] (by decide +kernel) (by decide +kernel)
set_option maxRecDepth 20000 in
theorem gX12_as_X12_in : GoodIn wsX12_as (va_wsS RX12 73 yX12_in wsX12_in) := goodIn_app (goodIn_of _ (by decide +kernel)) ggX12_as_X12_in
theorem dX12_as_0 : decode cX12_as 0 = .ok (.aload_n 0, 1) := by decide +kernel
theorem dX12_as_1 : decode cX12_as 1 = .ok (.iload_n 1, 1) := by decide +kernel
theorem dX12_as_2 : decode cX12_as 2 = .ok (.invokevirtual 126, 3) := by decide +kernel
theorem dX12_as_5 : decode cX12_as 5 = .ok (.ifCond .ne 6, 3) := by decide +kernel
theorem dX12_as_8 : decode cX12_as 8 = .ok (.bipush (-101), 2) := by decide +kernel
theorem dX12_as_10 : decode cX12_as 10 = .ok (.ireturn, 1) := by decide +kernel
theorem dX12_as_11 : decode cX12_as 11 = .ok (.iload_n 2, 1) := by decide +kernel
theorem dX12_as_12 : decode cX12_as 12 = .ok (.i2l, 1) := by decide +kernel
theorem dX12_as_13 : decode cX12_as 13 = .ok (.lconst 0, 1) := by decide +kernel
theorem dX12_as_14 : decode cX12_as 14 = .ok (.ldc2_w 153, 3) := by decide +kernel
theorem dX12_as_17 : decode cX12_as 17 = .ok (.invokestatic 73, 3) := by decide +kernel
theorem dX12_as_20 : decode cX12_as 20 = .ok (.ifCond .ne 6, 3) := by decide +kernel
theorem dX12_as_23 : decode cX12_as 23 = .ok (.bipush (-102), 2) := by decide +kernel
theorem dX12_as_25 : decode cX12_as 25 = .ok (.ireturn, 1) := by decide +kernel
theorem dX12_as_26 : decode cX12_as 26 = .ok (.iload_n 2, 1) := by decide +kernel
theorem dX12_as_27 : decode cX12_as 27 = .ok (.ifCond .eq 28, 3) := by decide +kernel
theorem dX12_as_30 : decode cX12_as 30 = .ok (.iload_n 2, 1) := by decide +kernel
theorem dX12_as_31 : decode cX12_as 31 = .ok (.aload_n 0, 1) := by decide +kernel
theorem dX12_as_32 : decode cX12_as 32 = .ok (.getfield 16, 3) := by decide +kernel
theorem dX12_as_35 : decode cX12_as 35 = .ok (.iload_n 1, 1) := by decide +kernel
theorem dX12_as_36 : decode cX12_as 36 = .ok (.iaload, 1) := by decide +kernel
theorem dX12_as_37 : decode cX12_as 37 = .ok (.if_icmp .eq 18, 3) := by decide +kernel
theorem dX12_as_40 : decode cX12_as 40 = .ok (.iload_n 2, 1) := by decide +kernel
theorem dX12_as_41 : decode cX12_as 41 = .ok (.iconst 1, 1) := by decide +kernel
theorem dX12_as_42 : decode cX12_as 42 = .ok (.if_icmp .ne 17, 3) := by decide +kernel
theorem dX12_as_45 : decode cX12_as 45 = .ok (.aload_n 0, 1) := by decide +kernel
theorem dX12_as_46 : decode cX12_as 46 = .ok (.getfield 16, 3) := by decide +kernel
theorem dX12_as_49 : decode cX12_as 49 = .ok (.iload_n 1, 1) := by decide +kernel
theorem dX12_as_50 : decode cX12_as 50 = .ok (.iaload, 1) := by decide +kernel
theorem dX12_as_51 : decode cX12_as 51 = .ok (.iconst 4, 1) := by decide +kernel
theorem dX12_as_52 : decode cX12_as 52 = .ok (.if_icmp .ne 7, 3) := by decide +kernel
theorem dX12_as_55 : decode cX12_as 55 = .ok (.iconst 1, 1) := by decide +kernel
theorem dX12_as_56 : decode cX12_as 56 = .ok (.goto 4, 3) := by decide +kernel
theorem dX12_as_59 : decode cX12_as 59 = .ok (.iconst 0, 1) := by decide +kernel
theorem dX12_as_60 : decode cX12_as 60 = .ok (.istore_n 3, 1) := by decide +kernel
theorem dX12_as_61 : decode cX12_as 61 = .ok (.iload_n 3, 1) := by decide +kernel
theorem dX12_as_62 : decode cX12_as 62 = .ok (.ifCond .eq 7, 3) := by decide +kernel
theorem dX12_as_65 : decode cX12_as 65 = .ok (.iload_n 1, 1) := by decide +kernel
theorem dX12_as_66 : decode cX12_as 66 = .ok (.goto 4, 3) := by decide +kernel
theorem dX12_as_69 : decode cX12_as 69 = .ok (.iconst (-1), 1) := by decide +kernel
theorem dX12_as_70 : decode cX12_as 70 = .ok (.ireturn, 1) := by decide +kernel
set_option maxRecDepth 20000 in
theorem ggX12_rate_X12_in : GoodIn wsX12_rate wsX12_in := goodIn_r _ [6] (by decide +kernel) (by decide +kernel)
set_option maxRecDepth 20000 in
theorem gX12_rate_X12_in : GoodIn wsX12_rate (va_wsS RX12 73 yX12_in wsX12_in) := goodIn_app (goodIn_of _ (by decide +kernel)) ggX12_rate_X12_in
set_option maxRecDepth 20000 in
theorem ggX12_rate_X12_lacks : GoodIn wsX12_rate wsX12_lacks := goodIn_r _ [10, 11, 12, 13, 14, 15, 16, 17, 18, 19, 20, 21, 22, 23, 24, 25, 26, 27, 28, 29, 30, 31, 32, 33, 34, 35, 36, 37, 38, 39, 40, 41, 42, 43, 44, 45, 46, 47, 48, 49] (by decide +kernel) (by decide +kernel)
set_option maxRecDepth 20000 in
theorem gX12_rate_X12_lacks : GoodIn wsX12_rate (wsV RX12 155 RX12 yX12_lacks wsX12_lacks) := goodIn_app (goodIn_of _ (by decide +kernel)) ggX12_rate_X12_lacks
theorem dX12_rate_0 : decode cX12_rate 0 = .ok (.iload_n 1, 1) := by decide +kernel
theorem dX12_rate_1 : decode cX12_rate 1 = .ok (.i2l, 1) := by decide +kernel
theorem dX12_rate_2 : decode cX12_rate 2 = .ok (.lconst 1, 1) := by decide +kernel
theorem dX12_rate_3 : decode cX12_rate 3 = .ok (.ldc2_w 90, 3) := by decide +kernel
theorem dX12_rate_6 : decode cX12_rate 6 = .ok (.invokestatic 73, 3) := by decide +kernel
theorem dX12_rate_9 : decode cX12_rate 9 = .ok (.ifCond .ne 6, 3) := by decide +kernel
theorem dX12_rate_12 : decode cX12_rate 12 = .ok (.bipush (-102), 2) := by decide +kernel
theorem dX12_rate_14 : decode cX12_rate 14 = .ok (.ireturn, 1) := by decide +kernel
theorem dX12_rate_15 : decode cX12_rate 15 = .ok (.aload_n 0, 1) := by decide +kernel
theorem dX12_rate_16 : decode cX12_rate 16 = .ok (.invokevirtual 155, 3) := by decide +kernel
theorem dX12_rate_19 : decode cX12_rate 19 = .ok (.ifCond .eq 6, 3) := by decide +kernel
theorem dX12_rate_22 : decode cX12_rate 22 = .ok (.bipush (-103), 2) := by decide +kernel
theorem dX12_rate_24 : decode cX12_rate 24 = .ok (.ireturn, 1) := by decide +kernel
theorem dX12_rate_25 : decode cX12_rate 25 = .ok (.aload_n 0, 1) := by decide +kernel
theorem dX12_rate_26 : decode cX12_rate 26 = .ok (.getfield 108, 3) := by decide +kernel
theorem dX12_rate_29 : decode cX12_rate 29 = .ok (.istore_n 2, 1) := by decide +kernel
theorem dX12_rate_30 : decode cX12_rate 30 = .ok (.aload_n 0, 1) := by decide +kernel
theorem dX12_rate_31 : decode cX12_rate 31 = .ok (.iload_n 1, 1) := by decide +kernel
theorem dX12_rate_32 : decode cX12_rate 32 = .ok (.putfield 108, 3) := by decide +kernel
theorem dX12_rate_35 : decode cX12_rate 35 = .ok (.iload_n 2, 1) := by decide +kernel
theorem dX12_rate_36 : decode cX12_rate 36 = .ok (.ireturn, 1) := by decide +kernel
set_option maxRecDepth 20000 in
theorem ggX12_marry_X12_asksBy : GoodIn wsX12_marry wsX12_asksBy := goodIn_r _ [5] (by decide +kernel) (by decide +kernel)
set_option maxRecDepth 20000 in
theorem gX12_marry_X12_asksBy : GoodIn wsX12_marry (va_wsS RX12 140 yX12_asksBy wsX12_asksBy) := goodIn_app (goodIn_of _ (by decide +kernel)) ggX12_marry_X12_asksBy
set_option maxRecDepth 20000 in
theorem ggX12_marry_X12_pays : GoodIn wsX12_marry wsX12_pays := goodIn_r _ [9, 10, 11, 12, 13, 4, 14, 15, 16, 17, 18, 19, 1, 20, 21, 22, 23, 24, 25, 26, 27, 28, 29, 30, 31, 32, 33, 34, 35, 36, 37, 38, 39, 40, 41, 42, 43, 44, 45, 46, 47, 48, 49, 50, 51, 52, 53, 54, 55, 56, 57] (by decide +kernel) (by decide +kernel)
set_option maxRecDepth 20000 in
theorem gX12_marry_X12_pays : GoodIn wsX12_marry (wsV RX12 159 RX12 yX12_pays wsX12_pays) := goodIn_app (goodIn_of _ (by decide +kernel)) ggX12_marry_X12_pays
theorem dX12_marry_0 : decode cX12_marry 0 = .ok (.aload_n 0, 1) := by decide +kernel
theorem dX12_marry_1 : decode cX12_marry 1 = .ok (.iload_n 1, 1) := by decide +kernel
theorem dX12_marry_2 : decode cX12_marry 2 = .ok (.iload_n 2, 1) := by decide +kernel
theorem dX12_marry_3 : decode cX12_marry 3 = .ok (.aload_n 0, 1) := by decide +kernel
theorem dX12_marry_4 : decode cX12_marry 4 = .ok (.getfield 16, 3) := by decide +kernel
theorem dX12_marry_7 : decode cX12_marry 7 = .ok (.iload_n 2, 1) := by decide +kernel
theorem dX12_marry_8 : decode cX12_marry 8 = .ok (.iaload, 1) := by decide +kernel
theorem dX12_marry_9 : decode cX12_marry 9 = .ok (.iload_n 3, 1) := by decide +kernel
theorem dX12_marry_10 : decode cX12_marry 10 = .ok (.invokestatic 140, 3) := by decide +kernel
theorem dX12_marry_13 : decode cX12_marry 13 = .ok (.invokevirtual 159, 3) := by decide +kernel
theorem dX12_marry_16 : decode cX12_marry 16 = .ok (.ireturn, 1) := by decide +kernel
set_option maxRecDepth 20000 in
theorem ggX12_wed_X12_areTwo : GoodIn wsX12_wed wsX12_areTwo := goodIn_r _ [9, 10, 11, 12, 8, 13, 14, 15, 16, 17, 39, 40, 41, 42, 43, 44, 45, 46, 47, 48, 49, 50, 51, 52, 53, 54, 55, 56, 57, 58, 59, 60, 61, 62, 63, 64, 65, 66, 67, 68, 69, 70, 71, 72, 73, 74, 75, 76] (by decide +kernel) (by decide +kernel)
set_option maxRecDepth 20000 in
theorem gX12_wed_X12_areTwo : GoodIn wsX12_wed (wsV RX12 162 RX12 yX12_areTwo wsX12_areTwo) := goodIn_app (goodIn_of _ (by decide +kernel)) ggX12_wed_X12_areTwo
set_option maxRecDepth 20000 in
theorem ggX12_wed_X12_asksBy : GoodIn wsX12_wed wsX12_asksBy := goodIn_r _ [20] (by decide +kernel) (by decide +kernel)
set_option maxRecDepth 20000 in
theorem gX12_wed_X12_asksBy : GoodIn wsX12_wed (va_wsS RX12 140 yX12_asksBy wsX12_asksBy) := goodIn_app (goodIn_of _ (by decide +kernel)) ggX12_wed_X12_asksBy
set_option maxRecDepth 20000 in
theorem ggX12_wed_X12_marry : GoodIn wsX12_wed wsX12_marry := goodIn_r _ [24, 3, 18, 19, 8, 20, 25, 26, 27, 28, 29, 30, 31, 32, 33, 34, 35, 36, 37, 38, 39, 40, 41, 42, 43, 44, 45, 46, 47, 48, 49, 50, 51, 52, 53, 54, 55, 56, 57, 58, 59, 60, 61, 62, 63, 64, 65, 66, 67, 68, 69, 70, 71, 72, 73, 74, 75, 76] (by decide +kernel) (by decide +kernel)
set_option maxRecDepth 20000 in
theorem gX12_wed_X12_marry : GoodIn wsX12_wed (wsV RX12 166 RX12 yX12_marry wsX12_marry) := goodIn_app (goodIn_of _ (by decide +kernel)) ggX12_wed_X12_marry
theorem dX12_wed_0 : decode cX12_wed 0 = .ok (.aload_n 0, 1) := by decide +kernel
theorem dX12_wed_1 : decode cX12_wed 1 = .ok (.iload_n 1, 1) := by decide +kernel
theorem dX12_wed_2 : decode cX12_wed 2 = .ok (.iload_n 2, 1) := by decide +kernel
theorem dX12_wed_3 : decode cX12_wed 3 = .ok (.invokevirtual 162, 3) := by decide +kernel
theorem dX12_wed_6 : decode cX12_wed 6 = .ok (.ifCond .ne 6, 3) := by decide +kernel
theorem dX12_wed_9 : decode cX12_wed 9 = .ok (.bipush (-101), 2) := by decide +kernel
theorem dX12_wed_11 : decode cX12_wed 11 = .ok (.ireturn, 1) := by decide +kernel
theorem dX12_wed_12 : decode cX12_wed 12 = .ok (.aload_n 0, 1) := by decide +kernel
theorem dX12_wed_13 : decode cX12_wed 13 = .ok (.getfield 114, 3) := by decide +kernel
theorem dX12_wed_16 : decode cX12_wed 16 = .ok (.bipush 12, 2) := by decide +kernel
theorem dX12_wed_18 : decode cX12_wed 18 = .ok (.if_icmp .ne 6, 3) := by decide +kernel
theorem dX12_wed_21 : decode cX12_wed 21 = .ok (.bipush (-104), 2) := by decide +kernel
theorem dX12_wed_23 : decode cX12_wed 23 = .ok (.ireturn, 1) := by decide +kernel
theorem dX12_wed_24 : decode cX12_wed 24 = .ok (.aload_n 0, 1) := by decide +kernel
theorem dX12_wed_25 : decode cX12_wed 25 = .ok (.getfield 25, 3) := by decide +kernel
theorem dX12_wed_28 : decode cX12_wed 28 = .ok (.iconst 4, 1) := by decide +kernel
theorem dX12_wed_29 : decode cX12_wed 29 = .ok (.aload_n 0, 1) := by decide +kernel
theorem dX12_wed_30 : decode cX12_wed 30 = .ok (.getfield 114, 3) := by decide +kernel
theorem dX12_wed_33 : decode cX12_wed 33 = .ok (.imul, 1) := by decide +kernel
theorem dX12_wed_34 : decode cX12_wed 34 = .ok (.iload_n 1, 1) := by decide +kernel
theorem dX12_wed_35 : decode cX12_wed 35 = .ok (.iastore, 1) := by decide +kernel
theorem dX12_wed_36 : decode cX12_wed 36 = .ok (.aload_n 0, 1) := by decide +kernel
theorem dX12_wed_37 : decode cX12_wed 37 = .ok (.getfield 25, 3) := by decide +kernel
theorem dX12_wed_40 : decode cX12_wed 40 = .ok (.iconst 4, 1) := by decide +kernel
theorem dX12_wed_41 : decode cX12_wed 41 = .ok (.aload_n 0, 1) := by decide +kernel
theorem dX12_wed_42 : decode cX12_wed 42 = .ok (.getfield 114, 3) := by decide +kernel
theorem dX12_wed_45 : decode cX12_wed 45 = .ok (.imul, 1) := by decide +kernel
theorem dX12_wed_46 : decode cX12_wed 46 = .ok (.iconst 1, 1) := by decide +kernel
theorem dX12_wed_47 : decode cX12_wed 47 = .ok (.iadd, 1) := by decide +kernel
theorem dX12_wed_48 : decode cX12_wed 48 = .ok (.iload_n 2, 1) := by decide +kernel
theorem dX12_wed_49 : decode cX12_wed 49 = .ok (.iastore, 1) := by decide +kernel
theorem dX12_wed_50 : decode cX12_wed 50 = .ok (.aload_n 0, 1) := by decide +kernel
theorem dX12_wed_51 : decode cX12_wed 51 = .ok (.getfield 25, 3) := by decide +kernel
theorem dX12_wed_54 : decode cX12_wed 54 = .ok (.iconst 4, 1) := by decide +kernel
theorem dX12_wed_55 : decode cX12_wed 55 = .ok (.aload_n 0, 1) := by decide +kernel
theorem dX12_wed_56 : decode cX12_wed 56 = .ok (.getfield 114, 3) := by decide +kernel
theorem dX12_wed_59 : decode cX12_wed 59 = .ok (.imul, 1) := by decide +kernel
theorem dX12_wed_60 : decode cX12_wed 60 = .ok (.iconst 2, 1) := by decide +kernel
theorem dX12_wed_61 : decode cX12_wed 61 = .ok (.iadd, 1) := by decide +kernel
theorem dX12_wed_62 : decode cX12_wed 62 = .ok (.aload_n 0, 1) := by decide +kernel
theorem dX12_wed_63 : decode cX12_wed 63 = .ok (.getfield 16, 3) := by decide +kernel
theorem dX12_wed_66 : decode cX12_wed 66 = .ok (.iload_n 2, 1) := by decide +kernel
theorem dX12_wed_67 : decode cX12_wed 67 = .ok (.iaload, 1) := by decide +kernel
theorem dX12_wed_68 : decode cX12_wed 68 = .ok (.aload_n 0, 1) := by decide +kernel
theorem dX12_wed_69 : decode cX12_wed 69 = .ok (.getfield 108, 3) := by decide +kernel
theorem dX12_wed_72 : decode cX12_wed 72 = .ok (.invokestatic 140, 3) := by decide +kernel
theorem dX12_wed_75 : decode cX12_wed 75 = .ok (.iastore, 1) := by decide +kernel
theorem dX12_wed_76 : decode cX12_wed 76 = .ok (.aload_n 0, 1) := by decide +kernel
theorem dX12_wed_77 : decode cX12_wed 77 = .ok (.getfield 25, 3) := by decide +kernel
theorem dX12_wed_80 : decode cX12_wed 80 = .ok (.iconst 4, 1) := by decide +kernel
theorem dX12_wed_81 : decode cX12_wed 81 = .ok (.aload_n 0, 1) := by decide +kernel
theorem dX12_wed_82 : decode cX12_wed 82 = .ok (.getfield 114, 3) := by decide +kernel
theorem dX12_wed_85 : decode cX12_wed 85 = .ok (.imul, 1) := by decide +kernel
theorem dX12_wed_86 : decode cX12_wed 86 = .ok (.iconst 3, 1) := by decide +kernel
theorem dX12_wed_87 : decode cX12_wed 87 = .ok (.iadd, 1) := by decide +kernel
theorem dX12_wed_88 : decode cX12_wed 88 = .ok (.iconst 0, 1) := by decide +kernel
theorem dX12_wed_89 : decode cX12_wed 89 = .ok (.iastore, 1) := by decide +kernel
theorem dX12_wed_90 : decode cX12_wed 90 = .ok (.aload_n 0, 1) := by decide +kernel
theorem dX12_wed_91 : decode cX12_wed 91 = .ok (.dup, 1) := by decide +kernel
theorem dX12_wed_92 : decode cX12_wed 92 = .ok (.getfield 114, 3) := by decide +kernel
theorem dX12_wed_95 : decode cX12_wed 95 = .ok (.iconst 1, 1) := by decide +kernel
theorem dX12_wed_96 : decode cX12_wed 96 = .ok (.iadd, 1) := by decide +kernel
theorem dX12_wed_97 : decode cX12_wed 97 = .ok (.putfield 114, 3) := by decide +kernel
theorem dX12_wed_100 : decode cX12_wed 100 = .ok (.aload_n 0, 1) := by decide +kernel
theorem dX12_wed_101 : decode cX12_wed 101 = .ok (.iload_n 1, 1) := by decide +kernel
theorem dX12_wed_102 : decode cX12_wed 102 = .ok (.iload_n 2, 1) := by decide +kernel
theorem dX12_wed_103 : decode cX12_wed 103 = .ok (.aload_n 0, 1) := by decide +kernel
theorem dX12_wed_104 : decode cX12_wed 104 = .ok (.getfield 108, 3) := by decide +kernel
theorem dX12_wed_107 : decode cX12_wed 107 = .ok (.invokevirtual 166, 3) := by decide +kernel
theorem dX12_wed_110 : decode cX12_wed 110 = .ok (.istore_n 3, 1) := by decide +kernel
theorem dX12_wed_111 : decode cX12_wed 111 = .ok (.aload_n 0, 1) := by decide +kernel
theorem dX12_wed_112 : decode cX12_wed 112 = .ok (.getfield 114, 3) := by decide +kernel
theorem dX12_wed_115 : decode cX12_wed 115 = .ok (.iconst 1, 1) := by decide +kernel
theorem dX12_wed_116 : decode cX12_wed 116 = .ok (.isub, 1) := by decide +kernel
theorem dX12_wed_117 : decode cX12_wed 117 = .ok (.ireturn, 1) := by decide +kernel
set_option maxRecDepth 20000 in
theorem ggX12_wedding_X12_in : GoodIn wsX12_wedding wsX12_in := goodIn_r _ [7] (by decide +kernel) (by decide +kernel)
set_option maxRecDepth 20000 in
theorem gX12_wedding_X12_in : GoodIn wsX12_wedding (va_wsS RX12 73 yX12_in wsX12_in) := goodIn_app (goodIn_of _ (by decide +kernel)) ggX12_wedding_X12_in
theorem dX12_wedding_0 : decode cX12_wedding 0 = .ok (.iload_n 1, 1) := by decide +kernel
theorem dX12_wedding_1 : decode cX12_wedding 1 = .ok (.i2l, 1) := by decide +kernel
theorem dX12_wedding_2 : decode cX12_wedding 2 = .ok (.lconst 0, 1) := by decide +kernel
theorem dX12_wedding_3 : decode cX12_wedding 3 = .ok (.aload_n 0, 1) := by decide +kernel
theorem dX12_wedding_4 : decode cX12_wedding 4 = .ok (.getfield 114, 3) := by decide +kernel
theorem dX12_wedding_7 : decode cX12_wedding 7 = .ok (.iconst 1, 1) := by decide +kernel
theorem dX12_wedding_8 : decode cX12_wedding 8 = .ok (.isub, 1) := by decide +kernel
theorem dX12_wedding_9 : decode cX12_wedding 9 = .ok (.i2l, 1) := by decide +kernel
theorem dX12_wedding_10 : decode cX12_wedding 10 = .ok (.invokestatic 73, 3) := by decide +kernel
theorem dX12_wedding_13 : decode cX12_wedding 13 = .ok (.ifCond .ne 6, 3) := by decide +kernel
theorem dX12_wedding_16 : decode cX12_wedding 16 = .ok (.bipush (-101), 2) := by decide +kernel
theorem dX12_wedding_18 : decode cX12_wedding 18 = .ok (.ireturn, 1) := by decide +kernel
theorem dX12_wedding_19 : decode cX12_wedding 19 = .ok (.iload_n 2, 1) := by decide +kernel
theorem dX12_wedding_20 : decode cX12_wedding 20 = .ok (.i2l, 1) := by decide +kernel
theorem dX12_wedding_21 : decode cX12_wedding 21 = .ok (.lconst 0, 1) := by decide +kernel
theorem dX12_wedding_22 : decode cX12_wedding 22 = .ok (.ldc2_w 169, 3) := by decide +kernel
theorem dX12_wedding_25 : decode cX12_wedding 25 = .ok (.invokestatic 73, 3) := by decide +kernel
theorem dX12_wedding_28 : decode cX12_wedding 28 = .ok (.ifCond .eq 16, 3) := by decide +kernel
theorem dX12_wedding_31 : decode cX12_wedding 31 = .ok (.aload_n 0, 1) := by decide +kernel
theorem dX12_wedding_32 : decode cX12_wedding 32 = .ok (.getfield 25, 3) := by decide +kernel
theorem dX12_wedding_35 : decode cX12_wedding 35 = .ok (.iconst 4, 1) := by decide +kernel
theorem dX12_wedding_36 : decode cX12_wedding 36 = .ok (.iload_n 1, 1) := by decide +kernel
theorem dX12_wedding_37 : decode cX12_wedding 37 = .ok (.imul, 1) := by decide +kernel
theorem dX12_wedding_38 : decode cX12_wedding 38 = .ok (.iload_n 2, 1) := by decide +kernel
theorem dX12_wedding_39 : decode cX12_wedding 39 = .ok (.iadd, 1) := by decide +kernel
theorem dX12_wedding_40 : decode cX12_wedding 40 = .ok (.iaload, 1) := by decide +kernel
theorem dX12_wedding_41 : decode cX12_wedding 41 = .ok (.goto 5, 3) := by decide +kernel
theorem dX12_wedding_44 : decode cX12_wedding 44 = .ok (.bipush (-102), 2) := by decide +kernel
theorem dX12_wedding_46 : decode cX12_wedding 46 = .ok (.ireturn, 1) := by decide +kernel
set_option maxRecDepth 20000 in
theorem ggX12_divorce_X12_in : GoodIn wsX12_divorce wsX12_in := goodIn_r _ [6] (by decide +kernel) (by decide +kernel)
set_option maxRecDepth 20000 in
theorem gX12_divorce_X12_in : GoodIn wsX12_divorce (va_wsS RX12 73 yX12_in wsX12_in) := goodIn_app (goodIn_of _ (by decide +kernel)) ggX12_divorce_X12_in
set_option maxRecDepth 20000 in
theorem ggX12_divorce_X12_pays : GoodIn wsX12_divorce wsX12_pays := goodIn_r _ [10, 11, 12, 13, 14, 5, 15, 16, 17, 18, 19, 20, 21, 22, 23, 24, 25, 26, 27, 28, 29, 30, 31, 32, 33, 34, 35, 36, 37, 38, 39, 40, 41, 42, 43, 44, 45, 46, 47, 48, 49, 50, 51, 52, 53, 54, 55, 56, 57, 58, 59] (by decide +kernel) (by decide +kernel)
set_option maxRecDepth 20000 in
theorem gX12_divorce_X12_pays : GoodIn wsX12_divorce (wsV RX12 159 RX12 yX12_pays wsX12_pays) := goodIn_app (goodIn_of _ (by decide +kernel)) ggX12_divorce_X12_pays
theorem dX12_divorce_0 : decode cX12_divorce 0 = .ok (.iload_n 1, 1) := by decide +kernel
theorem dX12_divorce_1 : decode cX12_divorce 1 = .ok (.i2l, 1) := by decide +kernel
theorem dX12_divorce_2 : decode cX12_divorce 2 = .ok (.lconst 0, 1) := by decide +kernel
theorem dX12_divorce_3 : decode cX12_divorce 3 = .ok (.aload_n 0, 1) := by decide +kernel
theorem dX12_divorce_4 : decode cX12_divorce 4 = .ok (.getfield 114, 3) := by decide +kernel
theorem dX12_divorce_7 : decode cX12_divorce 7 = .ok (.iconst 1, 1) := by decide +kernel
theorem dX12_divorce_8 : decode cX12_divorce 8 = .ok (.isub, 1) := by decide +kernel
theorem dX12_divorce_9 : decode cX12_divorce 9 = .ok (.i2l, 1) := by decide +kernel
theorem dX12_divorce_10 : decode cX12_divorce 10 = .ok (.invokestatic 73, 3) := by decide +kernel
theorem dX12_divorce_13 : decode cX12_divorce 13 = .ok (.ifCond .ne 6, 3) := by decide +kernel
theorem dX12_divorce_16 : decode cX12_divorce 16 = .ok (.bipush (-101), 2) := by decide +kernel
theorem dX12_divorce_18 : decode cX12_divorce 18 = .ok (.ireturn, 1) := by decide +kernel
theorem dX12_divorce_19 : decode cX12_divorce 19 = .ok (.aload_n 0, 1) := by decide +kernel
theorem dX12_divorce_20 : decode cX12_divorce 20 = .ok (.getfield 25, 3) := by decide +kernel
theorem dX12_divorce_23 : decode cX12_divorce 23 = .ok (.iconst 4, 1) := by decide +kernel
theorem dX12_divorce_24 : decode cX12_divorce 24 = .ok (.iload_n 1, 1) := by decide +kernel
theorem dX12_divorce_25 : decode cX12_divorce 25 = .ok (.imul, 1) := by decide +kernel
theorem dX12_divorce_26 : decode cX12_divorce 26 = .ok (.iconst 3, 1) := by decide +kernel
theorem dX12_divorce_27 : decode cX12_divorce 27 = .ok (.iadd, 1) := by decide +kernel
theorem dX12_divorce_28 : decode cX12_divorce 28 = .ok (.iaload, 1) := by decide +kernel
theorem dX12_divorce_29 : decode cX12_divorce 29 = .ok (.iconst 1, 1) := by decide +kernel
theorem dX12_divorce_30 : decode cX12_divorce 30 = .ok (.if_icmp .ne 6, 3) := by decide +kernel
theorem dX12_divorce_33 : decode cX12_divorce 33 = .ok (.bipush (-103), 2) := by decide +kernel
theorem dX12_divorce_35 : decode cX12_divorce 35 = .ok (.ireturn, 1) := by decide +kernel
theorem dX12_divorce_36 : decode cX12_divorce 36 = .ok (.aload_n 0, 1) := by decide +kernel
theorem dX12_divorce_37 : decode cX12_divorce 37 = .ok (.getfield 25, 3) := by decide +kernel
theorem dX12_divorce_40 : decode cX12_divorce 40 = .ok (.iconst 4, 1) := by decide +kernel
theorem dX12_divorce_41 : decode cX12_divorce 41 = .ok (.iload_n 1, 1) := by decide +kernel
theorem dX12_divorce_42 : decode cX12_divorce 42 = .ok (.imul, 1) := by decide +kernel
theorem dX12_divorce_43 : decode cX12_divorce 43 = .ok (.iconst 3, 1) := by decide +kernel
theorem dX12_divorce_44 : decode cX12_divorce 44 = .ok (.iadd, 1) := by decide +kernel
theorem dX12_divorce_45 : decode cX12_divorce 45 = .ok (.iconst 1, 1) := by decide +kernel
theorem dX12_divorce_46 : decode cX12_divorce 46 = .ok (.iastore, 1) := by decide +kernel
theorem dX12_divorce_47 : decode cX12_divorce 47 = .ok (.aload_n 0, 1) := by decide +kernel
theorem dX12_divorce_48 : decode cX12_divorce 48 = .ok (.aload_n 0, 1) := by decide +kernel
theorem dX12_divorce_49 : decode cX12_divorce 49 = .ok (.getfield 25, 3) := by decide +kernel
theorem dX12_divorce_52 : decode cX12_divorce 52 = .ok (.iconst 4, 1) := by decide +kernel
theorem dX12_divorce_53 : decode cX12_divorce 53 = .ok (.iload_n 1, 1) := by decide +kernel
theorem dX12_divorce_54 : decode cX12_divorce 54 = .ok (.imul, 1) := by decide +kernel
theorem dX12_divorce_55 : decode cX12_divorce 55 = .ok (.iconst 1, 1) := by decide +kernel
theorem dX12_divorce_56 : decode cX12_divorce 56 = .ok (.iadd, 1) := by decide +kernel
theorem dX12_divorce_57 : decode cX12_divorce 57 = .ok (.iaload, 1) := by decide +kernel
theorem dX12_divorce_58 : decode cX12_divorce 58 = .ok (.aload_n 0, 1) := by decide +kernel
theorem dX12_divorce_59 : decode cX12_divorce 59 = .ok (.getfield 25, 3) := by decide +kernel
theorem dX12_divorce_62 : decode cX12_divorce 62 = .ok (.iconst 4, 1) := by decide +kernel
theorem dX12_divorce_63 : decode cX12_divorce 63 = .ok (.iload_n 1, 1) := by decide +kernel
theorem dX12_divorce_64 : decode cX12_divorce 64 = .ok (.imul, 1) := by decide +kernel
theorem dX12_divorce_65 : decode cX12_divorce 65 = .ok (.iaload, 1) := by decide +kernel
theorem dX12_divorce_66 : decode cX12_divorce 66 = .ok (.aload_n 0, 1) := by decide +kernel
theorem dX12_divorce_67 : decode cX12_divorce 67 = .ok (.getfield 25, 3) := by decide +kernel
theorem dX12_divorce_70 : decode cX12_divorce 70 = .ok (.iconst 4, 1) := by decide +kernel
theorem dX12_divorce_71 : decode cX12_divorce 71 = .ok (.iload_n 1, 1) := by decide +kernel
theorem dX12_divorce_72 : decode cX12_divorce 72 = .ok (.imul, 1) := by decide +kernel
theorem dX12_divorce_73 : decode cX12_divorce 73 = .ok (.iconst 2, 1) := by decide +kernel
theorem dX12_divorce_74 : decode cX12_divorce 74 = .ok (.iadd, 1) := by decide +kernel
theorem dX12_divorce_75 : decode cX12_divorce 75 = .ok (.iaload, 1) := by decide +kernel
theorem dX12_divorce_76 : decode cX12_divorce 76 = .ok (.invokevirtual 159, 3) := by decide +kernel
theorem dX12_divorce_79 : decode cX12_divorce 79 = .ok (.ireturn, 1) := by decide +kernel
set_option maxRecDepth 20000 in
theorem ggX12_passYear_X12_isClan : GoodIn wsX12_passYear wsX12_isClan := goodIn_r _ [8, 1, 9, 10, 7, 11, 21, 22, 23, 24, 25, 26, 27, 28, 29, 30, 31, 32, 33, 34, 35, 36, 37, 38, 39, 40, 41, 42, 43, 44, 45, 46, 47, 48, 49, 50, 51, 52, 53, 54, 55, 56, 57, 58] (by decide +kernel) (by decide +kernel)
set_option maxRecDepth 20000 in
theorem gX12_passYear_X12_isClan : GoodIn wsX12_passYear (wsV RX12 126 RX12 yX12_isClan wsX12_isClan) := goodIn_app (goodIn_of _ (by decide +kernel)) ggX12_passYear_X12_isClan
set_option maxRecDepth 20000 in
theorem ggX12_passYear_X12_paysNow : GoodIn wsX12_passYear wsX12_paysNow := goodIn_r _ [15, 2, 16, 17, 18, 7, 19, 20, 21, 22, 23, 24, 25, 26, 27, 28, 29, 30, 31, 32, 33, 34, 35, 36, 37, 38, 39, 40, 41, 42, 43, 44, 45, 46, 47, 48, 49, 50, 51, 52, 53, 54, 55, 56, 57, 58] (by decide +kernel) (by decide +kernel)
set_option maxRecDepth 20000 in
theorem gX12_passYear_X12_paysNow : GoodIn wsX12_passYear (wsV RX12 132 RX12 yX12_paysNow wsX12_paysNow) := goodIn_app (goodIn_of _ (by decide +kernel)) ggX12_passYear_X12_paysNow
theorem dX12_passYear_0 : decode cX12_passYear 0 = .ok (.iconst 0, 1) := by decide +kernel
theorem dX12_passYear_1 : decode cX12_passYear 1 = .ok (.istore_n 1, 1) := by decide +kernel
theorem dX12_passYear_2 : decode cX12_passYear 2 = .ok (.iload_n 1, 1) := by decide +kernel
theorem dX12_passYear_3 : decode cX12_passYear 3 = .ok (.aload_n 0, 1) := by decide +kernel
theorem dX12_passYear_4 : decode cX12_passYear 4 = .ok (.getfield 105, 3) := by decide +kernel
theorem dX12_passYear_7 : decode cX12_passYear 7 = .ok (.if_icmp .ge 63, 3) := by decide +kernel
theorem dX12_passYear_10 : decode cX12_passYear 10 = .ok (.aload_n 0, 1) := by decide +kernel
theorem dX12_passYear_11 : decode cX12_passYear 11 = .ok (.getfield 19, 3) := by decide +kernel
theorem dX12_passYear_14 : decode cX12_passYear 14 = .ok (.iload_n 1, 1) := by decide +kernel
theorem dX12_passYear_15 : decode cX12_passYear 15 = .ok (.iaload, 1) := by decide +kernel
theorem dX12_passYear_16 : decode cX12_passYear 16 = .ok (.aload_n 0, 1) := by decide +kernel
theorem dX12_passYear_17 : decode cX12_passYear 17 = .ok (.getfield 19, 3) := by decide +kernel
theorem dX12_passYear_20 : decode cX12_passYear 20 = .ok (.iload_n 1, 1) := by decide +kernel
theorem dX12_passYear_21 : decode cX12_passYear 21 = .ok (.iaload, 1) := by decide +kernel
theorem dX12_passYear_22 : decode cX12_passYear 22 = .ok (.iconst 2, 1) := by decide +kernel
theorem dX12_passYear_23 : decode cX12_passYear 23 = .ok (.idiv, 1) := by decide +kernel
theorem dX12_passYear_24 : decode cX12_passYear 24 = .ok (.iadd, 1) := by decide +kernel
theorem dX12_passYear_25 : decode cX12_passYear 25 = .ok (.istore_n 2, 1) := by decide +kernel
theorem dX12_passYear_26 : decode cX12_passYear 26 = .ok (.aload_n 0, 1) := by decide +kernel
theorem dX12_passYear_27 : decode cX12_passYear 27 = .ok (.getfield 19, 3) := by decide +kernel
theorem dX12_passYear_30 : decode cX12_passYear 30 = .ok (.iload_n 1, 1) := by decide +kernel
theorem dX12_passYear_31 : decode cX12_passYear 31 = .ok (.aload_n 0, 1) := by decide +kernel
theorem dX12_passYear_32 : decode cX12_passYear 32 = .ok (.getfield 19, 3) := by decide +kernel
theorem dX12_passYear_35 : decode cX12_passYear 35 = .ok (.iload_n 1, 1) := by decide +kernel
theorem dX12_passYear_36 : decode cX12_passYear 36 = .ok (.iaload, 1) := by decide +kernel
theorem dX12_passYear_37 : decode cX12_passYear 37 = .ok (.bipush 99, 2) := by decide +kernel
theorem dX12_passYear_39 : decode cX12_passYear 39 = .ok (.if_icmp .le 12, 3) := by decide +kernel
theorem dX12_passYear_42 : decode cX12_passYear 42 = .ok (.aload_n 0, 1) := by decide +kernel
theorem dX12_passYear_43 : decode cX12_passYear 43 = .ok (.getfield 19, 3) := by decide +kernel
theorem dX12_passYear_46 : decode cX12_passYear 46 = .ok (.iload_n 1, 1) := by decide +kernel
theorem dX12_passYear_47 : decode cX12_passYear 47 = .ok (.iaload, 1) := by decide +kernel
theorem dX12_passYear_48 : decode cX12_passYear 48 = .ok (.goto 15, 3) := by decide +kernel
theorem dX12_passYear_51 : decode cX12_passYear 51 = .ok (.iload_n 2, 1) := by decide +kernel
theorem dX12_passYear_52 : decode cX12_passYear 52 = .ok (.bipush 99, 2) := by decide +kernel
theorem dX12_passYear_54 : decode cX12_passYear 54 = .ok (.if_icmp .le 8, 3) := by decide +kernel
theorem dX12_passYear_57 : decode cX12_passYear 57 = .ok (.bipush 99, 2) := by decide +kernel
theorem dX12_passYear_59 : decode cX12_passYear 59 = .ok (.goto 4, 3) := by decide +kernel
theorem dX12_passYear_62 : decode cX12_passYear 62 = .ok (.iload_n 2, 1) := by decide +kernel
theorem dX12_passYear_63 : decode cX12_passYear 63 = .ok (.iastore, 1) := by decide +kernel
theorem dX12_passYear_64 : decode cX12_passYear 64 = .ok (.iinc 1 1, 3) := by decide +kernel
theorem dX12_passYear_67 : decode cX12_passYear 67 = .ok (.goto (-65), 3) := by decide +kernel
theorem dX12_passYear_70 : decode cX12_passYear 70 = .ok (.iconst 0, 1) := by decide +kernel
theorem dX12_passYear_71 : decode cX12_passYear 71 = .ok (.istore_n 1, 1) := by decide +kernel
theorem dX12_passYear_72 : decode cX12_passYear 72 = .ok (.iload_n 1, 1) := by decide +kernel
theorem dX12_passYear_73 : decode cX12_passYear 73 = .ok (.bipush 16, 2) := by decide +kernel
theorem dX12_passYear_75 : decode cX12_passYear 75 = .ok (.if_icmp .ge 59, 3) := by decide +kernel
theorem dX12_passYear_78 : decode cX12_passYear 78 = .ok (.iload_n 1, 1) := by decide +kernel
theorem dX12_passYear_79 : decode cX12_passYear 79 = .ok (.iconst 4, 1) := by decide +kernel
theorem dX12_passYear_80 : decode cX12_passYear 80 = .ok (.idiv, 1) := by decide +kernel
theorem dX12_passYear_81 : decode cX12_passYear 81 = .ok (.istore_n 2, 1) := by decide +kernel
theorem dX12_passYear_82 : decode cX12_passYear 82 = .ok (.iload_n 1, 1) := by decide +kernel
theorem dX12_passYear_83 : decode cX12_passYear 83 = .ok (.iconst 4, 1) := by decide +kernel
theorem dX12_passYear_84 : decode cX12_passYear 84 = .ok (.irem, 1) := by decide +kernel
theorem dX12_passYear_85 : decode cX12_passYear 85 = .ok (.istore_n 3, 1) := by decide +kernel
theorem dX12_passYear_86 : decode cX12_passYear 86 = .ok (.iload_n 2, 1) := by decide +kernel
theorem dX12_passYear_87 : decode cX12_passYear 87 = .ok (.iload_n 3, 1) := by decide +kernel
theorem dX12_passYear_88 : decode cX12_passYear 88 = .ok (.if_icmp .eq 40, 3) := by decide +kernel
theorem dX12_passYear_91 : decode cX12_passYear 91 = .ok (.aload_n 0, 1) := by decide +kernel
theorem dX12_passYear_92 : decode cX12_passYear 92 = .ok (.iload_n 2, 1) := by decide +kernel
theorem dX12_passYear_93 : decode cX12_passYear 93 = .ok (.invokevirtual 126, 3) := by decide +kernel
theorem dX12_passYear_96 : decode cX12_passYear 96 = .ok (.ifCond .eq 32, 3) := by decide +kernel
theorem dX12_passYear_99 : decode cX12_passYear 99 = .ok (.aload_n 0, 1) := by decide +kernel
theorem dX12_passYear_100 : decode cX12_passYear 100 = .ok (.iload_n 3, 1) := by decide +kernel
theorem dX12_passYear_101 : decode cX12_passYear 101 = .ok (.invokevirtual 126, 3) := by decide +kernel
theorem dX12_passYear_104 : decode cX12_passYear 104 = .ok (.ifCond .eq 24, 3) := by decide +kernel
theorem dX12_passYear_107 : decode cX12_passYear 107 = .ok (.aload_n 0, 1) := by decide +kernel
theorem dX12_passYear_108 : decode cX12_passYear 108 = .ok (.getfield 22, 3) := by decide +kernel
theorem dX12_passYear_111 : decode cX12_passYear 111 = .ok (.iload_n 1, 1) := by decide +kernel
theorem dX12_passYear_112 : decode cX12_passYear 112 = .ok (.dup2, 1) := by decide +kernel
theorem dX12_passYear_113 : decode cX12_passYear 113 = .ok (.iaload, 1) := by decide +kernel
theorem dX12_passYear_114 : decode cX12_passYear 114 = .ok (.aload_n 0, 1) := by decide +kernel
theorem dX12_passYear_115 : decode cX12_passYear 115 = .ok (.iload_n 2, 1) := by decide +kernel
theorem dX12_passYear_116 : decode cX12_passYear 116 = .ok (.iload_n 3, 1) := by decide +kernel
theorem dX12_passYear_117 : decode cX12_passYear 117 = .ok (.aload_n 0, 1) := by decide +kernel
theorem dX12_passYear_118 : decode cX12_passYear 118 = .ok (.getfield 22, 3) := by decide +kernel
theorem dX12_passYear_121 : decode cX12_passYear 121 = .ok (.iload_n 1, 1) := by decide +kernel
theorem dX12_passYear_122 : decode cX12_passYear 122 = .ok (.iaload, 1) := by decide +kernel
theorem dX12_passYear_123 : decode cX12_passYear 123 = .ok (.invokevirtual 132, 3) := by decide +kernel
theorem dX12_passYear_126 : decode cX12_passYear 126 = .ok (.isub, 1) := by decide +kernel
theorem dX12_passYear_127 : decode cX12_passYear 127 = .ok (.iastore, 1) := by decide +kernel
theorem dX12_passYear_128 : decode cX12_passYear 128 = .ok (.iinc 1 1, 3) := by decide +kernel
theorem dX12_passYear_131 : decode cX12_passYear 131 = .ok (.goto (-59), 3) := by decide +kernel
theorem dX12_passYear_134 : decode cX12_passYear 134 = .ok (.return_, 1) := by decide +kernel
set_option maxRecDepth 20000 in
theorem ggX12_year_X12_lacks : GoodIn wsX12_year wsX12_lacks := goodIn_r _ [6, 7, 34, 35, 36, 37, 38, 39, 40, 41, 42, 43, 44, 45, 46, 47, 48, 49, 50, 51, 52, 53, 54, 55, 56, 57, 58, 59, 60, 61, 62, 63, 64, 65, 66, 67, 68, 69, 70, 71] (by decide +kernel) (by decide +kernel)
set_option maxRecDepth 20000 in
theorem gX12_year_X12_lacks : GoodIn wsX12_year (wsV RX12 155 RX12 yX12_lacks wsX12_lacks) := goodIn_app (goodIn_of _ (by decide +kernel)) ggX12_year_X12_lacks
set_option maxRecDepth 20000 in
theorem ggX12_year_X12_passYear : GoodIn wsX12_year wsX12_passYear := goodIn_r _ [11, 7, 12, 13, 14, 15, 16, 5, 17, 18, 19, 20, 21, 22, 23, 24, 25, 26, 27, 28, 29, 34, 35, 36, 37, 38, 39, 40, 41, 42, 43, 44, 45, 46, 47, 48, 49, 50, 51, 52, 53, 54, 55, 56, 57, 58, 59, 60, 61, 62, 63, 64, 65, 66, 67, 68, 69, 70, 71] (by decide +kernel) (by decide +kernel)
set_option maxRecDepth 20000 in
theorem gX12_year_X12_passYear : GoodIn wsX12_year (wsV RX12 171 RX12 yX12_passYear wsX12_passYear) := goodIn_app (goodIn_of _ (by decide +kernel)) ggX12_year_X12_passYear
set_option maxRecDepth 20000 in
theorem ggX12_year_X12_owedAll : GoodIn wsX12_year wsX12_owedAll := goodIn_r _ [33, 13, 34, 35, 36, 37, 38, 39, 40, 41, 42, 43, 44, 45, 46, 47, 48, 49, 50, 51, 52, 53, 54, 55, 56, 57, 58, 59, 60, 61, 62, 63, 64, 65, 66, 67, 68, 69, 70, 71] (by decide +kernel) (by decide +kernel)
set_option maxRecDepth 20000 in
theorem gX12_year_X12_owedAll : GoodIn wsX12_year (wsV RX12 174 RX12 yX12_owedAll wsX12_owedAll) := goodIn_app (goodIn_of _ (by decide +kernel)) ggX12_year_X12_owedAll
theorem dX12_year_0 : decode cX12_year 0 = .ok (.aload_n 0, 1) := by decide +kernel
theorem dX12_year_1 : decode cX12_year 1 = .ok (.invokevirtual 155, 3) := by decide +kernel
theorem dX12_year_4 : decode cX12_year 4 = .ok (.ifCond .eq 6, 3) := by decide +kernel
theorem dX12_year_7 : decode cX12_year 7 = .ok (.bipush (-103), 2) := by decide +kernel
theorem dX12_year_9 : decode cX12_year 9 = .ok (.ireturn, 1) := by decide +kernel
theorem dX12_year_10 : decode cX12_year 10 = .ok (.aload_n 0, 1) := by decide +kernel
theorem dX12_year_11 : decode cX12_year 11 = .ok (.invokevirtual 171, 3) := by decide +kernel
theorem dX12_year_14 : decode cX12_year 14 = .ok (.aload_n 0, 1) := by decide +kernel
theorem dX12_year_15 : decode cX12_year 15 = .ok (.dup, 1) := by decide +kernel
theorem dX12_year_16 : decode cX12_year 16 = .ok (.getfield 111, 3) := by decide +kernel
theorem dX12_year_19 : decode cX12_year 19 = .ok (.iconst 1, 1) := by decide +kernel
theorem dX12_year_20 : decode cX12_year 20 = .ok (.iadd, 1) := by decide +kernel
theorem dX12_year_21 : decode cX12_year 21 = .ok (.putfield 111, 3) := by decide +kernel
theorem dX12_year_24 : decode cX12_year 24 = .ok (.aload_n 0, 1) := by decide +kernel
theorem dX12_year_25 : decode cX12_year 25 = .ok (.invokevirtual 174, 3) := by decide +kernel
theorem dX12_year_28 : decode cX12_year 28 = .ok (.ireturn, 1) := by decide +kernel
set_option maxRecDepth 20000 in
theorem ggX12_settledOf_X12_owedTo : GoodIn wsX12_settledOf wsX12_owedTo := goodIn_r _ [6, 7, 12, 13, 14, 15, 16, 17, 18, 19, 20, 21, 22, 23, 24, 25, 26, 27, 28, 29, 30, 31, 32, 33, 34, 35, 36, 37, 38, 39, 40, 41, 42, 43, 44, 45, 46, 47, 48, 49] (by decide +kernel) (by decide +kernel)
set_option maxRecDepth 20000 in
theorem gX12_settledOf_X12_owedTo : GoodIn wsX12_settledOf (wsV RX12 147 RX12 yX12_owedTo wsX12_owedTo) := goodIn_app (goodIn_of _ (by decide +kernel)) ggX12_settledOf_X12_owedTo
set_option maxRecDepth 20000 in
theorem ggX12_settledOf_X12_owesOf : GoodIn wsX12_settledOf wsX12_owesOf := goodIn_r _ [11, 7, 12, 13, 14, 15, 16, 17, 18, 19, 20, 21, 22, 23, 24, 25, 26, 27, 28, 29, 30, 31, 32, 33, 34, 35, 36, 37, 38, 39, 40, 41, 42, 43, 44, 45, 46, 47, 48, 49] (by decide +kernel) (by decide +kernel)
set_option maxRecDepth 20000 in
theorem gX12_settledOf_X12_owesOf : GoodIn wsX12_settledOf (wsV RX12 144 RX12 yX12_owesOf wsX12_owesOf) := goodIn_app (goodIn_of _ (by decide +kernel)) ggX12_settledOf_X12_owesOf
theorem dX12_settledOf_0 : decode cX12_settledOf 0 = .ok (.iconst 0, 1) := by decide +kernel
theorem dX12_settledOf_1 : decode cX12_settledOf 1 = .ok (.istore_n 1, 1) := by decide +kernel
theorem dX12_settledOf_2 : decode cX12_settledOf 2 = .ok (.iconst 0, 1) := by decide +kernel
theorem dX12_settledOf_3 : decode cX12_settledOf 3 = .ok (.istore_n 2, 1) := by decide +kernel
theorem dX12_settledOf_4 : decode cX12_settledOf 4 = .ok (.iload_n 2, 1) := by decide +kernel
theorem dX12_settledOf_5 : decode cX12_settledOf 5 = .ok (.aload_n 0, 1) := by decide +kernel
theorem dX12_settledOf_6 : decode cX12_settledOf 6 = .ok (.getfield 105, 3) := by decide +kernel
theorem dX12_settledOf_9 : decode cX12_settledOf 9 = .ok (.if_icmp .ge 33, 3) := by decide +kernel
theorem dX12_settledOf_12 : decode cX12_settledOf 12 = .ok (.aload_n 0, 1) := by decide +kernel
theorem dX12_settledOf_13 : decode cX12_settledOf 13 = .ok (.iload_n 2, 1) := by decide +kernel
theorem dX12_settledOf_14 : decode cX12_settledOf 14 = .ok (.invokevirtual 147, 3) := by decide +kernel
theorem dX12_settledOf_17 : decode cX12_settledOf 17 = .ok (.aload_n 0, 1) := by decide +kernel
theorem dX12_settledOf_18 : decode cX12_settledOf 18 = .ok (.iload_n 2, 1) := by decide +kernel
theorem dX12_settledOf_19 : decode cX12_settledOf 19 = .ok (.invokevirtual 144, 3) := by decide +kernel
theorem dX12_settledOf_22 : decode cX12_settledOf 22 = .ok (.isub, 1) := by decide +kernel
theorem dX12_settledOf_23 : decode cX12_settledOf 23 = .ok (.istore_n 3, 1) := by decide +kernel
theorem dX12_settledOf_24 : decode cX12_settledOf 24 = .ok (.iload_n 1, 1) := by decide +kernel
theorem dX12_settledOf_25 : decode cX12_settledOf 25 = .ok (.iload_n 3, 1) := by decide +kernel
theorem dX12_settledOf_26 : decode cX12_settledOf 26 = .ok (.ifCond .le 7, 3) := by decide +kernel
theorem dX12_settledOf_29 : decode cX12_settledOf 29 = .ok (.iload_n 3, 1) := by decide +kernel
theorem dX12_settledOf_30 : decode cX12_settledOf 30 = .ok (.goto 4, 3) := by decide +kernel
theorem dX12_settledOf_33 : decode cX12_settledOf 33 = .ok (.iconst 0, 1) := by decide +kernel
theorem dX12_settledOf_34 : decode cX12_settledOf 34 = .ok (.iadd, 1) := by decide +kernel
theorem dX12_settledOf_35 : decode cX12_settledOf 35 = .ok (.istore_n 1, 1) := by decide +kernel
theorem dX12_settledOf_36 : decode cX12_settledOf 36 = .ok (.iinc 2 1, 3) := by decide +kernel
theorem dX12_settledOf_39 : decode cX12_settledOf 39 = .ok (.goto (-35), 3) := by decide +kernel
theorem dX12_settledOf_42 : decode cX12_settledOf 42 = .ok (.iload_n 1, 1) := by decide +kernel
theorem dX12_settledOf_43 : decode cX12_settledOf 43 = .ok (.ireturn, 1) := by decide +kernel
set_option maxRecDepth 20000 in
theorem ggX12_settled_X12_lacks : GoodIn wsX12_settled wsX12_lacks := goodIn_r _ [5, 6, 20, 21, 22, 23, 24, 25, 26, 27, 28, 29, 30, 31, 32, 33, 34, 35, 36, 37, 38, 39, 40, 41, 42, 43, 44, 45, 46, 47, 48, 49, 50, 51, 52, 53, 54, 55, 56, 57] (by decide +kernel) (by decide +kernel)
set_option maxRecDepth 20000 in
theorem gX12_settled_X12_lacks : GoodIn wsX12_settled (wsV RX12 155 RX12 yX12_lacks wsX12_lacks) := goodIn_app (goodIn_of _ (by decide +kernel)) ggX12_settled_X12_lacks
set_option maxRecDepth 20000 in
theorem ggX12_settled_X12_settledOf : GoodIn wsX12_settled wsX12_settledOf := goodIn_r _ [10, 6, 11, 12, 13, 4, 14, 15, 16, 17, 18, 19, 20, 21, 22, 23, 24, 25, 26, 27, 28, 29, 30, 31, 32, 33, 34, 35, 36, 37, 38, 39, 40, 41, 42, 43, 44, 45, 46, 47, 48, 49, 50, 51, 52, 53, 54, 55, 56, 57] (by decide +kernel) (by decide +kernel)
set_option maxRecDepth 20000 in
theorem gX12_settled_X12_settledOf : GoodIn wsX12_settled (wsV RX12 177 RX12 yX12_settledOf wsX12_settledOf) := goodIn_app (goodIn_of _ (by decide +kernel)) ggX12_settled_X12_settledOf
theorem dX12_settled_0 : decode cX12_settled 0 = .ok (.aload_n 0, 1) := by decide +kernel
theorem dX12_settled_1 : decode cX12_settled 1 = .ok (.invokevirtual 155, 3) := by decide +kernel
theorem dX12_settled_4 : decode cX12_settled 4 = .ok (.ifCond .eq 8, 3) := by decide +kernel
theorem dX12_settled_7 : decode cX12_settled 7 = .ok (.bipush (-103), 2) := by decide +kernel
theorem dX12_settled_9 : decode cX12_settled 9 = .ok (.goto 7, 3) := by decide +kernel
theorem dX12_settled_12 : decode cX12_settled 12 = .ok (.aload_n 0, 1) := by decide +kernel
theorem dX12_settled_13 : decode cX12_settled 13 = .ok (.invokevirtual 177, 3) := by decide +kernel
theorem dX12_settled_16 : decode cX12_settled 16 = .ok (.ireturn, 1) := by decide +kernel
set_option maxRecDepth 20000 in
theorem ggX12_layAside_X12_copy : GoodIn wsX12_layAside wsX12_copy := goodIn_r _ [8] (by decide +kernel) (by decide +kernel)
set_option maxRecDepth 20000 in
theorem gX12_layAside_X12_copy : GoodIn wsX12_layAside (va_wsS RX12 180 yX12_copy wsX12_copy) := goodIn_app (goodIn_of _ (by decide +kernel)) ggX12_layAside_X12_copy
theorem dX12_layAside_0 : decode cX12_layAside 0 = .ok (.aload_n 0, 1) := by decide +kernel
theorem dX12_layAside_1 : decode cX12_layAside 1 = .ok (.getfield 19, 3) := by decide +kernel
theorem dX12_layAside_4 : decode cX12_layAside 4 = .ok (.aload_n 0, 1) := by decide +kernel
theorem dX12_layAside_5 : decode cX12_layAside 5 = .ok (.getfield 31, 3) := by decide +kernel
theorem dX12_layAside_8 : decode cX12_layAside 8 = .ok (.invokestatic 180, 3) := by decide +kernel
theorem dX12_layAside_11 : decode cX12_layAside 11 = .ok (.aload_n 0, 1) := by decide +kernel
theorem dX12_layAside_12 : decode cX12_layAside 12 = .ok (.getfield 22, 3) := by decide +kernel
theorem dX12_layAside_15 : decode cX12_layAside 15 = .ok (.aload_n 0, 1) := by decide +kernel
theorem dX12_layAside_16 : decode cX12_layAside 16 = .ok (.getfield 34, 3) := by decide +kernel
theorem dX12_layAside_19 : decode cX12_layAside 19 = .ok (.invokestatic 180, 3) := by decide +kernel
theorem dX12_layAside_22 : decode cX12_layAside 22 = .ok (.return_, 1) := by decide +kernel
set_option maxRecDepth 20000 in
theorem ggX12_layBack_X12_copy : GoodIn wsX12_layBack wsX12_copy := goodIn_r _ [8] (by decide +kernel) (by decide +kernel)
set_option maxRecDepth 20000 in
theorem gX12_layBack_X12_copy : GoodIn wsX12_layBack (va_wsS RX12 180 yX12_copy wsX12_copy) := goodIn_app (goodIn_of _ (by decide +kernel)) ggX12_layBack_X12_copy
theorem dX12_layBack_0 : decode cX12_layBack 0 = .ok (.aload_n 0, 1) := by decide +kernel
theorem dX12_layBack_1 : decode cX12_layBack 1 = .ok (.getfield 31, 3) := by decide +kernel
theorem dX12_layBack_4 : decode cX12_layBack 4 = .ok (.aload_n 0, 1) := by decide +kernel
theorem dX12_layBack_5 : decode cX12_layBack 5 = .ok (.getfield 19, 3) := by decide +kernel
theorem dX12_layBack_8 : decode cX12_layBack 8 = .ok (.invokestatic 180, 3) := by decide +kernel
theorem dX12_layBack_11 : decode cX12_layBack 11 = .ok (.aload_n 0, 1) := by decide +kernel
theorem dX12_layBack_12 : decode cX12_layBack 12 = .ok (.getfield 34, 3) := by decide +kernel
theorem dX12_layBack_15 : decode cX12_layBack 15 = .ok (.aload_n 0, 1) := by decide +kernel
theorem dX12_layBack_16 : decode cX12_layBack 16 = .ok (.getfield 22, 3) := by decide +kernel
theorem dX12_layBack_19 : decode cX12_layBack 19 = .ok (.invokestatic 180, 3) := by decide +kernel
theorem dX12_layBack_22 : decode cX12_layBack 22 = .ok (.return_, 1) := by decide +kernel
set_option maxRecDepth 20000 in
theorem ggX12_plan_X12_areTwo : GoodIn wsX12_plan wsX12_areTwo := goodIn_r _ [7, 8, 9, 10, 6, 11, 12, 13, 14, 15, 16, 17, 18, 19, 20, 21, 22, 23, 24, 25, 26, 27, 28, 29, 30, 31, 32, 33, 34, 35, 36, 37, 38, 39, 40, 41, 42, 43, 44, 45, 46, 47, 48, 49, 50, 51, 52, 53] (by decide +kernel) (by decide +kernel)
set_option maxRecDepth 20000 in
theorem gX12_plan_X12_areTwo : GoodIn wsX12_plan (wsV RX12 162 RX12 yX12_areTwo wsX12_areTwo) := goodIn_app (goodIn_of _ (by decide +kernel)) ggX12_plan_X12_areTwo
theorem dX12_plan_0 : decode cX12_plan 0 = .ok (.aload_n 0, 1) := by decide +kernel
theorem dX12_plan_1 : decode cX12_plan 1 = .ok (.iload_n 1, 1) := by decide +kernel
theorem dX12_plan_2 : decode cX12_plan 2 = .ok (.iload_n 2, 1) := by decide +kernel
theorem dX12_plan_3 : decode cX12_plan 3 = .ok (.invokevirtual 162, 3) := by decide +kernel
theorem dX12_plan_6 : decode cX12_plan 6 = .ok (.ifCond .ne 6, 3) := by decide +kernel
theorem dX12_plan_9 : decode cX12_plan 9 = .ok (.bipush (-101), 2) := by decide +kernel
theorem dX12_plan_11 : decode cX12_plan 11 = .ok (.ireturn, 1) := by decide +kernel
theorem dX12_plan_12 : decode cX12_plan 12 = .ok (.aload_n 0, 1) := by decide +kernel
theorem dX12_plan_13 : decode cX12_plan 13 = .ok (.getfield 117, 3) := by decide +kernel
theorem dX12_plan_16 : decode cX12_plan 16 = .ok (.iconst 4, 1) := by decide +kernel
theorem dX12_plan_17 : decode cX12_plan 17 = .ok (.if_icmp .ne 6, 3) := by decide +kernel
theorem dX12_plan_20 : decode cX12_plan 20 = .ok (.bipush (-104), 2) := by decide +kernel
theorem dX12_plan_22 : decode cX12_plan 22 = .ok (.ireturn, 1) := by decide +kernel
theorem dX12_plan_23 : decode cX12_plan 23 = .ok (.aload_n 0, 1) := by decide +kernel
theorem dX12_plan_24 : decode cX12_plan 24 = .ok (.getfield 28, 3) := by decide +kernel
theorem dX12_plan_27 : decode cX12_plan 27 = .ok (.iconst 2, 1) := by decide +kernel
theorem dX12_plan_28 : decode cX12_plan 28 = .ok (.aload_n 0, 1) := by decide +kernel
theorem dX12_plan_29 : decode cX12_plan 29 = .ok (.getfield 117, 3) := by decide +kernel
theorem dX12_plan_32 : decode cX12_plan 32 = .ok (.imul, 1) := by decide +kernel
theorem dX12_plan_33 : decode cX12_plan 33 = .ok (.iload_n 1, 1) := by decide +kernel
theorem dX12_plan_34 : decode cX12_plan 34 = .ok (.iastore, 1) := by decide +kernel
theorem dX12_plan_35 : decode cX12_plan 35 = .ok (.aload_n 0, 1) := by decide +kernel
theorem dX12_plan_36 : decode cX12_plan 36 = .ok (.getfield 28, 3) := by decide +kernel
theorem dX12_plan_39 : decode cX12_plan 39 = .ok (.iconst 2, 1) := by decide +kernel
theorem dX12_plan_40 : decode cX12_plan 40 = .ok (.aload_n 0, 1) := by decide +kernel
theorem dX12_plan_41 : decode cX12_plan 41 = .ok (.getfield 117, 3) := by decide +kernel
theorem dX12_plan_44 : decode cX12_plan 44 = .ok (.imul, 1) := by decide +kernel
theorem dX12_plan_45 : decode cX12_plan 45 = .ok (.iconst 1, 1) := by decide +kernel
theorem dX12_plan_46 : decode cX12_plan 46 = .ok (.iadd, 1) := by decide +kernel
theorem dX12_plan_47 : decode cX12_plan 47 = .ok (.iload_n 2, 1) := by decide +kernel
theorem dX12_plan_48 : decode cX12_plan 48 = .ok (.iastore, 1) := by decide +kernel
theorem dX12_plan_49 : decode cX12_plan 49 = .ok (.aload_n 0, 1) := by decide +kernel
theorem dX12_plan_50 : decode cX12_plan 50 = .ok (.dup, 1) := by decide +kernel
theorem dX12_plan_51 : decode cX12_plan 51 = .ok (.getfield 117, 3) := by decide +kernel
theorem dX12_plan_54 : decode cX12_plan 54 = .ok (.iconst 1, 1) := by decide +kernel
theorem dX12_plan_55 : decode cX12_plan 55 = .ok (.iadd, 1) := by decide +kernel
theorem dX12_plan_56 : decode cX12_plan 56 = .ok (.putfield 117, 3) := by decide +kernel
theorem dX12_plan_59 : decode cX12_plan 59 = .ok (.aload_n 0, 1) := by decide +kernel
theorem dX12_plan_60 : decode cX12_plan 60 = .ok (.getfield 117, 3) := by decide +kernel
theorem dX12_plan_63 : decode cX12_plan 63 = .ok (.ireturn, 1) := by decide +kernel
theorem dX12_dream_0 : decode cX12_dream 0 = .ok (.aload_n 0, 1) := by decide +kernel
theorem dX12_dream_1 : decode cX12_dream 1 = .ok (.getfield 117, 3) := by decide +kernel
theorem dX12_dream_4 : decode cX12_dream 4 = .ok (.istore_n 1, 1) := by decide +kernel
theorem dX12_dream_5 : decode cX12_dream 5 = .ok (.aload_n 0, 1) := by decide +kernel
theorem dX12_dream_6 : decode cX12_dream 6 = .ok (.iconst 0, 1) := by decide +kernel
theorem dX12_dream_7 : decode cX12_dream 7 = .ok (.putfield 117, 3) := by decide +kernel
theorem dX12_dream_10 : decode cX12_dream 10 = .ok (.iload_n 1, 1) := by decide +kernel
theorem dX12_dream_11 : decode cX12_dream 11 = .ok (.ireturn, 1) := by decide +kernel
theorem dX12_isOrder_0 : decode cX12_isOrder 0 = .ok (.iload_n 1, 1) := by decide +kernel
theorem dX12_isOrder_1 : decode cX12_isOrder 1 = .ok (.istore_n 2, 1) := by decide +kernel
theorem dX12_isOrder_2 : decode cX12_isOrder 2 = .ok (.iconst 0, 1) := by decide +kernel
theorem dX12_isOrder_3 : decode cX12_isOrder 3 = .ok (.istore_n 3, 1) := by decide +kernel
theorem dX12_isOrder_4 : decode cX12_isOrder 4 = .ok (.aload_n 0, 1) := by decide +kernel
theorem dX12_isOrder_5 : decode cX12_isOrder 5 = .ok (.getfield 117, 3) := by decide +kernel
theorem dX12_isOrder_8 : decode cX12_isOrder 8 = .ok (.iconst 1, 1) := by decide +kernel
theorem dX12_isOrder_9 : decode cX12_isOrder 9 = .ok (.isub, 1) := by decide +kernel
theorem dX12_isOrder_10 : decode cX12_isOrder 10 = .ok (.istore 4, 2) := by decide +kernel
theorem dX12_isOrder_12 : decode cX12_isOrder 12 = .ok (.iload 4, 2) := by decide +kernel
theorem dX12_isOrder_14 : decode cX12_isOrder 14 = .ok (.ifCond .lt 41, 3) := by decide +kernel
theorem dX12_isOrder_17 : decode cX12_isOrder 17 = .ok (.aload_n 0, 1) := by decide +kernel
theorem dX12_isOrder_18 : decode cX12_isOrder 18 = .ok (.getfield 37, 3) := by decide +kernel
theorem dX12_isOrder_21 : decode cX12_isOrder 21 = .ok (.iload 4, 2) := by decide +kernel
theorem dX12_isOrder_23 : decode cX12_isOrder 23 = .ok (.iload_n 2, 1) := by decide +kernel
theorem dX12_isOrder_24 : decode cX12_isOrder 24 = .ok (.aload_n 0, 1) := by decide +kernel
theorem dX12_isOrder_25 : decode cX12_isOrder 25 = .ok (.getfield 117, 3) := by decide +kernel
theorem dX12_isOrder_28 : decode cX12_isOrder 28 = .ok (.irem, 1) := by decide +kernel
theorem dX12_isOrder_29 : decode cX12_isOrder 29 = .ok (.iastore, 1) := by decide +kernel
theorem dX12_isOrder_30 : decode cX12_isOrder 30 = .ok (.iload_n 3, 1) := by decide +kernel
theorem dX12_isOrder_31 : decode cX12_isOrder 31 = .ok (.iconst 1, 1) := by decide +kernel
theorem dX12_isOrder_32 : decode cX12_isOrder 32 = .ok (.aload_n 0, 1) := by decide +kernel
theorem dX12_isOrder_33 : decode cX12_isOrder 33 = .ok (.getfield 37, 3) := by decide +kernel
theorem dX12_isOrder_36 : decode cX12_isOrder 36 = .ok (.iload 4, 2) := by decide +kernel
theorem dX12_isOrder_38 : decode cX12_isOrder 38 = .ok (.iaload, 1) := by decide +kernel
theorem dX12_isOrder_39 : decode cX12_isOrder 39 = .ok (.ishl, 1) := by decide +kernel
theorem dX12_isOrder_40 : decode cX12_isOrder 40 = .ok (.ior, 1) := by decide +kernel
theorem dX12_isOrder_41 : decode cX12_isOrder 41 = .ok (.istore_n 3, 1) := by decide +kernel
theorem dX12_isOrder_42 : decode cX12_isOrder 42 = .ok (.iload_n 2, 1) := by decide +kernel
theorem dX12_isOrder_43 : decode cX12_isOrder 43 = .ok (.aload_n 0, 1) := by decide +kernel
theorem dX12_isOrder_44 : decode cX12_isOrder 44 = .ok (.getfield 117, 3) := by decide +kernel
theorem dX12_isOrder_47 : decode cX12_isOrder 47 = .ok (.idiv, 1) := by decide +kernel
theorem dX12_isOrder_48 : decode cX12_isOrder 48 = .ok (.istore_n 2, 1) := by decide +kernel
theorem dX12_isOrder_49 : decode cX12_isOrder 49 = .ok (.iinc 4 (-1), 3) := by decide +kernel
theorem dX12_isOrder_52 : decode cX12_isOrder 52 = .ok (.goto (-40), 3) := by decide +kernel
theorem dX12_isOrder_55 : decode cX12_isOrder 55 = .ok (.iload_n 3, 1) := by decide +kernel
theorem dX12_isOrder_56 : decode cX12_isOrder 56 = .ok (.iconst 1, 1) := by decide +kernel
theorem dX12_isOrder_57 : decode cX12_isOrder 57 = .ok (.aload_n 0, 1) := by decide +kernel
theorem dX12_isOrder_58 : decode cX12_isOrder 58 = .ok (.getfield 117, 3) := by decide +kernel
theorem dX12_isOrder_61 : decode cX12_isOrder 61 = .ok (.ishl, 1) := by decide +kernel
theorem dX12_isOrder_62 : decode cX12_isOrder 62 = .ok (.iconst 1, 1) := by decide +kernel
theorem dX12_isOrder_63 : decode cX12_isOrder 63 = .ok (.isub, 1) := by decide +kernel
theorem dX12_isOrder_64 : decode cX12_isOrder 64 = .ok (.if_icmp .ne 7, 3) := by decide +kernel
theorem dX12_isOrder_67 : decode cX12_isOrder 67 = .ok (.iconst 1, 1) := by decide +kernel
theorem dX12_isOrder_68 : decode cX12_isOrder 68 = .ok (.goto 4, 3) := by decide +kernel
theorem dX12_isOrder_71 : decode cX12_isOrder 71 = .ok (.iconst 0, 1) := by decide +kernel
theorem dX12_isOrder_72 : decode cX12_isOrder 72 = .ok (.ireturn, 1) := by decide +kernel
set_option maxRecDepth 20000 in
theorem ggX12_layOrder_X12_layAside : GoodIn wsX12_layOrder wsX12_layAside := goodIn_r _ [10, 11, 12, 13, 14, 15, 16, 9, 17, 50, 51, 52, 53, 54, 55, 56, 57, 58, 59, 60, 61, 62, 63, 64, 65, 66, 67, 68, 69, 70, 71, 72, 73, 74, 75, 76, 77, 78, 79, 80, 81, 82, 83, 84, 85, 86, 87] (by decide +kernel) (by decide +kernel)
set_option maxRecDepth 20000 in
theorem gX12_layOrder_X12_layAside : GoodIn wsX12_layOrder (wsV RX12 184 RX12 yX12_layAside wsX12_layAside) := goodIn_app (goodIn_of _ (by decide +kernel)) ggX12_layOrder_X12_layAside
set_option maxRecDepth 20000 in
theorem ggX12_layOrder_X12_isOrder : GoodIn wsX12_layOrder wsX12_isOrder := goodIn_r _ [21, 1, 3, 50, 51, 52, 53, 54, 55, 56, 57, 58, 59, 60, 61, 62, 63, 64, 65, 66, 67, 68, 69, 70, 71, 72, 73, 74, 75, 76, 77, 78, 79, 80, 81, 82, 83, 84, 85, 86, 87] (by decide +kernel) (by decide +kernel)
set_option maxRecDepth 20000 in
theorem gX12_layOrder_X12_isOrder : GoodIn wsX12_layOrder (wsV RX12 187 RX12 yX12_isOrder wsX12_isOrder) := goodIn_app (goodIn_of _ (by decide +kernel)) ggX12_layOrder_X12_isOrder
set_option maxRecDepth 20000 in
theorem ggX12_layOrder_X12_marry : GoodIn wsX12_layOrder wsX12_marry := goodIn_r _ [25, 26, 27, 28, 9, 29, 30, 31, 32, 33, 13, 34, 35, 36, 37, 11, 38, 39, 40, 41, 50, 51, 52, 53, 54, 55, 56, 57, 58, 59, 60, 61, 62, 63, 64, 65, 66, 67, 68, 69, 70, 71, 72, 73, 74, 75, 76, 77, 78, 79, 80, 81, 82, 83, 84, 85, 86, 87] (by decide +kernel) (by decide +kernel)
set_option maxRecDepth 20000 in
theorem gX12_layOrder_X12_marry : GoodIn wsX12_layOrder (wsV RX12 166 RX12 yX12_marry wsX12_marry) := goodIn_app (goodIn_of _ (by decide +kernel)) ggX12_layOrder_X12_marry
set_option maxRecDepth 20000 in
theorem ggX12_layOrder_X12_owedAll : GoodIn wsX12_layOrder wsX12_owedAll := goodIn_r _ [45, 13, 50, 51, 52, 53, 54, 55, 56, 57, 58, 59, 60, 61, 62, 63, 64, 65, 66, 67, 68, 69, 70, 71, 72, 73, 74, 75, 76, 77, 78, 79, 80, 81, 82, 83, 84, 85, 86, 87] (by decide +kernel) (by decide +kernel)
set_option maxRecDepth 20000 in
theorem gX12_layOrder_X12_owedAll : GoodIn wsX12_layOrder (wsV RX12 174 RX12 yX12_owedAll wsX12_owedAll) := goodIn_app (goodIn_of _ (by decide +kernel)) ggX12_layOrder_X12_owedAll
set_option maxRecDepth 20000 in
theorem ggX12_layOrder_X12_copy : GoodIn wsX12_layOrder wsX12_copy := goodIn_r _ [17] (by decide +kernel) (by decide +kernel)
set_option maxRecDepth 20000 in
theorem gX12_layOrder_X12_copy : GoodIn wsX12_layOrder (va_wsS RX12 180 yX12_copy wsX12_copy) := goodIn_app (goodIn_of _ (by decide +kernel)) ggX12_layOrder_X12_copy
set_option maxRecDepth 20000 in
theorem ggX12_layOrder_X12_layBack : GoodIn wsX12_layOrder wsX12_layBack := goodIn_r _ [49, 12, 11, 14, 13, 15, 16, 9, 17, 50, 51, 52, 53, 54, 55, 56, 57, 58, 59, 60, 61, 62, 63, 64, 65, 66, 67, 68, 69, 70, 71, 72, 73, 74, 75, 76, 77, 78, 79, 80, 81, 82, 83, 84, 85, 86, 87] (by decide +kernel) (by decide +kernel)
set_option maxRecDepth 20000 in
theorem gX12_layOrder_X12_layBack : GoodIn wsX12_layOrder (wsV RX12 190 RX12 yX12_layBack wsX12_layBack) := goodIn_app (goodIn_of _ (by decide +kernel)) ggX12_layOrder_X12_layBack
theorem dX12_layOrder_0 : decode cX12_layOrder 0 = .ok (.iconst 1, 1) := by decide +kernel
theorem dX12_layOrder_1 : decode cX12_layOrder 1 = .ok (.istore_n 1, 1) := by decide +kernel
theorem dX12_layOrder_2 : decode cX12_layOrder 2 = .ok (.iconst 0, 1) := by decide +kernel
theorem dX12_layOrder_3 : decode cX12_layOrder 3 = .ok (.istore_n 2, 1) := by decide +kernel
theorem dX12_layOrder_4 : decode cX12_layOrder 4 = .ok (.iload_n 2, 1) := by decide +kernel
theorem dX12_layOrder_5 : decode cX12_layOrder 5 = .ok (.aload_n 0, 1) := by decide +kernel
theorem dX12_layOrder_6 : decode cX12_layOrder 6 = .ok (.getfield 117, 3) := by decide +kernel
theorem dX12_layOrder_9 : decode cX12_layOrder 9 = .ok (.if_icmp .ge 16, 3) := by decide +kernel
theorem dX12_layOrder_12 : decode cX12_layOrder 12 = .ok (.iload_n 1, 1) := by decide +kernel
theorem dX12_layOrder_13 : decode cX12_layOrder 13 = .ok (.aload_n 0, 1) := by decide +kernel
theorem dX12_layOrder_14 : decode cX12_layOrder 14 = .ok (.getfield 117, 3) := by decide +kernel
theorem dX12_layOrder_17 : decode cX12_layOrder 17 = .ok (.imul, 1) := by decide +kernel
theorem dX12_layOrder_18 : decode cX12_layOrder 18 = .ok (.istore_n 1, 1) := by decide +kernel
theorem dX12_layOrder_19 : decode cX12_layOrder 19 = .ok (.iinc 2 1, 3) := by decide +kernel
theorem dX12_layOrder_22 : decode cX12_layOrder 22 = .ok (.goto (-18), 3) := by decide +kernel
theorem dX12_layOrder_25 : decode cX12_layOrder 25 = .ok (.iconst (-1), 1) := by decide +kernel
theorem dX12_layOrder_26 : decode cX12_layOrder 26 = .ok (.istore_n 2, 1) := by decide +kernel
theorem dX12_layOrder_27 : decode cX12_layOrder 27 = .ok (.aload_n 0, 1) := by decide +kernel
theorem dX12_layOrder_28 : decode cX12_layOrder 28 = .ok (.invokevirtual 184, 3) := by decide +kernel
theorem dX12_layOrder_31 : decode cX12_layOrder 31 = .ok (.iconst 0, 1) := by decide +kernel
theorem dX12_layOrder_32 : decode cX12_layOrder 32 = .ok (.istore_n 3, 1) := by decide +kernel
theorem dX12_layOrder_33 : decode cX12_layOrder 33 = .ok (.iload_n 3, 1) := by decide +kernel
theorem dX12_layOrder_34 : decode cX12_layOrder 34 = .ok (.iload_n 1, 1) := by decide +kernel
theorem dX12_layOrder_35 : decode cX12_layOrder 35 = .ok (.if_icmp .ge 108, 3) := by decide +kernel
theorem dX12_layOrder_38 : decode cX12_layOrder 38 = .ok (.aload_n 0, 1) := by decide +kernel
theorem dX12_layOrder_39 : decode cX12_layOrder 39 = .ok (.iload_n 3, 1) := by decide +kernel
theorem dX12_layOrder_40 : decode cX12_layOrder 40 = .ok (.invokevirtual 187, 3) := by decide +kernel
theorem dX12_layOrder_43 : decode cX12_layOrder 43 = .ok (.ifCond .eq 94, 3) := by decide +kernel
theorem dX12_layOrder_46 : decode cX12_layOrder 46 = .ok (.iconst 0, 1) := by decide +kernel
theorem dX12_layOrder_47 : decode cX12_layOrder 47 = .ok (.istore 4, 2) := by decide +kernel
theorem dX12_layOrder_49 : decode cX12_layOrder 49 = .ok (.iload 4, 2) := by decide +kernel
theorem dX12_layOrder_51 : decode cX12_layOrder 51 = .ok (.aload_n 0, 1) := by decide +kernel
theorem dX12_layOrder_52 : decode cX12_layOrder 52 = .ok (.getfield 117, 3) := by decide +kernel
theorem dX12_layOrder_55 : decode cX12_layOrder 55 = .ok (.if_icmp .ge 49, 3) := by decide +kernel
theorem dX12_layOrder_58 : decode cX12_layOrder 58 = .ok (.aload_n 0, 1) := by decide +kernel
theorem dX12_layOrder_59 : decode cX12_layOrder 59 = .ok (.aload_n 0, 1) := by decide +kernel
theorem dX12_layOrder_60 : decode cX12_layOrder 60 = .ok (.getfield 28, 3) := by decide +kernel
theorem dX12_layOrder_63 : decode cX12_layOrder 63 = .ok (.iconst 2, 1) := by decide +kernel
theorem dX12_layOrder_64 : decode cX12_layOrder 64 = .ok (.aload_n 0, 1) := by decide +kernel
theorem dX12_layOrder_65 : decode cX12_layOrder 65 = .ok (.getfield 37, 3) := by decide +kernel
theorem dX12_layOrder_68 : decode cX12_layOrder 68 = .ok (.iload 4, 2) := by decide +kernel
theorem dX12_layOrder_70 : decode cX12_layOrder 70 = .ok (.iaload, 1) := by decide +kernel
theorem dX12_layOrder_71 : decode cX12_layOrder 71 = .ok (.imul, 1) := by decide +kernel
theorem dX12_layOrder_72 : decode cX12_layOrder 72 = .ok (.iaload, 1) := by decide +kernel
theorem dX12_layOrder_73 : decode cX12_layOrder 73 = .ok (.aload_n 0, 1) := by decide +kernel
theorem dX12_layOrder_74 : decode cX12_layOrder 74 = .ok (.getfield 28, 3) := by decide +kernel
theorem dX12_layOrder_77 : decode cX12_layOrder 77 = .ok (.iconst 2, 1) := by decide +kernel
theorem dX12_layOrder_78 : decode cX12_layOrder 78 = .ok (.aload_n 0, 1) := by decide +kernel
theorem dX12_layOrder_79 : decode cX12_layOrder 79 = .ok (.getfield 37, 3) := by decide +kernel
theorem dX12_layOrder_82 : decode cX12_layOrder 82 = .ok (.iload 4, 2) := by decide +kernel
theorem dX12_layOrder_84 : decode cX12_layOrder 84 = .ok (.iaload, 1) := by decide +kernel
theorem dX12_layOrder_85 : decode cX12_layOrder 85 = .ok (.imul, 1) := by decide +kernel
theorem dX12_layOrder_86 : decode cX12_layOrder 86 = .ok (.iconst 1, 1) := by decide +kernel
theorem dX12_layOrder_87 : decode cX12_layOrder 87 = .ok (.iadd, 1) := by decide +kernel
theorem dX12_layOrder_88 : decode cX12_layOrder 88 = .ok (.iaload, 1) := by decide +kernel
theorem dX12_layOrder_89 : decode cX12_layOrder 89 = .ok (.aload_n 0, 1) := by decide +kernel
theorem dX12_layOrder_90 : decode cX12_layOrder 90 = .ok (.getfield 108, 3) := by decide +kernel
theorem dX12_layOrder_93 : decode cX12_layOrder 93 = .ok (.invokevirtual 166, 3) := by decide +kernel
theorem dX12_layOrder_96 : decode cX12_layOrder 96 = .ok (.istore 5, 2) := by decide +kernel
theorem dX12_layOrder_98 : decode cX12_layOrder 98 = .ok (.iinc 4 1, 3) := by decide +kernel
theorem dX12_layOrder_101 : decode cX12_layOrder 101 = .ok (.goto (-52), 3) := by decide +kernel
theorem dX12_layOrder_104 : decode cX12_layOrder 104 = .ok (.iload_n 2, 1) := by decide +kernel
theorem dX12_layOrder_105 : decode cX12_layOrder 105 = .ok (.iconst (-1), 1) := by decide +kernel
theorem dX12_layOrder_106 : decode cX12_layOrder 106 = .ok (.if_icmp .eq 11, 3) := by decide +kernel
theorem dX12_layOrder_109 : decode cX12_layOrder 109 = .ok (.aload_n 0, 1) := by decide +kernel
theorem dX12_layOrder_110 : decode cX12_layOrder 110 = .ok (.invokevirtual 174, 3) := by decide +kernel
theorem dX12_layOrder_113 : decode cX12_layOrder 113 = .ok (.iload_n 2, 1) := by decide +kernel
theorem dX12_layOrder_114 : decode cX12_layOrder 114 = .ok (.if_icmp .ge 19, 3) := by decide +kernel
theorem dX12_layOrder_117 : decode cX12_layOrder 117 = .ok (.aload_n 0, 1) := by decide +kernel
theorem dX12_layOrder_118 : decode cX12_layOrder 118 = .ok (.invokevirtual 174, 3) := by decide +kernel
theorem dX12_layOrder_121 : decode cX12_layOrder 121 = .ok (.istore_n 2, 1) := by decide +kernel
theorem dX12_layOrder_122 : decode cX12_layOrder 122 = .ok (.aload_n 0, 1) := by decide +kernel
theorem dX12_layOrder_123 : decode cX12_layOrder 123 = .ok (.getfield 37, 3) := by decide +kernel
theorem dX12_layOrder_126 : decode cX12_layOrder 126 = .ok (.aload_n 0, 1) := by decide +kernel
theorem dX12_layOrder_127 : decode cX12_layOrder 127 = .ok (.getfield 40, 3) := by decide +kernel
theorem dX12_layOrder_130 : decode cX12_layOrder 130 = .ok (.invokestatic 180, 3) := by decide +kernel
theorem dX12_layOrder_133 : decode cX12_layOrder 133 = .ok (.aload_n 0, 1) := by decide +kernel
theorem dX12_layOrder_134 : decode cX12_layOrder 134 = .ok (.invokevirtual 190, 3) := by decide +kernel
theorem dX12_layOrder_137 : decode cX12_layOrder 137 = .ok (.iinc 3 1, 3) := by decide +kernel
theorem dX12_layOrder_140 : decode cX12_layOrder 140 = .ok (.goto (-107), 3) := by decide +kernel
theorem dX12_layOrder_143 : decode cX12_layOrder 143 = .ok (.iload_n 2, 1) := by decide +kernel
theorem dX12_layOrder_144 : decode cX12_layOrder 144 = .ok (.ireturn, 1) := by decide +kernel
set_option maxRecDepth 20000 in
theorem ggX12_orderOf_X12_layOrder : GoodIn wsX12_orderOf wsX12_layOrder := goodIn_r _ [7, 1, 8, 9, 10, 2, 11, 12, 13, 6, 14, 15, 16, 17, 18, 19, 20, 21, 22, 23, 24, 25, 26, 27, 28, 29, 30, 31, 32, 33, 34, 35, 36, 37, 38, 39, 40, 41, 42, 43, 44, 45, 46, 47, 48, 49, 50, 51, 52, 53, 54, 55, 56, 57, 58, 59, 60, 61, 62, 63, 64, 65, 66, 67, 68, 69, 70, 71, 72, 73, 74, 75, 76, 77, 78, 79, 80, 81, 82, 83, 84, 85, 86, 87, 88, 89, 90, 91] (by decide +kernel) (by decide +kernel)
set_option maxRecDepth 20000 in
theorem gX12_orderOf_X12_layOrder : GoodIn wsX12_orderOf (wsV RX12 193 RX12 yX12_layOrder wsX12_layOrder) := goodIn_app (goodIn_of _ (by decide +kernel)) ggX12_orderOf_X12_layOrder
