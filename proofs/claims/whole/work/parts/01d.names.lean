theorem inlX0 : ∀ w ∈ wsX00, w ∈ wsL_law := fun _ h => List.mem_append_left _ (List.mem_append_left _ (List.mem_append_left _ (List.mem_append_left _ (List.mem_append_left _ (List.mem_append_left _ (List.mem_append_left _ (List.mem_append_left _ (List.mem_append_right _ h))))))))
theorem inX0 : ∀ w ∈ wsX00, w ∈ lw_tbl := fun w h => wsL_law_in w (inlX0 w h)
theorem inlX1 : ∀ w ∈ wsX10, w ∈ wsL_law := fun _ h => List.mem_append_left _ (List.mem_append_left _ (List.mem_append_left _ (List.mem_append_left _ (List.mem_append_left _ (List.mem_append_left _ (List.mem_append_left _ (List.mem_append_left _ (List.mem_append_left _ (List.mem_append_left _ (List.mem_append_left _ (List.mem_append_right _ h)))))))))))
theorem inX1 : ∀ w ∈ wsX10, w ∈ lw_tbl := fun w h => wsL_law_in w (inlX1 w h)
theorem inlX2 : ∀ w ∈ wsX20, w ∈ wsL_law := fun _ h => List.mem_append_left _ (List.mem_append_left _ (List.mem_append_left _ (List.mem_append_left _ (List.mem_append_right _ h))))
theorem inX2 : ∀ w ∈ wsX20, w ∈ lw_tbl := fun w h => wsL_law_in w (inlX2 w h)
theorem inlX3 : ∀ w ∈ wsX30, w ∈ wsL_law := fun _ h => List.mem_append_left _ (List.mem_append_left _ (List.mem_append_left _ (List.mem_append_left _ (List.mem_append_left _ (List.mem_append_left _ (List.mem_append_left _ (List.mem_append_right _ h)))))))
theorem inX3 : ∀ w ∈ wsX30, w ∈ lw_tbl := fun w h => wsL_law_in w (inlX3 w h)
theorem inlX4 : ∀ w ∈ wsX40, w ∈ wsL_law := fun _ h => List.mem_append_left _ (List.mem_append_left _ (List.mem_append_left _ (List.mem_append_left _ (List.mem_append_left _ (List.mem_append_left _ (List.mem_append_right _ h))))))
theorem inX4 : ∀ w ∈ wsX40, w ∈ lw_tbl := fun w h => wsL_law_in w (inlX4 w h)
theorem inlX5 : ∀ w ∈ wsX50, w ∈ wsL_law := fun _ h => List.mem_append_left _ (List.mem_append_left _ (List.mem_append_right _ h))
theorem inX5 : ∀ w ∈ wsX50, w ∈ lw_tbl := fun w h => wsL_law_in w (inlX5 w h)
theorem inlX6 : ∀ w ∈ wsX60, w ∈ wsL_law := fun _ h => List.mem_append_left _ (List.mem_append_left _ (List.mem_append_left _ (List.mem_append_left _ (List.mem_append_left _ (List.mem_append_left _ (List.mem_append_left _ (List.mem_append_left _ (List.mem_append_left _ (List.mem_append_right _ h)))))))))
theorem inX6 : ∀ w ∈ wsX60, w ∈ lw_tbl := fun w h => wsL_law_in w (inlX6 w h)
theorem inlX7 : ∀ w ∈ wsX70, w ∈ wsL_law := fun _ h => List.mem_append_left _ (List.mem_append_left _ (List.mem_append_left _ (List.mem_append_left _ (List.mem_append_left _ (List.mem_append_left _ (List.mem_append_left _ (List.mem_append_left _ (List.mem_append_left _ (List.mem_append_left _ (List.mem_append_right _ h))))))))))
theorem inX7 : ∀ w ∈ wsX70, w ∈ lw_tbl := fun w h => wsL_law_in w (inlX7 w h)
theorem inlX8 : ∀ w ∈ wsX80, w ∈ wsL_law := fun _ h => List.mem_append_left _ (List.mem_append_left _ (List.mem_append_left _ (List.mem_append_left _ (List.mem_append_left _ (List.mem_append_right _ h)))))
theorem inX8 : ∀ w ∈ wsX80, w ∈ lw_tbl := fun w h => wsL_law_in w (inlX8 w h)
theorem inlX9 : ∀ w ∈ wsX90, w ∈ wsL_law := fun _ h => List.mem_append_left _ (List.mem_append_right _ h)
theorem inX9 : ∀ w ∈ wsX90, w ∈ lw_tbl := fun w h => wsL_law_in w (inlX9 w h)
theorem inlX10 : ∀ w ∈ wsX100, w ∈ wsL_law := fun _ h => List.mem_append_left _ (List.mem_append_left _ (List.mem_append_left _ (List.mem_append_right _ h)))
theorem inX10 : ∀ w ∈ wsX100, w ∈ lw_tbl := fun w h => wsL_law_in w (inlX10 w h)
theorem inlX11 : ∀ w ∈ wsX110, w ∈ wsL_law := fun _ h => List.mem_append_left _ (List.mem_append_left _ (List.mem_append_left _ (List.mem_append_left _ (List.mem_append_left _ (List.mem_append_left _ (List.mem_append_left _ (List.mem_append_left _ (List.mem_append_left _ (List.mem_append_left _ (List.mem_append_left _ (List.mem_append_left _ (List.mem_append_left _ (List.mem_append_right _ h)))))))))))))
theorem inX11 : ∀ w ∈ wsX110, w ∈ lw_tbl := fun w h => wsL_law_in w (inlX11 w h)
theorem inlX12 : ∀ w ∈ wsX120, w ∈ wsL_law := fun _ h => List.mem_append_left _ (List.mem_append_left _ (List.mem_append_left _ (List.mem_append_left _ (List.mem_append_left _ (List.mem_append_left _ (List.mem_append_left _ (List.mem_append_left _ (List.mem_append_left _ (List.mem_append_left _ (List.mem_append_left _ (List.mem_append_left _ (List.mem_append_right _ h))))))))))))
theorem inX12 : ∀ w ∈ wsX120, w ∈ lw_tbl := fun w h => wsL_law_in w (inlX12 w h)
theorem inJ11 : ∀ w ∈ wsJ110, w ∈ lw_tbl := by decide +kernel
theorem inJ9 : ∀ w ∈ wsJ90, w ∈ lw_tbl := by decide +kernel
theorem inJ0 : ∀ w ∈ wsJ00, w ∈ lw_tbl := by decide +kernel
theorem inJ1 : ∀ w ∈ wsJ10, w ∈ lw_tbl := by decide +kernel
theorem inJ2 : ∀ w ∈ wsJ20, w ∈ lw_tbl := by decide +kernel
theorem inJ10 : ∀ w ∈ wsJ100, w ∈ lw_tbl := by decide +kernel
theorem inJ3 : ∀ w ∈ wsJ30, w ∈ lw_tbl := by decide +kernel
set_option maxRecDepth 20000 in
theorem ggX0_init_X1_init : GoodIn wsX0_init wsX1_init := goodIn_r _ [3, 4, 5, 6] (by decide +kernel) (by decide +kernel)
set_option maxRecDepth 20000 in
theorem gX0_init_X1_init_n3 : GoodIn wsX0_init (wsX1_init) := ggX0_init_X1_init
theorem dX0_init_0 : decode cX0_init 0 = .ok (.aload_n 0, 1) := by decide +kernel
theorem dX0_init_1 : decode cX0_init 1 = .ok (.invokespecial 3, 3) := by decide +kernel
theorem dX0_init_4 : decode cX0_init 4 = .ok (.return_, 1) := by decide +kernel
theorem dX0_number_0 : decode cX0_number 0 = .ok (.iconst 3, 1) := by decide +kernel
theorem dX0_number_1 : decode cX0_number 1 = .ok (.ireturn, 1) := by decide +kernel
theorem dX0_spares_0 : decode cX0_spares 0 = .ok (.iload_n 1, 1) := by decide +kernel
theorem dX0_spares_1 : decode cX0_spares 1 = .ok (.ifCond .le 9, 3) := by decide +kernel
theorem dX0_spares_4 : decode cX0_spares 4 = .ok (.iload_n 1, 1) := by decide +kernel
theorem dX0_spares_5 : decode cX0_spares 5 = .ok (.iconst 1, 1) := by decide +kernel
theorem dX0_spares_6 : decode cX0_spares 6 = .ok (.isub, 1) := by decide +kernel
theorem dX0_spares_7 : decode cX0_spares 7 = .ok (.goto 4, 3) := by decide +kernel
theorem dX0_spares_10 : decode cX0_spares 10 = .ok (.iconst 0, 1) := by decide +kernel
theorem dX0_spares_11 : decode cX0_spares 11 = .ok (.ireturn, 1) := by decide +kernel
theorem dX1_init_0 : decode cX1_init 0 = .ok (.aload_n 0, 1) := by decide +kernel
theorem dX1_init_1 : decode cX1_init 1 = .ok (.invokespecial 3, 3) := by decide +kernel
theorem dX1_init_4 : decode cX1_init 4 = .ok (.return_, 1) := by decide +kernel
theorem dX1_number_0 : decode cX1_number 0 = .ok (.iconst 0, 1) := by decide +kernel
theorem dX1_number_1 : decode cX1_number 1 = .ok (.ireturn, 1) := by decide +kernel
theorem dX1_asks_0 : decode cX1_asks 0 = .ok (.iload_n 1, 1) := by decide +kernel
theorem dX1_asks_1 : decode cX1_asks 1 = .ok (.ireturn, 1) := by decide +kernel
theorem dX1_spares_0 : decode cX1_spares 0 = .ok (.iload_n 1, 1) := by decide +kernel
theorem dX1_spares_1 : decode cX1_spares 1 = .ok (.ireturn, 1) := by decide +kernel
theorem dX2_init_0 : decode cX2_init 0 = .ok (.aload_n 0, 1) := by decide +kernel
theorem dX2_init_1 : decode cX2_init 1 = .ok (.invokespecial 3, 3) := by decide +kernel
theorem dX2_init_4 : decode cX2_init 4 = .ok (.aload_n 0, 1) := by decide +kernel
theorem dX2_init_5 : decode cX2_init 5 = .ok (.iconst 4, 1) := by decide +kernel
theorem dX2_init_6 : decode cX2_init 6 = .ok (.newarray .int, 2) := by decide +kernel
theorem dX2_init_8 : decode cX2_init 8 = .ok (.putfield 9, 3) := by decide +kernel
theorem dX2_init_11 : decode cX2_init 11 = .ok (.aload_n 0, 1) := by decide +kernel
theorem dX2_init_12 : decode cX2_init 12 = .ok (.iconst 4, 1) := by decide +kernel
theorem dX2_init_13 : decode cX2_init 13 = .ok (.iconst 4, 1) := by decide +kernel
theorem dX2_init_14 : decode cX2_init 14 = .ok (.multianewarray 15 2, 4) := by decide +kernel
theorem dX2_init_18 : decode cX2_init 18 = .ok (.putfield 17, 3) := by decide +kernel
theorem dX2_init_21 : decode cX2_init 21 = .ok (.aload_n 0, 1) := by decide +kernel
theorem dX2_init_22 : decode cX2_init 22 = .ok (.iconst 0, 1) := by decide +kernel
theorem dX2_init_23 : decode cX2_init 23 = .ok (.putfield 20, 3) := by decide +kernel
theorem dX2_init_26 : decode cX2_init 26 = .ok (.aload_n 0, 1) := by decide +kernel
theorem dX2_init_27 : decode cX2_init 27 = .ok (.iconst 0, 1) := by decide +kernel
theorem dX2_init_28 : decode cX2_init 28 = .ok (.putfield 24, 3) := by decide +kernel
theorem dX2_init_31 : decode cX2_init 31 = .ok (.aload_n 0, 1) := by decide +kernel
theorem dX2_init_32 : decode cX2_init 32 = .ok (.aload_n 1, 1) := by decide +kernel
theorem dX2_init_33 : decode cX2_init 33 = .ok (.putfield 27, 3) := by decide +kernel
theorem dX2_init_36 : decode cX2_init 36 = .ok (.return_, 1) := by decide +kernel
theorem dX2_begin_0 : decode cX2_begin 0 = .ok (.aload_n 0, 1) := by decide +kernel
theorem dX2_begin_1 : decode cX2_begin 1 = .ok (.iload_n 1, 1) := by decide +kernel
theorem dX2_begin_2 : decode cX2_begin 2 = .ok (.putfield 20, 3) := by decide +kernel
theorem dX2_begin_5 : decode cX2_begin 5 = .ok (.aload_n 0, 1) := by decide +kernel
theorem dX2_begin_6 : decode cX2_begin 6 = .ok (.iload_n 2, 1) := by decide +kernel
theorem dX2_begin_7 : decode cX2_begin 7 = .ok (.putfield 24, 3) := by decide +kernel
theorem dX2_begin_10 : decode cX2_begin 10 = .ok (.iconst 0, 1) := by decide +kernel
theorem dX2_begin_11 : decode cX2_begin 11 = .ok (.istore_n 3, 1) := by decide +kernel
theorem dX2_begin_12 : decode cX2_begin 12 = .ok (.iload_n 3, 1) := by decide +kernel
theorem dX2_begin_13 : decode cX2_begin 13 = .ok (.iconst 4, 1) := by decide +kernel
theorem dX2_begin_14 : decode cX2_begin 14 = .ok (.if_icmp .ge 41, 3) := by decide +kernel
theorem dX2_begin_17 : decode cX2_begin 17 = .ok (.aload_n 0, 1) := by decide +kernel
theorem dX2_begin_18 : decode cX2_begin 18 = .ok (.getfield 9, 3) := by decide +kernel
theorem dX2_begin_21 : decode cX2_begin 21 = .ok (.iload_n 3, 1) := by decide +kernel
theorem dX2_begin_22 : decode cX2_begin 22 = .ok (.iconst 0, 1) := by decide +kernel
theorem dX2_begin_23 : decode cX2_begin 23 = .ok (.iastore, 1) := by decide +kernel
theorem dX2_begin_24 : decode cX2_begin 24 = .ok (.iconst 0, 1) := by decide +kernel
theorem dX2_begin_25 : decode cX2_begin 25 = .ok (.istore 4, 2) := by decide +kernel
theorem dX2_begin_27 : decode cX2_begin 27 = .ok (.iload 4, 2) := by decide +kernel
theorem dX2_begin_29 : decode cX2_begin 29 = .ok (.iconst 4, 1) := by decide +kernel
theorem dX2_begin_30 : decode cX2_begin 30 = .ok (.if_icmp .ge 19, 3) := by decide +kernel
theorem dX2_begin_33 : decode cX2_begin 33 = .ok (.aload_n 0, 1) := by decide +kernel
theorem dX2_begin_34 : decode cX2_begin 34 = .ok (.getfield 17, 3) := by decide +kernel
theorem dX2_begin_37 : decode cX2_begin 37 = .ok (.iload_n 3, 1) := by decide +kernel
theorem dX2_begin_38 : decode cX2_begin 38 = .ok (.aaload, 1) := by decide +kernel
theorem dX2_begin_39 : decode cX2_begin 39 = .ok (.iload 4, 2) := by decide +kernel
theorem dX2_begin_41 : decode cX2_begin 41 = .ok (.iconst 0, 1) := by decide +kernel
theorem dX2_begin_42 : decode cX2_begin 42 = .ok (.iastore, 1) := by decide +kernel
theorem dX2_begin_43 : decode cX2_begin 43 = .ok (.iinc 4 1, 3) := by decide +kernel
theorem dX2_begin_46 : decode cX2_begin 46 = .ok (.goto (-19), 3) := by decide +kernel
theorem dX2_begin_49 : decode cX2_begin 49 = .ok (.iinc 3 1, 3) := by decide +kernel
theorem dX2_begin_52 : decode cX2_begin 52 = .ok (.goto (-40), 3) := by decide +kernel
theorem dX2_begin_55 : decode cX2_begin 55 = .ok (.return_, 1) := by decide +kernel
theorem dX2_copyFrom_0 : decode cX2_copyFrom 0 = .ok (.aload_n 0, 1) := by decide +kernel
theorem dX2_copyFrom_1 : decode cX2_copyFrom 1 = .ok (.aload_n 1, 1) := by decide +kernel
theorem dX2_copyFrom_2 : decode cX2_copyFrom 2 = .ok (.getfield 20, 3) := by decide +kernel
theorem dX2_copyFrom_5 : decode cX2_copyFrom 5 = .ok (.putfield 20, 3) := by decide +kernel
theorem dX2_copyFrom_8 : decode cX2_copyFrom 8 = .ok (.aload_n 0, 1) := by decide +kernel
theorem dX2_copyFrom_9 : decode cX2_copyFrom 9 = .ok (.aload_n 1, 1) := by decide +kernel
theorem dX2_copyFrom_10 : decode cX2_copyFrom 10 = .ok (.getfield 24, 3) := by decide +kernel
theorem dX2_copyFrom_13 : decode cX2_copyFrom 13 = .ok (.putfield 24, 3) := by decide +kernel
theorem dX2_copyFrom_16 : decode cX2_copyFrom 16 = .ok (.iconst 0, 1) := by decide +kernel
theorem dX2_copyFrom_17 : decode cX2_copyFrom 17 = .ok (.istore_n 2, 1) := by decide +kernel
theorem dX2_copyFrom_18 : decode cX2_copyFrom 18 = .ok (.iload_n 2, 1) := by decide +kernel
theorem dX2_copyFrom_19 : decode cX2_copyFrom 19 = .ok (.iconst 4, 1) := by decide +kernel
theorem dX2_copyFrom_20 : decode cX2_copyFrom 20 = .ok (.if_icmp .ge 50, 3) := by decide +kernel
theorem dX2_copyFrom_23 : decode cX2_copyFrom 23 = .ok (.aload_n 0, 1) := by decide +kernel
theorem dX2_copyFrom_24 : decode cX2_copyFrom 24 = .ok (.getfield 9, 3) := by decide +kernel
theorem dX2_copyFrom_27 : decode cX2_copyFrom 27 = .ok (.iload_n 2, 1) := by decide +kernel
theorem dX2_copyFrom_28 : decode cX2_copyFrom 28 = .ok (.aload_n 1, 1) := by decide +kernel
theorem dX2_copyFrom_29 : decode cX2_copyFrom 29 = .ok (.getfield 9, 3) := by decide +kernel
theorem dX2_copyFrom_32 : decode cX2_copyFrom 32 = .ok (.iload_n 2, 1) := by decide +kernel
theorem dX2_copyFrom_33 : decode cX2_copyFrom 33 = .ok (.iaload, 1) := by decide +kernel
theorem dX2_copyFrom_34 : decode cX2_copyFrom 34 = .ok (.iastore, 1) := by decide +kernel
theorem dX2_copyFrom_35 : decode cX2_copyFrom 35 = .ok (.iconst 0, 1) := by decide +kernel
theorem dX2_copyFrom_36 : decode cX2_copyFrom 36 = .ok (.istore_n 3, 1) := by decide +kernel
theorem dX2_copyFrom_37 : decode cX2_copyFrom 37 = .ok (.iload_n 3, 1) := by decide +kernel
theorem dX2_copyFrom_38 : decode cX2_copyFrom 38 = .ok (.iconst 4, 1) := by decide +kernel
theorem dX2_copyFrom_39 : decode cX2_copyFrom 39 = .ok (.if_icmp .ge 25, 3) := by decide +kernel
theorem dX2_copyFrom_42 : decode cX2_copyFrom 42 = .ok (.aload_n 0, 1) := by decide +kernel
theorem dX2_copyFrom_43 : decode cX2_copyFrom 43 = .ok (.getfield 17, 3) := by decide +kernel
theorem dX2_copyFrom_46 : decode cX2_copyFrom 46 = .ok (.iload_n 2, 1) := by decide +kernel
theorem dX2_copyFrom_47 : decode cX2_copyFrom 47 = .ok (.aaload, 1) := by decide +kernel
theorem dX2_copyFrom_48 : decode cX2_copyFrom 48 = .ok (.iload_n 3, 1) := by decide +kernel
theorem dX2_copyFrom_49 : decode cX2_copyFrom 49 = .ok (.aload_n 1, 1) := by decide +kernel
theorem dX2_copyFrom_50 : decode cX2_copyFrom 50 = .ok (.getfield 17, 3) := by decide +kernel
theorem dX2_copyFrom_53 : decode cX2_copyFrom 53 = .ok (.iload_n 2, 1) := by decide +kernel
theorem dX2_copyFrom_54 : decode cX2_copyFrom 54 = .ok (.aaload, 1) := by decide +kernel
theorem dX2_copyFrom_55 : decode cX2_copyFrom 55 = .ok (.iload_n 3, 1) := by decide +kernel
theorem dX2_copyFrom_56 : decode cX2_copyFrom 56 = .ok (.iaload, 1) := by decide +kernel
theorem dX2_copyFrom_57 : decode cX2_copyFrom 57 = .ok (.iastore, 1) := by decide +kernel
theorem dX2_copyFrom_58 : decode cX2_copyFrom 58 = .ok (.iinc 3 1, 3) := by decide +kernel
theorem dX2_copyFrom_61 : decode cX2_copyFrom 61 = .ok (.goto (-24), 3) := by decide +kernel
theorem dX2_copyFrom_64 : decode cX2_copyFrom 64 = .ok (.iinc 2 1, 3) := by decide +kernel
theorem dX2_copyFrom_67 : decode cX2_copyFrom 67 = .ok (.goto (-49), 3) := by decide +kernel
theorem dX2_copyFrom_70 : decode cX2_copyFrom 70 = .ok (.return_, 1) := by decide +kernel
theorem dX2_knows_0 : decode cX2_knows 0 = .ok (.iload_n 1, 1) := by decide +kernel
theorem dX2_knows_1 : decode cX2_knows 1 = .ok (.ifCond .lt 15, 3) := by decide +kernel
theorem dX2_knows_4 : decode cX2_knows 4 = .ok (.iload_n 1, 1) := by decide +kernel
theorem dX2_knows_5 : decode cX2_knows 5 = .ok (.aload_n 0, 1) := by decide +kernel
theorem dX2_knows_6 : decode cX2_knows 6 = .ok (.getfield 20, 3) := by decide +kernel
theorem dX2_knows_9 : decode cX2_knows 9 = .ok (.if_icmp .ge 7, 3) := by decide +kernel
theorem dX2_knows_12 : decode cX2_knows 12 = .ok (.iconst 1, 1) := by decide +kernel
theorem dX2_knows_13 : decode cX2_knows 13 = .ok (.goto 4, 3) := by decide +kernel
theorem dX2_knows_16 : decode cX2_knows 16 = .ok (.iconst 0, 1) := by decide +kernel
theorem dX2_knows_17 : decode cX2_knows 17 = .ok (.ireturn, 1) := by decide +kernel
set_option maxRecDepth 20000 in
theorem ggX2_knowsCouple_X2_knows : GoodIn wsX2_knowsCouple wsX2_knows := goodIn_r _ [5, 6, 7, 8, 9, 10, 11] (by decide +kernel) (by decide +kernel)
set_option maxRecDepth 20000 in
theorem gX2_knowsCouple_X2_knows : GoodIn wsX2_knowsCouple (wsV RX2 31 RX2 yX2_knows wsX2_knows) := goodIn_app (goodIn_of _ (by decide +kernel)) ggX2_knowsCouple_X2_knows
theorem dX2_knowsCouple_0 : decode cX2_knowsCouple 0 = .ok (.aload_n 0, 1) := by decide +kernel
theorem dX2_knowsCouple_1 : decode cX2_knowsCouple 1 = .ok (.iload_n 1, 1) := by decide +kernel
theorem dX2_knowsCouple_2 : decode cX2_knowsCouple 2 = .ok (.invokevirtual 31, 3) := by decide +kernel
theorem dX2_knowsCouple_5 : decode cX2_knowsCouple 5 = .ok (.ifCond .eq 20, 3) := by decide +kernel
theorem dX2_knowsCouple_8 : decode cX2_knowsCouple 8 = .ok (.aload_n 0, 1) := by decide +kernel
theorem dX2_knowsCouple_9 : decode cX2_knowsCouple 9 = .ok (.iload_n 2, 1) := by decide +kernel
theorem dX2_knowsCouple_10 : decode cX2_knowsCouple 10 = .ok (.invokevirtual 31, 3) := by decide +kernel
theorem dX2_knowsCouple_13 : decode cX2_knowsCouple 13 = .ok (.ifCond .eq 12, 3) := by decide +kernel
theorem dX2_knowsCouple_16 : decode cX2_knowsCouple 16 = .ok (.iload_n 1, 1) := by decide +kernel
theorem dX2_knowsCouple_17 : decode cX2_knowsCouple 17 = .ok (.iload_n 2, 1) := by decide +kernel
theorem dX2_knowsCouple_18 : decode cX2_knowsCouple 18 = .ok (.if_icmp .eq 7, 3) := by decide +kernel
theorem dX2_knowsCouple_21 : decode cX2_knowsCouple 21 = .ok (.iconst 1, 1) := by decide +kernel
theorem dX2_knowsCouple_22 : decode cX2_knowsCouple 22 = .ok (.goto 4, 3) := by decide +kernel
theorem dX2_knowsCouple_25 : decode cX2_knowsCouple 25 = .ok (.iconst 0, 1) := by decide +kernel
theorem dX2_knowsCouple_26 : decode cX2_knowsCouple 26 = .ok (.ireturn, 1) := by decide +kernel
set_option maxRecDepth 20000 in
theorem ggX2_askedBy_X1_asks : GoodIn wsX2_askedBy wsX1_asks := goodIn_r _ [8] (by decide +kernel) (by decide +kernel)
set_option maxRecDepth 20000 in
theorem gX2_askedBy_X1_asks_u35X0 : GoodIn wsX2_askedBy (va_wsU RX2 35 RX0 "CowsOwed$Clan" ⟨"CowsOwed$Clan", "asks", "(I)I"⟩ yX1_asks wsX1_asks) := goodIn_app (goodIn_of _ (by decide +kernel)) ggX2_askedBy_X1_asks
set_option maxRecDepth 20000 in
theorem gX2_askedBy_X1_asks : GoodIn wsX2_askedBy (wsV RX2 35 RX1 yX1_asks wsX1_asks) := goodIn_app (goodIn_of _ (by decide +kernel)) ggX2_askedBy_X1_asks
set_option maxRecDepth 20000 in
theorem ggX2_askedBy_X3_asks : GoodIn wsX2_askedBy wsX3_asks := goodIn_r _ [15, 16, 17, 18, 19, 20, 21] (by decide +kernel) (by decide +kernel)
set_option maxRecDepth 20000 in
theorem gX2_askedBy_X3_asks_u35X3 : GoodIn wsX2_askedBy (va_wsO RX2 35 RX3 "CowsOwed$Clan" ⟨"CowsOwed$Clan", "asks", "(I)I"⟩ yX3_asks wsX3_asks) := goodIn_app (goodIn_of _ (by decide +kernel)) ggX2_askedBy_X3_asks
set_option maxRecDepth 20000 in
theorem ggX2_askedBy_X6_asks : GoodIn wsX2_askedBy wsX6_asks := goodIn_r _ [25, 26, 27, 28, 29] (by decide +kernel) (by decide +kernel)
set_option maxRecDepth 20000 in
theorem gX2_askedBy_X6_asks_u35X6 : GoodIn wsX2_askedBy (va_wsO RX2 35 RX6 "CowsOwed$Clan" ⟨"CowsOwed$Clan", "asks", "(I)I"⟩ yX6_asks wsX6_asks) := goodIn_app (goodIn_of _ (by decide +kernel)) ggX2_askedBy_X6_asks
set_option maxRecDepth 20000 in
theorem ggX2_askedBy_X7_asks : GoodIn wsX2_askedBy wsX7_asks := goodIn_r _ [21] (by decide +kernel) (by decide +kernel)
set_option maxRecDepth 20000 in
theorem gX2_askedBy_X7_asks_u35X7 : GoodIn wsX2_askedBy (va_wsO RX2 35 RX7 "CowsOwed$Clan" ⟨"CowsOwed$Clan", "asks", "(I)I"⟩ yX7_asks wsX7_asks) := goodIn_app (goodIn_of _ (by decide +kernel)) ggX2_askedBy_X7_asks
theorem dX2_askedBy_0 : decode cX2_askedBy 0 = .ok (.aload_n 0, 1) := by decide +kernel
theorem dX2_askedBy_1 : decode cX2_askedBy 1 = .ok (.getfield 27, 3) := by decide +kernel
theorem dX2_askedBy_4 : decode cX2_askedBy 4 = .ok (.iload_n 1, 1) := by decide +kernel
theorem dX2_askedBy_5 : decode cX2_askedBy 5 = .ok (.aaload, 1) := by decide +kernel
theorem dX2_askedBy_6 : decode cX2_askedBy 6 = .ok (.aload_n 0, 1) := by decide +kernel
theorem dX2_askedBy_7 : decode cX2_askedBy 7 = .ok (.getfield 24, 3) := by decide +kernel
theorem dX2_askedBy_10 : decode cX2_askedBy 10 = .ok (.invokevirtual 35, 3) := by decide +kernel
theorem dX2_askedBy_13 : decode cX2_askedBy 13 = .ok (.ireturn, 1) := by decide +kernel
set_option maxRecDepth 20000 in
theorem ggX2_sparedBy_X0_spares : GoodIn wsX2_sparedBy wsX0_spares := goodIn_r _ [9] (by decide +kernel) (by decide +kernel)
set_option maxRecDepth 20000 in
theorem gX2_sparedBy_X0_spares_u41X0 : GoodIn wsX2_sparedBy (va_wsO RX2 41 RX0 "CowsOwed$Clan" ⟨"CowsOwed$Clan", "spares", "(I)I"⟩ yX0_spares wsX0_spares) := goodIn_app (goodIn_of _ (by decide +kernel)) ggX2_sparedBy_X0_spares
set_option maxRecDepth 20000 in
theorem ggX2_sparedBy_X1_spares : GoodIn wsX2_sparedBy wsX1_spares := goodIn_r _ [10] (by decide +kernel) (by decide +kernel)
set_option maxRecDepth 20000 in
theorem gX2_sparedBy_X1_spares : GoodIn wsX2_sparedBy (wsV RX2 41 RX1 yX1_spares wsX1_spares) := goodIn_app (goodIn_of _ (by decide +kernel)) ggX2_sparedBy_X1_spares
set_option maxRecDepth 20000 in
theorem gX2_sparedBy_X1_spares_u41X3 : GoodIn wsX2_sparedBy (va_wsU RX2 41 RX3 "CowsOwed$Clan" ⟨"CowsOwed$Clan", "spares", "(I)I"⟩ yX1_spares wsX1_spares) := goodIn_app (goodIn_of _ (by decide +kernel)) ggX2_sparedBy_X1_spares
set_option maxRecDepth 20000 in
theorem gX2_sparedBy_X1_spares_u41X6 : GoodIn wsX2_sparedBy (va_wsU RX2 41 RX6 "CowsOwed$Clan" ⟨"CowsOwed$Clan", "spares", "(I)I"⟩ yX1_spares wsX1_spares) := goodIn_app (goodIn_of _ (by decide +kernel)) ggX2_sparedBy_X1_spares
set_option maxRecDepth 20000 in
theorem gX2_sparedBy_X1_spares_u41X7 : GoodIn wsX2_sparedBy (va_wsU RX2 41 RX7 "CowsOwed$Clan" ⟨"CowsOwed$Clan", "spares", "(I)I"⟩ yX1_spares wsX1_spares) := goodIn_app (goodIn_of _ (by decide +kernel)) ggX2_sparedBy_X1_spares
theorem dX2_sparedBy_0 : decode cX2_sparedBy 0 = .ok (.aload_n 0, 1) := by decide +kernel
theorem dX2_sparedBy_1 : decode cX2_sparedBy 1 = .ok (.getfield 27, 3) := by decide +kernel
theorem dX2_sparedBy_4 : decode cX2_sparedBy 4 = .ok (.iload_n 1, 1) := by decide +kernel
theorem dX2_sparedBy_5 : decode cX2_sparedBy 5 = .ok (.aaload, 1) := by decide +kernel
theorem dX2_sparedBy_6 : decode cX2_sparedBy 6 = .ok (.aload_n 0, 1) := by decide +kernel
theorem dX2_sparedBy_7 : decode cX2_sparedBy 7 = .ok (.getfield 9, 3) := by decide +kernel
theorem dX2_sparedBy_10 : decode cX2_sparedBy 10 = .ok (.iload_n 1, 1) := by decide +kernel
theorem dX2_sparedBy_11 : decode cX2_sparedBy 11 = .ok (.iaload, 1) := by decide +kernel
theorem dX2_sparedBy_12 : decode cX2_sparedBy 12 = .ok (.invokevirtual 41, 3) := by decide +kernel
theorem dX2_sparedBy_15 : decode cX2_sparedBy 15 = .ok (.ireturn, 1) := by decide +kernel
set_option maxRecDepth 20000 in
theorem ggX2_marry_X1_asks : GoodIn wsX2_marry wsX1_asks := goodIn_r _ [8] (by decide +kernel) (by decide +kernel)
set_option maxRecDepth 20000 in
theorem gX2_marry_X1_asks_u35X0 : GoodIn wsX2_marry (va_wsU RX2 35 RX0 "CowsOwed$Clan" ⟨"CowsOwed$Clan", "asks", "(I)I"⟩ yX1_asks wsX1_asks) := goodIn_app (goodIn_of _ (by decide +kernel)) ggX2_marry_X1_asks
set_option maxRecDepth 20000 in
theorem gX2_marry_X1_asks : GoodIn wsX2_marry (wsV RX2 35 RX1 yX1_asks wsX1_asks) := goodIn_app (goodIn_of _ (by decide +kernel)) ggX2_marry_X1_asks
set_option maxRecDepth 20000 in
theorem ggX2_marry_X3_asks : GoodIn wsX2_marry wsX3_asks := goodIn_r _ [15, 16, 17, 18, 19, 20, 21] (by decide +kernel) (by decide +kernel)
set_option maxRecDepth 20000 in
theorem gX2_marry_X3_asks_u35X3 : GoodIn wsX2_marry (va_wsO RX2 35 RX3 "CowsOwed$Clan" ⟨"CowsOwed$Clan", "asks", "(I)I"⟩ yX3_asks wsX3_asks) := goodIn_app (goodIn_of _ (by decide +kernel)) ggX2_marry_X3_asks
set_option maxRecDepth 20000 in
theorem ggX2_marry_X6_asks : GoodIn wsX2_marry wsX6_asks := goodIn_r _ [25, 26, 27, 28, 29] (by decide +kernel) (by decide +kernel)
set_option maxRecDepth 20000 in
theorem gX2_marry_X6_asks_u35X6 : GoodIn wsX2_marry (va_wsO RX2 35 RX6 "CowsOwed$Clan" ⟨"CowsOwed$Clan", "asks", "(I)I"⟩ yX6_asks wsX6_asks) := goodIn_app (goodIn_of _ (by decide +kernel)) ggX2_marry_X6_asks
set_option maxRecDepth 20000 in
theorem ggX2_marry_X7_asks : GoodIn wsX2_marry wsX7_asks := goodIn_r _ [21] (by decide +kernel) (by decide +kernel)
set_option maxRecDepth 20000 in
theorem gX2_marry_X7_asks_u35X7 : GoodIn wsX2_marry (va_wsO RX2 35 RX7 "CowsOwed$Clan" ⟨"CowsOwed$Clan", "asks", "(I)I"⟩ yX7_asks wsX7_asks) := goodIn_app (goodIn_of _ (by decide +kernel)) ggX2_marry_X7_asks
set_option maxRecDepth 20000 in
theorem ggX2_marry_X2_pay : GoodIn wsX2_marry wsX2_pay := goodIn_r _ [35, 1, 36, 37, 38, 28, 39, 40, 41, 42, 43, 44, 45, 46, 47, 48, 49, 50, 51, 7, 52, 53, 54, 55, 56, 57, 58, 59] (by decide +kernel) (by decide +kernel)
set_option maxRecDepth 20000 in
theorem gX2_marry_X2_pay : GoodIn wsX2_marry (wsV RX2 44 RX2 yX2_pay wsX2_pay) := goodIn_app (goodIn_of _ (by decide +kernel)) ggX2_marry_X2_pay
theorem dX2_marry_0 : decode cX2_marry 0 = .ok (.aload_n 0, 1) := by decide +kernel
theorem dX2_marry_1 : decode cX2_marry 1 = .ok (.getfield 27, 3) := by decide +kernel
theorem dX2_marry_4 : decode cX2_marry 4 = .ok (.iload_n 2, 1) := by decide +kernel
theorem dX2_marry_5 : decode cX2_marry 5 = .ok (.aaload, 1) := by decide +kernel
theorem dX2_marry_6 : decode cX2_marry 6 = .ok (.aload_n 0, 1) := by decide +kernel
theorem dX2_marry_7 : decode cX2_marry 7 = .ok (.getfield 24, 3) := by decide +kernel
theorem dX2_marry_10 : decode cX2_marry 10 = .ok (.invokevirtual 35, 3) := by decide +kernel
theorem dX2_marry_13 : decode cX2_marry 13 = .ok (.istore_n 3, 1) := by decide +kernel
theorem dX2_marry_14 : decode cX2_marry 14 = .ok (.aload_n 0, 1) := by decide +kernel
theorem dX2_marry_15 : decode cX2_marry 15 = .ok (.iload_n 1, 1) := by decide +kernel
theorem dX2_marry_16 : decode cX2_marry 16 = .ok (.iload_n 2, 1) := by decide +kernel
theorem dX2_marry_17 : decode cX2_marry 17 = .ok (.iload_n 3, 1) := by decide +kernel
theorem dX2_marry_18 : decode cX2_marry 18 = .ok (.invokevirtual 44, 3) := by decide +kernel
theorem dX2_marry_21 : decode cX2_marry 21 = .ok (.pop, 1) := by decide +kernel
theorem dX2_marry_22 : decode cX2_marry 22 = .ok (.iload_n 3, 1) := by decide +kernel
theorem dX2_marry_23 : decode cX2_marry 23 = .ok (.ireturn, 1) := by decide +kernel
set_option maxRecDepth 20000 in
theorem ggX2_pay_X0_spares : GoodIn wsX2_pay wsX0_spares := goodIn_r _ [14] (by decide +kernel) (by decide +kernel)
set_option maxRecDepth 20000 in
theorem gX2_pay_X0_spares_u41X0 : GoodIn wsX2_pay (va_wsO RX2 41 RX0 "CowsOwed$Clan" ⟨"CowsOwed$Clan", "spares", "(I)I"⟩ yX0_spares wsX0_spares) := goodIn_app (goodIn_of _ (by decide +kernel)) ggX2_pay_X0_spares
set_option maxRecDepth 20000 in
theorem ggX2_pay_X1_spares : GoodIn wsX2_pay wsX1_spares := goodIn_r _ [15] (by decide +kernel) (by decide +kernel)
set_option maxRecDepth 20000 in
theorem gX2_pay_X1_spares : GoodIn wsX2_pay (wsV RX2 41 RX1 yX1_spares wsX1_spares) := goodIn_app (goodIn_of _ (by decide +kernel)) ggX2_pay_X1_spares
set_option maxRecDepth 20000 in
theorem gX2_pay_X1_spares_u41X3 : GoodIn wsX2_pay (va_wsU RX2 41 RX3 "CowsOwed$Clan" ⟨"CowsOwed$Clan", "spares", "(I)I"⟩ yX1_spares wsX1_spares) := goodIn_app (goodIn_of _ (by decide +kernel)) ggX2_pay_X1_spares
set_option maxRecDepth 20000 in
theorem gX2_pay_X1_spares_u41X6 : GoodIn wsX2_pay (va_wsU RX2 41 RX6 "CowsOwed$Clan" ⟨"CowsOwed$Clan", "spares", "(I)I"⟩ yX1_spares wsX1_spares) := goodIn_app (goodIn_of _ (by decide +kernel)) ggX2_pay_X1_spares
set_option maxRecDepth 20000 in
theorem gX2_pay_X1_spares_u41X7 : GoodIn wsX2_pay (va_wsU RX2 41 RX7 "CowsOwed$Clan" ⟨"CowsOwed$Clan", "spares", "(I)I"⟩ yX1_spares wsX1_spares) := goodIn_app (goodIn_of _ (by decide +kernel)) ggX2_pay_X1_spares
theorem dX2_pay_0 : decode cX2_pay 0 = .ok (.aload_n 0, 1) := by decide +kernel
theorem dX2_pay_1 : decode cX2_pay 1 = .ok (.getfield 27, 3) := by decide +kernel
theorem dX2_pay_4 : decode cX2_pay 4 = .ok (.iload_n 1, 1) := by decide +kernel
theorem dX2_pay_5 : decode cX2_pay 5 = .ok (.aaload, 1) := by decide +kernel
theorem dX2_pay_6 : decode cX2_pay 6 = .ok (.aload_n 0, 1) := by decide +kernel
theorem dX2_pay_7 : decode cX2_pay 7 = .ok (.getfield 9, 3) := by decide +kernel
theorem dX2_pay_10 : decode cX2_pay 10 = .ok (.iload_n 1, 1) := by decide +kernel
theorem dX2_pay_11 : decode cX2_pay 11 = .ok (.iaload, 1) := by decide +kernel
theorem dX2_pay_12 : decode cX2_pay 12 = .ok (.invokevirtual 41, 3) := by decide +kernel
theorem dX2_pay_15 : decode cX2_pay 15 = .ok (.iload_n 3, 1) := by decide +kernel
theorem dX2_pay_16 : decode cX2_pay 16 = .ok (.invokestatic 48, 3) := by decide +kernel
theorem dX2_pay_19 : decode cX2_pay 19 = .ok (.istore 4, 2) := by decide +kernel
theorem dX2_pay_21 : decode cX2_pay 21 = .ok (.aload_n 0, 1) := by decide +kernel
theorem dX2_pay_22 : decode cX2_pay 22 = .ok (.getfield 9, 3) := by decide +kernel
theorem dX2_pay_25 : decode cX2_pay 25 = .ok (.iload_n 1, 1) := by decide +kernel
theorem dX2_pay_26 : decode cX2_pay 26 = .ok (.dup2, 1) := by decide +kernel
theorem dX2_pay_27 : decode cX2_pay 27 = .ok (.iaload, 1) := by decide +kernel
theorem dX2_pay_28 : decode cX2_pay 28 = .ok (.iload 4, 2) := by decide +kernel
theorem dX2_pay_30 : decode cX2_pay 30 = .ok (.isub, 1) := by decide +kernel
theorem dX2_pay_31 : decode cX2_pay 31 = .ok (.iastore, 1) := by decide +kernel
theorem dX2_pay_32 : decode cX2_pay 32 = .ok (.aload_n 0, 1) := by decide +kernel
theorem dX2_pay_33 : decode cX2_pay 33 = .ok (.getfield 9, 3) := by decide +kernel
theorem dX2_pay_36 : decode cX2_pay 36 = .ok (.iload_n 2, 1) := by decide +kernel
theorem dX2_pay_37 : decode cX2_pay 37 = .ok (.dup2, 1) := by decide +kernel
theorem dX2_pay_38 : decode cX2_pay 38 = .ok (.iaload, 1) := by decide +kernel
theorem dX2_pay_39 : decode cX2_pay 39 = .ok (.iload 4, 2) := by decide +kernel
theorem dX2_pay_41 : decode cX2_pay 41 = .ok (.iadd, 1) := by decide +kernel
theorem dX2_pay_42 : decode cX2_pay 42 = .ok (.iastore, 1) := by decide +kernel
theorem dX2_pay_43 : decode cX2_pay 43 = .ok (.aload_n 0, 1) := by decide +kernel
theorem dX2_pay_44 : decode cX2_pay 44 = .ok (.getfield 17, 3) := by decide +kernel
theorem dX2_pay_47 : decode cX2_pay 47 = .ok (.iload_n 1, 1) := by decide +kernel
theorem dX2_pay_48 : decode cX2_pay 48 = .ok (.aaload, 1) := by decide +kernel
theorem dX2_pay_49 : decode cX2_pay 49 = .ok (.iload_n 2, 1) := by decide +kernel
theorem dX2_pay_50 : decode cX2_pay 50 = .ok (.dup2, 1) := by decide +kernel
theorem dX2_pay_51 : decode cX2_pay 51 = .ok (.iaload, 1) := by decide +kernel
theorem dX2_pay_52 : decode cX2_pay 52 = .ok (.iload_n 3, 1) := by decide +kernel
theorem dX2_pay_53 : decode cX2_pay 53 = .ok (.iload 4, 2) := by decide +kernel
theorem dX2_pay_55 : decode cX2_pay 55 = .ok (.isub, 1) := by decide +kernel
theorem dX2_pay_56 : decode cX2_pay 56 = .ok (.iadd, 1) := by decide +kernel
theorem dX2_pay_57 : decode cX2_pay 57 = .ok (.iastore, 1) := by decide +kernel
theorem dX2_pay_58 : decode cX2_pay 58 = .ok (.iload 4, 2) := by decide +kernel
theorem dX2_pay_60 : decode cX2_pay 60 = .ok (.ireturn, 1) := by decide +kernel
set_option maxRecDepth 20000 in
theorem ggX2_passYear_X2_grown : GoodIn wsX2_passYear wsX2_grown := goodIn_r _ [6, 7, 8, 9, 10, 11, 12, 13] (by decide +kernel) (by decide +kernel)
set_option maxRecDepth 20000 in
theorem gX2_passYear_X2_grown : GoodIn wsX2_passYear (va_wsS RX2 54 yX2_grown wsX2_grown) := goodIn_app (goodIn_of _ (by decide +kernel)) ggX2_passYear_X2_grown
set_option maxRecDepth 20000 in
theorem ggX2_passYear_X2_payDebt : GoodIn wsX2_passYear wsX2_payDebt := goodIn_r _ [17, 18, 19, 20, 21, 5, 22, 23, 2, 7, 8, 9, 10, 24, 25, 26, 27, 28, 29, 30, 31, 32, 33, 34, 35, 36, 37, 38, 39, 40, 41, 42, 43] (by decide +kernel) (by decide +kernel)
set_option maxRecDepth 20000 in
theorem gX2_passYear_X2_payDebt : GoodIn wsX2_passYear (wsV RX2 57 RX2 yX2_payDebt wsX2_payDebt) := goodIn_app (goodIn_of _ (by decide +kernel)) ggX2_passYear_X2_payDebt
theorem dX2_passYear_0 : decode cX2_passYear 0 = .ok (.iconst 0, 1) := by decide +kernel
theorem dX2_passYear_1 : decode cX2_passYear 1 = .ok (.istore_n 1, 1) := by decide +kernel
theorem dX2_passYear_2 : decode cX2_passYear 2 = .ok (.iload_n 1, 1) := by decide +kernel
theorem dX2_passYear_3 : decode cX2_passYear 3 = .ok (.aload_n 0, 1) := by decide +kernel
theorem dX2_passYear_4 : decode cX2_passYear 4 = .ok (.getfield 20, 3) := by decide +kernel
theorem dX2_passYear_7 : decode cX2_passYear 7 = .ok (.if_icmp .ge 24, 3) := by decide +kernel
theorem dX2_passYear_10 : decode cX2_passYear 10 = .ok (.aload_n 0, 1) := by decide +kernel
theorem dX2_passYear_11 : decode cX2_passYear 11 = .ok (.getfield 9, 3) := by decide +kernel
theorem dX2_passYear_14 : decode cX2_passYear 14 = .ok (.iload_n 1, 1) := by decide +kernel
theorem dX2_passYear_15 : decode cX2_passYear 15 = .ok (.aload_n 0, 1) := by decide +kernel
theorem dX2_passYear_16 : decode cX2_passYear 16 = .ok (.getfield 9, 3) := by decide +kernel
theorem dX2_passYear_19 : decode cX2_passYear 19 = .ok (.iload_n 1, 1) := by decide +kernel
theorem dX2_passYear_20 : decode cX2_passYear 20 = .ok (.iaload, 1) := by decide +kernel
theorem dX2_passYear_21 : decode cX2_passYear 21 = .ok (.invokestatic 54, 3) := by decide +kernel
theorem dX2_passYear_24 : decode cX2_passYear 24 = .ok (.iastore, 1) := by decide +kernel
theorem dX2_passYear_25 : decode cX2_passYear 25 = .ok (.iinc 1 1, 3) := by decide +kernel
theorem dX2_passYear_28 : decode cX2_passYear 28 = .ok (.goto (-26), 3) := by decide +kernel
theorem dX2_passYear_31 : decode cX2_passYear 31 = .ok (.iconst 0, 1) := by decide +kernel
theorem dX2_passYear_32 : decode cX2_passYear 32 = .ok (.istore_n 1, 1) := by decide +kernel
theorem dX2_passYear_33 : decode cX2_passYear 33 = .ok (.iload_n 1, 1) := by decide +kernel
theorem dX2_passYear_34 : decode cX2_passYear 34 = .ok (.aload_n 0, 1) := by decide +kernel
theorem dX2_passYear_35 : decode cX2_passYear 35 = .ok (.getfield 20, 3) := by decide +kernel
theorem dX2_passYear_38 : decode cX2_passYear 38 = .ok (.if_icmp .ge 31, 3) := by decide +kernel
theorem dX2_passYear_41 : decode cX2_passYear 41 = .ok (.iconst 0, 1) := by decide +kernel
theorem dX2_passYear_42 : decode cX2_passYear 42 = .ok (.istore_n 2, 1) := by decide +kernel
theorem dX2_passYear_43 : decode cX2_passYear 43 = .ok (.iload_n 2, 1) := by decide +kernel
theorem dX2_passYear_44 : decode cX2_passYear 44 = .ok (.aload_n 0, 1) := by decide +kernel
theorem dX2_passYear_45 : decode cX2_passYear 45 = .ok (.getfield 20, 3) := by decide +kernel
theorem dX2_passYear_48 : decode cX2_passYear 48 = .ok (.if_icmp .ge 15, 3) := by decide +kernel
theorem dX2_passYear_51 : decode cX2_passYear 51 = .ok (.aload_n 0, 1) := by decide +kernel
theorem dX2_passYear_52 : decode cX2_passYear 52 = .ok (.iload_n 1, 1) := by decide +kernel
theorem dX2_passYear_53 : decode cX2_passYear 53 = .ok (.iload_n 2, 1) := by decide +kernel
theorem dX2_passYear_54 : decode cX2_passYear 54 = .ok (.invokevirtual 57, 3) := by decide +kernel
theorem dX2_passYear_57 : decode cX2_passYear 57 = .ok (.iinc 2 1, 3) := by decide +kernel
theorem dX2_passYear_60 : decode cX2_passYear 60 = .ok (.goto (-17), 3) := by decide +kernel
theorem dX2_passYear_63 : decode cX2_passYear 63 = .ok (.iinc 1 1, 3) := by decide +kernel
theorem dX2_passYear_66 : decode cX2_passYear 66 = .ok (.goto (-33), 3) := by decide +kernel
theorem dX2_passYear_69 : decode cX2_passYear 69 = .ok (.return_, 1) := by decide +kernel
set_option maxRecDepth 20000 in
theorem ggX2_payDebt_X2_pay : GoodIn wsX2_payDebt wsX2_pay := goodIn_r _ [6, 7, 8, 9, 10, 11, 12, 1, 13, 14, 15, 16, 17, 18, 19, 20, 21, 22, 23, 24, 25, 26, 27, 28, 29, 30, 31, 32] (by decide +kernel) (by decide +kernel)
set_option maxRecDepth 20000 in
theorem gX2_payDebt_X2_pay : GoodIn wsX2_payDebt (wsV RX2 44 RX2 yX2_pay wsX2_pay) := goodIn_app (goodIn_of _ (by decide +kernel)) ggX2_payDebt_X2_pay
theorem dX2_payDebt_0 : decode cX2_payDebt 0 = .ok (.aload_n 0, 1) := by decide +kernel
theorem dX2_payDebt_1 : decode cX2_payDebt 1 = .ok (.getfield 17, 3) := by decide +kernel
theorem dX2_payDebt_4 : decode cX2_payDebt 4 = .ok (.iload_n 1, 1) := by decide +kernel
theorem dX2_payDebt_5 : decode cX2_payDebt 5 = .ok (.aaload, 1) := by decide +kernel
theorem dX2_payDebt_6 : decode cX2_payDebt 6 = .ok (.iload_n 2, 1) := by decide +kernel
theorem dX2_payDebt_7 : decode cX2_payDebt 7 = .ok (.iaload, 1) := by decide +kernel
theorem dX2_payDebt_8 : decode cX2_payDebt 8 = .ok (.istore_n 3, 1) := by decide +kernel
theorem dX2_payDebt_9 : decode cX2_payDebt 9 = .ok (.aload_n 0, 1) := by decide +kernel
theorem dX2_payDebt_10 : decode cX2_payDebt 10 = .ok (.getfield 17, 3) := by decide +kernel
theorem dX2_payDebt_13 : decode cX2_payDebt 13 = .ok (.iload_n 1, 1) := by decide +kernel
theorem dX2_payDebt_14 : decode cX2_payDebt 14 = .ok (.aaload, 1) := by decide +kernel
theorem dX2_payDebt_15 : decode cX2_payDebt 15 = .ok (.iload_n 2, 1) := by decide +kernel
theorem dX2_payDebt_16 : decode cX2_payDebt 16 = .ok (.iconst 0, 1) := by decide +kernel
theorem dX2_payDebt_17 : decode cX2_payDebt 17 = .ok (.iastore, 1) := by decide +kernel
theorem dX2_payDebt_18 : decode cX2_payDebt 18 = .ok (.aload_n 0, 1) := by decide +kernel
theorem dX2_payDebt_19 : decode cX2_payDebt 19 = .ok (.iload_n 1, 1) := by decide +kernel
theorem dX2_payDebt_20 : decode cX2_payDebt 20 = .ok (.iload_n 2, 1) := by decide +kernel
theorem dX2_payDebt_21 : decode cX2_payDebt 21 = .ok (.iload_n 3, 1) := by decide +kernel
theorem dX2_payDebt_22 : decode cX2_payDebt 22 = .ok (.invokevirtual 44, 3) := by decide +kernel
theorem dX2_payDebt_25 : decode cX2_payDebt 25 = .ok (.pop, 1) := by decide +kernel
theorem dX2_payDebt_26 : decode cX2_payDebt 26 = .ok (.return_, 1) := by decide +kernel
theorem dX2_grown_0 : decode cX2_grown 0 = .ok (.iload_n 0, 1) := by decide +kernel
theorem dX2_grown_1 : decode cX2_grown 1 = .ok (.bipush 99, 2) := by decide +kernel
theorem dX2_grown_3 : decode cX2_grown 3 = .ok (.iload_n 0, 1) := by decide +kernel
theorem dX2_grown_4 : decode cX2_grown 4 = .ok (.iload_n 0, 1) := by decide +kernel
theorem dX2_grown_5 : decode cX2_grown 5 = .ok (.iconst 2, 1) := by decide +kernel
theorem dX2_grown_6 : decode cX2_grown 6 = .ok (.idiv, 1) := by decide +kernel
theorem dX2_grown_7 : decode cX2_grown 7 = .ok (.iadd, 1) := by decide +kernel
theorem dX2_grown_8 : decode cX2_grown 8 = .ok (.invokestatic 48, 3) := by decide +kernel
theorem dX2_grown_11 : decode cX2_grown 11 = .ok (.invokestatic 61, 3) := by decide +kernel
theorem dX2_grown_14 : decode cX2_grown 14 = .ok (.ireturn, 1) := by decide +kernel
theorem dX2_owedBy_0 : decode cX2_owedBy 0 = .ok (.iconst 0, 1) := by decide +kernel
theorem dX2_owedBy_1 : decode cX2_owedBy 1 = .ok (.istore_n 2, 1) := by decide +kernel
theorem dX2_owedBy_2 : decode cX2_owedBy 2 = .ok (.iconst 0, 1) := by decide +kernel
theorem dX2_owedBy_3 : decode cX2_owedBy 3 = .ok (.istore_n 3, 1) := by decide +kernel
theorem dX2_owedBy_4 : decode cX2_owedBy 4 = .ok (.iload_n 3, 1) := by decide +kernel
theorem dX2_owedBy_5 : decode cX2_owedBy 5 = .ok (.aload_n 0, 1) := by decide +kernel
theorem dX2_owedBy_6 : decode cX2_owedBy 6 = .ok (.getfield 20, 3) := by decide +kernel
theorem dX2_owedBy_9 : decode cX2_owedBy 9 = .ok (.if_icmp .ge 20, 3) := by decide +kernel
theorem dX2_owedBy_12 : decode cX2_owedBy 12 = .ok (.iload_n 2, 1) := by decide +kernel
theorem dX2_owedBy_13 : decode cX2_owedBy 13 = .ok (.aload_n 0, 1) := by decide +kernel
theorem dX2_owedBy_14 : decode cX2_owedBy 14 = .ok (.getfield 17, 3) := by decide +kernel
theorem dX2_owedBy_17 : decode cX2_owedBy 17 = .ok (.iload_n 1, 1) := by decide +kernel
theorem dX2_owedBy_18 : decode cX2_owedBy 18 = .ok (.aaload, 1) := by decide +kernel
theorem dX2_owedBy_19 : decode cX2_owedBy 19 = .ok (.iload_n 3, 1) := by decide +kernel
theorem dX2_owedBy_20 : decode cX2_owedBy 20 = .ok (.iaload, 1) := by decide +kernel
theorem dX2_owedBy_21 : decode cX2_owedBy 21 = .ok (.iadd, 1) := by decide +kernel
theorem dX2_owedBy_22 : decode cX2_owedBy 22 = .ok (.istore_n 2, 1) := by decide +kernel
theorem dX2_owedBy_23 : decode cX2_owedBy 23 = .ok (.iinc 3 1, 3) := by decide +kernel
theorem dX2_owedBy_26 : decode cX2_owedBy 26 = .ok (.goto (-22), 3) := by decide +kernel
theorem dX2_owedBy_29 : decode cX2_owedBy 29 = .ok (.iload_n 2, 1) := by decide +kernel
theorem dX2_owedBy_30 : decode cX2_owedBy 30 = .ok (.ireturn, 1) := by decide +kernel
theorem dX2_owedTo_0 : decode cX2_owedTo 0 = .ok (.iconst 0, 1) := by decide +kernel
theorem dX2_owedTo_1 : decode cX2_owedTo 1 = .ok (.istore_n 2, 1) := by decide +kernel
theorem dX2_owedTo_2 : decode cX2_owedTo 2 = .ok (.iconst 0, 1) := by decide +kernel
theorem dX2_owedTo_3 : decode cX2_owedTo 3 = .ok (.istore_n 3, 1) := by decide +kernel
theorem dX2_owedTo_4 : decode cX2_owedTo 4 = .ok (.iload_n 3, 1) := by decide +kernel
theorem dX2_owedTo_5 : decode cX2_owedTo 5 = .ok (.aload_n 0, 1) := by decide +kernel
theorem dX2_owedTo_6 : decode cX2_owedTo 6 = .ok (.getfield 20, 3) := by decide +kernel
theorem dX2_owedTo_9 : decode cX2_owedTo 9 = .ok (.if_icmp .ge 20, 3) := by decide +kernel
theorem dX2_owedTo_12 : decode cX2_owedTo 12 = .ok (.iload_n 2, 1) := by decide +kernel
theorem dX2_owedTo_13 : decode cX2_owedTo 13 = .ok (.aload_n 0, 1) := by decide +kernel
theorem dX2_owedTo_14 : decode cX2_owedTo 14 = .ok (.getfield 17, 3) := by decide +kernel
theorem dX2_owedTo_17 : decode cX2_owedTo 17 = .ok (.iload_n 3, 1) := by decide +kernel
theorem dX2_owedTo_18 : decode cX2_owedTo 18 = .ok (.aaload, 1) := by decide +kernel
theorem dX2_owedTo_19 : decode cX2_owedTo 19 = .ok (.iload_n 1, 1) := by decide +kernel
theorem dX2_owedTo_20 : decode cX2_owedTo 20 = .ok (.iaload, 1) := by decide +kernel
theorem dX2_owedTo_21 : decode cX2_owedTo 21 = .ok (.iadd, 1) := by decide +kernel
theorem dX2_owedTo_22 : decode cX2_owedTo 22 = .ok (.istore_n 2, 1) := by decide +kernel
theorem dX2_owedTo_23 : decode cX2_owedTo 23 = .ok (.iinc 3 1, 3) := by decide +kernel
theorem dX2_owedTo_26 : decode cX2_owedTo 26 = .ok (.goto (-22), 3) := by decide +kernel
theorem dX2_owedTo_29 : decode cX2_owedTo 29 = .ok (.iload_n 2, 1) := by decide +kernel
theorem dX2_owedTo_30 : decode cX2_owedTo 30 = .ok (.ireturn, 1) := by decide +kernel
set_option maxRecDepth 20000 in
theorem ggX2_allOwed_X2_owedBy : GoodIn wsX2_allOwed wsX2_owedBy := goodIn_r _ [6, 1, 7, 8, 9, 10, 11, 12] (by decide +kernel) (by decide +kernel)
set_option maxRecDepth 20000 in
theorem gX2_allOwed_X2_owedBy : GoodIn wsX2_allOwed (wsV RX2 64 RX2 yX2_owedBy wsX2_owedBy) := goodIn_app (goodIn_of _ (by decide +kernel)) ggX2_allOwed_X2_owedBy
theorem dX2_allOwed_0 : decode cX2_allOwed 0 = .ok (.iconst 0, 1) := by decide +kernel
theorem dX2_allOwed_1 : decode cX2_allOwed 1 = .ok (.istore_n 1, 1) := by decide +kernel
theorem dX2_allOwed_2 : decode cX2_allOwed 2 = .ok (.iconst 0, 1) := by decide +kernel
theorem dX2_allOwed_3 : decode cX2_allOwed 3 = .ok (.istore_n 2, 1) := by decide +kernel
theorem dX2_allOwed_4 : decode cX2_allOwed 4 = .ok (.iload_n 2, 1) := by decide +kernel
theorem dX2_allOwed_5 : decode cX2_allOwed 5 = .ok (.aload_n 0, 1) := by decide +kernel
theorem dX2_allOwed_6 : decode cX2_allOwed 6 = .ok (.getfield 20, 3) := by decide +kernel
theorem dX2_allOwed_9 : decode cX2_allOwed 9 = .ok (.if_icmp .ge 17, 3) := by decide +kernel
theorem dX2_allOwed_12 : decode cX2_allOwed 12 = .ok (.iload_n 1, 1) := by decide +kernel
theorem dX2_allOwed_13 : decode cX2_allOwed 13 = .ok (.aload_n 0, 1) := by decide +kernel
theorem dX2_allOwed_14 : decode cX2_allOwed 14 = .ok (.iload_n 2, 1) := by decide +kernel
theorem dX2_allOwed_15 : decode cX2_allOwed 15 = .ok (.invokevirtual 64, 3) := by decide +kernel
theorem dX2_allOwed_18 : decode cX2_allOwed 18 = .ok (.iadd, 1) := by decide +kernel
theorem dX2_allOwed_19 : decode cX2_allOwed 19 = .ok (.istore_n 1, 1) := by decide +kernel
theorem dX2_allOwed_20 : decode cX2_allOwed 20 = .ok (.iinc 2 1, 3) := by decide +kernel
theorem dX2_allOwed_23 : decode cX2_allOwed 23 = .ok (.goto (-19), 3) := by decide +kernel
theorem dX2_allOwed_26 : decode cX2_allOwed 26 = .ok (.iload_n 1, 1) := by decide +kernel
theorem dX2_allOwed_27 : decode cX2_allOwed 27 = .ok (.ireturn, 1) := by decide +kernel
theorem dX2_allCows_0 : decode cX2_allCows 0 = .ok (.iconst 0, 1) := by decide +kernel
theorem dX2_allCows_1 : decode cX2_allCows 1 = .ok (.istore_n 1, 1) := by decide +kernel
theorem dX2_allCows_2 : decode cX2_allCows 2 = .ok (.iconst 0, 1) := by decide +kernel
theorem dX2_allCows_3 : decode cX2_allCows 3 = .ok (.istore_n 2, 1) := by decide +kernel
theorem dX2_allCows_4 : decode cX2_allCows 4 = .ok (.iload_n 2, 1) := by decide +kernel
theorem dX2_allCows_5 : decode cX2_allCows 5 = .ok (.aload_n 0, 1) := by decide +kernel
theorem dX2_allCows_6 : decode cX2_allCows 6 = .ok (.getfield 20, 3) := by decide +kernel
theorem dX2_allCows_9 : decode cX2_allCows 9 = .ok (.if_icmp .ge 18, 3) := by decide +kernel
theorem dX2_allCows_12 : decode cX2_allCows 12 = .ok (.iload_n 1, 1) := by decide +kernel
theorem dX2_allCows_13 : decode cX2_allCows 13 = .ok (.aload_n 0, 1) := by decide +kernel
theorem dX2_allCows_14 : decode cX2_allCows 14 = .ok (.getfield 9, 3) := by decide +kernel
theorem dX2_allCows_17 : decode cX2_allCows 17 = .ok (.iload_n 2, 1) := by decide +kernel
theorem dX2_allCows_18 : decode cX2_allCows 18 = .ok (.iaload, 1) := by decide +kernel
theorem dX2_allCows_19 : decode cX2_allCows 19 = .ok (.iadd, 1) := by decide +kernel
theorem dX2_allCows_20 : decode cX2_allCows 20 = .ok (.istore_n 1, 1) := by decide +kernel
theorem dX2_allCows_21 : decode cX2_allCows 21 = .ok (.iinc 2 1, 3) := by decide +kernel
theorem dX2_allCows_24 : decode cX2_allCows 24 = .ok (.goto (-20), 3) := by decide +kernel
theorem dX2_allCows_27 : decode cX2_allCows 27 = .ok (.iload_n 1, 1) := by decide +kernel
theorem dX2_allCows_28 : decode cX2_allCows 28 = .ok (.ireturn, 1) := by decide +kernel
set_option maxRecDepth 20000 in
theorem ggX2_leastLed_X2_owedTo : GoodIn wsX2_leastLed wsX2_owedTo := goodIn_r _ [10, 1, 11, 16, 17, 18, 19, 20] (by decide +kernel) (by decide +kernel)
set_option maxRecDepth 20000 in
theorem gX2_leastLed_X2_owedTo : GoodIn wsX2_leastLed (wsV RX2 67 RX2 yX2_owedTo wsX2_owedTo) := goodIn_app (goodIn_of _ (by decide +kernel)) ggX2_leastLed_X2_owedTo
set_option maxRecDepth 20000 in
theorem ggX2_leastLed_X2_owedBy : GoodIn wsX2_leastLed wsX2_owedBy := goodIn_r _ [15, 1, 11, 16, 17, 18, 19, 20] (by decide +kernel) (by decide +kernel)
set_option maxRecDepth 20000 in
theorem gX2_leastLed_X2_owedBy : GoodIn wsX2_leastLed (wsV RX2 64 RX2 yX2_owedBy wsX2_owedBy) := goodIn_app (goodIn_of _ (by decide +kernel)) ggX2_leastLed_X2_owedBy
theorem dX2_leastLed_0 : decode cX2_leastLed 0 = .ok (.iconst 0, 1) := by decide +kernel
theorem dX2_leastLed_1 : decode cX2_leastLed 1 = .ok (.istore_n 1, 1) := by decide +kernel
theorem dX2_leastLed_2 : decode cX2_leastLed 2 = .ok (.iconst 0, 1) := by decide +kernel
theorem dX2_leastLed_3 : decode cX2_leastLed 3 = .ok (.istore_n 2, 1) := by decide +kernel
theorem dX2_leastLed_4 : decode cX2_leastLed 4 = .ok (.iload_n 2, 1) := by decide +kernel
theorem dX2_leastLed_5 : decode cX2_leastLed 5 = .ok (.aload_n 0, 1) := by decide +kernel
theorem dX2_leastLed_6 : decode cX2_leastLed 6 = .ok (.getfield 20, 3) := by decide +kernel
theorem dX2_leastLed_9 : decode cX2_leastLed 9 = .ok (.if_icmp .ge 27, 3) := by decide +kernel
theorem dX2_leastLed_12 : decode cX2_leastLed 12 = .ok (.iload_n 1, 1) := by decide +kernel
theorem dX2_leastLed_13 : decode cX2_leastLed 13 = .ok (.iconst 0, 1) := by decide +kernel
theorem dX2_leastLed_14 : decode cX2_leastLed 14 = .ok (.aload_n 0, 1) := by decide +kernel
theorem dX2_leastLed_15 : decode cX2_leastLed 15 = .ok (.iload_n 2, 1) := by decide +kernel
theorem dX2_leastLed_16 : decode cX2_leastLed 16 = .ok (.invokevirtual 67, 3) := by decide +kernel
theorem dX2_leastLed_19 : decode cX2_leastLed 19 = .ok (.aload_n 0, 1) := by decide +kernel
theorem dX2_leastLed_20 : decode cX2_leastLed 20 = .ok (.iload_n 2, 1) := by decide +kernel
theorem dX2_leastLed_21 : decode cX2_leastLed 21 = .ok (.invokevirtual 64, 3) := by decide +kernel
theorem dX2_leastLed_24 : decode cX2_leastLed 24 = .ok (.isub, 1) := by decide +kernel
theorem dX2_leastLed_25 : decode cX2_leastLed 25 = .ok (.invokestatic 61, 3) := by decide +kernel
theorem dX2_leastLed_28 : decode cX2_leastLed 28 = .ok (.iadd, 1) := by decide +kernel
theorem dX2_leastLed_29 : decode cX2_leastLed 29 = .ok (.istore_n 1, 1) := by decide +kernel
theorem dX2_leastLed_30 : decode cX2_leastLed 30 = .ok (.iinc 2 1, 3) := by decide +kernel
theorem dX2_leastLed_33 : decode cX2_leastLed 33 = .ok (.goto (-29), 3) := by decide +kernel
theorem dX2_leastLed_36 : decode cX2_leastLed 36 = .ok (.iload_n 1, 1) := by decide +kernel
theorem dX2_leastLed_37 : decode cX2_leastLed 37 = .ok (.ireturn, 1) := by decide +kernel
set_option maxRecDepth 20000 in
theorem ggX2_live_X2_nextSeed : GoodIn wsX2_live wsX2_nextSeed := goodIn_r _ [4, 5, 6, 7] (by decide +kernel) (by decide +kernel)
set_option maxRecDepth 20000 in
theorem gX2_live_X2_nextSeed : GoodIn wsX2_live (va_wsS RX2 70 yX2_nextSeed wsX2_nextSeed) := goodIn_app (goodIn_of _ (by decide +kernel)) ggX2_live_X2_nextSeed
set_option maxRecDepth 20000 in
theorem ggX2_live_X2_drawn : GoodIn wsX2_live wsX2_drawn := goodIn_r _ [11, 12, 13, 91, 92, 93, 94, 95] (by decide +kernel) (by decide +kernel)
set_option maxRecDepth 20000 in
theorem gX2_live_X2_drawn : GoodIn wsX2_live (wsV RX2 73 RX2 yX2_drawn wsX2_drawn) := goodIn_app (goodIn_of _ (by decide +kernel)) ggX2_live_X2_drawn
set_option maxRecDepth 20000 in
theorem ggX2_live_X2_knowsCouple : GoodIn wsX2_live wsX2_knowsCouple := goodIn_r _ [17, 18, 19, 20, 3, 21, 12, 91, 92, 93, 94, 95] (by decide +kernel) (by decide +kernel)
set_option maxRecDepth 20000 in
theorem gX2_live_X2_knowsCouple : GoodIn wsX2_live (wsV RX2 76 RX2 yX2_knowsCouple wsX2_knowsCouple) := goodIn_app (goodIn_of _ (by decide +kernel)) ggX2_live_X2_knowsCouple
set_option maxRecDepth 20000 in
theorem ggX2_live_X2_marry : GoodIn wsX2_live wsX2_marry := goodIn_r _ [25, 26, 27, 28, 29, 30, 31, 32, 33, 34, 35, 36, 37, 38, 39, 40, 41, 42, 43, 44, 45, 46, 47, 48, 49, 50, 51, 52, 53, 54, 55, 56, 57, 58, 3, 59, 60, 61, 62, 63, 64, 65, 66, 67, 68, 69, 70, 71, 72, 73, 74, 75, 76, 77, 78, 91, 92, 93, 94, 95] (by decide +kernel) (by decide +kernel)
set_option maxRecDepth 20000 in
theorem gX2_live_X2_marry : GoodIn wsX2_live (wsV RX2 80 RX2 yX2_marry wsX2_marry) := goodIn_app (goodIn_of _ (by decide +kernel)) ggX2_live_X2_marry
set_option maxRecDepth 20000 in
theorem ggX2_live_X2_passYear : GoodIn wsX2_live wsX2_passYear := goodIn_r _ [82, 12, 60, 83, 84, 3, 85, 61, 62, 53, 63, 86, 52, 54, 87, 88, 89, 90, 64, 56, 57, 58, 59, 26, 65, 66, 67, 68, 69, 70, 71, 72, 73, 74, 75, 32, 76, 77, 78, 91, 92, 93, 94, 95] (by decide +kernel) (by decide +kernel)
set_option maxRecDepth 20000 in
theorem gX2_live_X2_passYear : GoodIn wsX2_live (wsV RX2 83 RX2 yX2_passYear wsX2_passYear) := goodIn_app (goodIn_of _ (by decide +kernel)) ggX2_live_X2_passYear
theorem dX2_live_0 : decode cX2_live 0 = .ok (.iload_n 2, 1) := by decide +kernel
theorem dX2_live_1 : decode cX2_live 1 = .ok (.istore_n 3, 1) := by decide +kernel
theorem dX2_live_2 : decode cX2_live 2 = .ok (.iconst 0, 1) := by decide +kernel
theorem dX2_live_3 : decode cX2_live 3 = .ok (.istore 4, 2) := by decide +kernel
theorem dX2_live_5 : decode cX2_live 5 = .ok (.iload 4, 2) := by decide +kernel
theorem dX2_live_7 : decode cX2_live 7 = .ok (.iload_n 1, 1) := by decide +kernel
theorem dX2_live_8 : decode cX2_live 8 = .ok (.if_icmp .ge 57, 3) := by decide +kernel
theorem dX2_live_11 : decode cX2_live 11 = .ok (.iload_n 3, 1) := by decide +kernel
theorem dX2_live_12 : decode cX2_live 12 = .ok (.invokestatic 70, 3) := by decide +kernel
theorem dX2_live_15 : decode cX2_live 15 = .ok (.istore_n 3, 1) := by decide +kernel
theorem dX2_live_16 : decode cX2_live 16 = .ok (.aload_n 0, 1) := by decide +kernel
theorem dX2_live_17 : decode cX2_live 17 = .ok (.iload_n 3, 1) := by decide +kernel
theorem dX2_live_18 : decode cX2_live 18 = .ok (.invokevirtual 73, 3) := by decide +kernel
theorem dX2_live_21 : decode cX2_live 21 = .ok (.istore 5, 2) := by decide +kernel
theorem dX2_live_23 : decode cX2_live 23 = .ok (.iload_n 3, 1) := by decide +kernel
theorem dX2_live_24 : decode cX2_live 24 = .ok (.invokestatic 70, 3) := by decide +kernel
theorem dX2_live_27 : decode cX2_live 27 = .ok (.istore_n 3, 1) := by decide +kernel
theorem dX2_live_28 : decode cX2_live 28 = .ok (.aload_n 0, 1) := by decide +kernel
theorem dX2_live_29 : decode cX2_live 29 = .ok (.iload_n 3, 1) := by decide +kernel
theorem dX2_live_30 : decode cX2_live 30 = .ok (.invokevirtual 73, 3) := by decide +kernel
theorem dX2_live_33 : decode cX2_live 33 = .ok (.istore 6, 2) := by decide +kernel
theorem dX2_live_35 : decode cX2_live 35 = .ok (.aload_n 0, 1) := by decide +kernel
theorem dX2_live_36 : decode cX2_live 36 = .ok (.iload 5, 2) := by decide +kernel
theorem dX2_live_38 : decode cX2_live 38 = .ok (.iload 6, 2) := by decide +kernel
theorem dX2_live_40 : decode cX2_live 40 = .ok (.invokevirtual 76, 3) := by decide +kernel
theorem dX2_live_43 : decode cX2_live 43 = .ok (.ifCond .eq 12, 3) := by decide +kernel
theorem dX2_live_46 : decode cX2_live 46 = .ok (.aload_n 0, 1) := by decide +kernel
theorem dX2_live_47 : decode cX2_live 47 = .ok (.iload 5, 2) := by decide +kernel
theorem dX2_live_49 : decode cX2_live 49 = .ok (.iload 6, 2) := by decide +kernel
theorem dX2_live_51 : decode cX2_live 51 = .ok (.invokevirtual 80, 3) := by decide +kernel
theorem dX2_live_54 : decode cX2_live 54 = .ok (.pop, 1) := by decide +kernel
theorem dX2_live_55 : decode cX2_live 55 = .ok (.aload_n 0, 1) := by decide +kernel
theorem dX2_live_56 : decode cX2_live 56 = .ok (.invokevirtual 83, 3) := by decide +kernel
theorem dX2_live_59 : decode cX2_live 59 = .ok (.iinc 4 1, 3) := by decide +kernel
theorem dX2_live_62 : decode cX2_live 62 = .ok (.goto (-57), 3) := by decide +kernel
theorem dX2_live_65 : decode cX2_live 65 = .ok (.iload_n 3, 1) := by decide +kernel
theorem dX2_live_66 : decode cX2_live 66 = .ok (.ireturn, 1) := by decide +kernel
theorem dX2_nextSeed_0 : decode cX2_nextSeed 0 = .ok (.ldc2_w 86, 3) := by decide +kernel
theorem dX2_nextSeed_3 : decode cX2_nextSeed 3 = .ok (.iload_n 0, 1) := by decide +kernel
theorem dX2_nextSeed_4 : decode cX2_nextSeed 4 = .ok (.i2l, 1) := by decide +kernel
theorem dX2_nextSeed_5 : decode cX2_nextSeed 5 = .ok (.lmul, 1) := by decide +kernel
theorem dX2_nextSeed_6 : decode cX2_nextSeed 6 = .ok (.ldc2_w 88, 3) := by decide +kernel
theorem dX2_nextSeed_9 : decode cX2_nextSeed 9 = .ok (.ladd, 1) := by decide +kernel
theorem dX2_nextSeed_10 : decode cX2_nextSeed 10 = .ok (.ldc2_w 90, 3) := by decide +kernel
theorem dX2_nextSeed_13 : decode cX2_nextSeed 13 = .ok (.lrem, 1) := by decide +kernel
theorem dX2_nextSeed_14 : decode cX2_nextSeed 14 = .ok (.l2i, 1) := by decide +kernel
theorem dX2_nextSeed_15 : decode cX2_nextSeed 15 = .ok (.ireturn, 1) := by decide +kernel
theorem dX2_drawn_0 : decode cX2_drawn 0 = .ok (.aload_n 0, 1) := by decide +kernel
theorem dX2_drawn_1 : decode cX2_drawn 1 = .ok (.getfield 20, 3) := by decide +kernel
theorem dX2_drawn_4 : decode cX2_drawn 4 = .ok (.iconst 1, 1) := by decide +kernel
theorem dX2_drawn_5 : decode cX2_drawn 5 = .ok (.if_icmp .ge 7, 3) := by decide +kernel
theorem dX2_drawn_8 : decode cX2_drawn 8 = .ok (.iconst (-1), 1) := by decide +kernel
theorem dX2_drawn_9 : decode cX2_drawn 9 = .ok (.goto 12, 3) := by decide +kernel
theorem dX2_drawn_12 : decode cX2_drawn 12 = .ok (.iload_n 1, 1) := by decide +kernel
theorem dX2_drawn_13 : decode cX2_drawn 13 = .ok (.ldc 92, 2) := by decide +kernel
theorem dX2_drawn_15 : decode cX2_drawn 15 = .ok (.idiv, 1) := by decide +kernel
theorem dX2_drawn_16 : decode cX2_drawn 16 = .ok (.aload_n 0, 1) := by decide +kernel
theorem dX2_drawn_17 : decode cX2_drawn 17 = .ok (.getfield 20, 3) := by decide +kernel
theorem dX2_drawn_20 : decode cX2_drawn 20 = .ok (.irem, 1) := by decide +kernel
theorem dX2_drawn_21 : decode cX2_drawn 21 = .ok (.ireturn, 1) := by decide +kernel
set_option maxRecDepth 20000 in
theorem ggX3_init_X7_init : GoodIn wsX3_init wsX7_init := goodIn_r _ [3, 4, 5, 6, 7, 8, 9] (by decide +kernel) (by decide +kernel)
set_option maxRecDepth 20000 in
theorem gX3_init_X7_init_n3 : GoodIn wsX3_init (wsX7_init) := ggX3_init_X7_init
theorem dX3_init_0 : decode cX3_init 0 = .ok (.aload_n 0, 1) := by decide +kernel
theorem dX3_init_1 : decode cX3_init 1 = .ok (.invokespecial 3, 3) := by decide +kernel
theorem dX3_init_4 : decode cX3_init 4 = .ok (.return_, 1) := by decide +kernel
theorem dX3_number_0 : decode cX3_number 0 = .ok (.iconst 4, 1) := by decide +kernel
theorem dX3_number_1 : decode cX3_number 1 = .ok (.ireturn, 1) := by decide +kernel
set_option maxRecDepth 20000 in
theorem ggX3_asks_X7_asks : GoodIn wsX3_asks wsX7_asks := goodIn_r _ [6] (by decide +kernel) (by decide +kernel)
set_option maxRecDepth 20000 in
theorem gX3_asks_X7_asks_s9 : GoodIn wsX3_asks (va_wsSU RX3 9 yX7_asks wsX7_asks) := goodIn_app (goodIn_of _ (by decide +kernel)) ggX3_asks_X7_asks
theorem dX3_asks_0 : decode cX3_asks 0 = .ok (.iconst 2, 1) := by decide +kernel
theorem dX3_asks_1 : decode cX3_asks 1 = .ok (.aload_n 0, 1) := by decide +kernel
theorem dX3_asks_2 : decode cX3_asks 2 = .ok (.iload_n 1, 1) := by decide +kernel
theorem dX3_asks_3 : decode cX3_asks 3 = .ok (.invokespecial 9, 3) := by decide +kernel
theorem dX3_asks_6 : decode cX3_asks 6 = .ok (.imul, 1) := by decide +kernel
theorem dX3_asks_7 : decode cX3_asks 7 = .ok (.ireturn, 1) := by decide +kernel
theorem dX4_init_0 : decode cX4_init 0 = .ok (.aload_n 0, 1) := by decide +kernel
theorem dX4_init_1 : decode cX4_init 1 = .ok (.invokespecial 3, 3) := by decide +kernel
theorem dX4_init_4 : decode cX4_init 4 = .ok (.aload_n 0, 1) := by decide +kernel
theorem dX4_init_5 : decode cX4_init 5 = .ok (.bipush 16, 2) := by decide +kernel
theorem dX4_init_7 : decode cX4_init 7 = .ok (.newarray .int, 2) := by decide +kernel
theorem dX4_init_9 : decode cX4_init 9 = .ok (.putfield 9, 3) := by decide +kernel
theorem dX4_init_12 : decode cX4_init 12 = .ok (.aload_n 0, 1) := by decide +kernel
theorem dX4_init_13 : decode cX4_init 13 = .ok (.iconst 0, 1) := by decide +kernel
theorem dX4_init_14 : decode cX4_init 14 = .ok (.putfield 15, 3) := by decide +kernel
theorem dX4_init_17 : decode cX4_init 17 = .ok (.return_, 1) := by decide +kernel
theorem dX4_put_0 : decode cX4_put 0 = .ok (.aload_n 0, 1) := by decide +kernel
theorem dX4_put_1 : decode cX4_put 1 = .ok (.getfield 9, 3) := by decide +kernel
theorem dX4_put_4 : decode cX4_put 4 = .ok (.aload_n 0, 1) := by decide +kernel
theorem dX4_put_5 : decode cX4_put 5 = .ok (.getfield 15, 3) := by decide +kernel
theorem dX4_put_8 : decode cX4_put 8 = .ok (.iload_n 1, 1) := by decide +kernel
theorem dX4_put_9 : decode cX4_put 9 = .ok (.iastore, 1) := by decide +kernel
theorem dX4_put_10 : decode cX4_put 10 = .ok (.aload_n 0, 1) := by decide +kernel
theorem dX4_put_11 : decode cX4_put 11 = .ok (.dup, 1) := by decide +kernel
theorem dX4_put_12 : decode cX4_put 12 = .ok (.getfield 15, 3) := by decide +kernel
theorem dX4_put_15 : decode cX4_put 15 = .ok (.iconst 1, 1) := by decide +kernel
theorem dX4_put_16 : decode cX4_put 16 = .ok (.iadd, 1) := by decide +kernel
theorem dX4_put_17 : decode cX4_put 17 = .ok (.putfield 15, 3) := by decide +kernel
theorem dX4_put_20 : decode cX4_put 20 = .ok (.aload_n 0, 1) := by decide +kernel
theorem dX4_put_21 : decode cX4_put 21 = .ok (.getfield 15, 3) := by decide +kernel
theorem dX4_put_24 : decode cX4_put 24 = .ok (.ireturn, 1) := by decide +kernel
set_option maxRecDepth 20000 in
theorem ggX4_firstFault_X4_behind : GoodIn wsX4_firstFault wsX4_behind := goodIn_r _ [6, 7, 8, 5, 9, 10, 11, 12, 13, 14, 15, 16, 17, 18, 19, 20, 21, 22, 23, 24, 25, 26, 27, 28, 29, 30, 31, 32, 33, 34, 35, 36, 37, 38, 39, 40, 41, 42, 43, 44, 45, 46, 47, 48, 49, 50, 51, 52, 53, 54, 55, 56, 57, 58, 59, 60, 61, 62, 63, 64, 65, 66, 67, 68, 69, 70, 71, 72, 73, 74, 75, 76, 77, 78, 79, 80, 81, 82, 83, 84, 85, 86, 87, 88, 89, 90, 91, 92, 93, 94, 95, 96, 97, 98, 99, 100, 101] (by decide +kernel) (by decide +kernel)
set_option maxRecDepth 20000 in
theorem gX4_firstFault_X4_behind : GoodIn wsX4_firstFault (va_wsS RX4 19 yX4_behind wsX4_behind) := goodIn_app (goodIn_of _ (by decide +kernel)) ggX4_firstFault_X4_behind
theorem dX4_firstFault_0 : decode cX4_firstFault 0 = .ok (.iconst 0, 1) := by decide +kernel
theorem dX4_firstFault_1 : decode cX4_firstFault 1 = .ok (.istore_n 1, 1) := by decide +kernel
theorem dX4_firstFault_2 : decode cX4_firstFault 2 = .ok (.iconst 0, 1) := by decide +kernel
theorem dX4_firstFault_3 : decode cX4_firstFault 3 = .ok (.istore_n 2, 1) := by decide +kernel
theorem dX4_firstFault_4 : decode cX4_firstFault 4 = .ok (.iload_n 2, 1) := by decide +kernel
theorem dX4_firstFault_5 : decode cX4_firstFault 5 = .ok (.aload_n 0, 1) := by decide +kernel
theorem dX4_firstFault_6 : decode cX4_firstFault 6 = .ok (.getfield 15, 3) := by decide +kernel
theorem dX4_firstFault_9 : decode cX4_firstFault 9 = .ok (.if_icmp .ge 32, 3) := by decide +kernel
theorem dX4_firstFault_12 : decode cX4_firstFault 12 = .ok (.iload_n 1, 1) := by decide +kernel
theorem dX4_firstFault_13 : decode cX4_firstFault 13 = .ok (.aload_n 0, 1) := by decide +kernel
theorem dX4_firstFault_14 : decode cX4_firstFault 14 = .ok (.getfield 9, 3) := by decide +kernel
theorem dX4_firstFault_17 : decode cX4_firstFault 17 = .ok (.iload_n 2, 1) := by decide +kernel
theorem dX4_firstFault_18 : decode cX4_firstFault 18 = .ok (.iaload, 1) := by decide +kernel
theorem dX4_firstFault_19 : decode cX4_firstFault 19 = .ok (.iload_n 2, 1) := by decide +kernel
theorem dX4_firstFault_20 : decode cX4_firstFault 20 = .ok (.iconst 1, 1) := by decide +kernel
theorem dX4_firstFault_21 : decode cX4_firstFault 21 = .ok (.iadd, 1) := by decide +kernel
theorem dX4_firstFault_22 : decode cX4_firstFault 22 = .ok (.iconst 3, 1) := by decide +kernel
theorem dX4_firstFault_23 : decode cX4_firstFault 23 = .ok (.idiv, 1) := by decide +kernel
theorem dX4_firstFault_24 : decode cX4_firstFault 24 = .ok (.invokestatic 19, 3) := by decide +kernel
theorem dX4_firstFault_27 : decode cX4_firstFault 27 = .ok (.istore_n 1, 1) := by decide +kernel
theorem dX4_firstFault_28 : decode cX4_firstFault 28 = .ok (.iload_n 1, 1) := by decide +kernel
theorem dX4_firstFault_29 : decode cX4_firstFault 29 = .ok (.iconst 5, 1) := by decide +kernel
theorem dX4_firstFault_30 : decode cX4_firstFault 30 = .ok (.if_icmp .ne 5, 3) := by decide +kernel
theorem dX4_firstFault_33 : decode cX4_firstFault 33 = .ok (.iload_n 2, 1) := by decide +kernel
theorem dX4_firstFault_34 : decode cX4_firstFault 34 = .ok (.ireturn, 1) := by decide +kernel
theorem dX4_firstFault_35 : decode cX4_firstFault 35 = .ok (.iinc 2 1, 3) := by decide +kernel
theorem dX4_firstFault_38 : decode cX4_firstFault 38 = .ok (.goto (-34), 3) := by decide +kernel
theorem dX4_firstFault_41 : decode cX4_firstFault 41 = .ok (.aload_n 0, 1) := by decide +kernel
theorem dX4_firstFault_42 : decode cX4_firstFault 42 = .ok (.getfield 15, 3) := by decide +kernel
theorem dX4_firstFault_45 : decode cX4_firstFault 45 = .ok (.ireturn, 1) := by decide +kernel
set_option maxRecDepth 20000 in
theorem ggX4_behind_X4_kindOfLetter : GoodIn wsX4_behind wsX4_kindOfLetter := goodIn_r _ [4, 5, 6, 7, 8, 9, 10, 11, 12, 13, 14, 15, 16, 17, 18, 19, 20, 21, 22, 23, 24, 25, 26, 27, 28, 29, 30, 31, 32, 33, 34, 35, 36, 37, 38, 39, 40, 41, 42, 43, 44, 45, 46, 47, 48, 49, 50, 51, 52, 53, 54, 55, 56, 57, 58, 59, 60, 61, 62, 63, 64, 65, 66, 67, 68, 69, 70, 71, 72, 73, 74, 75, 76, 77, 78, 79, 80, 81, 82, 83, 84, 85, 86, 87, 88, 89, 90, 91, 92, 93] (by decide +kernel) (by decide +kernel)
set_option maxRecDepth 20000 in
theorem gX4_behind_X4_kindOfLetter : GoodIn wsX4_behind (va_wsS RX4 23 yX4_kindOfLetter wsX4_kindOfLetter) := goodIn_app (goodIn_of _ (by decide +kernel)) ggX4_behind_X4_kindOfLetter
set_option maxRecDepth 20000 in
theorem ggX4_behind_X4_behindMark : GoodIn wsX4_behind wsX4_behindMark := goodIn_r _ [96] (by decide +kernel) (by decide +kernel)
set_option maxRecDepth 20000 in
theorem gX4_behind_X4_behindMark : GoodIn wsX4_behind (va_wsS RX4 27 yX4_behindMark wsX4_behindMark) := goodIn_app (goodIn_of _ (by decide +kernel)) ggX4_behind_X4_behindMark
theorem dX4_behind_0 : decode cX4_behind 0 = .ok (.iload_n 0, 1) := by decide +kernel
theorem dX4_behind_1 : decode cX4_behind 1 = .ok (.tableswitch 87 0 3 #[31, 45, 63, 69], 31) := by decide +kernel
theorem dX4_behind_32 : decode cX4_behind 32 = .ok (.iload_n 1, 1) := by decide +kernel
theorem dX4_behind_33 : decode cX4_behind 33 = .ok (.invokestatic 23, 3) := by decide +kernel
theorem dX4_behind_36 : decode cX4_behind 36 = .ok (.iconst (-1), 1) := by decide +kernel
theorem dX4_behind_37 : decode cX4_behind 37 = .ok (.if_icmp .ne 7, 3) := by decide +kernel
theorem dX4_behind_40 : decode cX4_behind 40 = .ok (.iconst 5, 1) := by decide +kernel
theorem dX4_behind_41 : decode cX4_behind 41 = .ok (.goto 4, 3) := by decide +kernel
theorem dX4_behind_44 : decode cX4_behind 44 = .ok (.iconst 1, 1) := by decide +kernel
theorem dX4_behind_45 : decode cX4_behind 45 = .ok (.ireturn, 1) := by decide +kernel
theorem dX4_behind_46 : decode cX4_behind 46 = .ok (.iload_n 1, 1) := by decide +kernel
theorem dX4_behind_47 : decode cX4_behind 47 = .ok (.bipush 48, 2) := by decide +kernel
theorem dX4_behind_49 : decode cX4_behind 49 = .ok (.if_icmp .lt 13, 3) := by decide +kernel
theorem dX4_behind_52 : decode cX4_behind 52 = .ok (.iload_n 1, 1) := by decide +kernel
theorem dX4_behind_53 : decode cX4_behind 53 = .ok (.bipush 57, 2) := by decide +kernel
theorem dX4_behind_55 : decode cX4_behind 55 = .ok (.if_icmp .gt 7, 3) := by decide +kernel
theorem dX4_behind_58 : decode cX4_behind 58 = .ok (.iconst 2, 1) := by decide +kernel
theorem dX4_behind_59 : decode cX4_behind 59 = .ok (.goto 4, 3) := by decide +kernel
theorem dX4_behind_62 : decode cX4_behind 62 = .ok (.iconst 5, 1) := by decide +kernel
theorem dX4_behind_63 : decode cX4_behind 63 = .ok (.ireturn, 1) := by decide +kernel
theorem dX4_behind_64 : decode cX4_behind 64 = .ok (.iload_n 1, 1) := by decide +kernel
theorem dX4_behind_65 : decode cX4_behind 65 = .ok (.iload_n 2, 1) := by decide +kernel
theorem dX4_behind_66 : decode cX4_behind 66 = .ok (.invokestatic 27, 3) := by decide +kernel
theorem dX4_behind_69 : decode cX4_behind 69 = .ok (.ireturn, 1) := by decide +kernel
theorem dX4_behind_70 : decode cX4_behind 70 = .ok (.iload_n 1, 1) := by decide +kernel
theorem dX4_behind_71 : decode cX4_behind 71 = .ok (.bipush 49, 2) := by decide +kernel
theorem dX4_behind_73 : decode cX4_behind 73 = .ok (.if_icmp .lt 13, 3) := by decide +kernel
theorem dX4_behind_76 : decode cX4_behind 76 = .ok (.iload_n 1, 1) := by decide +kernel
theorem dX4_behind_77 : decode cX4_behind 77 = .ok (.bipush 53, 2) := by decide +kernel
theorem dX4_behind_79 : decode cX4_behind 79 = .ok (.if_icmp .gt 7, 3) := by decide +kernel
theorem dX4_behind_82 : decode cX4_behind 82 = .ok (.iconst 4, 1) := by decide +kernel
theorem dX4_behind_83 : decode cX4_behind 83 = .ok (.goto 4, 3) := by decide +kernel
theorem dX4_behind_86 : decode cX4_behind 86 = .ok (.iconst 5, 1) := by decide +kernel
theorem dX4_behind_87 : decode cX4_behind 87 = .ok (.ireturn, 1) := by decide +kernel
theorem dX4_behind_88 : decode cX4_behind 88 = .ok (.iconst 5, 1) := by decide +kernel
theorem dX4_behind_89 : decode cX4_behind 89 = .ok (.ireturn, 1) := by decide +kernel
theorem dX4_behindMark_0 : decode cX4_behindMark 0 = .ok (.iload_n 0, 1) := by decide +kernel
theorem dX4_behindMark_1 : decode cX4_behindMark 1 = .ok (.bipush 44, 2) := by decide +kernel
theorem dX4_behindMark_3 : decode cX4_behindMark 3 = .ok (.if_icmp .ne 10, 3) := by decide +kernel
theorem dX4_behindMark_6 : decode cX4_behindMark 6 = .ok (.iload_n 1, 1) := by decide +kernel
theorem dX4_behindMark_7 : decode cX4_behindMark 7 = .ok (.iconst 4, 1) := by decide +kernel
theorem dX4_behindMark_8 : decode cX4_behindMark 8 = .ok (.if_icmp .ge 5, 3) := by decide +kernel
theorem dX4_behindMark_11 : decode cX4_behindMark 11 = .ok (.iconst 0, 1) := by decide +kernel
theorem dX4_behindMark_12 : decode cX4_behindMark 12 = .ok (.ireturn, 1) := by decide +kernel
theorem dX4_behindMark_13 : decode cX4_behindMark 13 = .ok (.iload_n 0, 1) := by decide +kernel
theorem dX4_behindMark_14 : decode cX4_behindMark 14 = .ok (.bipush 59, 2) := by decide +kernel
theorem dX4_behindMark_16 : decode cX4_behindMark 16 = .ok (.if_icmp .ne 10, 3) := by decide +kernel
theorem dX4_behindMark_19 : decode cX4_behindMark 19 = .ok (.iload_n 1, 1) := by decide +kernel
theorem dX4_behindMark_20 : decode cX4_behindMark 20 = .ok (.iconst 2, 1) := by decide +kernel
theorem dX4_behindMark_21 : decode cX4_behindMark 21 = .ok (.if_icmp .lt 5, 3) := by decide +kernel
theorem dX4_behindMark_24 : decode cX4_behindMark 24 = .ok (.iconst 3, 1) := by decide +kernel
theorem dX4_behindMark_25 : decode cX4_behindMark 25 = .ok (.ireturn, 1) := by decide +kernel
theorem dX4_behindMark_26 : decode cX4_behindMark 26 = .ok (.iconst 5, 1) := by decide +kernel
theorem dX4_behindMark_27 : decode cX4_behindMark 27 = .ok (.ireturn, 1) := by decide +kernel
set_option maxRecDepth 20000 in
theorem ggX4_kindOfLetter_J0_indexOf_0f7a4 : GoodIn wsX4_kindOfLetter wsJ0_indexOf_0f7a4 := goodIn_r _ [5, 6, 7, 8, 4, 9, 10, 11, 12, 13, 14, 15, 16, 17, 18, 19, 20, 21, 22, 23, 24, 25, 26, 27, 28, 29, 30, 31, 32, 33, 34, 35, 36, 37, 38, 39, 40, 41, 42, 43, 44, 45, 46, 47, 48, 49, 50, 51, 52, 53, 54, 55, 56, 57, 58, 59, 60, 61, 62, 63, 64, 65, 66, 67, 68, 69, 70, 71, 72, 73, 74, 75, 76, 77, 78, 79, 80, 81, 82, 83, 84, 85, 86, 87, 88, 89] (by decide +kernel) (by decide +kernel)
set_option maxRecDepth 20000 in
theorem gX4_kindOfLetter_J0_indexOf_0f7a4 : GoodIn wsX4_kindOfLetter (wsV RX4 33 RJ0 yJ0_indexOf_0f7a4 wsJ0_indexOf_0f7a4) := goodIn_app (goodIn_of _ (by decide +kernel)) ggX4_kindOfLetter_J0_indexOf_0f7a4
theorem dX4_kindOfLetter_0 : decode cX4_kindOfLetter 0 = .ok (.ldc 31, 2) := by decide +kernel
theorem dX4_kindOfLetter_2 : decode cX4_kindOfLetter 2 = .ok (.iload_n 0, 1) := by decide +kernel
theorem dX4_kindOfLetter_3 : decode cX4_kindOfLetter 3 = .ok (.i2c, 1) := by decide +kernel
theorem dX4_kindOfLetter_4 : decode cX4_kindOfLetter 4 = .ok (.invokevirtual 33, 3) := by decide +kernel
theorem dX4_kindOfLetter_7 : decode cX4_kindOfLetter 7 = .ok (.ireturn, 1) := by decide +kernel
set_option maxRecDepth 20000 in
theorem ggX4_isHills_X4_firstFault : GoodIn wsX4_isHills wsX4_firstFault := goodIn_r _ [7, 1, 2, 8, 9, 6, 10, 11, 12, 13, 14, 15, 16, 17, 18, 19, 20, 21, 22, 23, 24, 25, 26, 27, 28, 29, 30, 31, 32, 33, 34, 35, 36, 37, 38, 39, 40, 41, 42, 43, 44, 45, 46, 47, 48, 49, 50, 51, 52, 53, 54, 55, 56, 57, 58, 59, 60, 61, 62, 63, 64, 65, 66, 67, 68, 69, 70, 71, 72, 73, 74, 75, 76, 77, 78, 79, 80, 81, 82, 83, 84, 85, 86, 87, 88, 89, 90, 91, 92, 93, 94, 95, 96, 97, 98, 99, 100, 101, 102, 103, 104, 105, 106, 107] (by decide +kernel) (by decide +kernel)
set_option maxRecDepth 20000 in
theorem gX4_isHills_X4_firstFault : GoodIn wsX4_isHills (wsV RX4 38 RX4 yX4_firstFault wsX4_firstFault) := goodIn_app (goodIn_of _ (by decide +kernel)) ggX4_isHills_X4_firstFault
theorem dX4_isHills_0 : decode cX4_isHills 0 = .ok (.aload_n 0, 1) := by decide +kernel
theorem dX4_isHills_1 : decode cX4_isHills 1 = .ok (.getfield 15, 3) := by decide +kernel
theorem dX4_isHills_4 : decode cX4_isHills 4 = .ok (.iconst 2, 1) := by decide +kernel
theorem dX4_isHills_5 : decode cX4_isHills 5 = .ok (.if_icmp .lt 34, 3) := by decide +kernel
theorem dX4_isHills_8 : decode cX4_isHills 8 = .ok (.aload_n 0, 1) := by decide +kernel
theorem dX4_isHills_9 : decode cX4_isHills 9 = .ok (.invokevirtual 38, 3) := by decide +kernel
theorem dX4_isHills_12 : decode cX4_isHills 12 = .ok (.aload_n 0, 1) := by decide +kernel
theorem dX4_isHills_13 : decode cX4_isHills 13 = .ok (.getfield 15, 3) := by decide +kernel
theorem dX4_isHills_16 : decode cX4_isHills 16 = .ok (.if_icmp .ne 23, 3) := by decide +kernel
theorem dX4_isHills_19 : decode cX4_isHills 19 = .ok (.aload_n 0, 1) := by decide +kernel
theorem dX4_isHills_20 : decode cX4_isHills 20 = .ok (.getfield 9, 3) := by decide +kernel
theorem dX4_isHills_23 : decode cX4_isHills 23 = .ok (.aload_n 0, 1) := by decide +kernel
theorem dX4_isHills_24 : decode cX4_isHills 24 = .ok (.getfield 15, 3) := by decide +kernel
theorem dX4_isHills_27 : decode cX4_isHills 27 = .ok (.iconst 2, 1) := by decide +kernel
theorem dX4_isHills_28 : decode cX4_isHills 28 = .ok (.isub, 1) := by decide +kernel
theorem dX4_isHills_29 : decode cX4_isHills 29 = .ok (.iaload, 1) := by decide +kernel
theorem dX4_isHills_30 : decode cX4_isHills 30 = .ok (.bipush 59, 2) := by decide +kernel
theorem dX4_isHills_32 : decode cX4_isHills 32 = .ok (.if_icmp .ne 7, 3) := by decide +kernel
theorem dX4_isHills_35 : decode cX4_isHills 35 = .ok (.iconst 1, 1) := by decide +kernel
theorem dX4_isHills_36 : decode cX4_isHills 36 = .ok (.goto 4, 3) := by decide +kernel
theorem dX4_isHills_39 : decode cX4_isHills 39 = .ok (.iconst 0, 1) := by decide +kernel
theorem dX4_isHills_40 : decode cX4_isHills 40 = .ok (.ireturn, 1) := by decide +kernel
theorem dX4_clanCount_0 : decode cX4_clanCount 0 = .ok (.aload_n 0, 1) := by decide +kernel
theorem dX4_clanCount_1 : decode cX4_clanCount 1 = .ok (.getfield 15, 3) := by decide +kernel
theorem dX4_clanCount_4 : decode cX4_clanCount 4 = .ok (.iconst 3, 1) := by decide +kernel
theorem dX4_clanCount_5 : decode cX4_clanCount 5 = .ok (.idiv, 1) := by decide +kernel
theorem dX4_clanCount_6 : decode cX4_clanCount 6 = .ok (.ireturn, 1) := by decide +kernel
set_option maxRecDepth 20000 in
theorem ggX4_kindOf_X4_kindOfLetter : GoodIn wsX4_kindOf wsX4_kindOfLetter := goodIn_r _ [5, 6, 7, 8, 9, 10, 11, 12, 13, 14, 15, 16, 17, 18, 19, 20, 21, 22, 23, 24, 25, 26, 27, 28, 29, 30, 31, 32, 33, 34, 35, 36, 37, 38, 39, 40, 41, 42, 43, 44, 45, 46, 47, 48, 49, 50, 51, 52, 53, 54, 55, 56, 57, 58, 59, 60, 61, 62, 63, 64, 65, 66, 67, 68, 69, 70, 71, 72, 73, 74, 75, 76, 77, 78, 79, 80, 81, 82, 83, 84, 85, 86, 87, 88, 89, 90, 91, 92, 93, 94] (by decide +kernel) (by decide +kernel)
set_option maxRecDepth 20000 in
theorem gX4_kindOf_X4_kindOfLetter : GoodIn wsX4_kindOf (va_wsS RX4 23 yX4_kindOfLetter wsX4_kindOfLetter) := goodIn_app (goodIn_of _ (by decide +kernel)) ggX4_kindOf_X4_kindOfLetter
theorem dX4_kindOf_0 : decode cX4_kindOf 0 = .ok (.aload_n 0, 1) := by decide +kernel
theorem dX4_kindOf_1 : decode cX4_kindOf 1 = .ok (.getfield 9, 3) := by decide +kernel
theorem dX4_kindOf_4 : decode cX4_kindOf 4 = .ok (.iload_n 1, 1) := by decide +kernel
theorem dX4_kindOf_5 : decode cX4_kindOf 5 = .ok (.iconst 3, 1) := by decide +kernel
theorem dX4_kindOf_6 : decode cX4_kindOf 6 = .ok (.imul, 1) := by decide +kernel
theorem dX4_kindOf_7 : decode cX4_kindOf 7 = .ok (.iaload, 1) := by decide +kernel
theorem dX4_kindOf_8 : decode cX4_kindOf 8 = .ok (.invokestatic 23, 3) := by decide +kernel
theorem dX4_kindOf_11 : decode cX4_kindOf 11 = .ok (.ireturn, 1) := by decide +kernel
theorem dX4_herdOf_0 : decode cX4_herdOf 0 = .ok (.aload_n 0, 1) := by decide +kernel
theorem dX4_herdOf_1 : decode cX4_herdOf 1 = .ok (.getfield 9, 3) := by decide +kernel
theorem dX4_herdOf_4 : decode cX4_herdOf 4 = .ok (.iload_n 1, 1) := by decide +kernel
theorem dX4_herdOf_5 : decode cX4_herdOf 5 = .ok (.iconst 3, 1) := by decide +kernel
theorem dX4_herdOf_6 : decode cX4_herdOf 6 = .ok (.imul, 1) := by decide +kernel
theorem dX4_herdOf_7 : decode cX4_herdOf 7 = .ok (.iconst 1, 1) := by decide +kernel
theorem dX4_herdOf_8 : decode cX4_herdOf 8 = .ok (.iadd, 1) := by decide +kernel
theorem dX4_herdOf_9 : decode cX4_herdOf 9 = .ok (.iaload, 1) := by decide +kernel
theorem dX4_herdOf_10 : decode cX4_herdOf 10 = .ok (.bipush 48, 2) := by decide +kernel
theorem dX4_herdOf_12 : decode cX4_herdOf 12 = .ok (.isub, 1) := by decide +kernel
theorem dX4_herdOf_13 : decode cX4_herdOf 13 = .ok (.ireturn, 1) := by decide +kernel
theorem dX4_rateDigit_0 : decode cX4_rateDigit 0 = .ok (.aload_n 0, 1) := by decide +kernel
theorem dX4_rateDigit_1 : decode cX4_rateDigit 1 = .ok (.getfield 15, 3) := by decide +kernel
theorem dX4_rateDigit_4 : decode cX4_rateDigit 4 = .ok (.iconst 1, 1) := by decide +kernel
theorem dX4_rateDigit_5 : decode cX4_rateDigit 5 = .ok (.if_icmp .ge 7, 3) := by decide +kernel
theorem dX4_rateDigit_8 : decode cX4_rateDigit 8 = .ok (.iconst 0, 1) := by decide +kernel
theorem dX4_rateDigit_9 : decode cX4_rateDigit 9 = .ok (.goto 17, 3) := by decide +kernel
theorem dX4_rateDigit_12 : decode cX4_rateDigit 12 = .ok (.aload_n 0, 1) := by decide +kernel
theorem dX4_rateDigit_13 : decode cX4_rateDigit 13 = .ok (.getfield 9, 3) := by decide +kernel
theorem dX4_rateDigit_16 : decode cX4_rateDigit 16 = .ok (.aload_n 0, 1) := by decide +kernel
theorem dX4_rateDigit_17 : decode cX4_rateDigit 17 = .ok (.getfield 15, 3) := by decide +kernel
theorem dX4_rateDigit_20 : decode cX4_rateDigit 20 = .ok (.iconst 1, 1) := by decide +kernel
theorem dX4_rateDigit_21 : decode cX4_rateDigit 21 = .ok (.isub, 1) := by decide +kernel
theorem dX4_rateDigit_22 : decode cX4_rateDigit 22 = .ok (.iaload, 1) := by decide +kernel
theorem dX4_rateDigit_23 : decode cX4_rateDigit 23 = .ok (.bipush 48, 2) := by decide +kernel
theorem dX4_rateDigit_25 : decode cX4_rateDigit 25 = .ok (.isub, 1) := by decide +kernel
theorem dX4_rateDigit_26 : decode cX4_rateDigit 26 = .ok (.ireturn, 1) := by decide +kernel
theorem dX5_init_0 : decode cX5_init 0 = .ok (.aload_n 0, 1) := by decide +kernel
theorem dX5_init_1 : decode cX5_init 1 = .ok (.invokespecial 3, 3) := by decide +kernel
theorem dX5_init_4 : decode cX5_init 4 = .ok (.aload_n 0, 1) := by decide +kernel
theorem dX5_init_5 : decode cX5_init 5 = .ok (.iconst 4, 1) := by decide +kernel
theorem dX5_init_6 : decode cX5_init 6 = .ok (.newarray .int, 2) := by decide +kernel
theorem dX5_init_8 : decode cX5_init 8 = .ok (.putfield 9, 3) := by decide +kernel
theorem dX5_init_11 : decode cX5_init 11 = .ok (.aload_n 0, 1) := by decide +kernel
theorem dX5_init_12 : decode cX5_init 12 = .ok (.iconst 4, 1) := by decide +kernel
theorem dX5_init_13 : decode cX5_init 13 = .ok (.newarray .int, 2) := by decide +kernel
theorem dX5_init_15 : decode cX5_init 15 = .ok (.putfield 15, 3) := by decide +kernel
theorem dX5_init_18 : decode cX5_init 18 = .ok (.aload_n 0, 1) := by decide +kernel
theorem dX5_init_19 : decode cX5_init 19 = .ok (.iconst 4, 1) := by decide +kernel
theorem dX5_init_20 : decode cX5_init 20 = .ok (.newarray .int, 2) := by decide +kernel
theorem dX5_init_22 : decode cX5_init 22 = .ok (.putfield 18, 3) := by decide +kernel
theorem dX5_init_25 : decode cX5_init 25 = .ok (.aload_n 0, 1) := by decide +kernel
theorem dX5_init_26 : decode cX5_init 26 = .ok (.iconst 4, 1) := by decide +kernel
theorem dX5_init_27 : decode cX5_init 27 = .ok (.newarray .int, 2) := by decide +kernel
theorem dX5_init_29 : decode cX5_init 29 = .ok (.putfield 21, 3) := by decide +kernel
theorem dX5_init_32 : decode cX5_init 32 = .ok (.aload_n 0, 1) := by decide +kernel
theorem dX5_init_33 : decode cX5_init 33 = .ok (.iconst 0, 1) := by decide +kernel
theorem dX5_init_34 : decode cX5_init 34 = .ok (.putfield 24, 3) := by decide +kernel
theorem dX5_init_37 : decode cX5_init 37 = .ok (.aload_n 0, 1) := by decide +kernel
theorem dX5_init_38 : decode cX5_init 38 = .ok (.iconst 0, 1) := by decide +kernel
theorem dX5_init_39 : decode cX5_init 39 = .ok (.putfield 28, 3) := by decide +kernel
theorem dX5_init_42 : decode cX5_init 42 = .ok (.return_, 1) := by decide +kernel
theorem dX5_note_0 : decode cX5_note 0 = .ok (.aload_n 0, 1) := by decide +kernel
theorem dX5_note_1 : decode cX5_note 1 = .ok (.getfield 9, 3) := by decide +kernel
theorem dX5_note_4 : decode cX5_note 4 = .ok (.aload_n 0, 1) := by decide +kernel
theorem dX5_note_5 : decode cX5_note 5 = .ok (.getfield 24, 3) := by decide +kernel
theorem dX5_note_8 : decode cX5_note 8 = .ok (.iload_n 1, 1) := by decide +kernel
theorem dX5_note_9 : decode cX5_note 9 = .ok (.iastore, 1) := by decide +kernel
theorem dX5_note_10 : decode cX5_note 10 = .ok (.aload_n 0, 1) := by decide +kernel
theorem dX5_note_11 : decode cX5_note 11 = .ok (.getfield 15, 3) := by decide +kernel
theorem dX5_note_14 : decode cX5_note 14 = .ok (.aload_n 0, 1) := by decide +kernel
theorem dX5_note_15 : decode cX5_note 15 = .ok (.getfield 24, 3) := by decide +kernel
theorem dX5_note_18 : decode cX5_note 18 = .ok (.iload_n 2, 1) := by decide +kernel
theorem dX5_note_19 : decode cX5_note 19 = .ok (.iastore, 1) := by decide +kernel
theorem dX5_note_20 : decode cX5_note 20 = .ok (.aload_n 0, 1) := by decide +kernel
theorem dX5_note_21 : decode cX5_note 21 = .ok (.dup, 1) := by decide +kernel
theorem dX5_note_22 : decode cX5_note 22 = .ok (.getfield 24, 3) := by decide +kernel
theorem dX5_note_25 : decode cX5_note 25 = .ok (.iconst 1, 1) := by decide +kernel
theorem dX5_note_26 : decode cX5_note 26 = .ok (.iadd, 1) := by decide +kernel
theorem dX5_note_27 : decode cX5_note 27 = .ok (.putfield 24, 3) := by decide +kernel
theorem dX5_note_30 : decode cX5_note 30 = .ok (.aload_n 0, 1) := by decide +kernel
theorem dX5_note_31 : decode cX5_note 31 = .ok (.getfield 24, 3) := by decide +kernel
theorem dX5_note_34 : decode cX5_note 34 = .ok (.ireturn, 1) := by decide +kernel
theorem dX5_copyFrom_0 : decode cX5_copyFrom 0 = .ok (.aload_n 0, 1) := by decide +kernel
theorem dX5_copyFrom_1 : decode cX5_copyFrom 1 = .ok (.aload_n 1, 1) := by decide +kernel
theorem dX5_copyFrom_2 : decode cX5_copyFrom 2 = .ok (.getfield 24, 3) := by decide +kernel
theorem dX5_copyFrom_5 : decode cX5_copyFrom 5 = .ok (.putfield 24, 3) := by decide +kernel
theorem dX5_copyFrom_8 : decode cX5_copyFrom 8 = .ok (.iconst 0, 1) := by decide +kernel
theorem dX5_copyFrom_9 : decode cX5_copyFrom 9 = .ok (.istore_n 2, 1) := by decide +kernel
theorem dX5_copyFrom_10 : decode cX5_copyFrom 10 = .ok (.iload_n 2, 1) := by decide +kernel
theorem dX5_copyFrom_11 : decode cX5_copyFrom 11 = .ok (.iconst 4, 1) := by decide +kernel
theorem dX5_copyFrom_12 : decode cX5_copyFrom 12 = .ok (.if_icmp .ge 33, 3) := by decide +kernel
theorem dX5_copyFrom_15 : decode cX5_copyFrom 15 = .ok (.aload_n 0, 1) := by decide +kernel
theorem dX5_copyFrom_16 : decode cX5_copyFrom 16 = .ok (.getfield 9, 3) := by decide +kernel
theorem dX5_copyFrom_19 : decode cX5_copyFrom 19 = .ok (.iload_n 2, 1) := by decide +kernel
theorem dX5_copyFrom_20 : decode cX5_copyFrom 20 = .ok (.aload_n 1, 1) := by decide +kernel
theorem dX5_copyFrom_21 : decode cX5_copyFrom 21 = .ok (.getfield 9, 3) := by decide +kernel
theorem dX5_copyFrom_24 : decode cX5_copyFrom 24 = .ok (.iload_n 2, 1) := by decide +kernel
theorem dX5_copyFrom_25 : decode cX5_copyFrom 25 = .ok (.iaload, 1) := by decide +kernel
theorem dX5_copyFrom_26 : decode cX5_copyFrom 26 = .ok (.iastore, 1) := by decide +kernel
theorem dX5_copyFrom_27 : decode cX5_copyFrom 27 = .ok (.aload_n 0, 1) := by decide +kernel
theorem dX5_copyFrom_28 : decode cX5_copyFrom 28 = .ok (.getfield 15, 3) := by decide +kernel
theorem dX5_copyFrom_31 : decode cX5_copyFrom 31 = .ok (.iload_n 2, 1) := by decide +kernel
theorem dX5_copyFrom_32 : decode cX5_copyFrom 32 = .ok (.aload_n 1, 1) := by decide +kernel
theorem dX5_copyFrom_33 : decode cX5_copyFrom 33 = .ok (.getfield 15, 3) := by decide +kernel
theorem dX5_copyFrom_36 : decode cX5_copyFrom 36 = .ok (.iload_n 2, 1) := by decide +kernel
theorem dX5_copyFrom_37 : decode cX5_copyFrom 37 = .ok (.iaload, 1) := by decide +kernel
theorem dX5_copyFrom_38 : decode cX5_copyFrom 38 = .ok (.iastore, 1) := by decide +kernel
theorem dX5_copyFrom_39 : decode cX5_copyFrom 39 = .ok (.iinc 2 1, 3) := by decide +kernel
theorem dX5_copyFrom_42 : decode cX5_copyFrom 42 = .ok (.goto (-32), 3) := by decide +kernel
theorem dX5_copyFrom_45 : decode cX5_copyFrom 45 = .ok (.return_, 1) := by decide +kernel
set_option maxRecDepth 20000 in
theorem ggX5_findOrder_X5_startOrders : GoodIn wsX5_findOrder wsX5_startOrders := goodIn_r _ [12, 2, 99, 100, 101, 102, 103, 104] (by decide +kernel) (by decide +kernel)
set_option maxRecDepth 20000 in
theorem gX5_findOrder_X5_startOrders : GoodIn wsX5_findOrder (wsV RX5 31 RX5 yX5_startOrders wsX5_startOrders) := goodIn_app (goodIn_of _ (by decide +kernel)) ggX5_findOrder_X5_startOrders
set_option maxRecDepth 20000 in
theorem ggX5_findOrder_X2_copyFrom : GoodIn wsX5_findOrder wsX2_copyFrom := goodIn_r _ [17, 18, 19, 20, 21, 105, 106, 107, 108, 109] (by decide +kernel) (by decide +kernel)
set_option maxRecDepth 20000 in
theorem gX5_findOrder_X2_copyFrom : GoodIn wsX5_findOrder (wsV RX5 34 RX2 yX2_copyFrom wsX2_copyFrom) := goodIn_app (goodIn_of _ (by decide +kernel)) ggX5_findOrder_X2_copyFrom
set_option maxRecDepth 20000 in
theorem ggX5_findOrder_X5_marryInOrder : GoodIn wsX5_findOrder wsX5_marryInOrder := goodIn_r _ [25, 26, 2, 27, 28, 29, 30, 31, 16, 32, 33, 19, 34, 35, 36, 37, 38, 39, 40, 41, 42, 43, 44, 45, 46, 47, 48, 49, 50, 51, 52, 53, 54, 55, 56, 57, 58, 59, 60, 61, 62, 63, 64, 65, 20, 66, 67, 68, 21, 69, 70, 71, 72, 73, 74, 75, 76, 77, 78, 79, 80, 81, 82, 99, 100, 101, 102, 103, 104, 105, 106, 107, 108, 109] (by decide +kernel) (by decide +kernel)
set_option maxRecDepth 20000 in
theorem gX5_findOrder_X5_marryInOrder : GoodIn wsX5_findOrder (wsV RX5 40 RX5 yX5_marryInOrder wsX5_marryInOrder) := goodIn_app (goodIn_of _ (by decide +kernel)) ggX5_findOrder_X5_marryInOrder
set_option maxRecDepth 20000 in
theorem ggX5_findOrder_X2_allOwed : GoodIn wsX5_findOrder wsX2_allOwed := goodIn_r _ [86, 18, 87, 88, 89, 16, 90, 21, 105, 106, 107, 108, 109] (by decide +kernel) (by decide +kernel)
set_option maxRecDepth 20000 in
theorem gX5_findOrder_X2_allOwed : GoodIn wsX5_findOrder (wsV RX5 43 RX2 yX2_allOwed wsX2_allOwed) := goodIn_app (goodIn_of _ (by decide +kernel)) ggX5_findOrder_X2_allOwed
set_option maxRecDepth 20000 in
theorem ggX5_findOrder_X5_nextOrder : GoodIn wsX5_findOrder wsX5_nextOrder := goodIn_r _ [94, 26, 2, 95, 96, 97, 11, 98, 99, 100, 101, 102, 103, 104] (by decide +kernel) (by decide +kernel)
set_option maxRecDepth 20000 in
theorem gX5_findOrder_X5_nextOrder : GoodIn wsX5_findOrder (wsV RX5 53 RX5 yX5_nextOrder wsX5_nextOrder) := goodIn_app (goodIn_of _ (by decide +kernel)) ggX5_findOrder_X5_nextOrder
theorem dX5_findOrder_0 : decode cX5_findOrder 0 = .ok (.aload_n 0, 1) := by decide +kernel
theorem dX5_findOrder_1 : decode cX5_findOrder 1 = .ok (.invokevirtual 31, 3) := by decide +kernel
theorem dX5_findOrder_4 : decode cX5_findOrder 4 = .ok (.iconst 1, 1) := by decide +kernel
theorem dX5_findOrder_5 : decode cX5_findOrder 5 = .ok (.istore_n 3, 1) := by decide +kernel
theorem dX5_findOrder_6 : decode cX5_findOrder 6 = .ok (.iconst 0, 1) := by decide +kernel
theorem dX5_findOrder_7 : decode cX5_findOrder 7 = .ok (.istore 4, 2) := by decide +kernel
theorem dX5_findOrder_9 : decode cX5_findOrder 9 = .ok (.iload 4, 2) := by decide +kernel
theorem dX5_findOrder_11 : decode cX5_findOrder 11 = .ok (.bipush 24, 2) := by decide +kernel
theorem dX5_findOrder_13 : decode cX5_findOrder 13 = .ok (.if_icmp .ge 68, 3) := by decide +kernel
theorem dX5_findOrder_16 : decode cX5_findOrder 16 = .ok (.iload_n 3, 1) := by decide +kernel
theorem dX5_findOrder_17 : decode cX5_findOrder 17 = .ok (.ifCond .eq 64, 3) := by decide +kernel
theorem dX5_findOrder_20 : decode cX5_findOrder 20 = .ok (.aload_n 2, 1) := by decide +kernel
theorem dX5_findOrder_21 : decode cX5_findOrder 21 = .ok (.aload_n 1, 1) := by decide +kernel
theorem dX5_findOrder_22 : decode cX5_findOrder 22 = .ok (.invokevirtual 34, 3) := by decide +kernel
theorem dX5_findOrder_25 : decode cX5_findOrder 25 = .ok (.aload_n 0, 1) := by decide +kernel
theorem dX5_findOrder_26 : decode cX5_findOrder 26 = .ok (.aload_n 2, 1) := by decide +kernel
theorem dX5_findOrder_27 : decode cX5_findOrder 27 = .ok (.invokevirtual 40, 3) := by decide +kernel
theorem dX5_findOrder_30 : decode cX5_findOrder 30 = .ok (.aload_n 2, 1) := by decide +kernel
theorem dX5_findOrder_31 : decode cX5_findOrder 31 = .ok (.invokevirtual 43, 3) := by decide +kernel
theorem dX5_findOrder_34 : decode cX5_findOrder 34 = .ok (.istore 5, 2) := by decide +kernel
theorem dX5_findOrder_36 : decode cX5_findOrder 36 = .ok (.iload 4, 2) := by decide +kernel
theorem dX5_findOrder_38 : decode cX5_findOrder 38 = .ok (.ifCond .eq 12, 3) := by decide +kernel
theorem dX5_findOrder_41 : decode cX5_findOrder 41 = .ok (.iload 5, 2) := by decide +kernel
theorem dX5_findOrder_43 : decode cX5_findOrder 43 = .ok (.aload_n 0, 1) := by decide +kernel
theorem dX5_findOrder_44 : decode cX5_findOrder 44 = .ok (.getfield 28, 3) := by decide +kernel
theorem dX5_findOrder_47 : decode cX5_findOrder 47 = .ok (.if_icmp .ge 23, 3) := by decide +kernel
theorem dX5_findOrder_50 : decode cX5_findOrder 50 = .ok (.aload_n 0, 1) := by decide +kernel
theorem dX5_findOrder_51 : decode cX5_findOrder 51 = .ok (.iload 5, 2) := by decide +kernel
theorem dX5_findOrder_53 : decode cX5_findOrder 53 = .ok (.putfield 28, 3) := by decide +kernel
theorem dX5_findOrder_56 : decode cX5_findOrder 56 = .ok (.aload_n 0, 1) := by decide +kernel
theorem dX5_findOrder_57 : decode cX5_findOrder 57 = .ok (.getfield 18, 3) := by decide +kernel
theorem dX5_findOrder_60 : decode cX5_findOrder 60 = .ok (.iconst 0, 1) := by decide +kernel
theorem dX5_findOrder_61 : decode cX5_findOrder 61 = .ok (.aload_n 0, 1) := by decide +kernel
theorem dX5_findOrder_62 : decode cX5_findOrder 62 = .ok (.getfield 21, 3) := by decide +kernel
theorem dX5_findOrder_65 : decode cX5_findOrder 65 = .ok (.iconst 0, 1) := by decide +kernel
theorem dX5_findOrder_66 : decode cX5_findOrder 66 = .ok (.iconst 4, 1) := by decide +kernel
theorem dX5_findOrder_67 : decode cX5_findOrder 67 = .ok (.invokestatic 47, 3) := by decide +kernel
theorem dX5_findOrder_70 : decode cX5_findOrder 70 = .ok (.aload_n 0, 1) := by decide +kernel
theorem dX5_findOrder_71 : decode cX5_findOrder 71 = .ok (.invokevirtual 53, 3) := by decide +kernel
theorem dX5_findOrder_74 : decode cX5_findOrder 74 = .ok (.istore_n 3, 1) := by decide +kernel
theorem dX5_findOrder_75 : decode cX5_findOrder 75 = .ok (.iinc 4 1, 3) := by decide +kernel
theorem dX5_findOrder_78 : decode cX5_findOrder 78 = .ok (.goto (-69), 3) := by decide +kernel
theorem dX5_findOrder_81 : decode cX5_findOrder 81 = .ok (.return_, 1) := by decide +kernel
theorem dX5_startOrders_0 : decode cX5_startOrders 0 = .ok (.iconst 0, 1) := by decide +kernel
theorem dX5_startOrders_1 : decode cX5_startOrders 1 = .ok (.istore_n 1, 1) := by decide +kernel
theorem dX5_startOrders_2 : decode cX5_startOrders 2 = .ok (.iload_n 1, 1) := by decide +kernel
theorem dX5_startOrders_3 : decode cX5_startOrders 3 = .ok (.iconst 4, 1) := by decide +kernel
theorem dX5_startOrders_4 : decode cX5_startOrders 4 = .ok (.if_icmp .ge 16, 3) := by decide +kernel
theorem dX5_startOrders_7 : decode cX5_startOrders 7 = .ok (.aload_n 0, 1) := by decide +kernel
theorem dX5_startOrders_8 : decode cX5_startOrders 8 = .ok (.getfield 18, 3) := by decide +kernel
theorem dX5_startOrders_11 : decode cX5_startOrders 11 = .ok (.iload_n 1, 1) := by decide +kernel
theorem dX5_startOrders_12 : decode cX5_startOrders 12 = .ok (.iload_n 1, 1) := by decide +kernel
theorem dX5_startOrders_13 : decode cX5_startOrders 13 = .ok (.iastore, 1) := by decide +kernel
theorem dX5_startOrders_14 : decode cX5_startOrders 14 = .ok (.iinc 1 1, 3) := by decide +kernel
theorem dX5_startOrders_17 : decode cX5_startOrders 17 = .ok (.goto (-15), 3) := by decide +kernel
theorem dX5_startOrders_20 : decode cX5_startOrders 20 = .ok (.return_, 1) := by decide +kernel
set_option maxRecDepth 20000 in
theorem ggX5_marryInOrder_X2_marry : GoodIn wsX5_marryInOrder wsX2_marry := goodIn_r _ [9, 10, 11, 12, 13, 14, 15, 16, 17, 18, 19, 20, 21, 22, 23, 24, 25, 26, 27, 28, 29, 30, 31, 32, 33, 34, 35, 36, 37, 38, 39, 40, 41, 42, 8, 43, 44, 45, 46, 47, 48, 49, 50, 51, 52, 53, 54, 55, 56, 57, 58, 59, 60, 61, 62, 69, 70, 71, 72, 73] (by decide +kernel) (by decide +kernel)
set_option maxRecDepth 20000 in
theorem gX5_marryInOrder_X2_marry : GoodIn wsX5_marryInOrder (wsV RX5 57 RX2 yX2_marry wsX2_marry) := goodIn_app (goodIn_of _ (by decide +kernel)) ggX5_marryInOrder_X2_marry
theorem dX5_marryInOrder_0 : decode cX5_marryInOrder 0 = .ok (.iconst 0, 1) := by decide +kernel
theorem dX5_marryInOrder_1 : decode cX5_marryInOrder 1 = .ok (.istore_n 2, 1) := by decide +kernel
theorem dX5_marryInOrder_2 : decode cX5_marryInOrder 2 = .ok (.iload_n 2, 1) := by decide +kernel
theorem dX5_marryInOrder_3 : decode cX5_marryInOrder 3 = .ok (.aload_n 0, 1) := by decide +kernel
theorem dX5_marryInOrder_4 : decode cX5_marryInOrder 4 = .ok (.getfield 24, 3) := by decide +kernel
theorem dX5_marryInOrder_7 : decode cX5_marryInOrder 7 = .ok (.if_icmp .ge 33, 3) := by decide +kernel
theorem dX5_marryInOrder_10 : decode cX5_marryInOrder 10 = .ok (.aload_n 0, 1) := by decide +kernel
theorem dX5_marryInOrder_11 : decode cX5_marryInOrder 11 = .ok (.getfield 18, 3) := by decide +kernel
theorem dX5_marryInOrder_14 : decode cX5_marryInOrder 14 = .ok (.iload_n 2, 1) := by decide +kernel
theorem dX5_marryInOrder_15 : decode cX5_marryInOrder 15 = .ok (.iaload, 1) := by decide +kernel
theorem dX5_marryInOrder_16 : decode cX5_marryInOrder 16 = .ok (.istore_n 3, 1) := by decide +kernel
theorem dX5_marryInOrder_17 : decode cX5_marryInOrder 17 = .ok (.aload_n 1, 1) := by decide +kernel
theorem dX5_marryInOrder_18 : decode cX5_marryInOrder 18 = .ok (.aload_n 0, 1) := by decide +kernel
theorem dX5_marryInOrder_19 : decode cX5_marryInOrder 19 = .ok (.getfield 9, 3) := by decide +kernel
theorem dX5_marryInOrder_22 : decode cX5_marryInOrder 22 = .ok (.iload_n 3, 1) := by decide +kernel
theorem dX5_marryInOrder_23 : decode cX5_marryInOrder 23 = .ok (.iaload, 1) := by decide +kernel
theorem dX5_marryInOrder_24 : decode cX5_marryInOrder 24 = .ok (.aload_n 0, 1) := by decide +kernel
theorem dX5_marryInOrder_25 : decode cX5_marryInOrder 25 = .ok (.getfield 15, 3) := by decide +kernel
theorem dX5_marryInOrder_28 : decode cX5_marryInOrder 28 = .ok (.iload_n 3, 1) := by decide +kernel
theorem dX5_marryInOrder_29 : decode cX5_marryInOrder 29 = .ok (.iaload, 1) := by decide +kernel
theorem dX5_marryInOrder_30 : decode cX5_marryInOrder 30 = .ok (.invokevirtual 57, 3) := by decide +kernel
theorem dX5_marryInOrder_33 : decode cX5_marryInOrder 33 = .ok (.pop, 1) := by decide +kernel
theorem dX5_marryInOrder_34 : decode cX5_marryInOrder 34 = .ok (.iinc 2 1, 3) := by decide +kernel
theorem dX5_marryInOrder_37 : decode cX5_marryInOrder 37 = .ok (.goto (-35), 3) := by decide +kernel
theorem dX5_marryInOrder_40 : decode cX5_marryInOrder 40 = .ok (.return_, 1) := by decide +kernel
set_option maxRecDepth 20000 in
theorem ggX5_nextOrder_X5_swapTried : GoodIn wsX5_nextOrder wsX5_swapTried := goodIn_r _ [7, 2, 8, 9, 10, 11, 12, 13] (by decide +kernel) (by decide +kernel)
set_option maxRecDepth 20000 in
theorem gX5_nextOrder_X5_swapTried : GoodIn wsX5_nextOrder (wsV RX5 61 RX5 yX5_swapTried wsX5_swapTried) := goodIn_app (goodIn_of _ (by decide +kernel)) ggX5_nextOrder_X5_swapTried
theorem dX5_nextOrder_0 : decode cX5_nextOrder 0 = .ok (.aload_n 0, 1) := by decide +kernel
theorem dX5_nextOrder_1 : decode cX5_nextOrder 1 = .ok (.getfield 24, 3) := by decide +kernel
theorem dX5_nextOrder_4 : decode cX5_nextOrder 4 = .ok (.iconst 2, 1) := by decide +kernel
theorem dX5_nextOrder_5 : decode cX5_nextOrder 5 = .ok (.isub, 1) := by decide +kernel
theorem dX5_nextOrder_6 : decode cX5_nextOrder 6 = .ok (.istore_n 1, 1) := by decide +kernel
theorem dX5_nextOrder_7 : decode cX5_nextOrder 7 = .ok (.iload_n 1, 1) := by decide +kernel
theorem dX5_nextOrder_8 : decode cX5_nextOrder 8 = .ok (.ifCond .lt 26, 3) := by decide +kernel
theorem dX5_nextOrder_11 : decode cX5_nextOrder 11 = .ok (.aload_n 0, 1) := by decide +kernel
theorem dX5_nextOrder_12 : decode cX5_nextOrder 12 = .ok (.getfield 18, 3) := by decide +kernel
theorem dX5_nextOrder_15 : decode cX5_nextOrder 15 = .ok (.iload_n 1, 1) := by decide +kernel
theorem dX5_nextOrder_16 : decode cX5_nextOrder 16 = .ok (.iaload, 1) := by decide +kernel
theorem dX5_nextOrder_17 : decode cX5_nextOrder 17 = .ok (.aload_n 0, 1) := by decide +kernel
theorem dX5_nextOrder_18 : decode cX5_nextOrder 18 = .ok (.getfield 18, 3) := by decide +kernel
theorem dX5_nextOrder_21 : decode cX5_nextOrder 21 = .ok (.iload_n 1, 1) := by decide +kernel
theorem dX5_nextOrder_22 : decode cX5_nextOrder 22 = .ok (.iconst 1, 1) := by decide +kernel
theorem dX5_nextOrder_23 : decode cX5_nextOrder 23 = .ok (.iadd, 1) := by decide +kernel
theorem dX5_nextOrder_24 : decode cX5_nextOrder 24 = .ok (.iaload, 1) := by decide +kernel
theorem dX5_nextOrder_25 : decode cX5_nextOrder 25 = .ok (.if_icmp .le 9, 3) := by decide +kernel
theorem dX5_nextOrder_28 : decode cX5_nextOrder 28 = .ok (.iinc 1 (-1), 3) := by decide +kernel
theorem dX5_nextOrder_31 : decode cX5_nextOrder 31 = .ok (.goto (-24), 3) := by decide +kernel
theorem dX5_nextOrder_34 : decode cX5_nextOrder 34 = .ok (.iload_n 1, 1) := by decide +kernel
theorem dX5_nextOrder_35 : decode cX5_nextOrder 35 = .ok (.ifCond .ge 5, 3) := by decide +kernel
theorem dX5_nextOrder_38 : decode cX5_nextOrder 38 = .ok (.iconst 0, 1) := by decide +kernel
theorem dX5_nextOrder_39 : decode cX5_nextOrder 39 = .ok (.ireturn, 1) := by decide +kernel
theorem dX5_nextOrder_40 : decode cX5_nextOrder 40 = .ok (.aload_n 0, 1) := by decide +kernel
theorem dX5_nextOrder_41 : decode cX5_nextOrder 41 = .ok (.getfield 24, 3) := by decide +kernel
theorem dX5_nextOrder_44 : decode cX5_nextOrder 44 = .ok (.iconst 1, 1) := by decide +kernel
theorem dX5_nextOrder_45 : decode cX5_nextOrder 45 = .ok (.isub, 1) := by decide +kernel
theorem dX5_nextOrder_46 : decode cX5_nextOrder 46 = .ok (.istore_n 2, 1) := by decide +kernel
theorem dX5_nextOrder_47 : decode cX5_nextOrder 47 = .ok (.iload_n 2, 1) := by decide +kernel
theorem dX5_nextOrder_48 : decode cX5_nextOrder 48 = .ok (.iload_n 1, 1) := by decide +kernel
theorem dX5_nextOrder_49 : decode cX5_nextOrder 49 = .ok (.if_icmp .le 24, 3) := by decide +kernel
theorem dX5_nextOrder_52 : decode cX5_nextOrder 52 = .ok (.aload_n 0, 1) := by decide +kernel
theorem dX5_nextOrder_53 : decode cX5_nextOrder 53 = .ok (.getfield 18, 3) := by decide +kernel
theorem dX5_nextOrder_56 : decode cX5_nextOrder 56 = .ok (.iload_n 2, 1) := by decide +kernel
theorem dX5_nextOrder_57 : decode cX5_nextOrder 57 = .ok (.iaload, 1) := by decide +kernel
theorem dX5_nextOrder_58 : decode cX5_nextOrder 58 = .ok (.aload_n 0, 1) := by decide +kernel
theorem dX5_nextOrder_59 : decode cX5_nextOrder 59 = .ok (.getfield 18, 3) := by decide +kernel
theorem dX5_nextOrder_62 : decode cX5_nextOrder 62 = .ok (.iload_n 1, 1) := by decide +kernel
theorem dX5_nextOrder_63 : decode cX5_nextOrder 63 = .ok (.iaload, 1) := by decide +kernel
theorem dX5_nextOrder_64 : decode cX5_nextOrder 64 = .ok (.if_icmp .ge 9, 3) := by decide +kernel
theorem dX5_nextOrder_67 : decode cX5_nextOrder 67 = .ok (.iinc 2 (-1), 3) := by decide +kernel
theorem dX5_nextOrder_70 : decode cX5_nextOrder 70 = .ok (.goto (-23), 3) := by decide +kernel
theorem dX5_nextOrder_73 : decode cX5_nextOrder 73 = .ok (.aload_n 0, 1) := by decide +kernel
theorem dX5_nextOrder_74 : decode cX5_nextOrder 74 = .ok (.iload_n 1, 1) := by decide +kernel
theorem dX5_nextOrder_75 : decode cX5_nextOrder 75 = .ok (.iload_n 2, 1) := by decide +kernel
theorem dX5_nextOrder_76 : decode cX5_nextOrder 76 = .ok (.invokevirtual 61, 3) := by decide +kernel
theorem dX5_nextOrder_79 : decode cX5_nextOrder 79 = .ok (.iload_n 1, 1) := by decide +kernel
theorem dX5_nextOrder_80 : decode cX5_nextOrder 80 = .ok (.iconst 1, 1) := by decide +kernel
theorem dX5_nextOrder_81 : decode cX5_nextOrder 81 = .ok (.iadd, 1) := by decide +kernel
theorem dX5_nextOrder_82 : decode cX5_nextOrder 82 = .ok (.istore_n 3, 1) := by decide +kernel
theorem dX5_nextOrder_83 : decode cX5_nextOrder 83 = .ok (.aload_n 0, 1) := by decide +kernel
theorem dX5_nextOrder_84 : decode cX5_nextOrder 84 = .ok (.getfield 24, 3) := by decide +kernel
theorem dX5_nextOrder_87 : decode cX5_nextOrder 87 = .ok (.iconst 1, 1) := by decide +kernel
theorem dX5_nextOrder_88 : decode cX5_nextOrder 88 = .ok (.isub, 1) := by decide +kernel
theorem dX5_nextOrder_89 : decode cX5_nextOrder 89 = .ok (.istore 4, 2) := by decide +kernel
theorem dX5_nextOrder_91 : decode cX5_nextOrder 91 = .ok (.iload_n 3, 1) := by decide +kernel
theorem dX5_nextOrder_92 : decode cX5_nextOrder 92 = .ok (.iload 4, 2) := by decide +kernel
theorem dX5_nextOrder_94 : decode cX5_nextOrder 94 = .ok (.if_icmp .ge 19, 3) := by decide +kernel
theorem dX5_nextOrder_97 : decode cX5_nextOrder 97 = .ok (.aload_n 0, 1) := by decide +kernel
theorem dX5_nextOrder_98 : decode cX5_nextOrder 98 = .ok (.iload_n 3, 1) := by decide +kernel
theorem dX5_nextOrder_99 : decode cX5_nextOrder 99 = .ok (.iload 4, 2) := by decide +kernel
theorem dX5_nextOrder_101 : decode cX5_nextOrder 101 = .ok (.invokevirtual 61, 3) := by decide +kernel
theorem dX5_nextOrder_104 : decode cX5_nextOrder 104 = .ok (.iinc 3 1, 3) := by decide +kernel
theorem dX5_nextOrder_107 : decode cX5_nextOrder 107 = .ok (.iinc 4 (-1), 3) := by decide +kernel
theorem dX5_nextOrder_110 : decode cX5_nextOrder 110 = .ok (.goto (-19), 3) := by decide +kernel
theorem dX5_nextOrder_113 : decode cX5_nextOrder 113 = .ok (.iconst 1, 1) := by decide +kernel
theorem dX5_nextOrder_114 : decode cX5_nextOrder 114 = .ok (.ireturn, 1) := by decide +kernel
theorem dX5_swapTried_0 : decode cX5_swapTried 0 = .ok (.aload_n 0, 1) := by decide +kernel
theorem dX5_swapTried_1 : decode cX5_swapTried 1 = .ok (.getfield 18, 3) := by decide +kernel
theorem dX5_swapTried_4 : decode cX5_swapTried 4 = .ok (.iload_n 1, 1) := by decide +kernel
theorem dX5_swapTried_5 : decode cX5_swapTried 5 = .ok (.iaload, 1) := by decide +kernel
theorem dX5_swapTried_6 : decode cX5_swapTried 6 = .ok (.istore_n 3, 1) := by decide +kernel
theorem dX5_swapTried_7 : decode cX5_swapTried 7 = .ok (.aload_n 0, 1) := by decide +kernel
theorem dX5_swapTried_8 : decode cX5_swapTried 8 = .ok (.getfield 18, 3) := by decide +kernel
theorem dX5_swapTried_11 : decode cX5_swapTried 11 = .ok (.iload_n 1, 1) := by decide +kernel
theorem dX5_swapTried_12 : decode cX5_swapTried 12 = .ok (.aload_n 0, 1) := by decide +kernel
theorem dX5_swapTried_13 : decode cX5_swapTried 13 = .ok (.getfield 18, 3) := by decide +kernel
theorem dX5_swapTried_16 : decode cX5_swapTried 16 = .ok (.iload_n 2, 1) := by decide +kernel
theorem dX5_swapTried_17 : decode cX5_swapTried 17 = .ok (.iaload, 1) := by decide +kernel
theorem dX5_swapTried_18 : decode cX5_swapTried 18 = .ok (.iastore, 1) := by decide +kernel
theorem dX5_swapTried_19 : decode cX5_swapTried 19 = .ok (.aload_n 0, 1) := by decide +kernel
theorem dX5_swapTried_20 : decode cX5_swapTried 20 = .ok (.getfield 18, 3) := by decide +kernel
theorem dX5_swapTried_23 : decode cX5_swapTried 23 = .ok (.iload_n 2, 1) := by decide +kernel
theorem dX5_swapTried_24 : decode cX5_swapTried 24 = .ok (.iload_n 3, 1) := by decide +kernel
theorem dX5_swapTried_25 : decode cX5_swapTried 25 = .ok (.iastore, 1) := by decide +kernel
theorem dX5_swapTried_26 : decode cX5_swapTried 26 = .ok (.return_, 1) := by decide +kernel
theorem dX5_bestAt_0 : decode cX5_bestAt 0 = .ok (.iload_n 1, 1) := by decide +kernel
theorem dX5_bestAt_1 : decode cX5_bestAt 1 = .ok (.ifCond .lt 20, 3) := by decide +kernel
theorem dX5_bestAt_4 : decode cX5_bestAt 4 = .ok (.iload_n 1, 1) := by decide +kernel
theorem dX5_bestAt_5 : decode cX5_bestAt 5 = .ok (.aload_n 0, 1) := by decide +kernel
theorem dX5_bestAt_6 : decode cX5_bestAt 6 = .ok (.getfield 24, 3) := by decide +kernel
theorem dX5_bestAt_9 : decode cX5_bestAt 9 = .ok (.if_icmp .ge 12, 3) := by decide +kernel
