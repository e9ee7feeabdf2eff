theorem dX0_init_0 : decode cX0_init 0 = .ok (.aload_n 0, 1) := by decide +kernel
theorem dX0_init_1 : decode cX0_init 1 = .ok (.invokespecial 1, 3) := by decide +kernel
theorem dX0_init_4 : decode cX0_init 4 = .ok (.aload_n 0, 1) := by decide +kernel
theorem dX0_init_5 : decode cX0_init 5 = .ok (.iload_n 1, 1) := by decide +kernel
theorem dX0_init_6 : decode cX0_init 6 = .ok (.putfield 7, 3) := by decide +kernel
theorem dX0_init_9 : decode cX0_init 9 = .ok (.aload_n 0, 1) := by decide +kernel
theorem dX0_init_10 : decode cX0_init 10 = .ok (.iload_n 2, 1) := by decide +kernel
theorem dX0_init_11 : decode cX0_init 11 = .ok (.putfield 13, 3) := by decide +kernel
theorem dX0_init_14 : decode cX0_init 14 = .ok (.aload_n 0, 1) := by decide +kernel
theorem dX0_init_15 : decode cX0_init 15 = .ok (.iload_n 3, 1) := by decide +kernel
theorem dX0_init_16 : decode cX0_init 16 = .ok (.putfield 16, 3) := by decide +kernel
theorem dX0_init_19 : decode cX0_init 19 = .ok (.aload_n 0, 1) := by decide +kernel
theorem dX0_init_20 : decode cX0_init 20 = .ok (.iload 4, 2) := by decide +kernel
theorem dX0_init_22 : decode cX0_init 22 = .ok (.putfield 19, 3) := by decide +kernel
theorem dX0_init_25 : decode cX0_init 25 = .ok (.return_, 1) := by decide +kernel
set_option maxRecDepth 20000 in
theorem ggX1_init_Jx4a65c_init_da8c8 : GoodIn wsX1_init wsJx4a65c_init_da8c8 := goodIn_r _ [10, 11, 12, 13, 14, 15, 16, 17, 18, 19, 20, 21, 22, 2, 3, 23, 24, 25] (by decide +kernel) (by decide +kernel)
set_option maxRecDepth 20000 in
theorem gX1_init_Jx4a65c_init_da8c8 : GoodIn wsX1_init (wsJx4a65c_init_da8c8) := ggX1_init_Jx4a65c_init_da8c8
theorem dX1_init_0 : decode cX1_init 0 = .ok (.aload_n 0, 1) := by decide +kernel
theorem dX1_init_1 : decode cX1_init 1 = .ok (.invokespecial 3, 3) := by decide +kernel
theorem dX1_init_4 : decode cX1_init 4 = .ok (.aload_n 0, 1) := by decide +kernel
theorem dX1_init_5 : decode cX1_init 5 = .ok (.new 9, 3) := by decide +kernel
theorem dX1_init_8 : decode cX1_init 8 = .ok (.dup, 1) := by decide +kernel
theorem dX1_init_9 : decode cX1_init 9 = .ok (.invokespecial 11, 3) := by decide +kernel
theorem dX1_init_12 : decode cX1_init 12 = .ok (.putfield 12, 3) := by decide +kernel
theorem dX1_init_15 : decode cX1_init 15 = .ok (.return_, 1) := by decide +kernel
set_option maxRecDepth 20000 in
theorem ggX1_add_Jx4a65c_size_8abf5 : GoodIn wsX1_add wsJx4a65c_size_8abf5 := goodIn_r _ [6, 7, 63, 64, 65] (by decide +kernel) (by decide +kernel)
set_option maxRecDepth 20000 in
theorem gX1_add_Jx4a65c_size_8abf5 : GoodIn wsX1_add (wsV RX1 18 RJx4a65c yJx4a65c_size_8abf5 wsJx4a65c_size_8abf5) := goodIn_app (goodIn_of _ (by decide +kernel)) ggX1_add_Jx4a65c_size_8abf5
set_option maxRecDepth 20000 in
theorem ggX1_add_Jx4a65c_add_9ea2d : GoodIn wsX1_add wsJx4a65c_add_9ea2d := goodIn_r _ [11, 12, 13, 14, 7, 15, 16, 17, 5, 18, 19, 20, 21, 22, 23, 24, 25, 26, 27, 28, 29, 30, 31, 32, 33, 34, 35, 36, 37, 38, 39, 40, 41, 42, 43, 44, 45, 46, 47, 48, 49, 50, 51, 52, 53, 54, 55, 56, 57, 58, 59, 60, 61, 63, 64, 65] (by decide +kernel) (by decide +kernel)
set_option maxRecDepth 20000 in
theorem gX1_add_Jx4a65c_add_9ea2d : GoodIn wsX1_add (wsV RX1 22 RJx4a65c yJx4a65c_add_9ea2d wsJx4a65c_add_9ea2d) := goodIn_app (goodIn_of _ (by decide +kernel)) ggX1_add_Jx4a65c_add_9ea2d
theorem dX1_add_0 : decode cX1_add 0 = .ok (.aload_n 0, 1) := by decide +kernel
theorem dX1_add_1 : decode cX1_add 1 = .ok (.getfield 12, 3) := by decide +kernel
theorem dX1_add_4 : decode cX1_add 4 = .ok (.invokevirtual 18, 3) := by decide +kernel
theorem dX1_add_7 : decode cX1_add 7 = .ok (.sipush 512, 3) := by decide +kernel
theorem dX1_add_10 : decode cX1_add 10 = .ok (.if_icmp .ge 12, 3) := by decide +kernel
theorem dX1_add_13 : decode cX1_add 13 = .ok (.aload_n 0, 1) := by decide +kernel
theorem dX1_add_14 : decode cX1_add 14 = .ok (.getfield 12, 3) := by decide +kernel
theorem dX1_add_17 : decode cX1_add 17 = .ok (.aload_n 1, 1) := by decide +kernel
theorem dX1_add_18 : decode cX1_add 18 = .ok (.invokevirtual 22, 3) := by decide +kernel
theorem dX1_add_21 : decode cX1_add 21 = .ok (.pop, 1) := by decide +kernel
theorem dX1_add_22 : decode cX1_add 22 = .ok (.return_, 1) := by decide +kernel
set_option maxRecDepth 20000 in
theorem ggX1_isBilled_Jx4a65c_size_8abf5 : GoodIn wsX1_isBilled wsJx4a65c_size_8abf5 := goodIn_r _ [7, 8, 31, 32, 33] (by decide +kernel) (by decide +kernel)
set_option maxRecDepth 20000 in
theorem gX1_isBilled_Jx4a65c_size_8abf5 : GoodIn wsX1_isBilled (wsV RX1 18 RJx4a65c yJx4a65c_size_8abf5 wsJx4a65c_size_8abf5) := goodIn_app (goodIn_of _ (by decide +kernel)) ggX1_isBilled_Jx4a65c_size_8abf5
set_option maxRecDepth 20000 in
theorem ggX1_isBilled_Jx4a65c_get_915e3 : GoodIn wsX1_isBilled wsJx4a65c_get_915e3 := goodIn_r _ [12, 8, 13, 14, 15, 16, 17, 18, 19, 20, 21, 22, 23, 6, 24, 25, 31, 32, 33] (by decide +kernel) (by decide +kernel)
set_option maxRecDepth 20000 in
theorem gX1_isBilled_Jx4a65c_get_915e3 : GoodIn wsX1_isBilled (wsV RX1 26 RJx4a65c yJx4a65c_get_915e3 wsJx4a65c_get_915e3) := goodIn_app (goodIn_of _ (by decide +kernel)) ggX1_isBilled_Jx4a65c_get_915e3
theorem dX1_isBilled_0 : decode cX1_isBilled 0 = .ok (.iconst 0, 1) := by decide +kernel
theorem dX1_isBilled_1 : decode cX1_isBilled 1 = .ok (.istore_n 3, 1) := by decide +kernel
theorem dX1_isBilled_2 : decode cX1_isBilled 2 = .ok (.iload_n 3, 1) := by decide +kernel
theorem dX1_isBilled_3 : decode cX1_isBilled 3 = .ok (.aload_n 0, 1) := by decide +kernel
theorem dX1_isBilled_4 : decode cX1_isBilled 4 = .ok (.getfield 12, 3) := by decide +kernel
theorem dX1_isBilled_7 : decode cX1_isBilled 7 = .ok (.invokevirtual 18, 3) := by decide +kernel
theorem dX1_isBilled_10 : decode cX1_isBilled 10 = .ok (.if_icmp .ge 42, 3) := by decide +kernel
theorem dX1_isBilled_13 : decode cX1_isBilled 13 = .ok (.aload_n 0, 1) := by decide +kernel
theorem dX1_isBilled_14 : decode cX1_isBilled 14 = .ok (.getfield 12, 3) := by decide +kernel
theorem dX1_isBilled_17 : decode cX1_isBilled 17 = .ok (.iload_n 3, 1) := by decide +kernel
theorem dX1_isBilled_18 : decode cX1_isBilled 18 = .ok (.invokevirtual 26, 3) := by decide +kernel
theorem dX1_isBilled_21 : decode cX1_isBilled 21 = .ok (.checkcast 30, 3) := by decide +kernel
theorem dX1_isBilled_24 : decode cX1_isBilled 24 = .ok (.astore 4, 2) := by decide +kernel
theorem dX1_isBilled_26 : decode cX1_isBilled 26 = .ok (.aload 4, 2) := by decide +kernel
theorem dX1_isBilled_28 : decode cX1_isBilled 28 = .ok (.getfield 32, 3) := by decide +kernel
theorem dX1_isBilled_31 : decode cX1_isBilled 31 = .ok (.iload_n 1, 1) := by decide +kernel
theorem dX1_isBilled_32 : decode cX1_isBilled 32 = .ok (.if_icmp .ne 14, 3) := by decide +kernel
theorem dX1_isBilled_35 : decode cX1_isBilled 35 = .ok (.aload 4, 2) := by decide +kernel
theorem dX1_isBilled_37 : decode cX1_isBilled 37 = .ok (.getfield 36, 3) := by decide +kernel
theorem dX1_isBilled_40 : decode cX1_isBilled 40 = .ok (.iload_n 2, 1) := by decide +kernel
theorem dX1_isBilled_41 : decode cX1_isBilled 41 = .ok (.if_icmp .ne 5, 3) := by decide +kernel
theorem dX1_isBilled_44 : decode cX1_isBilled 44 = .ok (.iconst 1, 1) := by decide +kernel
theorem dX1_isBilled_45 : decode cX1_isBilled 45 = .ok (.ireturn, 1) := by decide +kernel
theorem dX1_isBilled_46 : decode cX1_isBilled 46 = .ok (.iinc 3 1, 3) := by decide +kernel
theorem dX1_isBilled_49 : decode cX1_isBilled 49 = .ok (.goto (-47), 3) := by decide +kernel
theorem dX1_isBilled_52 : decode cX1_isBilled 52 = .ok (.iconst 0, 1) := by decide +kernel
theorem dX1_isBilled_53 : decode cX1_isBilled 53 = .ok (.ireturn, 1) := by decide +kernel
set_option maxRecDepth 20000 in
theorem ggX1_centsOfMonth_Jx4a65c_size_8abf5 : GoodIn wsX1_centsOfMonth wsJx4a65c_size_8abf5 := goodIn_r _ [7, 8, 31, 32, 33] (by decide +kernel) (by decide +kernel)
set_option maxRecDepth 20000 in
theorem gX1_centsOfMonth_Jx4a65c_size_8abf5 : GoodIn wsX1_centsOfMonth (wsV RX1 18 RJx4a65c yJx4a65c_size_8abf5 wsJx4a65c_size_8abf5) := goodIn_app (goodIn_of _ (by decide +kernel)) ggX1_centsOfMonth_Jx4a65c_size_8abf5
set_option maxRecDepth 20000 in
theorem ggX1_centsOfMonth_Jx4a65c_get_915e3 : GoodIn wsX1_centsOfMonth wsJx4a65c_get_915e3 := goodIn_r _ [12, 8, 13, 14, 15, 16, 17, 18, 19, 20, 21, 22, 23, 6, 24, 25, 31, 32, 33] (by decide +kernel) (by decide +kernel)
set_option maxRecDepth 20000 in
theorem gX1_centsOfMonth_Jx4a65c_get_915e3 : GoodIn wsX1_centsOfMonth (wsV RX1 26 RJx4a65c yJx4a65c_get_915e3 wsJx4a65c_get_915e3) := goodIn_app (goodIn_of _ (by decide +kernel)) ggX1_centsOfMonth_Jx4a65c_get_915e3
theorem dX1_centsOfMonth_0 : decode cX1_centsOfMonth 0 = .ok (.iconst 0, 1) := by decide +kernel
theorem dX1_centsOfMonth_1 : decode cX1_centsOfMonth 1 = .ok (.istore_n 3, 1) := by decide +kernel
theorem dX1_centsOfMonth_2 : decode cX1_centsOfMonth 2 = .ok (.iconst 0, 1) := by decide +kernel
theorem dX1_centsOfMonth_3 : decode cX1_centsOfMonth 3 = .ok (.istore 4, 2) := by decide +kernel
theorem dX1_centsOfMonth_5 : decode cX1_centsOfMonth 5 = .ok (.iload 4, 2) := by decide +kernel
theorem dX1_centsOfMonth_7 : decode cX1_centsOfMonth 7 = .ok (.aload_n 0, 1) := by decide +kernel
theorem dX1_centsOfMonth_8 : decode cX1_centsOfMonth 8 = .ok (.getfield 12, 3) := by decide +kernel
theorem dX1_centsOfMonth_11 : decode cX1_centsOfMonth 11 = .ok (.invokevirtual 18, 3) := by decide +kernel
theorem dX1_centsOfMonth_14 : decode cX1_centsOfMonth 14 = .ok (.if_icmp .ge 49, 3) := by decide +kernel
theorem dX1_centsOfMonth_17 : decode cX1_centsOfMonth 17 = .ok (.aload_n 0, 1) := by decide +kernel
theorem dX1_centsOfMonth_18 : decode cX1_centsOfMonth 18 = .ok (.getfield 12, 3) := by decide +kernel
theorem dX1_centsOfMonth_21 : decode cX1_centsOfMonth 21 = .ok (.iload 4, 2) := by decide +kernel
theorem dX1_centsOfMonth_23 : decode cX1_centsOfMonth 23 = .ok (.invokevirtual 26, 3) := by decide +kernel
theorem dX1_centsOfMonth_26 : decode cX1_centsOfMonth 26 = .ok (.checkcast 30, 3) := by decide +kernel
theorem dX1_centsOfMonth_29 : decode cX1_centsOfMonth 29 = .ok (.astore 5, 2) := by decide +kernel
theorem dX1_centsOfMonth_31 : decode cX1_centsOfMonth 31 = .ok (.aload 5, 2) := by decide +kernel
theorem dX1_centsOfMonth_33 : decode cX1_centsOfMonth 33 = .ok (.getfield 32, 3) := by decide +kernel
theorem dX1_centsOfMonth_36 : decode cX1_centsOfMonth 36 = .ok (.iload_n 1, 1) := by decide +kernel
theorem dX1_centsOfMonth_37 : decode cX1_centsOfMonth 37 = .ok (.if_icmp .ne 20, 3) := by decide +kernel
theorem dX1_centsOfMonth_40 : decode cX1_centsOfMonth 40 = .ok (.aload 5, 2) := by decide +kernel
theorem dX1_centsOfMonth_42 : decode cX1_centsOfMonth 42 = .ok (.getfield 36, 3) := by decide +kernel
theorem dX1_centsOfMonth_45 : decode cX1_centsOfMonth 45 = .ok (.iload_n 2, 1) := by decide +kernel
theorem dX1_centsOfMonth_46 : decode cX1_centsOfMonth 46 = .ok (.if_icmp .ne 11, 3) := by decide +kernel
theorem dX1_centsOfMonth_49 : decode cX1_centsOfMonth 49 = .ok (.iload_n 3, 1) := by decide +kernel
theorem dX1_centsOfMonth_50 : decode cX1_centsOfMonth 50 = .ok (.aload 5, 2) := by decide +kernel
theorem dX1_centsOfMonth_52 : decode cX1_centsOfMonth 52 = .ok (.getfield 39, 3) := by decide +kernel
theorem dX1_centsOfMonth_55 : decode cX1_centsOfMonth 55 = .ok (.iadd, 1) := by decide +kernel
theorem dX1_centsOfMonth_56 : decode cX1_centsOfMonth 56 = .ok (.istore_n 3, 1) := by decide +kernel
theorem dX1_centsOfMonth_57 : decode cX1_centsOfMonth 57 = .ok (.iinc 4 1, 3) := by decide +kernel
theorem dX1_centsOfMonth_60 : decode cX1_centsOfMonth 60 = .ok (.goto (-55), 3) := by decide +kernel
theorem dX1_centsOfMonth_63 : decode cX1_centsOfMonth 63 = .ok (.iload_n 3, 1) := by decide +kernel
theorem dX1_centsOfMonth_64 : decode cX1_centsOfMonth 64 = .ok (.ireturn, 1) := by decide +kernel
set_option maxRecDepth 20000 in
theorem ggX1_centsOfOwner_Jx4a65c_size_8abf5 : GoodIn wsX1_centsOfOwner wsJx4a65c_size_8abf5 := goodIn_r _ [7, 8, 31, 32, 33] (by decide +kernel) (by decide +kernel)
set_option maxRecDepth 20000 in
theorem gX1_centsOfOwner_Jx4a65c_size_8abf5 : GoodIn wsX1_centsOfOwner (wsV RX1 18 RJx4a65c yJx4a65c_size_8abf5 wsJx4a65c_size_8abf5) := goodIn_app (goodIn_of _ (by decide +kernel)) ggX1_centsOfOwner_Jx4a65c_size_8abf5
set_option maxRecDepth 20000 in
theorem ggX1_centsOfOwner_Jx4a65c_get_915e3 : GoodIn wsX1_centsOfOwner wsJx4a65c_get_915e3 := goodIn_r _ [12, 8, 13, 14, 15, 16, 17, 18, 19, 20, 21, 22, 23, 6, 24, 25, 31, 32, 33] (by decide +kernel) (by decide +kernel)
set_option maxRecDepth 20000 in
theorem gX1_centsOfOwner_Jx4a65c_get_915e3 : GoodIn wsX1_centsOfOwner (wsV RX1 26 RJx4a65c yJx4a65c_get_915e3 wsJx4a65c_get_915e3) := goodIn_app (goodIn_of _ (by decide +kernel)) ggX1_centsOfOwner_Jx4a65c_get_915e3
theorem dX1_centsOfOwner_0 : decode cX1_centsOfOwner 0 = .ok (.iconst 0, 1) := by decide +kernel
theorem dX1_centsOfOwner_1 : decode cX1_centsOfOwner 1 = .ok (.istore_n 2, 1) := by decide +kernel
theorem dX1_centsOfOwner_2 : decode cX1_centsOfOwner 2 = .ok (.iconst 0, 1) := by decide +kernel
theorem dX1_centsOfOwner_3 : decode cX1_centsOfOwner 3 = .ok (.istore_n 3, 1) := by decide +kernel
theorem dX1_centsOfOwner_4 : decode cX1_centsOfOwner 4 = .ok (.iload_n 3, 1) := by decide +kernel
theorem dX1_centsOfOwner_5 : decode cX1_centsOfOwner 5 = .ok (.aload_n 0, 1) := by decide +kernel
theorem dX1_centsOfOwner_6 : decode cX1_centsOfOwner 6 = .ok (.getfield 12, 3) := by decide +kernel
theorem dX1_centsOfOwner_9 : decode cX1_centsOfOwner 9 = .ok (.invokevirtual 18, 3) := by decide +kernel
theorem dX1_centsOfOwner_12 : decode cX1_centsOfOwner 12 = .ok (.if_icmp .ge 39, 3) := by decide +kernel
theorem dX1_centsOfOwner_15 : decode cX1_centsOfOwner 15 = .ok (.aload_n 0, 1) := by decide +kernel
theorem dX1_centsOfOwner_16 : decode cX1_centsOfOwner 16 = .ok (.getfield 12, 3) := by decide +kernel
theorem dX1_centsOfOwner_19 : decode cX1_centsOfOwner 19 = .ok (.iload_n 3, 1) := by decide +kernel
theorem dX1_centsOfOwner_20 : decode cX1_centsOfOwner 20 = .ok (.invokevirtual 26, 3) := by decide +kernel
theorem dX1_centsOfOwner_23 : decode cX1_centsOfOwner 23 = .ok (.checkcast 30, 3) := by decide +kernel
theorem dX1_centsOfOwner_26 : decode cX1_centsOfOwner 26 = .ok (.astore 4, 2) := by decide +kernel
theorem dX1_centsOfOwner_28 : decode cX1_centsOfOwner 28 = .ok (.aload 4, 2) := by decide +kernel
theorem dX1_centsOfOwner_30 : decode cX1_centsOfOwner 30 = .ok (.getfield 32, 3) := by decide +kernel
theorem dX1_centsOfOwner_33 : decode cX1_centsOfOwner 33 = .ok (.iload_n 1, 1) := by decide +kernel
theorem dX1_centsOfOwner_34 : decode cX1_centsOfOwner 34 = .ok (.if_icmp .ne 11, 3) := by decide +kernel
theorem dX1_centsOfOwner_37 : decode cX1_centsOfOwner 37 = .ok (.iload_n 2, 1) := by decide +kernel
theorem dX1_centsOfOwner_38 : decode cX1_centsOfOwner 38 = .ok (.aload 4, 2) := by decide +kernel
theorem dX1_centsOfOwner_40 : decode cX1_centsOfOwner 40 = .ok (.getfield 39, 3) := by decide +kernel
theorem dX1_centsOfOwner_43 : decode cX1_centsOfOwner 43 = .ok (.iadd, 1) := by decide +kernel
theorem dX1_centsOfOwner_44 : decode cX1_centsOfOwner 44 = .ok (.istore_n 2, 1) := by decide +kernel
theorem dX1_centsOfOwner_45 : decode cX1_centsOfOwner 45 = .ok (.iinc 3 1, 3) := by decide +kernel
theorem dX1_centsOfOwner_48 : decode cX1_centsOfOwner 48 = .ok (.goto (-44), 3) := by decide +kernel
theorem dX1_centsOfOwner_51 : decode cX1_centsOfOwner 51 = .ok (.iload_n 2, 1) := by decide +kernel
theorem dX1_centsOfOwner_52 : decode cX1_centsOfOwner 52 = .ok (.ireturn, 1) := by decide +kernel
set_option maxRecDepth 20000 in
theorem ggX1_find_Jx4a65c_size_8abf5 : GoodIn wsX1_find wsJx4a65c_size_8abf5 := goodIn_r _ [7, 8, 31, 32, 33] (by decide +kernel) (by decide +kernel)
set_option maxRecDepth 20000 in
theorem gX1_find_Jx4a65c_size_8abf5 : GoodIn wsX1_find (wsV RX1 18 RJx4a65c yJx4a65c_size_8abf5 wsJx4a65c_size_8abf5) := goodIn_app (goodIn_of _ (by decide +kernel)) ggX1_find_Jx4a65c_size_8abf5
set_option maxRecDepth 20000 in
theorem ggX1_find_Jx4a65c_get_915e3 : GoodIn wsX1_find wsJx4a65c_get_915e3 := goodIn_r _ [12, 8, 13, 14, 15, 16, 17, 18, 19, 20, 21, 22, 23, 6, 24, 25, 31, 32, 33] (by decide +kernel) (by decide +kernel)
set_option maxRecDepth 20000 in
theorem gX1_find_Jx4a65c_get_915e3 : GoodIn wsX1_find (wsV RX1 26 RJx4a65c yJx4a65c_get_915e3 wsJx4a65c_get_915e3) := goodIn_app (goodIn_of _ (by decide +kernel)) ggX1_find_Jx4a65c_get_915e3
theorem dX1_find_0 : decode cX1_find 0 = .ok (.iconst 0, 1) := by decide +kernel
theorem dX1_find_1 : decode cX1_find 1 = .ok (.istore_n 3, 1) := by decide +kernel
theorem dX1_find_2 : decode cX1_find 2 = .ok (.iconst 0, 1) := by decide +kernel
theorem dX1_find_3 : decode cX1_find 3 = .ok (.istore 4, 2) := by decide +kernel
theorem dX1_find_5 : decode cX1_find 5 = .ok (.iload 4, 2) := by decide +kernel
theorem dX1_find_7 : decode cX1_find 7 = .ok (.aload_n 0, 1) := by decide +kernel
theorem dX1_find_8 : decode cX1_find 8 = .ok (.getfield 12, 3) := by decide +kernel
theorem dX1_find_11 : decode cX1_find 11 = .ok (.invokevirtual 18, 3) := by decide +kernel
theorem dX1_find_14 : decode cX1_find 14 = .ok (.if_icmp .ge 43, 3) := by decide +kernel
theorem dX1_find_17 : decode cX1_find 17 = .ok (.aload_n 0, 1) := by decide +kernel
theorem dX1_find_18 : decode cX1_find 18 = .ok (.getfield 12, 3) := by decide +kernel
theorem dX1_find_21 : decode cX1_find 21 = .ok (.iload 4, 2) := by decide +kernel
theorem dX1_find_23 : decode cX1_find 23 = .ok (.invokevirtual 26, 3) := by decide +kernel
theorem dX1_find_26 : decode cX1_find 26 = .ok (.checkcast 30, 3) := by decide +kernel
theorem dX1_find_29 : decode cX1_find 29 = .ok (.astore 5, 2) := by decide +kernel
theorem dX1_find_31 : decode cX1_find 31 = .ok (.aload 5, 2) := by decide +kernel
theorem dX1_find_33 : decode cX1_find 33 = .ok (.getfield 32, 3) := by decide +kernel
theorem dX1_find_36 : decode cX1_find 36 = .ok (.iload_n 1, 1) := by decide +kernel
theorem dX1_find_37 : decode cX1_find 37 = .ok (.if_icmp .ne 14, 3) := by decide +kernel
theorem dX1_find_40 : decode cX1_find 40 = .ok (.iload_n 3, 1) := by decide +kernel
theorem dX1_find_41 : decode cX1_find 41 = .ok (.iload_n 2, 1) := by decide +kernel
theorem dX1_find_42 : decode cX1_find 42 = .ok (.if_icmp .ne 6, 3) := by decide +kernel
theorem dX1_find_45 : decode cX1_find 45 = .ok (.aload 5, 2) := by decide +kernel
theorem dX1_find_47 : decode cX1_find 47 = .ok (.areturn, 1) := by decide +kernel
theorem dX1_find_48 : decode cX1_find 48 = .ok (.iinc 3 1, 3) := by decide +kernel
theorem dX1_find_51 : decode cX1_find 51 = .ok (.iinc 4 1, 3) := by decide +kernel
theorem dX1_find_54 : decode cX1_find 54 = .ok (.goto (-49), 3) := by decide +kernel
theorem dX1_find_57 : decode cX1_find 57 = .ok (.aconst_null, 1) := by decide +kernel
theorem dX1_find_58 : decode cX1_find 58 = .ok (.areturn, 1) := by decide +kernel
set_option maxRecDepth 20000 in
theorem ggX2_init_X2_clear : GoodIn wsX2_init wsX2_clear := goodIn_r _ [18, 5, 6, 7, 11, 12, 13, 19, 20, 21, 22, 23, 24, 25, 26, 27, 28, 29, 30, 31] (by decide +kernel) (by decide +kernel)
set_option maxRecDepth 20000 in
theorem gX2_init_X2_clear : GoodIn wsX2_init (wsV RX2 40 RX2 yX2_clear wsX2_clear) := goodIn_app (goodIn_of _ (by decide +kernel)) ggX2_init_X2_clear
theorem dX2_init_0 : decode cX2_init 0 = .ok (.aload_n 0, 1) := by decide +kernel
theorem dX2_init_1 : decode cX2_init 1 = .ok (.invokespecial 3, 3) := by decide +kernel
theorem dX2_init_4 : decode cX2_init 4 = .ok (.aload_n 0, 1) := by decide +kernel
theorem dX2_init_5 : decode cX2_init 5 = .ok (.bipush 40, 2) := by decide +kernel
theorem dX2_init_7 : decode cX2_init 7 = .ok (.newarray .int, 2) := by decide +kernel
theorem dX2_init_9 : decode cX2_init 9 = .ok (.putfield 9, 3) := by decide +kernel
theorem dX2_init_12 : decode cX2_init 12 = .ok (.aload_n 0, 1) := by decide +kernel
theorem dX2_init_13 : decode cX2_init 13 = .ok (.bipush 40, 2) := by decide +kernel
theorem dX2_init_15 : decode cX2_init 15 = .ok (.newarray .int, 2) := by decide +kernel
theorem dX2_init_17 : decode cX2_init 17 = .ok (.putfield 15, 3) := by decide +kernel
theorem dX2_init_20 : decode cX2_init 20 = .ok (.aload_n 0, 1) := by decide +kernel
theorem dX2_init_21 : decode cX2_init 21 = .ok (.bipush 8, 2) := by decide +kernel
theorem dX2_init_23 : decode cX2_init 23 = .ok (.newarray .int, 2) := by decide +kernel
theorem dX2_init_25 : decode cX2_init 25 = .ok (.putfield 18, 3) := by decide +kernel
theorem dX2_init_28 : decode cX2_init 28 = .ok (.aload_n 0, 1) := by decide +kernel
theorem dX2_init_29 : decode cX2_init 29 = .ok (.bipush 60, 2) := by decide +kernel
theorem dX2_init_31 : decode cX2_init 31 = .ok (.newarray .int, 2) := by decide +kernel
theorem dX2_init_33 : decode cX2_init 33 = .ok (.putfield 21, 3) := by decide +kernel
theorem dX2_init_36 : decode cX2_init 36 = .ok (.aload_n 0, 1) := by decide +kernel
theorem dX2_init_37 : decode cX2_init 37 = .ok (.bipush 60, 2) := by decide +kernel
theorem dX2_init_39 : decode cX2_init 39 = .ok (.newarray .int, 2) := by decide +kernel
theorem dX2_init_41 : decode cX2_init 41 = .ok (.putfield 24, 3) := by decide +kernel
theorem dX2_init_44 : decode cX2_init 44 = .ok (.aload_n 0, 1) := by decide +kernel
theorem dX2_init_45 : decode cX2_init 45 = .ok (.bipush 60, 2) := by decide +kernel
theorem dX2_init_47 : decode cX2_init 47 = .ok (.newarray .int, 2) := by decide +kernel
theorem dX2_init_49 : decode cX2_init 49 = .ok (.putfield 27, 3) := by decide +kernel
theorem dX2_init_52 : decode cX2_init 52 = .ok (.aload_n 0, 1) := by decide +kernel
theorem dX2_init_53 : decode cX2_init 53 = .ok (.iconst 0, 1) := by decide +kernel
theorem dX2_init_54 : decode cX2_init 54 = .ok (.putfield 30, 3) := by decide +kernel
theorem dX2_init_57 : decode cX2_init 57 = .ok (.aload_n 0, 1) := by decide +kernel
theorem dX2_init_58 : decode cX2_init 58 = .ok (.iconst 0, 1) := by decide +kernel
theorem dX2_init_59 : decode cX2_init 59 = .ok (.putfield 34, 3) := by decide +kernel
theorem dX2_init_62 : decode cX2_init 62 = .ok (.aload_n 0, 1) := by decide +kernel
theorem dX2_init_63 : decode cX2_init 63 = .ok (.iconst 0, 1) := by decide +kernel
theorem dX2_init_64 : decode cX2_init 64 = .ok (.putfield 37, 3) := by decide +kernel
theorem dX2_init_67 : decode cX2_init 67 = .ok (.aload_n 0, 1) := by decide +kernel
theorem dX2_init_68 : decode cX2_init 68 = .ok (.invokevirtual 40, 3) := by decide +kernel
theorem dX2_init_71 : decode cX2_init 71 = .ok (.return_, 1) := by decide +kernel
set_option maxRecDepth 20000 in
theorem ggX2_clear_J7_fill_53178 : GoodIn wsX2_clear wsJ7_fill_53178 := goodIn_r _ [10] (by decide +kernel) (by decide +kernel)
set_option maxRecDepth 20000 in
theorem gX2_clear_J7_fill_53178 : GoodIn wsX2_clear (va_wsS RX2 43 yJ7_fill_53178 wsJ7_fill_53178) := goodIn_app (goodIn_of _ (by decide +kernel)) ggX2_clear_J7_fill_53178
theorem dX2_clear_0 : decode cX2_clear 0 = .ok (.aload_n 0, 1) := by decide +kernel
theorem dX2_clear_1 : decode cX2_clear 1 = .ok (.getfield 9, 3) := by decide +kernel
theorem dX2_clear_4 : decode cX2_clear 4 = .ok (.iconst (-1), 1) := by decide +kernel
theorem dX2_clear_5 : decode cX2_clear 5 = .ok (.invokestatic 43, 3) := by decide +kernel
theorem dX2_clear_8 : decode cX2_clear 8 = .ok (.aload_n 0, 1) := by decide +kernel
theorem dX2_clear_9 : decode cX2_clear 9 = .ok (.getfield 15, 3) := by decide +kernel
theorem dX2_clear_12 : decode cX2_clear 12 = .ok (.iconst (-1), 1) := by decide +kernel
theorem dX2_clear_13 : decode cX2_clear 13 = .ok (.invokestatic 43, 3) := by decide +kernel
theorem dX2_clear_16 : decode cX2_clear 16 = .ok (.aload_n 0, 1) := by decide +kernel
theorem dX2_clear_17 : decode cX2_clear 17 = .ok (.getfield 18, 3) := by decide +kernel
theorem dX2_clear_20 : decode cX2_clear 20 = .ok (.iconst (-1), 1) := by decide +kernel
theorem dX2_clear_21 : decode cX2_clear 21 = .ok (.invokestatic 43, 3) := by decide +kernel
theorem dX2_clear_24 : decode cX2_clear 24 = .ok (.aload_n 0, 1) := by decide +kernel
theorem dX2_clear_25 : decode cX2_clear 25 = .ok (.iconst 0, 1) := by decide +kernel
theorem dX2_clear_26 : decode cX2_clear 26 = .ok (.putfield 30, 3) := by decide +kernel
theorem dX2_clear_29 : decode cX2_clear 29 = .ok (.aload_n 0, 1) := by decide +kernel
theorem dX2_clear_30 : decode cX2_clear 30 = .ok (.iconst 0, 1) := by decide +kernel
theorem dX2_clear_31 : decode cX2_clear 31 = .ok (.putfield 34, 3) := by decide +kernel
theorem dX2_clear_34 : decode cX2_clear 34 = .ok (.aload_n 0, 1) := by decide +kernel
theorem dX2_clear_35 : decode cX2_clear 35 = .ok (.iconst 0, 1) := by decide +kernel
theorem dX2_clear_36 : decode cX2_clear 36 = .ok (.putfield 37, 3) := by decide +kernel
theorem dX2_clear_39 : decode cX2_clear 39 = .ok (.return_, 1) := by decide +kernel
set_option maxRecDepth 20000 in
theorem ggX2_tell_X7_isWithin : GoodIn wsX2_tell wsX7_isWithin := goodIn_r _ [5] (by decide +kernel) (by decide +kernel)
set_option maxRecDepth 20000 in
theorem gX2_tell_X7_isWithin_n49 : GoodIn wsX2_tell (wsX7_isWithin) := ggX2_tell_X7_isWithin
set_option maxRecDepth 20000 in
theorem ggX2_tell_X2_tellOf : GoodIn wsX2_tell wsX2_tellOf := goodIn_r _ [10, 11, 12, 13, 3, 4, 5, 14, 15, 9, 16, 17, 18, 19, 20, 21, 22, 23, 24, 25, 26, 27, 28, 29, 30, 31, 32, 33, 34, 35, 36, 37, 38, 39, 40] (by decide +kernel) (by decide +kernel)
set_option maxRecDepth 20000 in
theorem gX2_tell_X2_tellOf : GoodIn wsX2_tell (wsV RX2 53 RX2 yX2_tellOf wsX2_tellOf) := goodIn_app (goodIn_of _ (by decide +kernel)) ggX2_tell_X2_tellOf
theorem dX2_tell_0 : decode cX2_tell 0 = .ok (.iload_n 2, 1) := by decide +kernel
theorem dX2_tell_1 : decode cX2_tell 1 = .ok (.iconst 0, 1) := by decide +kernel
theorem dX2_tell_2 : decode cX2_tell 2 = .ok (.bipush 7, 2) := by decide +kernel
theorem dX2_tell_4 : decode cX2_tell 4 = .ok (.invokestatic 49, 3) := by decide +kernel
theorem dX2_tell_7 : decode cX2_tell 7 = .ok (.ifCond .eq 15, 3) := by decide +kernel
theorem dX2_tell_10 : decode cX2_tell 10 = .ok (.aload_n 0, 1) := by decide +kernel
theorem dX2_tell_11 : decode cX2_tell 11 = .ok (.iload_n 1, 1) := by decide +kernel
theorem dX2_tell_12 : decode cX2_tell 12 = .ok (.iload_n 2, 1) := by decide +kernel
theorem dX2_tell_13 : decode cX2_tell 13 = .ok (.iload_n 3, 1) := by decide +kernel
theorem dX2_tell_14 : decode cX2_tell 14 = .ok (.iload 4, 2) := by decide +kernel
theorem dX2_tell_16 : decode cX2_tell 16 = .ok (.invokevirtual 53, 3) := by decide +kernel
theorem dX2_tell_19 : decode cX2_tell 19 = .ok (.ifCond .ne 5, 3) := by decide +kernel
theorem dX2_tell_22 : decode cX2_tell 22 = .ok (.iconst 0, 1) := by decide +kernel
theorem dX2_tell_23 : decode cX2_tell 23 = .ok (.ireturn, 1) := by decide +kernel
theorem dX2_tell_24 : decode cX2_tell 24 = .ok (.aload_n 0, 1) := by decide +kernel
theorem dX2_tell_25 : decode cX2_tell 25 = .ok (.dup, 1) := by decide +kernel
theorem dX2_tell_26 : decode cX2_tell 26 = .ok (.getfield 34, 3) := by decide +kernel
theorem dX2_tell_29 : decode cX2_tell 29 = .ok (.iconst 1, 1) := by decide +kernel
theorem dX2_tell_30 : decode cX2_tell 30 = .ok (.iadd, 1) := by decide +kernel
theorem dX2_tell_31 : decode cX2_tell 31 = .ok (.putfield 34, 3) := by decide +kernel
theorem dX2_tell_34 : decode cX2_tell 34 = .ok (.aload_n 0, 1) := by decide +kernel
theorem dX2_tell_35 : decode cX2_tell 35 = .ok (.dup, 1) := by decide +kernel
theorem dX2_tell_36 : decode cX2_tell 36 = .ok (.getfield 37, 3) := by decide +kernel
theorem dX2_tell_39 : decode cX2_tell 39 = .ok (.iconst 1, 1) := by decide +kernel
theorem dX2_tell_40 : decode cX2_tell 40 = .ok (.iload_n 2, 1) := by decide +kernel
theorem dX2_tell_41 : decode cX2_tell 41 = .ok (.ishl, 1) := by decide +kernel
theorem dX2_tell_42 : decode cX2_tell 42 = .ok (.ior, 1) := by decide +kernel
theorem dX2_tell_43 : decode cX2_tell 43 = .ok (.putfield 37, 3) := by decide +kernel
theorem dX2_tell_46 : decode cX2_tell 46 = .ok (.iconst 1, 1) := by decide +kernel
theorem dX2_tell_47 : decode cX2_tell 47 = .ok (.ireturn, 1) := by decide +kernel
set_option maxRecDepth 20000 in
theorem ggX2_tellOf_X7_isWithin : GoodIn wsX2_tellOf wsX7_isWithin := goodIn_r _ [6] (by decide +kernel) (by decide +kernel)
set_option maxRecDepth 20000 in
theorem gX2_tellOf_X7_isWithin_n49 : GoodIn wsX2_tellOf (wsX7_isWithin) := ggX2_tellOf_X7_isWithin
set_option maxRecDepth 20000 in
theorem ggX2_tellOf_X2_place : GoodIn wsX2_tellOf wsX2_place := goodIn_r _ [10] (by decide +kernel) (by decide +kernel)
set_option maxRecDepth 20000 in
theorem gX2_tellOf_X2_place : GoodIn wsX2_tellOf (va_wsS RX2 57 yX2_place wsX2_place) := goodIn_app (goodIn_of _ (by decide +kernel)) ggX2_tellOf_X2_place
set_option maxRecDepth 20000 in
theorem ggX2_tellOf_X2_tellCents : GoodIn wsX2_tellOf wsX2_tellCents := goodIn_r _ [13, 4, 5, 6] (by decide +kernel) (by decide +kernel)
set_option maxRecDepth 20000 in
theorem gX2_tellOf_X2_tellCents : GoodIn wsX2_tellOf (va_wsS RX2 61 yX2_tellCents wsX2_tellCents) := goodIn_app (goodIn_of _ (by decide +kernel)) ggX2_tellOf_X2_tellCents
set_option maxRecDepth 20000 in
theorem ggX2_tellOf_X2_tellDiscount : GoodIn wsX2_tellOf wsX2_tellDiscount := goodIn_r _ [17, 18, 19, 20, 21, 4, 5, 6, 22, 23, 24, 9, 25, 26, 27, 28, 29, 30, 31, 32, 33, 34] (by decide +kernel) (by decide +kernel)
set_option maxRecDepth 20000 in
theorem gX2_tellOf_X2_tellDiscount : GoodIn wsX2_tellOf (wsV RX2 65 RX2 yX2_tellDiscount wsX2_tellDiscount) := goodIn_app (goodIn_of _ (by decide +kernel)) ggX2_tellOf_X2_tellDiscount
theorem dX2_tellOf_0 : decode cX2_tellOf 0 = .ok (.iload_n 1, 1) := by decide +kernel
theorem dX2_tellOf_1 : decode cX2_tellOf 1 = .ok (.lookupswitch 126 #[(72, 75), (77, 107), (83, 43), (86, 117)], 43) := by decide +kernel
theorem dX2_tellOf_44 : decode cX2_tellOf 44 = .ok (.iload_n 3, 1) := by decide +kernel
theorem dX2_tellOf_45 : decode cX2_tellOf 45 = .ok (.iconst 0, 1) := by decide +kernel
theorem dX2_tellOf_46 : decode cX2_tellOf 46 = .ok (.iconst 4, 1) := by decide +kernel
theorem dX2_tellOf_47 : decode cX2_tellOf 47 = .ok (.invokestatic 49, 3) := by decide +kernel
theorem dX2_tellOf_50 : decode cX2_tellOf 50 = .ok (.ifCond .eq 24, 3) := by decide +kernel
theorem dX2_tellOf_53 : decode cX2_tellOf 53 = .ok (.aload_n 0, 1) := by decide +kernel
theorem dX2_tellOf_54 : decode cX2_tellOf 54 = .ok (.getfield 9, 3) := by decide +kernel
theorem dX2_tellOf_57 : decode cX2_tellOf 57 = .ok (.iload_n 2, 1) := by decide +kernel
theorem dX2_tellOf_58 : decode cX2_tellOf 58 = .ok (.iload_n 3, 1) := by decide +kernel
theorem dX2_tellOf_59 : decode cX2_tellOf 59 = .ok (.invokestatic 57, 3) := by decide +kernel
theorem dX2_tellOf_62 : decode cX2_tellOf 62 = .ok (.iload 4, 2) := by decide +kernel
theorem dX2_tellOf_64 : decode cX2_tellOf 64 = .ok (.invokestatic 61, 3) := by decide +kernel
theorem dX2_tellOf_67 : decode cX2_tellOf 67 = .ok (.ifCond .eq 7, 3) := by decide +kernel
theorem dX2_tellOf_70 : decode cX2_tellOf 70 = .ok (.iconst 1, 1) := by decide +kernel
theorem dX2_tellOf_71 : decode cX2_tellOf 71 = .ok (.goto 4, 3) := by decide +kernel
theorem dX2_tellOf_74 : decode cX2_tellOf 74 = .ok (.iconst 0, 1) := by decide +kernel
theorem dX2_tellOf_75 : decode cX2_tellOf 75 = .ok (.ireturn, 1) := by decide +kernel
theorem dX2_tellOf_76 : decode cX2_tellOf 76 = .ok (.iload_n 3, 1) := by decide +kernel
theorem dX2_tellOf_77 : decode cX2_tellOf 77 = .ok (.iconst 0, 1) := by decide +kernel
theorem dX2_tellOf_78 : decode cX2_tellOf 78 = .ok (.iconst 4, 1) := by decide +kernel
theorem dX2_tellOf_79 : decode cX2_tellOf 79 = .ok (.invokestatic 49, 3) := by decide +kernel
theorem dX2_tellOf_82 : decode cX2_tellOf 82 = .ok (.ifCond .eq 24, 3) := by decide +kernel
theorem dX2_tellOf_85 : decode cX2_tellOf 85 = .ok (.aload_n 0, 1) := by decide +kernel
theorem dX2_tellOf_86 : decode cX2_tellOf 86 = .ok (.getfield 15, 3) := by decide +kernel
theorem dX2_tellOf_89 : decode cX2_tellOf 89 = .ok (.iload_n 2, 1) := by decide +kernel
theorem dX2_tellOf_90 : decode cX2_tellOf 90 = .ok (.iload_n 3, 1) := by decide +kernel
theorem dX2_tellOf_91 : decode cX2_tellOf 91 = .ok (.invokestatic 57, 3) := by decide +kernel
theorem dX2_tellOf_94 : decode cX2_tellOf 94 = .ok (.iload 4, 2) := by decide +kernel
theorem dX2_tellOf_96 : decode cX2_tellOf 96 = .ok (.invokestatic 61, 3) := by decide +kernel
theorem dX2_tellOf_99 : decode cX2_tellOf 99 = .ok (.ifCond .eq 7, 3) := by decide +kernel
theorem dX2_tellOf_102 : decode cX2_tellOf 102 = .ok (.iconst 1, 1) := by decide +kernel
theorem dX2_tellOf_103 : decode cX2_tellOf 103 = .ok (.goto 4, 3) := by decide +kernel
theorem dX2_tellOf_106 : decode cX2_tellOf 106 = .ok (.iconst 0, 1) := by decide +kernel
theorem dX2_tellOf_107 : decode cX2_tellOf 107 = .ok (.ireturn, 1) := by decide +kernel
theorem dX2_tellOf_108 : decode cX2_tellOf 108 = .ok (.aload_n 0, 1) := by decide +kernel
theorem dX2_tellOf_109 : decode cX2_tellOf 109 = .ok (.getfield 18, 3) := by decide +kernel
theorem dX2_tellOf_112 : decode cX2_tellOf 112 = .ok (.iload_n 2, 1) := by decide +kernel
theorem dX2_tellOf_113 : decode cX2_tellOf 113 = .ok (.iload_n 3, 1) := by decide +kernel
theorem dX2_tellOf_114 : decode cX2_tellOf 114 = .ok (.invokestatic 61, 3) := by decide +kernel
theorem dX2_tellOf_117 : decode cX2_tellOf 117 = .ok (.ireturn, 1) := by decide +kernel
theorem dX2_tellOf_118 : decode cX2_tellOf 118 = .ok (.aload_n 0, 1) := by decide +kernel
theorem dX2_tellOf_119 : decode cX2_tellOf 119 = .ok (.iload_n 2, 1) := by decide +kernel
theorem dX2_tellOf_120 : decode cX2_tellOf 120 = .ok (.iload_n 3, 1) := by decide +kernel
theorem dX2_tellOf_121 : decode cX2_tellOf 121 = .ok (.iload 4, 2) := by decide +kernel
theorem dX2_tellOf_123 : decode cX2_tellOf 123 = .ok (.invokevirtual 65, 3) := by decide +kernel
theorem dX2_tellOf_126 : decode cX2_tellOf 126 = .ok (.ireturn, 1) := by decide +kernel
theorem dX2_tellOf_127 : decode cX2_tellOf 127 = .ok (.iconst 0, 1) := by decide +kernel
theorem dX2_tellOf_128 : decode cX2_tellOf 128 = .ok (.ireturn, 1) := by decide +kernel
theorem dX2_place_0 : decode cX2_place 0 = .ok (.iconst 5, 1) := by decide +kernel
theorem dX2_place_1 : decode cX2_place 1 = .ok (.iload_n 0, 1) := by decide +kernel
theorem dX2_place_2 : decode cX2_place 2 = .ok (.imul, 1) := by decide +kernel
theorem dX2_place_3 : decode cX2_place 3 = .ok (.iload_n 1, 1) := by decide +kernel
theorem dX2_place_4 : decode cX2_place 4 = .ok (.iadd, 1) := by decide +kernel
theorem dX2_place_5 : decode cX2_place 5 = .ok (.ireturn, 1) := by decide +kernel
set_option maxRecDepth 20000 in
theorem ggX2_tellCents_X7_isWithin : GoodIn wsX2_tellCents wsX7_isWithin := goodIn_r _ [3] (by decide +kernel) (by decide +kernel)
set_option maxRecDepth 20000 in
theorem gX2_tellCents_X7_isWithin_n49 : GoodIn wsX2_tellCents (wsX7_isWithin) := ggX2_tellCents_X7_isWithin
theorem dX2_tellCents_0 : decode cX2_tellCents 0 = .ok (.iload_n 2, 1) := by decide +kernel
theorem dX2_tellCents_1 : decode cX2_tellCents 1 = .ok (.iconst 0, 1) := by decide +kernel
theorem dX2_tellCents_2 : decode cX2_tellCents 2 = .ok (.sipush 10000, 3) := by decide +kernel
theorem dX2_tellCents_5 : decode cX2_tellCents 5 = .ok (.invokestatic 49, 3) := by decide +kernel
theorem dX2_tellCents_8 : decode cX2_tellCents 8 = .ok (.ifCond .eq 22, 3) := by decide +kernel
theorem dX2_tellCents_11 : decode cX2_tellCents 11 = .ok (.iload_n 1, 1) := by decide +kernel
theorem dX2_tellCents_12 : decode cX2_tellCents 12 = .ok (.iconst 0, 1) := by decide +kernel
theorem dX2_tellCents_13 : decode cX2_tellCents 13 = .ok (.aload_n 0, 1) := by decide +kernel
theorem dX2_tellCents_14 : decode cX2_tellCents 14 = .ok (.arraylength, 1) := by decide +kernel
theorem dX2_tellCents_15 : decode cX2_tellCents 15 = .ok (.iconst 1, 1) := by decide +kernel
theorem dX2_tellCents_16 : decode cX2_tellCents 16 = .ok (.isub, 1) := by decide +kernel
theorem dX2_tellCents_17 : decode cX2_tellCents 17 = .ok (.invokestatic 49, 3) := by decide +kernel
theorem dX2_tellCents_20 : decode cX2_tellCents 20 = .ok (.ifCond .eq 10, 3) := by decide +kernel
theorem dX2_tellCents_23 : decode cX2_tellCents 23 = .ok (.aload_n 0, 1) := by decide +kernel
theorem dX2_tellCents_24 : decode cX2_tellCents 24 = .ok (.iload_n 1, 1) := by decide +kernel
theorem dX2_tellCents_25 : decode cX2_tellCents 25 = .ok (.iaload, 1) := by decide +kernel
theorem dX2_tellCents_26 : decode cX2_tellCents 26 = .ok (.iconst (-1), 1) := by decide +kernel
theorem dX2_tellCents_27 : decode cX2_tellCents 27 = .ok (.if_icmp .eq 5, 3) := by decide +kernel
theorem dX2_tellCents_30 : decode cX2_tellCents 30 = .ok (.iconst 0, 1) := by decide +kernel
theorem dX2_tellCents_31 : decode cX2_tellCents 31 = .ok (.ireturn, 1) := by decide +kernel
theorem dX2_tellCents_32 : decode cX2_tellCents 32 = .ok (.aload_n 0, 1) := by decide +kernel
theorem dX2_tellCents_33 : decode cX2_tellCents 33 = .ok (.iload_n 1, 1) := by decide +kernel
theorem dX2_tellCents_34 : decode cX2_tellCents 34 = .ok (.iload_n 2, 1) := by decide +kernel
theorem dX2_tellCents_35 : decode cX2_tellCents 35 = .ok (.iastore, 1) := by decide +kernel
theorem dX2_tellCents_36 : decode cX2_tellCents 36 = .ok (.iconst 1, 1) := by decide +kernel
theorem dX2_tellCents_37 : decode cX2_tellCents 37 = .ok (.ireturn, 1) := by decide +kernel
set_option maxRecDepth 20000 in
theorem ggX2_tellDiscount_X7_isWithin : GoodIn wsX2_tellDiscount wsX7_isWithin := goodIn_r _ [7] (by decide +kernel) (by decide +kernel)
set_option maxRecDepth 20000 in
theorem gX2_tellDiscount_X7_isWithin_n49 : GoodIn wsX2_tellDiscount (wsX7_isWithin) := ggX2_tellDiscount_X7_isWithin
set_option maxRecDepth 20000 in
theorem ggX2_tellDiscount_X2_hasDiscount : GoodIn wsX2_tellDiscount wsX2_hasDiscount := goodIn_r _ [12, 1, 2, 3, 13, 14, 15, 16, 17, 18, 19, 20, 21] (by decide +kernel) (by decide +kernel)
set_option maxRecDepth 20000 in
theorem gX2_tellDiscount_X2_hasDiscount : GoodIn wsX2_tellDiscount (wsV RX2 68 RX2 yX2_hasDiscount wsX2_hasDiscount) := goodIn_app (goodIn_of _ (by decide +kernel)) ggX2_tellDiscount_X2_hasDiscount
theorem dX2_tellDiscount_0 : decode cX2_tellDiscount 0 = .ok (.iload_n 2, 1) := by decide +kernel
theorem dX2_tellDiscount_1 : decode cX2_tellDiscount 1 = .ok (.iconst 1, 1) := by decide +kernel
theorem dX2_tellDiscount_2 : decode cX2_tellDiscount 2 = .ok (.sipush 9000, 3) := by decide +kernel
theorem dX2_tellDiscount_5 : decode cX2_tellDiscount 5 = .ok (.invokestatic 49, 3) := by decide +kernel
theorem dX2_tellDiscount_8 : decode cX2_tellDiscount 8 = .ok (.ifCond .eq 31, 3) := by decide +kernel
theorem dX2_tellDiscount_11 : decode cX2_tellDiscount 11 = .ok (.iload_n 3, 1) := by decide +kernel
theorem dX2_tellDiscount_12 : decode cX2_tellDiscount 12 = .ok (.iconst 0, 1) := by decide +kernel
theorem dX2_tellDiscount_13 : decode cX2_tellDiscount 13 = .ok (.bipush 100, 2) := by decide +kernel
theorem dX2_tellDiscount_15 : decode cX2_tellDiscount 15 = .ok (.invokestatic 49, 3) := by decide +kernel
theorem dX2_tellDiscount_18 : decode cX2_tellDiscount 18 = .ok (.ifCond .eq 21, 3) := by decide +kernel
theorem dX2_tellDiscount_21 : decode cX2_tellDiscount 21 = .ok (.aload_n 0, 1) := by decide +kernel
theorem dX2_tellDiscount_22 : decode cX2_tellDiscount 22 = .ok (.iload_n 1, 1) := by decide +kernel
theorem dX2_tellDiscount_23 : decode cX2_tellDiscount 23 = .ok (.iload_n 2, 1) := by decide +kernel
theorem dX2_tellDiscount_24 : decode cX2_tellDiscount 24 = .ok (.invokevirtual 68, 3) := by decide +kernel
theorem dX2_tellDiscount_27 : decode cX2_tellDiscount 27 = .ok (.ifCond .ne 12, 3) := by decide +kernel
theorem dX2_tellDiscount_30 : decode cX2_tellDiscount 30 = .ok (.aload_n 0, 1) := by decide +kernel
theorem dX2_tellDiscount_31 : decode cX2_tellDiscount 31 = .ok (.getfield 30, 3) := by decide +kernel
theorem dX2_tellDiscount_34 : decode cX2_tellDiscount 34 = .ok (.bipush 60, 2) := by decide +kernel
theorem dX2_tellDiscount_36 : decode cX2_tellDiscount 36 = .ok (.if_icmp .lt 5, 3) := by decide +kernel
theorem dX2_tellDiscount_39 : decode cX2_tellDiscount 39 = .ok (.iconst 0, 1) := by decide +kernel
theorem dX2_tellDiscount_40 : decode cX2_tellDiscount 40 = .ok (.ireturn, 1) := by decide +kernel
theorem dX2_tellDiscount_41 : decode cX2_tellDiscount 41 = .ok (.aload_n 0, 1) := by decide +kernel
theorem dX2_tellDiscount_42 : decode cX2_tellDiscount 42 = .ok (.getfield 21, 3) := by decide +kernel
theorem dX2_tellDiscount_45 : decode cX2_tellDiscount 45 = .ok (.aload_n 0, 1) := by decide +kernel
theorem dX2_tellDiscount_46 : decode cX2_tellDiscount 46 = .ok (.getfield 30, 3) := by decide +kernel
theorem dX2_tellDiscount_49 : decode cX2_tellDiscount 49 = .ok (.iload_n 1, 1) := by decide +kernel
theorem dX2_tellDiscount_50 : decode cX2_tellDiscount 50 = .ok (.iastore, 1) := by decide +kernel
theorem dX2_tellDiscount_51 : decode cX2_tellDiscount 51 = .ok (.aload_n 0, 1) := by decide +kernel
theorem dX2_tellDiscount_52 : decode cX2_tellDiscount 52 = .ok (.getfield 24, 3) := by decide +kernel
theorem dX2_tellDiscount_55 : decode cX2_tellDiscount 55 = .ok (.aload_n 0, 1) := by decide +kernel
theorem dX2_tellDiscount_56 : decode cX2_tellDiscount 56 = .ok (.getfield 30, 3) := by decide +kernel
theorem dX2_tellDiscount_59 : decode cX2_tellDiscount 59 = .ok (.iload_n 2, 1) := by decide +kernel
theorem dX2_tellDiscount_60 : decode cX2_tellDiscount 60 = .ok (.iastore, 1) := by decide +kernel
theorem dX2_tellDiscount_61 : decode cX2_tellDiscount 61 = .ok (.aload_n 0, 1) := by decide +kernel
theorem dX2_tellDiscount_62 : decode cX2_tellDiscount 62 = .ok (.getfield 27, 3) := by decide +kernel
theorem dX2_tellDiscount_65 : decode cX2_tellDiscount 65 = .ok (.aload_n 0, 1) := by decide +kernel
theorem dX2_tellDiscount_66 : decode cX2_tellDiscount 66 = .ok (.getfield 30, 3) := by decide +kernel
theorem dX2_tellDiscount_69 : decode cX2_tellDiscount 69 = .ok (.iload_n 3, 1) := by decide +kernel
theorem dX2_tellDiscount_70 : decode cX2_tellDiscount 70 = .ok (.iastore, 1) := by decide +kernel
theorem dX2_tellDiscount_71 : decode cX2_tellDiscount 71 = .ok (.aload_n 0, 1) := by decide +kernel
theorem dX2_tellDiscount_72 : decode cX2_tellDiscount 72 = .ok (.dup, 1) := by decide +kernel
theorem dX2_tellDiscount_73 : decode cX2_tellDiscount 73 = .ok (.getfield 30, 3) := by decide +kernel
theorem dX2_tellDiscount_76 : decode cX2_tellDiscount 76 = .ok (.iconst 1, 1) := by decide +kernel
theorem dX2_tellDiscount_77 : decode cX2_tellDiscount 77 = .ok (.iadd, 1) := by decide +kernel
theorem dX2_tellDiscount_78 : decode cX2_tellDiscount 78 = .ok (.putfield 30, 3) := by decide +kernel
theorem dX2_tellDiscount_81 : decode cX2_tellDiscount 81 = .ok (.iconst 1, 1) := by decide +kernel
theorem dX2_tellDiscount_82 : decode cX2_tellDiscount 82 = .ok (.ireturn, 1) := by decide +kernel
theorem dX2_hasDiscount_0 : decode cX2_hasDiscount 0 = .ok (.iconst 0, 1) := by decide +kernel
theorem dX2_hasDiscount_1 : decode cX2_hasDiscount 1 = .ok (.istore_n 3, 1) := by decide +kernel
theorem dX2_hasDiscount_2 : decode cX2_hasDiscount 2 = .ok (.iload_n 3, 1) := by decide +kernel
theorem dX2_hasDiscount_3 : decode cX2_hasDiscount 3 = .ok (.aload_n 0, 1) := by decide +kernel
theorem dX2_hasDiscount_4 : decode cX2_hasDiscount 4 = .ok (.getfield 30, 3) := by decide +kernel
theorem dX2_hasDiscount_7 : decode cX2_hasDiscount 7 = .ok (.if_icmp .ge 31, 3) := by decide +kernel
theorem dX2_hasDiscount_10 : decode cX2_hasDiscount 10 = .ok (.aload_n 0, 1) := by decide +kernel
theorem dX2_hasDiscount_11 : decode cX2_hasDiscount 11 = .ok (.getfield 21, 3) := by decide +kernel
theorem dX2_hasDiscount_14 : decode cX2_hasDiscount 14 = .ok (.iload_n 3, 1) := by decide +kernel
theorem dX2_hasDiscount_15 : decode cX2_hasDiscount 15 = .ok (.iaload, 1) := by decide +kernel
theorem dX2_hasDiscount_16 : decode cX2_hasDiscount 16 = .ok (.iload_n 1, 1) := by decide +kernel
theorem dX2_hasDiscount_17 : decode cX2_hasDiscount 17 = .ok (.if_icmp .ne 15, 3) := by decide +kernel
theorem dX2_hasDiscount_20 : decode cX2_hasDiscount 20 = .ok (.aload_n 0, 1) := by decide +kernel
theorem dX2_hasDiscount_21 : decode cX2_hasDiscount 21 = .ok (.getfield 24, 3) := by decide +kernel
theorem dX2_hasDiscount_24 : decode cX2_hasDiscount 24 = .ok (.iload_n 3, 1) := by decide +kernel
theorem dX2_hasDiscount_25 : decode cX2_hasDiscount 25 = .ok (.iaload, 1) := by decide +kernel
theorem dX2_hasDiscount_26 : decode cX2_hasDiscount 26 = .ok (.iload_n 2, 1) := by decide +kernel
theorem dX2_hasDiscount_27 : decode cX2_hasDiscount 27 = .ok (.if_icmp .ne 5, 3) := by decide +kernel
theorem dX2_hasDiscount_30 : decode cX2_hasDiscount 30 = .ok (.iconst 1, 1) := by decide +kernel
theorem dX2_hasDiscount_31 : decode cX2_hasDiscount 31 = .ok (.ireturn, 1) := by decide +kernel
theorem dX2_hasDiscount_32 : decode cX2_hasDiscount 32 = .ok (.iinc 3 1, 3) := by decide +kernel
theorem dX2_hasDiscount_35 : decode cX2_hasDiscount 35 = .ok (.goto (-33), 3) := by decide +kernel
theorem dX2_hasDiscount_38 : decode cX2_hasDiscount 38 = .ok (.iconst 0, 1) := by decide +kernel
theorem dX2_hasDiscount_39 : decode cX2_hasDiscount 39 = .ok (.ireturn, 1) := by decide +kernel
set_option maxRecDepth 20000 in
theorem ggX2_storageCents_X2_place : GoodIn wsX2_storageCents wsX2_place := goodIn_r _ [5] (by decide +kernel) (by decide +kernel)
set_option maxRecDepth 20000 in
theorem gX2_storageCents_X2_place : GoodIn wsX2_storageCents (va_wsS RX2 57 yX2_place wsX2_place) := goodIn_app (goodIn_of _ (by decide +kernel)) ggX2_storageCents_X2_place
set_option maxRecDepth 20000 in
theorem ggX2_storageCents_X2_toldOrZero : GoodIn wsX2_storageCents wsX2_toldOrZero := goodIn_r _ [8, 9, 10, 11] (by decide +kernel) (by decide +kernel)
set_option maxRecDepth 20000 in
theorem gX2_storageCents_X2_toldOrZero : GoodIn wsX2_storageCents (va_wsS RX2 72 yX2_toldOrZero wsX2_toldOrZero) := goodIn_app (goodIn_of _ (by decide +kernel)) ggX2_storageCents_X2_toldOrZero
theorem dX2_storageCents_0 : decode cX2_storageCents 0 = .ok (.aload_n 0, 1) := by decide +kernel
theorem dX2_storageCents_1 : decode cX2_storageCents 1 = .ok (.getfield 9, 3) := by decide +kernel
theorem dX2_storageCents_4 : decode cX2_storageCents 4 = .ok (.iload_n 1, 1) := by decide +kernel
theorem dX2_storageCents_5 : decode cX2_storageCents 5 = .ok (.iload_n 2, 1) := by decide +kernel
theorem dX2_storageCents_6 : decode cX2_storageCents 6 = .ok (.invokestatic 57, 3) := by decide +kernel
theorem dX2_storageCents_9 : decode cX2_storageCents 9 = .ok (.invokestatic 72, 3) := by decide +kernel
theorem dX2_storageCents_12 : decode cX2_storageCents 12 = .ok (.ireturn, 1) := by decide +kernel
set_option maxRecDepth 20000 in
theorem ggX2_handlingCents_X2_place : GoodIn wsX2_handlingCents wsX2_place := goodIn_r _ [5] (by decide +kernel) (by decide +kernel)
set_option maxRecDepth 20000 in
theorem gX2_handlingCents_X2_place : GoodIn wsX2_handlingCents (va_wsS RX2 57 yX2_place wsX2_place) := goodIn_app (goodIn_of _ (by decide +kernel)) ggX2_handlingCents_X2_place
set_option maxRecDepth 20000 in
theorem ggX2_handlingCents_X2_toldOrZero : GoodIn wsX2_handlingCents wsX2_toldOrZero := goodIn_r _ [8, 9, 10, 11] (by decide +kernel) (by decide +kernel)
set_option maxRecDepth 20000 in
theorem gX2_handlingCents_X2_toldOrZero : GoodIn wsX2_handlingCents (va_wsS RX2 72 yX2_toldOrZero wsX2_toldOrZero) := goodIn_app (goodIn_of _ (by decide +kernel)) ggX2_handlingCents_X2_toldOrZero
theorem dX2_handlingCents_0 : decode cX2_handlingCents 0 = .ok (.aload_n 0, 1) := by decide +kernel
theorem dX2_handlingCents_1 : decode cX2_handlingCents 1 = .ok (.getfield 15, 3) := by decide +kernel
theorem dX2_handlingCents_4 : decode cX2_handlingCents 4 = .ok (.iload_n 1, 1) := by decide +kernel
theorem dX2_handlingCents_5 : decode cX2_handlingCents 5 = .ok (.iload_n 2, 1) := by decide +kernel
theorem dX2_handlingCents_6 : decode cX2_handlingCents 6 = .ok (.invokestatic 57, 3) := by decide +kernel
theorem dX2_handlingCents_9 : decode cX2_handlingCents 9 = .ok (.invokestatic 72, 3) := by decide +kernel
theorem dX2_handlingCents_12 : decode cX2_handlingCents 12 = .ok (.ireturn, 1) := by decide +kernel
set_option maxRecDepth 20000 in
theorem ggX2_minimumOf_X2_toldOrZero : GoodIn wsX2_minimumOf wsX2_toldOrZero := goodIn_r _ [5, 6, 7, 8] (by decide +kernel) (by decide +kernel)
set_option maxRecDepth 20000 in
theorem gX2_minimumOf_X2_toldOrZero : GoodIn wsX2_minimumOf (va_wsS RX2 72 yX2_toldOrZero wsX2_toldOrZero) := goodIn_app (goodIn_of _ (by decide +kernel)) ggX2_minimumOf_X2_toldOrZero
theorem dX2_minimumOf_0 : decode cX2_minimumOf 0 = .ok (.aload_n 0, 1) := by decide +kernel
theorem dX2_minimumOf_1 : decode cX2_minimumOf 1 = .ok (.getfield 18, 3) := by decide +kernel
theorem dX2_minimumOf_4 : decode cX2_minimumOf 4 = .ok (.iload_n 1, 1) := by decide +kernel
theorem dX2_minimumOf_5 : decode cX2_minimumOf 5 = .ok (.invokestatic 72, 3) := by decide +kernel
theorem dX2_minimumOf_8 : decode cX2_minimumOf 8 = .ok (.ireturn, 1) := by decide +kernel
set_option maxRecDepth 20000 in
theorem ggX2_toldOrZero_X7_isWithin : GoodIn wsX2_toldOrZero wsX7_isWithin := goodIn_r _ [3] (by decide +kernel) (by decide +kernel)
set_option maxRecDepth 20000 in
theorem gX2_toldOrZero_X7_isWithin_n49 : GoodIn wsX2_toldOrZero (wsX7_isWithin) := ggX2_toldOrZero_X7_isWithin
theorem dX2_toldOrZero_0 : decode cX2_toldOrZero 0 = .ok (.iload_n 1, 1) := by decide +kernel
theorem dX2_toldOrZero_1 : decode cX2_toldOrZero 1 = .ok (.iconst 0, 1) := by decide +kernel
theorem dX2_toldOrZero_2 : decode cX2_toldOrZero 2 = .ok (.aload_n 0, 1) := by decide +kernel
theorem dX2_toldOrZero_3 : decode cX2_toldOrZero 3 = .ok (.arraylength, 1) := by decide +kernel
theorem dX2_toldOrZero_4 : decode cX2_toldOrZero 4 = .ok (.iconst 1, 1) := by decide +kernel
theorem dX2_toldOrZero_5 : decode cX2_toldOrZero 5 = .ok (.isub, 1) := by decide +kernel
theorem dX2_toldOrZero_6 : decode cX2_toldOrZero 6 = .ok (.invokestatic 49, 3) := by decide +kernel
theorem dX2_toldOrZero_9 : decode cX2_toldOrZero 9 = .ok (.ifCond .eq 16, 3) := by decide +kernel
theorem dX2_toldOrZero_12 : decode cX2_toldOrZero 12 = .ok (.aload_n 0, 1) := by decide +kernel
theorem dX2_toldOrZero_13 : decode cX2_toldOrZero 13 = .ok (.iload_n 1, 1) := by decide +kernel
theorem dX2_toldOrZero_14 : decode cX2_toldOrZero 14 = .ok (.iaload, 1) := by decide +kernel
theorem dX2_toldOrZero_15 : decode cX2_toldOrZero 15 = .ok (.iconst (-1), 1) := by decide +kernel
theorem dX2_toldOrZero_16 : decode cX2_toldOrZero 16 = .ok (.if_icmp .eq 9, 3) := by decide +kernel
theorem dX2_toldOrZero_19 : decode cX2_toldOrZero 19 = .ok (.aload_n 0, 1) := by decide +kernel
theorem dX2_toldOrZero_20 : decode cX2_toldOrZero 20 = .ok (.iload_n 1, 1) := by decide +kernel
theorem dX2_toldOrZero_21 : decode cX2_toldOrZero 21 = .ok (.iaload, 1) := by decide +kernel
theorem dX2_toldOrZero_22 : decode cX2_toldOrZero 22 = .ok (.goto 4, 3) := by decide +kernel
theorem dX2_toldOrZero_25 : decode cX2_toldOrZero 25 = .ok (.iconst 0, 1) := by decide +kernel
theorem dX2_toldOrZero_26 : decode cX2_toldOrZero 26 = .ok (.ireturn, 1) := by decide +kernel
set_option maxRecDepth 20000 in
theorem ggX2_percentFor_X7_isWithin : GoodIn wsX2_percentFor wsX7_isWithin := goodIn_r _ [7] (by decide +kernel) (by decide +kernel)
set_option maxRecDepth 20000 in
theorem gX2_percentFor_X7_isWithin_n49 : GoodIn wsX2_percentFor (wsX7_isWithin) := ggX2_percentFor_X7_isWithin
theorem dX2_percentFor_0 : decode cX2_percentFor 0 = .ok (.iconst 0, 1) := by decide +kernel
theorem dX2_percentFor_1 : decode cX2_percentFor 1 = .ok (.istore_n 3, 1) := by decide +kernel
theorem dX2_percentFor_2 : decode cX2_percentFor 2 = .ok (.iconst 0, 1) := by decide +kernel
theorem dX2_percentFor_3 : decode cX2_percentFor 3 = .ok (.istore 4, 2) := by decide +kernel
theorem dX2_percentFor_5 : decode cX2_percentFor 5 = .ok (.iconst 0, 1) := by decide +kernel
theorem dX2_percentFor_6 : decode cX2_percentFor 6 = .ok (.istore 5, 2) := by decide +kernel
theorem dX2_percentFor_8 : decode cX2_percentFor 8 = .ok (.iload 5, 2) := by decide +kernel
theorem dX2_percentFor_10 : decode cX2_percentFor 10 = .ok (.aload_n 0, 1) := by decide +kernel
theorem dX2_percentFor_11 : decode cX2_percentFor 11 = .ok (.getfield 30, 3) := by decide +kernel
theorem dX2_percentFor_14 : decode cX2_percentFor 14 = .ok (.if_icmp .ge 52, 3) := by decide +kernel
theorem dX2_percentFor_17 : decode cX2_percentFor 17 = .ok (.aload_n 0, 1) := by decide +kernel
theorem dX2_percentFor_18 : decode cX2_percentFor 18 = .ok (.getfield 21, 3) := by decide +kernel
theorem dX2_percentFor_21 : decode cX2_percentFor 21 = .ok (.iload 5, 2) := by decide +kernel
theorem dX2_percentFor_23 : decode cX2_percentFor 23 = .ok (.iaload, 1) := by decide +kernel
theorem dX2_percentFor_24 : decode cX2_percentFor 24 = .ok (.iload_n 1, 1) := by decide +kernel
theorem dX2_percentFor_25 : decode cX2_percentFor 25 = .ok (.if_icmp .ne 35, 3) := by decide +kernel
theorem dX2_percentFor_28 : decode cX2_percentFor 28 = .ok (.aload_n 0, 1) := by decide +kernel
theorem dX2_percentFor_29 : decode cX2_percentFor 29 = .ok (.getfield 24, 3) := by decide +kernel
theorem dX2_percentFor_32 : decode cX2_percentFor 32 = .ok (.iload 5, 2) := by decide +kernel
theorem dX2_percentFor_34 : decode cX2_percentFor 34 = .ok (.iaload, 1) := by decide +kernel
theorem dX2_percentFor_35 : decode cX2_percentFor 35 = .ok (.iload_n 3, 1) := by decide +kernel
theorem dX2_percentFor_36 : decode cX2_percentFor 36 = .ok (.iload_n 2, 1) := by decide +kernel
theorem dX2_percentFor_37 : decode cX2_percentFor 37 = .ok (.invokestatic 49, 3) := by decide +kernel
theorem dX2_percentFor_40 : decode cX2_percentFor 40 = .ok (.ifCond .eq 20, 3) := by decide +kernel
theorem dX2_percentFor_43 : decode cX2_percentFor 43 = .ok (.aload_n 0, 1) := by decide +kernel
theorem dX2_percentFor_44 : decode cX2_percentFor 44 = .ok (.getfield 24, 3) := by decide +kernel
theorem dX2_percentFor_47 : decode cX2_percentFor 47 = .ok (.iload 5, 2) := by decide +kernel
theorem dX2_percentFor_49 : decode cX2_percentFor 49 = .ok (.iaload, 1) := by decide +kernel
theorem dX2_percentFor_50 : decode cX2_percentFor 50 = .ok (.istore_n 3, 1) := by decide +kernel
theorem dX2_percentFor_51 : decode cX2_percentFor 51 = .ok (.aload_n 0, 1) := by decide +kernel
theorem dX2_percentFor_52 : decode cX2_percentFor 52 = .ok (.getfield 27, 3) := by decide +kernel
theorem dX2_percentFor_55 : decode cX2_percentFor 55 = .ok (.iload 5, 2) := by decide +kernel
theorem dX2_percentFor_57 : decode cX2_percentFor 57 = .ok (.iaload, 1) := by decide +kernel
theorem dX2_percentFor_58 : decode cX2_percentFor 58 = .ok (.istore 4, 2) := by decide +kernel
theorem dX2_percentFor_60 : decode cX2_percentFor 60 = .ok (.iinc 5 1, 3) := by decide +kernel
theorem dX2_percentFor_63 : decode cX2_percentFor 63 = .ok (.goto (-55), 3) := by decide +kernel
theorem dX2_percentFor_66 : decode cX2_percentFor 66 = .ok (.iload 4, 2) := by decide +kernel
theorem dX2_percentFor_68 : decode cX2_percentFor 68 = .ok (.ireturn, 1) := by decide +kernel
theorem dX3_init_0 : decode cX3_init 0 = .ok (.aload_n 0, 1) := by decide +kernel
theorem dX3_init_1 : decode cX3_init 1 = .ok (.invokespecial 1, 3) := by decide +kernel
theorem dX3_init_4 : decode cX3_init 4 = .ok (.aload_n 0, 1) := by decide +kernel
theorem dX3_init_5 : decode cX3_init 5 = .ok (.iload_n 1, 1) := by decide +kernel
theorem dX3_init_6 : decode cX3_init 6 = .ok (.putfield 7, 3) := by decide +kernel
theorem dX3_init_9 : decode cX3_init 9 = .ok (.aload_n 0, 1) := by decide +kernel
theorem dX3_init_10 : decode cX3_init 10 = .ok (.iload_n 2, 1) := by decide +kernel
theorem dX3_init_11 : decode cX3_init 11 = .ok (.putfield 13, 3) := by decide +kernel
theorem dX3_init_14 : decode cX3_init 14 = .ok (.aload_n 0, 1) := by decide +kernel
theorem dX3_init_15 : decode cX3_init 15 = .ok (.iload_n 3, 1) := by decide +kernel
theorem dX3_init_16 : decode cX3_init 16 = .ok (.putfield 16, 3) := by decide +kernel
theorem dX3_init_19 : decode cX3_init 19 = .ok (.aload_n 0, 1) := by decide +kernel
theorem dX3_init_20 : decode cX3_init 20 = .ok (.iload 4, 2) := by decide +kernel
theorem dX3_init_22 : decode cX3_init 22 = .ok (.putfield 19, 3) := by decide +kernel
theorem dX3_init_25 : decode cX3_init 25 = .ok (.return_, 1) := by decide +kernel
theorem dX4_init_0 : decode cX4_init 0 = .ok (.aload_n 0, 1) := by decide +kernel
theorem dX4_init_1 : decode cX4_init 1 = .ok (.invokespecial 3, 3) := by decide +kernel
theorem dX4_init_4 : decode cX4_init 4 = .ok (.aload_n 0, 1) := by decide +kernel
theorem dX4_init_5 : decode cX4_init 5 = .ok (.sipush 8192, 3) := by decide +kernel
theorem dX4_init_8 : decode cX4_init 8 = .ok (.newarray .char, 2) := by decide +kernel
theorem dX4_init_10 : decode cX4_init 10 = .ok (.putfield 9, 3) := by decide +kernel
theorem dX4_init_13 : decode cX4_init 13 = .ok (.aload_n 0, 1) := by decide +kernel
theorem dX4_init_14 : decode cX4_init 14 = .ok (.iconst 0, 1) := by decide +kernel
theorem dX4_init_15 : decode cX4_init 15 = .ok (.putfield 15, 3) := by decide +kernel
theorem dX4_init_18 : decode cX4_init 18 = .ok (.return_, 1) := by decide +kernel
theorem dX4_clear_0 : decode cX4_clear 0 = .ok (.aload_n 0, 1) := by decide +kernel
theorem dX4_clear_1 : decode cX4_clear 1 = .ok (.iconst 0, 1) := by decide +kernel
theorem dX4_clear_2 : decode cX4_clear 2 = .ok (.putfield 15, 3) := by decide +kernel
theorem dX4_clear_5 : decode cX4_clear 5 = .ok (.return_, 1) := by decide +kernel
set_option maxRecDepth 20000 in
theorem ggX4_write_X4_put : GoodIn wsX4_write wsX4_put := goodIn_r _ [5, 6, 7, 23, 24] (by decide +kernel) (by decide +kernel)
set_option maxRecDepth 20000 in
theorem gX4_write_X4_put : GoodIn wsX4_write (wsV RX4 25 RX4 yX4_put wsX4_put) := goodIn_app (goodIn_of _ (by decide +kernel)) ggX4_write_X4_put
set_option maxRecDepth 20000 in
theorem ggX4_write_X4_putNumber : GoodIn wsX4_write wsX4_putNumber := goodIn_r _ [11, 12, 13, 14, 15, 16, 17, 18, 1, 2, 3, 4, 5, 6, 7, 23, 24] (by decide +kernel) (by decide +kernel)
set_option maxRecDepth 20000 in
theorem gX4_write_X4_putNumber : GoodIn wsX4_write (wsV RX4 32 RX4 yX4_putNumber wsX4_putNumber) := goodIn_app (goodIn_of _ (by decide +kernel)) ggX4_write_X4_putNumber
theorem dX4_write_0 : decode cX4_write 0 = .ok (.aload_n 0, 1) := by decide +kernel
theorem dX4_write_1 : decode cX4_write 1 = .ok (.aload_n 1, 1) := by decide +kernel
theorem dX4_write_2 : decode cX4_write 2 = .ok (.getfield 19, 3) := by decide +kernel
theorem dX4_write_5 : decode cX4_write 5 = .ok (.ifCond .eq 8, 3) := by decide +kernel
theorem dX4_write_8 : decode cX4_write 8 = .ok (.bipush 67, 2) := by decide +kernel
theorem dX4_write_10 : decode cX4_write 10 = .ok (.goto 5, 3) := by decide +kernel
theorem dX4_write_13 : decode cX4_write 13 = .ok (.bipush 66, 2) := by decide +kernel
theorem dX4_write_15 : decode cX4_write 15 = .ok (.invokevirtual 25, 3) := by decide +kernel
theorem dX4_write_18 : decode cX4_write 18 = .ok (.aload_n 0, 1) := by decide +kernel
theorem dX4_write_19 : decode cX4_write 19 = .ok (.aload_n 1, 1) := by decide +kernel
theorem dX4_write_20 : decode cX4_write 20 = .ok (.getfield 29, 3) := by decide +kernel
theorem dX4_write_23 : decode cX4_write 23 = .ok (.invokevirtual 32, 3) := by decide +kernel
theorem dX4_write_26 : decode cX4_write 26 = .ok (.aload_n 0, 1) := by decide +kernel
theorem dX4_write_27 : decode cX4_write 27 = .ok (.aload_n 1, 1) := by decide +kernel
theorem dX4_write_28 : decode cX4_write 28 = .ok (.getfield 35, 3) := by decide +kernel
theorem dX4_write_31 : decode cX4_write 31 = .ok (.invokevirtual 32, 3) := by decide +kernel
theorem dX4_write_34 : decode cX4_write 34 = .ok (.aload_n 0, 1) := by decide +kernel
theorem dX4_write_35 : decode cX4_write 35 = .ok (.bipush 10, 2) := by decide +kernel
theorem dX4_write_37 : decode cX4_write 37 = .ok (.invokevirtual 25, 3) := by decide +kernel
theorem dX4_write_40 : decode cX4_write 40 = .ok (.return_, 1) := by decide +kernel
theorem dX4_put_0 : decode cX4_put 0 = .ok (.aload_n 0, 1) := by decide +kernel
theorem dX4_put_1 : decode cX4_put 1 = .ok (.getfield 15, 3) := by decide +kernel
theorem dX4_put_4 : decode cX4_put 4 = .ok (.aload_n 0, 1) := by decide +kernel
theorem dX4_put_5 : decode cX4_put 5 = .ok (.getfield 9, 3) := by decide +kernel
theorem dX4_put_8 : decode cX4_put 8 = .ok (.arraylength, 1) := by decide +kernel
theorem dX4_put_9 : decode cX4_put 9 = .ok (.if_icmp .ge 24, 3) := by decide +kernel
theorem dX4_put_12 : decode cX4_put 12 = .ok (.aload_n 0, 1) := by decide +kernel
theorem dX4_put_13 : decode cX4_put 13 = .ok (.getfield 9, 3) := by decide +kernel
theorem dX4_put_16 : decode cX4_put 16 = .ok (.aload_n 0, 1) := by decide +kernel
theorem dX4_put_17 : decode cX4_put 17 = .ok (.getfield 15, 3) := by decide +kernel
theorem dX4_put_20 : decode cX4_put 20 = .ok (.iload_n 1, 1) := by decide +kernel
theorem dX4_put_21 : decode cX4_put 21 = .ok (.i2c, 1) := by decide +kernel
theorem dX4_put_22 : decode cX4_put 22 = .ok (.castore, 1) := by decide +kernel
theorem dX4_put_23 : decode cX4_put 23 = .ok (.aload_n 0, 1) := by decide +kernel
theorem dX4_put_24 : decode cX4_put 24 = .ok (.dup, 1) := by decide +kernel
theorem dX4_put_25 : decode cX4_put 25 = .ok (.getfield 15, 3) := by decide +kernel
theorem dX4_put_28 : decode cX4_put 28 = .ok (.iconst 1, 1) := by decide +kernel
theorem dX4_put_29 : decode cX4_put 29 = .ok (.iadd, 1) := by decide +kernel
theorem dX4_put_30 : decode cX4_put 30 = .ok (.putfield 15, 3) := by decide +kernel
theorem dX4_put_33 : decode cX4_put 33 = .ok (.return_, 1) := by decide +kernel
set_option maxRecDepth 20000 in
theorem ggX4_putNumber_X4_put : GoodIn wsX4_putNumber wsX4_put := goodIn_r _ [12, 13, 14, 15, 16] (by decide +kernel) (by decide +kernel)
set_option maxRecDepth 20000 in
theorem gX4_putNumber_X4_put : GoodIn wsX4_putNumber (wsV RX4 25 RX4 yX4_put wsX4_put) := goodIn_app (goodIn_of _ (by decide +kernel)) ggX4_putNumber_X4_put
theorem dX4_putNumber_0 : decode cX4_putNumber 0 = .ok (.aload_n 0, 1) := by decide +kernel
theorem dX4_putNumber_1 : decode cX4_putNumber 1 = .ok (.bipush 32, 2) := by decide +kernel
theorem dX4_putNumber_3 : decode cX4_putNumber 3 = .ok (.invokevirtual 25, 3) := by decide +kernel
theorem dX4_putNumber_6 : decode cX4_putNumber 6 = .ok (.iload_n 1, 1) := by decide +kernel
theorem dX4_putNumber_7 : decode cX4_putNumber 7 = .ok (.ifCond .ge 9, 3) := by decide +kernel
theorem dX4_putNumber_10 : decode cX4_putNumber 10 = .ok (.aload_n 0, 1) := by decide +kernel
theorem dX4_putNumber_11 : decode cX4_putNumber 11 = .ok (.bipush 45, 2) := by decide +kernel
theorem dX4_putNumber_13 : decode cX4_putNumber 13 = .ok (.invokevirtual 25, 3) := by decide +kernel
theorem dX4_putNumber_16 : decode cX4_putNumber 16 = .ok (.iload_n 1, 1) := by decide +kernel
theorem dX4_putNumber_17 : decode cX4_putNumber 17 = .ok (.i2l, 1) := by decide +kernel
theorem dX4_putNumber_18 : decode cX4_putNumber 18 = .ok (.invokestatic 38, 3) := by decide +kernel
theorem dX4_putNumber_21 : decode cX4_putNumber 21 = .ok (.lstore_n 2, 1) := by decide +kernel
theorem dX4_putNumber_22 : decode cX4_putNumber 22 = .ok (.ldc2_w 44, 3) := by decide +kernel
theorem dX4_putNumber_25 : decode cX4_putNumber 25 = .ok (.lstore 4, 2) := by decide +kernel
theorem dX4_putNumber_27 : decode cX4_putNumber 27 = .ok (.lload 4, 2) := by decide +kernel
theorem dX4_putNumber_29 : decode cX4_putNumber 29 = .ok (.lconst 0, 1) := by decide +kernel
theorem dX4_putNumber_30 : decode cX4_putNumber 30 = .ok (.lcmp, 1) := by decide +kernel
theorem dX4_putNumber_31 : decode cX4_putNumber 31 = .ok (.ifCond .le 45, 3) := by decide +kernel
theorem dX4_putNumber_34 : decode cX4_putNumber 34 = .ok (.lload_n 2, 1) := by decide +kernel
theorem dX4_putNumber_35 : decode cX4_putNumber 35 = .ok (.lload 4, 2) := by decide +kernel
theorem dX4_putNumber_37 : decode cX4_putNumber 37 = .ok (.lcmp, 1) := by decide +kernel
theorem dX4_putNumber_38 : decode cX4_putNumber 38 = .ok (.ifCond .ge 10, 3) := by decide +kernel
theorem dX4_putNumber_41 : decode cX4_putNumber 41 = .ok (.lload 4, 2) := by decide +kernel
theorem dX4_putNumber_43 : decode cX4_putNumber 43 = .ok (.lconst 1, 1) := by decide +kernel
theorem dX4_putNumber_44 : decode cX4_putNumber 44 = .ok (.lcmp, 1) := by decide +kernel
theorem dX4_putNumber_45 : decode cX4_putNumber 45 = .ok (.ifCond .ne 20, 3) := by decide +kernel
theorem dX4_putNumber_48 : decode cX4_putNumber 48 = .ok (.aload_n 0, 1) := by decide +kernel
theorem dX4_putNumber_49 : decode cX4_putNumber 49 = .ok (.ldc2_w 46, 3) := by decide +kernel
theorem dX4_putNumber_52 : decode cX4_putNumber 52 = .ok (.lload_n 2, 1) := by decide +kernel
theorem dX4_putNumber_53 : decode cX4_putNumber 53 = .ok (.lload 4, 2) := by decide +kernel
theorem dX4_putNumber_55 : decode cX4_putNumber 55 = .ok (.ldiv, 1) := by decide +kernel
theorem dX4_putNumber_56 : decode cX4_putNumber 56 = .ok (.ldc2_w 48, 3) := by decide +kernel
theorem dX4_putNumber_59 : decode cX4_putNumber 59 = .ok (.lrem, 1) := by decide +kernel
theorem dX4_putNumber_60 : decode cX4_putNumber 60 = .ok (.ladd, 1) := by decide +kernel
theorem dX4_putNumber_61 : decode cX4_putNumber 61 = .ok (.l2i, 1) := by decide +kernel
theorem dX4_putNumber_62 : decode cX4_putNumber 62 = .ok (.invokevirtual 25, 3) := by decide +kernel
theorem dX4_putNumber_65 : decode cX4_putNumber 65 = .ok (.lload 4, 2) := by decide +kernel
theorem dX4_putNumber_67 : decode cX4_putNumber 67 = .ok (.ldc2_w 48, 3) := by decide +kernel
theorem dX4_putNumber_70 : decode cX4_putNumber 70 = .ok (.ldiv, 1) := by decide +kernel
theorem dX4_putNumber_71 : decode cX4_putNumber 71 = .ok (.lstore 4, 2) := by decide +kernel
theorem dX4_putNumber_73 : decode cX4_putNumber 73 = .ok (.goto (-46), 3) := by decide +kernel
theorem dX4_putNumber_76 : decode cX4_putNumber 76 = .ok (.return_, 1) := by decide +kernel
theorem dX5_init_0 : decode cX5_init 0 = .ok (.aload_n 0, 1) := by decide +kernel
theorem dX5_init_1 : decode cX5_init 1 = .ok (.invokespecial 3, 3) := by decide +kernel
theorem dX5_init_4 : decode cX5_init 4 = .ok (.aload_n 0, 1) := by decide +kernel
theorem dX5_init_5 : decode cX5_init 5 = .ok (.sipush 400, 3) := by decide +kernel
theorem dX5_init_8 : decode cX5_init 8 = .ok (.newarray .char, 2) := by decide +kernel
theorem dX5_init_10 : decode cX5_init 10 = .ok (.putfield 9, 3) := by decide +kernel
theorem dX5_init_13 : decode cX5_init 13 = .ok (.aload_n 0, 1) := by decide +kernel
theorem dX5_init_14 : decode cX5_init 14 = .ok (.iconst 0, 1) := by decide +kernel
theorem dX5_init_15 : decode cX5_init 15 = .ok (.putfield 15, 3) := by decide +kernel
theorem dX5_init_18 : decode cX5_init 18 = .ok (.aload_n 0, 1) := by decide +kernel
theorem dX5_init_19 : decode cX5_init 19 = .ok (.iconst 0, 1) := by decide +kernel
theorem dX5_init_20 : decode cX5_init 20 = .ok (.putfield 19, 3) := by decide +kernel
theorem dX5_init_23 : decode cX5_init 23 = .ok (.return_, 1) := by decide +kernel
theorem dX5_isFull_0 : decode cX5_isFull 0 = .ok (.aload_n 0, 1) := by decide +kernel
theorem dX5_isFull_1 : decode cX5_isFull 1 = .ok (.getfield 15, 3) := by decide +kernel
theorem dX5_isFull_4 : decode cX5_isFull 4 = .ok (.aload_n 0, 1) := by decide +kernel
theorem dX5_isFull_5 : decode cX5_isFull 5 = .ok (.getfield 9, 3) := by decide +kernel
theorem dX5_isFull_8 : decode cX5_isFull 8 = .ok (.arraylength, 1) := by decide +kernel
theorem dX5_isFull_9 : decode cX5_isFull 9 = .ok (.if_icmp .lt 7, 3) := by decide +kernel
theorem dX5_isFull_12 : decode cX5_isFull 12 = .ok (.iconst 1, 1) := by decide +kernel
theorem dX5_isFull_13 : decode cX5_isFull 13 = .ok (.goto 4, 3) := by decide +kernel
theorem dX5_isFull_16 : decode cX5_isFull 16 = .ok (.iconst 0, 1) := by decide +kernel
theorem dX5_isFull_17 : decode cX5_isFull 17 = .ok (.ireturn, 1) := by decide +kernel
set_option maxRecDepth 20000 in
theorem ggX5_add_X5_isFull : GoodIn wsX5_add wsX5_isFull := goodIn_r _ [7, 2, 1, 8, 9, 10] (by decide +kernel) (by decide +kernel)
set_option maxRecDepth 20000 in
theorem gX5_add_X5_isFull : GoodIn wsX5_add (wsV RX5 22 RX5 yX5_isFull wsX5_isFull) := goodIn_app (goodIn_of _ (by decide +kernel)) ggX5_add_X5_isFull
theorem dX5_add_0 : decode cX5_add 0 = .ok (.aload_n 0, 1) := by decide +kernel
theorem dX5_add_1 : decode cX5_add 1 = .ok (.invokevirtual 22, 3) := by decide +kernel
theorem dX5_add_4 : decode cX5_add 4 = .ok (.ifCond .ne 24, 3) := by decide +kernel
theorem dX5_add_7 : decode cX5_add 7 = .ok (.aload_n 0, 1) := by decide +kernel
theorem dX5_add_8 : decode cX5_add 8 = .ok (.getfield 9, 3) := by decide +kernel
theorem dX5_add_11 : decode cX5_add 11 = .ok (.aload_n 0, 1) := by decide +kernel
theorem dX5_add_12 : decode cX5_add 12 = .ok (.getfield 15, 3) := by decide +kernel
theorem dX5_add_15 : decode cX5_add 15 = .ok (.iload_n 1, 1) := by decide +kernel
theorem dX5_add_16 : decode cX5_add 16 = .ok (.i2c, 1) := by decide +kernel
theorem dX5_add_17 : decode cX5_add 17 = .ok (.castore, 1) := by decide +kernel
theorem dX5_add_18 : decode cX5_add 18 = .ok (.aload_n 0, 1) := by decide +kernel
theorem dX5_add_19 : decode cX5_add 19 = .ok (.dup, 1) := by decide +kernel
theorem dX5_add_20 : decode cX5_add 20 = .ok (.getfield 15, 3) := by decide +kernel
theorem dX5_add_23 : decode cX5_add 23 = .ok (.iconst 1, 1) := by decide +kernel
theorem dX5_add_24 : decode cX5_add 24 = .ok (.iadd, 1) := by decide +kernel
theorem dX5_add_25 : decode cX5_add 25 = .ok (.putfield 15, 3) := by decide +kernel
theorem dX5_add_28 : decode cX5_add 28 = .ok (.return_, 1) := by decide +kernel
theorem dX5_clear_0 : decode cX5_clear 0 = .ok (.aload_n 0, 1) := by decide +kernel
theorem dX5_clear_1 : decode cX5_clear 1 = .ok (.iconst 0, 1) := by decide +kernel
theorem dX5_clear_2 : decode cX5_clear 2 = .ok (.putfield 15, 3) := by decide +kernel
theorem dX5_clear_5 : decode cX5_clear 5 = .ok (.aload_n 0, 1) := by decide +kernel
theorem dX5_clear_6 : decode cX5_clear 6 = .ok (.iconst 0, 1) := by decide +kernel
theorem dX5_clear_7 : decode cX5_clear 7 = .ok (.putfield 19, 3) := by decide +kernel
theorem dX5_clear_10 : decode cX5_clear 10 = .ok (.return_, 1) := by decide +kernel
theorem dX5_isRead_0 : decode cX5_isRead 0 = .ok (.aload_n 0, 1) := by decide +kernel
theorem dX5_isRead_1 : decode cX5_isRead 1 = .ok (.getfield 19, 3) := by decide +kernel
theorem dX5_isRead_4 : decode cX5_isRead 4 = .ok (.aload_n 0, 1) := by decide +kernel
theorem dX5_isRead_5 : decode cX5_isRead 5 = .ok (.getfield 15, 3) := by decide +kernel
theorem dX5_isRead_8 : decode cX5_isRead 8 = .ok (.if_icmp .lt 7, 3) := by decide +kernel
theorem dX5_isRead_11 : decode cX5_isRead 11 = .ok (.iconst 1, 1) := by decide +kernel
theorem dX5_isRead_12 : decode cX5_isRead 12 = .ok (.goto 4, 3) := by decide +kernel
theorem dX5_isRead_15 : decode cX5_isRead 15 = .ok (.iconst 0, 1) := by decide +kernel
theorem dX5_isRead_16 : decode cX5_isRead 16 = .ok (.ireturn, 1) := by decide +kernel
set_option maxRecDepth 20000 in
theorem ggX5_nextSign_X7_isWithin : GoodIn wsX5_nextSign wsX7_isWithin := goodIn_r _ [6] (by decide +kernel) (by decide +kernel)
set_option maxRecDepth 20000 in
theorem gX5_nextSign_X7_isWithin_n26 : GoodIn wsX5_nextSign (wsX7_isWithin) := ggX5_nextSign_X7_isWithin
theorem dX5_nextSign_0 : decode cX5_nextSign 0 = .ok (.aload_n 0, 1) := by decide +kernel
theorem dX5_nextSign_1 : decode cX5_nextSign 1 = .ok (.getfield 19, 3) := by decide +kernel
theorem dX5_nextSign_4 : decode cX5_nextSign 4 = .ok (.iconst 0, 1) := by decide +kernel
theorem dX5_nextSign_5 : decode cX5_nextSign 5 = .ok (.aload_n 0, 1) := by decide +kernel
theorem dX5_nextSign_6 : decode cX5_nextSign 6 = .ok (.getfield 15, 3) := by decide +kernel
theorem dX5_nextSign_9 : decode cX5_nextSign 9 = .ok (.iconst 1, 1) := by decide +kernel
theorem dX5_nextSign_10 : decode cX5_nextSign 10 = .ok (.isub, 1) := by decide +kernel
theorem dX5_nextSign_11 : decode cX5_nextSign 11 = .ok (.invokestatic 26, 3) := by decide +kernel
theorem dX5_nextSign_14 : decode cX5_nextSign 14 = .ok (.ifCond .eq 15, 3) := by decide +kernel
theorem dX5_nextSign_17 : decode cX5_nextSign 17 = .ok (.aload_n 0, 1) := by decide +kernel
theorem dX5_nextSign_18 : decode cX5_nextSign 18 = .ok (.getfield 9, 3) := by decide +kernel
theorem dX5_nextSign_21 : decode cX5_nextSign 21 = .ok (.aload_n 0, 1) := by decide +kernel
theorem dX5_nextSign_22 : decode cX5_nextSign 22 = .ok (.getfield 19, 3) := by decide +kernel
theorem dX5_nextSign_25 : decode cX5_nextSign 25 = .ok (.caload, 1) := by decide +kernel
theorem dX5_nextSign_26 : decode cX5_nextSign 26 = .ok (.goto 4, 3) := by decide +kernel
theorem dX5_nextSign_29 : decode cX5_nextSign 29 = .ok (.iconst (-1), 1) := by decide +kernel
theorem dX5_nextSign_30 : decode cX5_nextSign 30 = .ok (.ireturn, 1) := by decide +kernel
set_option maxRecDepth 20000 in
theorem ggX5_takeSign_X5_nextSign : GoodIn wsX5_takeSign wsX5_nextSign := goodIn_r _ [6, 1, 7, 8, 9, 10, 11, 12, 13, 14] (by decide +kernel) (by decide +kernel)
set_option maxRecDepth 20000 in
theorem gX5_takeSign_X5_nextSign : GoodIn wsX5_takeSign (wsV RX5 30 RX5 yX5_nextSign wsX5_nextSign) := goodIn_app (goodIn_of _ (by decide +kernel)) ggX5_takeSign_X5_nextSign
theorem dX5_takeSign_0 : decode cX5_takeSign 0 = .ok (.aload_n 0, 1) := by decide +kernel
theorem dX5_takeSign_1 : decode cX5_takeSign 1 = .ok (.invokevirtual 30, 3) := by decide +kernel
theorem dX5_takeSign_4 : decode cX5_takeSign 4 = .ok (.istore_n 1, 1) := by decide +kernel
theorem dX5_takeSign_5 : decode cX5_takeSign 5 = .ok (.iload_n 1, 1) := by decide +kernel
theorem dX5_takeSign_6 : decode cX5_takeSign 6 = .ok (.iconst (-1), 1) := by decide +kernel
theorem dX5_takeSign_7 : decode cX5_takeSign 7 = .ok (.if_icmp .eq 13, 3) := by decide +kernel
theorem dX5_takeSign_10 : decode cX5_takeSign 10 = .ok (.aload_n 0, 1) := by decide +kernel
theorem dX5_takeSign_11 : decode cX5_takeSign 11 = .ok (.dup, 1) := by decide +kernel
theorem dX5_takeSign_12 : decode cX5_takeSign 12 = .ok (.getfield 19, 3) := by decide +kernel
theorem dX5_takeSign_15 : decode cX5_takeSign 15 = .ok (.iconst 1, 1) := by decide +kernel
theorem dX5_takeSign_16 : decode cX5_takeSign 16 = .ok (.iadd, 1) := by decide +kernel
theorem dX5_takeSign_17 : decode cX5_takeSign 17 = .ok (.putfield 19, 3) := by decide +kernel
theorem dX5_takeSign_20 : decode cX5_takeSign 20 = .ok (.iload_n 1, 1) := by decide +kernel
theorem dX5_takeSign_21 : decode cX5_takeSign 21 = .ok (.ireturn, 1) := by decide +kernel
set_option maxRecDepth 20000 in
theorem ggX5_takeNumber_X5_nextSign : GoodIn wsX5_takeNumber wsX5_nextSign := goodIn_r _ [6, 1, 7, 8, 9, 10, 11, 16, 17, 18] (by decide +kernel) (by decide +kernel)
set_option maxRecDepth 20000 in
theorem gX5_takeNumber_X5_nextSign : GoodIn wsX5_takeNumber (wsV RX5 30 RX5 yX5_nextSign wsX5_nextSign) := goodIn_app (goodIn_of _ (by decide +kernel)) ggX5_takeNumber_X5_nextSign
set_option maxRecDepth 20000 in
theorem ggX5_takeNumber_X7_isWithin : GoodIn wsX5_takeNumber wsX7_isWithin := goodIn_r _ [11] (by decide +kernel) (by decide +kernel)
set_option maxRecDepth 20000 in
theorem gX5_takeNumber_X7_isWithin_n26 : GoodIn wsX5_takeNumber (wsX7_isWithin) := ggX5_takeNumber_X7_isWithin
set_option maxRecDepth 20000 in
theorem ggX5_takeNumber_X5_takeSign : GoodIn wsX5_takeNumber wsX5_takeSign := goodIn_r _ [15, 1, 2, 3, 4, 5, 6, 7, 8, 9, 10, 11, 16, 17, 18] (by decide +kernel) (by decide +kernel)
set_option maxRecDepth 20000 in
theorem gX5_takeNumber_X5_takeSign : GoodIn wsX5_takeNumber (wsV RX5 34 RX5 yX5_takeSign wsX5_takeSign) := goodIn_app (goodIn_of _ (by decide +kernel)) ggX5_takeNumber_X5_takeSign
theorem dX5_takeNumber_0 : decode cX5_takeNumber 0 = .ok (.aload_n 0, 1) := by decide +kernel
theorem dX5_takeNumber_1 : decode cX5_takeNumber 1 = .ok (.invokevirtual 30, 3) := by decide +kernel
theorem dX5_takeNumber_4 : decode cX5_takeNumber 4 = .ok (.bipush 32, 2) := by decide +kernel
theorem dX5_takeNumber_6 : decode cX5_takeNumber 6 = .ok (.if_icmp .eq 5, 3) := by decide +kernel
theorem dX5_takeNumber_9 : decode cX5_takeNumber 9 = .ok (.iconst (-1), 1) := by decide +kernel
theorem dX5_takeNumber_10 : decode cX5_takeNumber 10 = .ok (.ireturn, 1) := by decide +kernel
theorem dX5_takeNumber_11 : decode cX5_takeNumber 11 = .ok (.aload_n 0, 1) := by decide +kernel
theorem dX5_takeNumber_12 : decode cX5_takeNumber 12 = .ok (.dup, 1) := by decide +kernel
theorem dX5_takeNumber_13 : decode cX5_takeNumber 13 = .ok (.getfield 19, 3) := by decide +kernel
theorem dX5_takeNumber_16 : decode cX5_takeNumber 16 = .ok (.iconst 1, 1) := by decide +kernel
theorem dX5_takeNumber_17 : decode cX5_takeNumber 17 = .ok (.iadd, 1) := by decide +kernel
theorem dX5_takeNumber_18 : decode cX5_takeNumber 18 = .ok (.putfield 19, 3) := by decide +kernel
theorem dX5_takeNumber_21 : decode cX5_takeNumber 21 = .ok (.aload_n 0, 1) := by decide +kernel
theorem dX5_takeNumber_22 : decode cX5_takeNumber 22 = .ok (.invokevirtual 30, 3) := by decide +kernel
theorem dX5_takeNumber_25 : decode cX5_takeNumber 25 = .ok (.bipush 48, 2) := by decide +kernel
theorem dX5_takeNumber_27 : decode cX5_takeNumber 27 = .ok (.if_icmp .ne 7, 3) := by decide +kernel
theorem dX5_takeNumber_30 : decode cX5_takeNumber 30 = .ok (.iconst 1, 1) := by decide +kernel
theorem dX5_takeNumber_31 : decode cX5_takeNumber 31 = .ok (.goto 4, 3) := by decide +kernel
theorem dX5_takeNumber_34 : decode cX5_takeNumber 34 = .ok (.iconst 0, 1) := by decide +kernel
theorem dX5_takeNumber_35 : decode cX5_takeNumber 35 = .ok (.istore_n 1, 1) := by decide +kernel
theorem dX5_takeNumber_36 : decode cX5_takeNumber 36 = .ok (.iconst 0, 1) := by decide +kernel
theorem dX5_takeNumber_37 : decode cX5_takeNumber 37 = .ok (.istore_n 2, 1) := by decide +kernel
theorem dX5_takeNumber_38 : decode cX5_takeNumber 38 = .ok (.iconst 0, 1) := by decide +kernel
theorem dX5_takeNumber_39 : decode cX5_takeNumber 39 = .ok (.istore_n 3, 1) := by decide +kernel
theorem dX5_takeNumber_40 : decode cX5_takeNumber 40 = .ok (.iload_n 2, 1) := by decide +kernel
theorem dX5_takeNumber_41 : decode cX5_takeNumber 41 = .ok (.bipush 6, 2) := by decide +kernel
theorem dX5_takeNumber_43 : decode cX5_takeNumber 43 = .ok (.if_icmp .ge 36, 3) := by decide +kernel
theorem dX5_takeNumber_46 : decode cX5_takeNumber 46 = .ok (.aload_n 0, 1) := by decide +kernel
theorem dX5_takeNumber_47 : decode cX5_takeNumber 47 = .ok (.invokevirtual 30, 3) := by decide +kernel
theorem dX5_takeNumber_50 : decode cX5_takeNumber 50 = .ok (.bipush 48, 2) := by decide +kernel
theorem dX5_takeNumber_52 : decode cX5_takeNumber 52 = .ok (.bipush 57, 2) := by decide +kernel
theorem dX5_takeNumber_54 : decode cX5_takeNumber 54 = .ok (.invokestatic 26, 3) := by decide +kernel
theorem dX5_takeNumber_57 : decode cX5_takeNumber 57 = .ok (.ifCond .eq 22, 3) := by decide +kernel
theorem dX5_takeNumber_60 : decode cX5_takeNumber 60 = .ok (.bipush 10, 2) := by decide +kernel
theorem dX5_takeNumber_62 : decode cX5_takeNumber 62 = .ok (.iload_n 3, 1) := by decide +kernel
theorem dX5_takeNumber_63 : decode cX5_takeNumber 63 = .ok (.imul, 1) := by decide +kernel
theorem dX5_takeNumber_64 : decode cX5_takeNumber 64 = .ok (.aload_n 0, 1) := by decide +kernel
theorem dX5_takeNumber_65 : decode cX5_takeNumber 65 = .ok (.invokevirtual 34, 3) := by decide +kernel
theorem dX5_takeNumber_68 : decode cX5_takeNumber 68 = .ok (.iadd, 1) := by decide +kernel
theorem dX5_takeNumber_69 : decode cX5_takeNumber 69 = .ok (.bipush 48, 2) := by decide +kernel
theorem dX5_takeNumber_71 : decode cX5_takeNumber 71 = .ok (.isub, 1) := by decide +kernel
theorem dX5_takeNumber_72 : decode cX5_takeNumber 72 = .ok (.istore_n 3, 1) := by decide +kernel
theorem dX5_takeNumber_73 : decode cX5_takeNumber 73 = .ok (.iinc 2 1, 3) := by decide +kernel
theorem dX5_takeNumber_76 : decode cX5_takeNumber 76 = .ok (.goto (-36), 3) := by decide +kernel
theorem dX5_takeNumber_79 : decode cX5_takeNumber 79 = .ok (.iload_n 2, 1) := by decide +kernel
theorem dX5_takeNumber_80 : decode cX5_takeNumber 80 = .ok (.iconst 1, 1) := by decide +kernel
theorem dX5_takeNumber_81 : decode cX5_takeNumber 81 = .ok (.if_icmp .eq 12, 3) := by decide +kernel
theorem dX5_takeNumber_84 : decode cX5_takeNumber 84 = .ok (.iload_n 2, 1) := by decide +kernel
theorem dX5_takeNumber_85 : decode cX5_takeNumber 85 = .ok (.iconst 1, 1) := by decide +kernel
theorem dX5_takeNumber_86 : decode cX5_takeNumber 86 = .ok (.if_icmp .le 11, 3) := by decide +kernel
theorem dX5_takeNumber_89 : decode cX5_takeNumber 89 = .ok (.iload_n 1, 1) := by decide +kernel
theorem dX5_takeNumber_90 : decode cX5_takeNumber 90 = .ok (.ifCond .ne 7, 3) := by decide +kernel
theorem dX5_takeNumber_93 : decode cX5_takeNumber 93 = .ok (.iconst 1, 1) := by decide +kernel
theorem dX5_takeNumber_94 : decode cX5_takeNumber 94 = .ok (.goto 4, 3) := by decide +kernel
theorem dX5_takeNumber_97 : decode cX5_takeNumber 97 = .ok (.iconst 0, 1) := by decide +kernel
theorem dX5_takeNumber_98 : decode cX5_takeNumber 98 = .ok (.istore 4, 2) := by decide +kernel
theorem dX5_takeNumber_100 : decode cX5_takeNumber 100 = .ok (.iload 4, 2) := by decide +kernel
theorem dX5_takeNumber_102 : decode cX5_takeNumber 102 = .ok (.ifCond .eq 7, 3) := by decide +kernel
theorem dX5_takeNumber_105 : decode cX5_takeNumber 105 = .ok (.iload_n 3, 1) := by decide +kernel
theorem dX5_takeNumber_106 : decode cX5_takeNumber 106 = .ok (.goto 4, 3) := by decide +kernel
theorem dX5_takeNumber_109 : decode cX5_takeNumber 109 = .ok (.iconst (-1), 1) := by decide +kernel
theorem dX5_takeNumber_110 : decode cX5_takeNumber 110 = .ok (.ireturn, 1) := by decide +kernel
theorem dX6_init_0 : decode cX6_init 0 = .ok (.aload_n 0, 1) := by decide +kernel
theorem dX6_init_1 : decode cX6_init 1 = .ok (.invokespecial 3, 3) := by decide +kernel
theorem dX6_init_4 : decode cX6_init 4 = .ok (.aload_n 0, 1) := by decide +kernel
theorem dX6_init_5 : decode cX6_init 5 = .ok (.sipush 3599, 3) := by decide +kernel
theorem dX6_init_8 : decode cX6_init 8 = .ok (.putfield 9, 3) := by decide +kernel
theorem dX6_init_11 : decode cX6_init 11 = .ok (.aload_n 0, 1) := by decide +kernel
theorem dX6_init_12 : decode cX6_init 12 = .ok (.iconst 0, 1) := by decide +kernel
theorem dX6_init_13 : decode cX6_init 13 = .ok (.putfield 15, 3) := by decide +kernel
theorem dX6_init_16 : decode cX6_init 16 = .ok (.aload_n 0, 1) := by decide +kernel
theorem dX6_init_17 : decode cX6_init 17 = .ok (.bipush 9, 2) := by decide +kernel
theorem dX6_init_19 : decode cX6_init 19 = .ok (.newarray .int, 2) := by decide +kernel
theorem dX6_init_21 : decode cX6_init 21 = .ok (.putfield 19, 3) := by decide +kernel
theorem dX6_init_24 : decode cX6_init 24 = .ok (.aload_n 0, 1) := by decide +kernel
theorem dX6_init_25 : decode cX6_init 25 = .ok (.bipush 9, 2) := by decide +kernel
theorem dX6_init_27 : decode cX6_init 27 = .ok (.newarray .int, 2) := by decide +kernel
theorem dX6_init_29 : decode cX6_init 29 = .ok (.putfield 23, 3) := by decide +kernel
theorem dX6_init_32 : decode cX6_init 32 = .ok (.aload_n 0, 1) := by decide +kernel
theorem dX6_init_33 : decode cX6_init 33 = .ok (.iconst 1, 1) := by decide +kernel
theorem dX6_init_34 : decode cX6_init 34 = .ok (.putfield 26, 3) := by decide +kernel
theorem dX6_init_37 : decode cX6_init 37 = .ok (.aload_n 0, 1) := by decide +kernel
theorem dX6_init_38 : decode cX6_init 38 = .ok (.iload_n 1, 1) := by decide +kernel
theorem dX6_init_39 : decode cX6_init 39 = .ok (.putfield 29, 3) := by decide +kernel
theorem dX6_init_42 : decode cX6_init 42 = .ok (.aload_n 0, 1) := by decide +kernel
theorem dX6_init_43 : decode cX6_init 43 = .ok (.iload_n 3, 1) := by decide +kernel
theorem dX6_init_44 : decode cX6_init 44 = .ok (.putfield 32, 3) := by decide +kernel
theorem dX6_init_47 : decode cX6_init 47 = .ok (.aload_n 0, 1) := by decide +kernel
theorem dX6_init_48 : decode cX6_init 48 = .ok (.getfield 19, 3) := by decide +kernel
theorem dX6_init_51 : decode cX6_init 51 = .ok (.iconst 0, 1) := by decide +kernel
theorem dX6_init_52 : decode cX6_init 52 = .ok (.iload_n 2, 1) := by decide +kernel
theorem dX6_init_53 : decode cX6_init 53 = .ok (.iastore, 1) := by decide +kernel
theorem dX6_init_54 : decode cX6_init 54 = .ok (.aload_n 0, 1) := by decide +kernel
theorem dX6_init_55 : decode cX6_init 55 = .ok (.getfield 23, 3) := by decide +kernel
theorem dX6_init_58 : decode cX6_init 58 = .ok (.iconst 0, 1) := by decide +kernel
theorem dX6_init_59 : decode cX6_init 59 = .ok (.iload_n 3, 1) := by decide +kernel
theorem dX6_init_60 : decode cX6_init 60 = .ok (.iastore, 1) := by decide +kernel
theorem dX6_init_61 : decode cX6_init 61 = .ok (.return_, 1) := by decide +kernel
theorem dX6_isFull_0 : decode cX6_isFull 0 = .ok (.aload_n 0, 1) := by decide +kernel
theorem dX6_isFull_1 : decode cX6_isFull 1 = .ok (.getfield 26, 3) := by decide +kernel
theorem dX6_isFull_4 : decode cX6_isFull 4 = .ok (.aload_n 0, 1) := by decide +kernel
theorem dX6_isFull_5 : decode cX6_isFull 5 = .ok (.getfield 19, 3) := by decide +kernel
theorem dX6_isFull_8 : decode cX6_isFull 8 = .ok (.arraylength, 1) := by decide +kernel
theorem dX6_isFull_9 : decode cX6_isFull 9 = .ok (.if_icmp .lt 7, 3) := by decide +kernel
theorem dX6_isFull_12 : decode cX6_isFull 12 = .ok (.iconst 1, 1) := by decide +kernel
theorem dX6_isFull_13 : decode cX6_isFull 13 = .ok (.goto 4, 3) := by decide +kernel
theorem dX6_isFull_16 : decode cX6_isFull 16 = .ok (.iconst 0, 1) := by decide +kernel
theorem dX6_isFull_17 : decode cX6_isFull 17 = .ok (.ireturn, 1) := by decide +kernel
theorem dX6_kindToldLast_0 : decode cX6_kindToldLast 0 = .ok (.aload_n 0, 1) := by decide +kernel
theorem dX6_kindToldLast_1 : decode cX6_kindToldLast 1 = .ok (.getfield 19, 3) := by decide +kernel
theorem dX6_kindToldLast_4 : decode cX6_kindToldLast 4 = .ok (.aload_n 0, 1) := by decide +kernel
theorem dX6_kindToldLast_5 : decode cX6_kindToldLast 5 = .ok (.getfield 26, 3) := by decide +kernel
theorem dX6_kindToldLast_8 : decode cX6_kindToldLast 8 = .ok (.iconst 1, 1) := by decide +kernel
theorem dX6_kindToldLast_9 : decode cX6_kindToldLast 9 = .ok (.isub, 1) := by decide +kernel
theorem dX6_kindToldLast_10 : decode cX6_kindToldLast 10 = .ok (.iaload, 1) := by decide +kernel
theorem dX6_kindToldLast_11 : decode cX6_kindToldLast 11 = .ok (.ireturn, 1) := by decide +kernel
theorem dX6_dayToldLast_0 : decode cX6_dayToldLast 0 = .ok (.aload_n 0, 1) := by decide +kernel
theorem dX6_dayToldLast_1 : decode cX6_dayToldLast 1 = .ok (.getfield 23, 3) := by decide +kernel
theorem dX6_dayToldLast_4 : decode cX6_dayToldLast 4 = .ok (.aload_n 0, 1) := by decide +kernel
theorem dX6_dayToldLast_5 : decode cX6_dayToldLast 5 = .ok (.getfield 26, 3) := by decide +kernel
theorem dX6_dayToldLast_8 : decode cX6_dayToldLast 8 = .ok (.iconst 1, 1) := by decide +kernel
theorem dX6_dayToldLast_9 : decode cX6_dayToldLast 9 = .ok (.isub, 1) := by decide +kernel
theorem dX6_dayToldLast_10 : decode cX6_dayToldLast 10 = .ok (.iaload, 1) := by decide +kernel
theorem dX6_dayToldLast_11 : decode cX6_dayToldLast 11 = .ok (.ireturn, 1) := by decide +kernel
set_option maxRecDepth 20000 in
theorem ggX6_tell_X6_isFull : GoodIn wsX6_tell wsX6_isFull := goodIn_r _ [8, 2, 1, 9, 10, 11, 12, 13, 14, 15] (by decide +kernel) (by decide +kernel)
set_option maxRecDepth 20000 in
theorem gX6_tell_X6_isFull : GoodIn wsX6_tell (wsV RX6 35 RX6 yX6_isFull wsX6_isFull) := goodIn_app (goodIn_of _ (by decide +kernel)) ggX6_tell_X6_isFull
theorem dX6_tell_0 : decode cX6_tell 0 = .ok (.aload_n 0, 1) := by decide +kernel
theorem dX6_tell_1 : decode cX6_tell 1 = .ok (.invokevirtual 35, 3) := by decide +kernel
theorem dX6_tell_4 : decode cX6_tell 4 = .ok (.ifCond .ne 33, 3) := by decide +kernel
theorem dX6_tell_7 : decode cX6_tell 7 = .ok (.aload_n 0, 1) := by decide +kernel
theorem dX6_tell_8 : decode cX6_tell 8 = .ok (.getfield 19, 3) := by decide +kernel
theorem dX6_tell_11 : decode cX6_tell 11 = .ok (.aload_n 0, 1) := by decide +kernel
theorem dX6_tell_12 : decode cX6_tell 12 = .ok (.getfield 26, 3) := by decide +kernel
theorem dX6_tell_15 : decode cX6_tell 15 = .ok (.iload_n 1, 1) := by decide +kernel
theorem dX6_tell_16 : decode cX6_tell 16 = .ok (.iastore, 1) := by decide +kernel
theorem dX6_tell_17 : decode cX6_tell 17 = .ok (.aload_n 0, 1) := by decide +kernel
theorem dX6_tell_18 : decode cX6_tell 18 = .ok (.getfield 23, 3) := by decide +kernel
theorem dX6_tell_21 : decode cX6_tell 21 = .ok (.aload_n 0, 1) := by decide +kernel
theorem dX6_tell_22 : decode cX6_tell 22 = .ok (.getfield 26, 3) := by decide +kernel
theorem dX6_tell_25 : decode cX6_tell 25 = .ok (.iload_n 2, 1) := by decide +kernel
theorem dX6_tell_26 : decode cX6_tell 26 = .ok (.iastore, 1) := by decide +kernel
theorem dX6_tell_27 : decode cX6_tell 27 = .ok (.aload_n 0, 1) := by decide +kernel
theorem dX6_tell_28 : decode cX6_tell 28 = .ok (.dup, 1) := by decide +kernel
theorem dX6_tell_29 : decode cX6_tell 29 = .ok (.getfield 26, 3) := by decide +kernel
theorem dX6_tell_32 : decode cX6_tell 32 = .ok (.iconst 1, 1) := by decide +kernel
theorem dX6_tell_33 : decode cX6_tell 33 = .ok (.iadd, 1) := by decide +kernel
theorem dX6_tell_34 : decode cX6_tell 34 = .ok (.putfield 26, 3) := by decide +kernel
theorem dX6_tell_37 : decode cX6_tell 37 = .ok (.return_, 1) := by decide +kernel
theorem dX6_leave_0 : decode cX6_leave 0 = .ok (.aload_n 0, 1) := by decide +kernel
theorem dX6_leave_1 : decode cX6_leave 1 = .ok (.iload_n 1, 1) := by decide +kernel
theorem dX6_leave_2 : decode cX6_leave 2 = .ok (.putfield 9, 3) := by decide +kernel
theorem dX6_leave_5 : decode cX6_leave 5 = .ok (.aload_n 0, 1) := by decide +kernel
theorem dX6_leave_6 : decode cX6_leave 6 = .ok (.iconst 1, 1) := by decide +kernel
theorem dX6_leave_7 : decode cX6_leave 7 = .ok (.putfield 15, 3) := by decide +kernel
theorem dX6_leave_10 : decode cX6_leave 10 = .ok (.return_, 1) := by decide +kernel
theorem dX6_daysThere_0 : decode cX6_daysThere 0 = .ok (.iconst 0, 1) := by decide +kernel
theorem dX6_daysThere_1 : decode cX6_daysThere 1 = .ok (.iload_n 2, 1) := by decide +kernel
theorem dX6_daysThere_2 : decode cX6_daysThere 2 = .ok (.aload_n 0, 1) := by decide +kernel
theorem dX6_daysThere_3 : decode cX6_daysThere 3 = .ok (.getfield 9, 3) := by decide +kernel
theorem dX6_daysThere_6 : decode cX6_daysThere 6 = .ok (.invokestatic 39, 3) := by decide +kernel
theorem dX6_daysThere_9 : decode cX6_daysThere 9 = .ok (.iload_n 1, 1) := by decide +kernel
theorem dX6_daysThere_10 : decode cX6_daysThere 10 = .ok (.aload_n 0, 1) := by decide +kernel
theorem dX6_daysThere_11 : decode cX6_daysThere 11 = .ok (.getfield 32, 3) := by decide +kernel
theorem dX6_daysThere_14 : decode cX6_daysThere 14 = .ok (.invokestatic 45, 3) := by decide +kernel
theorem dX6_daysThere_17 : decode cX6_daysThere 17 = .ok (.isub, 1) := by decide +kernel
theorem dX6_daysThere_18 : decode cX6_daysThere 18 = .ok (.iconst 1, 1) := by decide +kernel
theorem dX6_daysThere_19 : decode cX6_daysThere 19 = .ok (.iadd, 1) := by decide +kernel
theorem dX6_daysThere_20 : decode cX6_daysThere 20 = .ok (.invokestatic 45, 3) := by decide +kernel
theorem dX6_daysThere_23 : decode cX6_daysThere 23 = .ok (.ireturn, 1) := by decide +kernel
theorem dX6_kindOn_0 : decode cX6_kindOn 0 = .ok (.aload_n 0, 1) := by decide +kernel
theorem dX6_kindOn_1 : decode cX6_kindOn 1 = .ok (.getfield 19, 3) := by decide +kernel
theorem dX6_kindOn_4 : decode cX6_kindOn 4 = .ok (.iconst 0, 1) := by decide +kernel
theorem dX6_kindOn_5 : decode cX6_kindOn 5 = .ok (.iaload, 1) := by decide +kernel
theorem dX6_kindOn_6 : decode cX6_kindOn 6 = .ok (.istore_n 2, 1) := by decide +kernel
theorem dX6_kindOn_7 : decode cX6_kindOn 7 = .ok (.iconst 1, 1) := by decide +kernel
theorem dX6_kindOn_8 : decode cX6_kindOn 8 = .ok (.istore_n 3, 1) := by decide +kernel
theorem dX6_kindOn_9 : decode cX6_kindOn 9 = .ok (.iload_n 3, 1) := by decide +kernel
theorem dX6_kindOn_10 : decode cX6_kindOn 10 = .ok (.aload_n 0, 1) := by decide +kernel
theorem dX6_kindOn_11 : decode cX6_kindOn 11 = .ok (.getfield 26, 3) := by decide +kernel
theorem dX6_kindOn_14 : decode cX6_kindOn 14 = .ok (.if_icmp .ge 50, 3) := by decide +kernel
theorem dX6_kindOn_17 : decode cX6_kindOn 17 = .ok (.aload_n 0, 1) := by decide +kernel
theorem dX6_kindOn_18 : decode cX6_kindOn 18 = .ok (.getfield 23, 3) := by decide +kernel
theorem dX6_kindOn_21 : decode cX6_kindOn 21 = .ok (.iload_n 3, 1) := by decide +kernel
theorem dX6_kindOn_22 : decode cX6_kindOn 22 = .ok (.iaload, 1) := by decide +kernel
theorem dX6_kindOn_23 : decode cX6_kindOn 23 = .ok (.iload_n 1, 1) := by decide +kernel
theorem dX6_kindOn_24 : decode cX6_kindOn 24 = .ok (.if_icmp .ge 13, 3) := by decide +kernel
theorem dX6_kindOn_27 : decode cX6_kindOn 27 = .ok (.aload_n 0, 1) := by decide +kernel
theorem dX6_kindOn_28 : decode cX6_kindOn 28 = .ok (.getfield 19, 3) := by decide +kernel
theorem dX6_kindOn_31 : decode cX6_kindOn 31 = .ok (.iload_n 3, 1) := by decide +kernel
theorem dX6_kindOn_32 : decode cX6_kindOn 32 = .ok (.iaload, 1) := by decide +kernel
theorem dX6_kindOn_33 : decode cX6_kindOn 33 = .ok (.istore_n 2, 1) := by decide +kernel
theorem dX6_kindOn_34 : decode cX6_kindOn 34 = .ok (.goto 24, 3) := by decide +kernel
theorem dX6_kindOn_37 : decode cX6_kindOn 37 = .ok (.aload_n 0, 1) := by decide +kernel
theorem dX6_kindOn_38 : decode cX6_kindOn 38 = .ok (.getfield 23, 3) := by decide +kernel
theorem dX6_kindOn_41 : decode cX6_kindOn 41 = .ok (.iload_n 3, 1) := by decide +kernel
theorem dX6_kindOn_42 : decode cX6_kindOn 42 = .ok (.iaload, 1) := by decide +kernel
theorem dX6_kindOn_43 : decode cX6_kindOn 43 = .ok (.iload_n 1, 1) := by decide +kernel
theorem dX6_kindOn_44 : decode cX6_kindOn 44 = .ok (.if_icmp .ne 14, 3) := by decide +kernel
theorem dX6_kindOn_47 : decode cX6_kindOn 47 = .ok (.iload_n 2, 1) := by decide +kernel
theorem dX6_kindOn_48 : decode cX6_kindOn 48 = .ok (.aload_n 0, 1) := by decide +kernel
theorem dX6_kindOn_49 : decode cX6_kindOn 49 = .ok (.getfield 19, 3) := by decide +kernel
theorem dX6_kindOn_52 : decode cX6_kindOn 52 = .ok (.iload_n 3, 1) := by decide +kernel
theorem dX6_kindOn_53 : decode cX6_kindOn 53 = .ok (.iaload, 1) := by decide +kernel
theorem dX6_kindOn_54 : decode cX6_kindOn 54 = .ok (.invokestatic 45, 3) := by decide +kernel
theorem dX6_kindOn_57 : decode cX6_kindOn 57 = .ok (.istore_n 2, 1) := by decide +kernel
theorem dX6_kindOn_58 : decode cX6_kindOn 58 = .ok (.iinc 3 1, 3) := by decide +kernel
theorem dX6_kindOn_61 : decode cX6_kindOn 61 = .ok (.goto (-52), 3) := by decide +kernel
theorem dX6_kindOn_64 : decode cX6_kindOn 64 = .ok (.iload_n 2, 1) := by decide +kernel
theorem dX6_kindOn_65 : decode cX6_kindOn 65 = .ok (.ireturn, 1) := by decide +kernel
set_option maxRecDepth 20000 in
theorem ggX7_init_X5_init : GoodIn wsX7_init wsX5_init := goodIn_r _ [27, 28, 2, 3, 29, 30, 31, 32, 81, 82, 83] (by decide +kernel) (by decide +kernel)
set_option maxRecDepth 20000 in
theorem gX7_init_X5_init_n9 : GoodIn wsX7_init (wsX5_init) := ggX7_init_X5_init
set_option maxRecDepth 20000 in
theorem ggX7_init_X2_init : GoodIn wsX7_init wsX2_init := goodIn_r _ [35, 36, 2, 3, 37, 38, 39, 40, 41, 42, 43, 44, 45, 46, 47, 48, 49, 10, 50, 51, 52, 53, 54, 91, 92, 93, 94, 95, 96, 97, 98, 99] (by decide +kernel) (by decide +kernel)
set_option maxRecDepth 20000 in
theorem gX7_init_X2_init : GoodIn wsX7_init (wsX2_init) := ggX7_init_X2_init
set_option maxRecDepth 20000 in
theorem ggX7_init_Jx4a65c_init_da8c8 : GoodIn wsX7_init wsJx4a65c_init_da8c8 := goodIn_r _ [57, 58, 59, 60, 61, 62, 63, 64, 65, 66, 67, 68, 69, 2, 3, 100, 101, 102] (by decide +kernel) (by decide +kernel)
set_option maxRecDepth 20000 in
theorem gX7_init_Jx4a65c_init_da8c8 : GoodIn wsX7_init (wsJx4a65c_init_da8c8) := ggX7_init_Jx4a65c_init_da8c8
set_option maxRecDepth 20000 in
theorem ggX7_init_X1_init : GoodIn wsX7_init wsX1_init := goodIn_r _ [71, 72, 2, 3, 73, 14, 15, 74, 75, 56, 57, 58, 59, 60, 61, 62, 63, 64, 65, 66, 67, 68, 69, 100, 101, 102, 103] (by decide +kernel) (by decide +kernel)
set_option maxRecDepth 20000 in
theorem gX7_init_X1_init_n38 : GoodIn wsX7_init (wsX1_init) := ggX7_init_X1_init
set_option maxRecDepth 20000 in
theorem ggX7_init_X4_init : GoodIn wsX7_init wsX4_init := goodIn_r _ [77, 78, 2, 3, 29, 79, 80, 104, 105] (by decide +kernel) (by decide +kernel)
set_option maxRecDepth 20000 in
theorem gX7_init_X4_init_n45 : GoodIn wsX7_init (wsX4_init) := ggX7_init_X4_init
theorem dX7_init_0 : decode cX7_init 0 = .ok (.aload_n 0, 1) := by decide +kernel
theorem dX7_init_1 : decode cX7_init 1 = .ok (.invokespecial 1, 3) := by decide +kernel
theorem dX7_init_4 : decode cX7_init 4 = .ok (.aload_n 0, 1) := by decide +kernel
theorem dX7_init_5 : decode cX7_init 5 = .ok (.new 7, 3) := by decide +kernel
theorem dX7_init_8 : decode cX7_init 8 = .ok (.dup, 1) := by decide +kernel
theorem dX7_init_9 : decode cX7_init 9 = .ok (.invokespecial 9, 3) := by decide +kernel
theorem dX7_init_12 : decode cX7_init 12 = .ok (.putfield 10, 3) := by decide +kernel
theorem dX7_init_15 : decode cX7_init 15 = .ok (.aload_n 0, 1) := by decide +kernel
theorem dX7_init_16 : decode cX7_init 16 = .ok (.new 16, 3) := by decide +kernel
theorem dX7_init_19 : decode cX7_init 19 = .ok (.dup, 1) := by decide +kernel
theorem dX7_init_20 : decode cX7_init 20 = .ok (.invokespecial 18, 3) := by decide +kernel
theorem dX7_init_23 : decode cX7_init 23 = .ok (.putfield 19, 3) := by decide +kernel
theorem dX7_init_26 : decode cX7_init 26 = .ok (.aload_n 0, 1) := by decide +kernel
theorem dX7_init_27 : decode cX7_init 27 = .ok (.new 16, 3) := by decide +kernel
theorem dX7_init_30 : decode cX7_init 30 = .ok (.dup, 1) := by decide +kernel
theorem dX7_init_31 : decode cX7_init 31 = .ok (.invokespecial 18, 3) := by decide +kernel
theorem dX7_init_34 : decode cX7_init 34 = .ok (.putfield 23, 3) := by decide +kernel
theorem dX7_init_37 : decode cX7_init 37 = .ok (.aload_n 0, 1) := by decide +kernel
theorem dX7_init_38 : decode cX7_init 38 = .ok (.new 26, 3) := by decide +kernel
theorem dX7_init_41 : decode cX7_init 41 = .ok (.dup, 1) := by decide +kernel
theorem dX7_init_42 : decode cX7_init 42 = .ok (.invokespecial 28, 3) := by decide +kernel
theorem dX7_init_45 : decode cX7_init 45 = .ok (.putfield 29, 3) := by decide +kernel
theorem dX7_init_48 : decode cX7_init 48 = .ok (.aload_n 0, 1) := by decide +kernel
theorem dX7_init_49 : decode cX7_init 49 = .ok (.new 26, 3) := by decide +kernel
theorem dX7_init_52 : decode cX7_init 52 = .ok (.dup, 1) := by decide +kernel
theorem dX7_init_53 : decode cX7_init 53 = .ok (.invokespecial 28, 3) := by decide +kernel
theorem dX7_init_56 : decode cX7_init 56 = .ok (.putfield 33, 3) := by decide +kernel
theorem dX7_init_59 : decode cX7_init 59 = .ok (.aload_n 0, 1) := by decide +kernel
theorem dX7_init_60 : decode cX7_init 60 = .ok (.new 36, 3) := by decide +kernel
theorem dX7_init_63 : decode cX7_init 63 = .ok (.dup, 1) := by decide +kernel
theorem dX7_init_64 : decode cX7_init 64 = .ok (.invokespecial 38, 3) := by decide +kernel
theorem dX7_init_67 : decode cX7_init 67 = .ok (.putfield 39, 3) := by decide +kernel
theorem dX7_init_70 : decode cX7_init 70 = .ok (.aload_n 0, 1) := by decide +kernel
theorem dX7_init_71 : decode cX7_init 71 = .ok (.new 43, 3) := by decide +kernel
theorem dX7_init_74 : decode cX7_init 74 = .ok (.dup, 1) := by decide +kernel
theorem dX7_init_75 : decode cX7_init 75 = .ok (.invokespecial 45, 3) := by decide +kernel
theorem dX7_init_78 : decode cX7_init 78 = .ok (.putfield 46, 3) := by decide +kernel
theorem dX7_init_81 : decode cX7_init 81 = .ok (.return_, 1) := by decide +kernel
set_option maxRecDepth 20000 in
theorem ggX7_sign_X7_isWithin : GoodIn wsX7_sign wsX7_isWithin := goodIn_r _ [9] (by decide +kernel) (by decide +kernel)
set_option maxRecDepth 20000 in
theorem gX7_sign_X7_isWithin : GoodIn wsX7_sign (va_wsS RX7 50 yX7_isWithin wsX7_isWithin) := goodIn_app (goodIn_of _ (by decide +kernel)) ggX7_sign_X7_isWithin
set_option maxRecDepth 20000 in
theorem ggX7_sign_X5_isFull : GoodIn wsX7_sign wsX5_isFull := goodIn_r _ [14, 15, 16, 29, 30, 31] (by decide +kernel) (by decide +kernel)
set_option maxRecDepth 20000 in
theorem gX7_sign_X5_isFull : GoodIn wsX7_sign (wsV RX7 61 RX5 yX5_isFull wsX5_isFull) := goodIn_app (goodIn_of _ (by decide +kernel)) ggX7_sign_X5_isFull
set_option maxRecDepth 20000 in
theorem ggX7_sign_X5_add : GoodIn wsX7_sign wsX5_add := goodIn_r _ [20, 16, 15, 21, 11, 12, 13, 14, 29, 30, 31] (by decide +kernel) (by decide +kernel)
set_option maxRecDepth 20000 in
theorem gX7_sign_X5_add : GoodIn wsX7_sign (wsV RX7 70 RX5 yX5_add wsX5_add) := goodIn_app (goodIn_of _ (by decide +kernel)) ggX7_sign_X5_add
theorem dX7_sign_0 : decode cX7_sign 0 = .ok (.iload_n 1, 1) := by decide +kernel
theorem dX7_sign_1 : decode cX7_sign 1 = .ok (.iconst 0, 1) := by decide +kernel
theorem dX7_sign_2 : decode cX7_sign 2 = .ok (.sipush 255, 3) := by decide +kernel
theorem dX7_sign_5 : decode cX7_sign 5 = .ok (.invokestatic 50, 3) := by decide +kernel
theorem dX7_sign_8 : decode cX7_sign 8 = .ok (.ifCond .ne 13, 3) := by decide +kernel
theorem dX7_sign_11 : decode cX7_sign 11 = .ok (.new 54, 3) := by decide +kernel
theorem dX7_sign_14 : decode cX7_sign 14 = .ok (.dup, 1) := by decide +kernel
theorem dX7_sign_15 : decode cX7_sign 15 = .ok (.ldc 56, 2) := by decide +kernel
theorem dX7_sign_17 : decode cX7_sign 17 = .ok (.invokespecial 58, 3) := by decide +kernel
theorem dX7_sign_20 : decode cX7_sign 20 = .ok (.athrow, 1) := by decide +kernel
theorem dX7_sign_21 : decode cX7_sign 21 = .ok (.aload_n 0, 1) := by decide +kernel
theorem dX7_sign_22 : decode cX7_sign 22 = .ok (.getfield 10, 3) := by decide +kernel
theorem dX7_sign_25 : decode cX7_sign 25 = .ok (.invokevirtual 61, 3) := by decide +kernel
theorem dX7_sign_28 : decode cX7_sign 28 = .ok (.ifCond .eq 13, 3) := by decide +kernel
theorem dX7_sign_31 : decode cX7_sign 31 = .ok (.new 65, 3) := by decide +kernel
theorem dX7_sign_34 : decode cX7_sign 34 = .ok (.dup, 1) := by decide +kernel
theorem dX7_sign_35 : decode cX7_sign 35 = .ok (.ldc 67, 2) := by decide +kernel
theorem dX7_sign_37 : decode cX7_sign 37 = .ok (.invokespecial 69, 3) := by decide +kernel
theorem dX7_sign_40 : decode cX7_sign 40 = .ok (.athrow, 1) := by decide +kernel
theorem dX7_sign_41 : decode cX7_sign 41 = .ok (.aload_n 0, 1) := by decide +kernel
theorem dX7_sign_42 : decode cX7_sign 42 = .ok (.getfield 10, 3) := by decide +kernel
theorem dX7_sign_45 : decode cX7_sign 45 = .ok (.iload_n 1, 1) := by decide +kernel
theorem dX7_sign_46 : decode cX7_sign 46 = .ok (.invokevirtual 70, 3) := by decide +kernel
theorem dX7_sign_49 : decode cX7_sign 49 = .ok (.aload_n 0, 1) := by decide +kernel
theorem dX7_sign_50 : decode cX7_sign 50 = .ok (.getfield 10, 3) := by decide +kernel
theorem dX7_sign_53 : decode cX7_sign 53 = .ok (.getfield 74, 3) := by decide +kernel
theorem dX7_sign_56 : decode cX7_sign 56 = .ok (.ireturn, 1) := by decide +kernel
set_option maxRecDepth 20000 in
theorem ggX7_read_X2_clear : GoodIn wsX7_read wsX2_clear := goodIn_r _ [7, 8, 9, 10, 11, 12, 13, 14, 15, 16, 17, 86, 87, 88, 89, 90, 91, 92, 93, 94] (by decide +kernel) (by decide +kernel)
set_option maxRecDepth 20000 in
theorem gX7_read_X2_clear_n78 : GoodIn wsX7_read (wsX2_clear) := ggX7_read_X2_clear
set_option maxRecDepth 20000 in
theorem ggX7_read_X7_readLines : GoodIn wsX7_read wsX7_readLines := goodIn_r _ [22, 3, 23, 24, 25, 26, 27, 28, 29, 30, 31, 32, 21, 33, 1, 34, 35, 36, 37, 38, 39, 40, 41, 42, 43, 44, 45, 46, 47, 48, 49, 50, 51, 52, 5, 53, 12, 13, 54, 55, 56, 57, 8, 9, 10, 58, 59, 60, 61, 62, 63, 64, 65, 66, 67, 11, 68, 69, 70, 71, 72, 73, 74, 79, 80, 81, 82, 83, 84, 85, 95, 96, 97, 86, 87, 88, 89, 90, 91, 92, 93, 94] (by decide +kernel) (by decide +kernel)
set_option maxRecDepth 20000 in
theorem gX7_read_X7_readLines : GoodIn wsX7_read (wsV RX7 81 RX7 yX7_readLines wsX7_readLines) := goodIn_app (goodIn_of _ (by decide +kernel)) ggX7_read_X7_readLines
set_option maxRecDepth 20000 in
theorem ggX7_read_X5_clear : GoodIn wsX7_read wsX5_clear := goodIn_r _ [78, 29, 28, 95, 96, 97] (by decide +kernel) (by decide +kernel)
set_option maxRecDepth 20000 in
theorem gX7_read_X5_clear : GoodIn wsX7_read (wsV RX7 85 RX5 yX5_clear wsX5_clear) := goodIn_app (goodIn_of _ (by decide +kernel)) ggX7_read_X5_clear
theorem dX7_read_0 : decode cX7_read 0 = .ok (.aload_n 0, 1) := by decide +kernel
theorem dX7_read_1 : decode cX7_read 1 = .ok (.getfield 23, 3) := by decide +kernel
theorem dX7_read_4 : decode cX7_read 4 = .ok (.invokevirtual 78, 3) := by decide +kernel
theorem dX7_read_7 : decode cX7_read 7 = .ok (.aload_n 0, 1) := by decide +kernel
theorem dX7_read_8 : decode cX7_read 8 = .ok (.invokevirtual 81, 3) := by decide +kernel
theorem dX7_read_11 : decode cX7_read 11 = .ok (.istore_n 1, 1) := by decide +kernel
theorem dX7_read_12 : decode cX7_read 12 = .ok (.iload_n 1, 1) := by decide +kernel
theorem dX7_read_13 : decode cX7_read 13 = .ok (.ifCond .lt 21, 3) := by decide +kernel
theorem dX7_read_16 : decode cX7_read 16 = .ok (.aload_n 0, 1) := by decide +kernel
theorem dX7_read_17 : decode cX7_read 17 = .ok (.getfield 19, 3) := by decide +kernel
theorem dX7_read_20 : decode cX7_read 20 = .ok (.astore_n 2, 1) := by decide +kernel
theorem dX7_read_21 : decode cX7_read 21 = .ok (.aload_n 0, 1) := by decide +kernel
theorem dX7_read_22 : decode cX7_read 22 = .ok (.aload_n 0, 1) := by decide +kernel
theorem dX7_read_23 : decode cX7_read 23 = .ok (.getfield 23, 3) := by decide +kernel
theorem dX7_read_26 : decode cX7_read 26 = .ok (.putfield 19, 3) := by decide +kernel
theorem dX7_read_29 : decode cX7_read 29 = .ok (.aload_n 0, 1) := by decide +kernel
theorem dX7_read_30 : decode cX7_read 30 = .ok (.aload_n 2, 1) := by decide +kernel
theorem dX7_read_31 : decode cX7_read 31 = .ok (.putfield 23, 3) := by decide +kernel
theorem dX7_read_34 : decode cX7_read 34 = .ok (.aload_n 0, 1) := by decide +kernel
theorem dX7_read_35 : decode cX7_read 35 = .ok (.getfield 10, 3) := by decide +kernel
theorem dX7_read_38 : decode cX7_read 38 = .ok (.invokevirtual 85, 3) := by decide +kernel
theorem dX7_read_41 : decode cX7_read 41 = .ok (.iload_n 1, 1) := by decide +kernel
theorem dX7_read_42 : decode cX7_read 42 = .ok (.ireturn, 1) := by decide +kernel
set_option maxRecDepth 20000 in
theorem ggX7_unit_X7_checkOwner : GoodIn wsX7_unit wsX7_checkOwner := goodIn_ca (goodIn_r _ [10, 11, 12, 13, 14, 9, 15] (by decide +kernel) (by decide +kernel)) (goodIn_sub (fun _ h => List.mem_cons_of_mem _ (List.mem_append_right _ h)) (by decide +kernel))
set_option maxRecDepth 20000 in
theorem gX7_unit_X7_checkOwner : GoodIn wsX7_unit (va_wsS RX7 86 yX7_checkOwner wsX7_checkOwner) := goodIn_app (goodIn_of _ (by decide +kernel)) ggX7_unit_X7_checkOwner
set_option maxRecDepth 20000 in
theorem ggX7_unit_X7_checkKind : GoodIn wsX7_unit wsX7_checkKind := goodIn_ca (goodIn_r _ [18, 11, 12, 13, 14, 9, 15] (by decide +kernel) (by decide +kernel)) (goodIn_sub (fun _ h => List.mem_cons_of_mem _ (List.mem_append_right _ h)) (by decide +kernel))
set_option maxRecDepth 20000 in
theorem gX7_unit_X7_checkKind : GoodIn wsX7_unit (va_wsS RX7 89 yX7_checkKind wsX7_checkKind) := goodIn_app (goodIn_of _ (by decide +kernel)) ggX7_unit_X7_checkKind
set_option maxRecDepth 20000 in
theorem ggX7_unit_X7_checkDay : GoodIn wsX7_unit wsX7_checkDay := goodIn_ca (goodIn_r _ [21, 11, 12, 13, 14, 9, 15] (by decide +kernel) (by decide +kernel)) (goodIn_sub (fun _ h => List.mem_cons_of_mem _ (List.mem_append_right _ h)) (by decide +kernel))
set_option maxRecDepth 20000 in
theorem gX7_unit_X7_checkDay : GoodIn wsX7_unit (va_wsS RX7 92 yX7_checkDay wsX7_checkDay) := goodIn_app (goodIn_of _ (by decide +kernel)) ggX7_unit_X7_checkDay
set_option maxRecDepth 20000 in
theorem ggX7_unit_Jx4a65c_size_8abf5 : GoodIn wsX7_unit wsJx4a65c_size_8abf5 := goodIn_r _ [26, 27, 110, 111, 112] (by decide +kernel) (by decide +kernel)
set_option maxRecDepth 20000 in
theorem gX7_unit_Jx4a65c_size_8abf5 : GoodIn wsX7_unit (wsV RX7 95 RJx4a65c yJx4a65c_size_8abf5 wsJx4a65c_size_8abf5) := goodIn_app (goodIn_of _ (by decide +kernel)) ggX7_unit_Jx4a65c_size_8abf5
set_option maxRecDepth 20000 in
theorem ggX7_unit_X6_init : GoodIn wsX7_unit wsX6_init := goodIn_r _ [30, 31, 32, 33, 34, 35, 36, 37, 38, 39, 40, 41, 103, 104, 105, 106, 107, 108, 109] (by decide +kernel) (by decide +kernel)
set_option maxRecDepth 20000 in
theorem gX7_unit_X6_init : GoodIn wsX7_unit (wsX6_init) := ggX7_unit_X6_init
set_option maxRecDepth 20000 in
theorem ggX7_unit_Jx4a65c_add_9ea2d : GoodIn wsX7_unit wsJx4a65c_add_9ea2d := goodIn_r _ [45, 46, 47, 48, 27, 49, 50, 51, 25, 52, 53, 54, 55, 56, 57, 58, 59, 60, 61, 62, 63, 64, 65, 66, 67, 68, 69, 70, 71, 72, 73, 74, 75, 76, 77, 78, 79, 80, 81, 82, 83, 84, 85, 86, 87, 88, 89, 90, 91, 92, 93, 94, 95, 110, 111, 112] (by decide +kernel) (by decide +kernel)
set_option maxRecDepth 20000 in
theorem gX7_unit_Jx4a65c_add_9ea2d : GoodIn wsX7_unit (wsV RX7 105 RJx4a65c yJx4a65c_add_9ea2d wsJx4a65c_add_9ea2d) := goodIn_app (goodIn_of _ (by decide +kernel)) ggX7_unit_Jx4a65c_add_9ea2d
theorem dX7_unit_0 : decode cX7_unit 0 = .ok (.iload_n 1, 1) := by decide +kernel
theorem dX7_unit_1 : decode cX7_unit 1 = .ok (.invokestatic 86, 3) := by decide +kernel
theorem dX7_unit_4 : decode cX7_unit 4 = .ok (.iload_n 2, 1) := by decide +kernel
theorem dX7_unit_5 : decode cX7_unit 5 = .ok (.invokestatic 89, 3) := by decide +kernel
theorem dX7_unit_8 : decode cX7_unit 8 = .ok (.iload_n 3, 1) := by decide +kernel
theorem dX7_unit_9 : decode cX7_unit 9 = .ok (.invokestatic 92, 3) := by decide +kernel
theorem dX7_unit_12 : decode cX7_unit 12 = .ok (.aload_n 0, 1) := by decide +kernel
theorem dX7_unit_13 : decode cX7_unit 13 = .ok (.getfield 29, 3) := by decide +kernel
theorem dX7_unit_16 : decode cX7_unit 16 = .ok (.invokevirtual 95, 3) := by decide +kernel
theorem dX7_unit_19 : decode cX7_unit 19 = .ok (.bipush 24, 2) := by decide +kernel
theorem dX7_unit_21 : decode cX7_unit 21 = .ok (.if_icmp .lt 13, 3) := by decide +kernel
theorem dX7_unit_24 : decode cX7_unit 24 = .ok (.new 65, 3) := by decide +kernel
theorem dX7_unit_27 : decode cX7_unit 27 = .ok (.dup, 1) := by decide +kernel
theorem dX7_unit_28 : decode cX7_unit 28 = .ok (.ldc 98, 2) := by decide +kernel
theorem dX7_unit_30 : decode cX7_unit 30 = .ok (.invokespecial 69, 3) := by decide +kernel
theorem dX7_unit_33 : decode cX7_unit 33 = .ok (.athrow, 1) := by decide +kernel
theorem dX7_unit_34 : decode cX7_unit 34 = .ok (.aload_n 0, 1) := by decide +kernel
theorem dX7_unit_35 : decode cX7_unit 35 = .ok (.getfield 29, 3) := by decide +kernel
theorem dX7_unit_38 : decode cX7_unit 38 = .ok (.new 100, 3) := by decide +kernel
theorem dX7_unit_41 : decode cX7_unit 41 = .ok (.dup, 1) := by decide +kernel
theorem dX7_unit_42 : decode cX7_unit 42 = .ok (.iload_n 1, 1) := by decide +kernel
theorem dX7_unit_43 : decode cX7_unit 43 = .ok (.iload_n 2, 1) := by decide +kernel
theorem dX7_unit_44 : decode cX7_unit 44 = .ok (.iload_n 3, 1) := by decide +kernel
theorem dX7_unit_45 : decode cX7_unit 45 = .ok (.invokespecial 102, 3) := by decide +kernel
theorem dX7_unit_48 : decode cX7_unit 48 = .ok (.invokevirtual 105, 3) := by decide +kernel
theorem dX7_unit_51 : decode cX7_unit 51 = .ok (.pop, 1) := by decide +kernel
theorem dX7_unit_52 : decode cX7_unit 52 = .ok (.aload_n 0, 1) := by decide +kernel
theorem dX7_unit_53 : decode cX7_unit 53 = .ok (.getfield 29, 3) := by decide +kernel
theorem dX7_unit_56 : decode cX7_unit 56 = .ok (.invokevirtual 95, 3) := by decide +kernel
theorem dX7_unit_59 : decode cX7_unit 59 = .ok (.iconst 1, 1) := by decide +kernel
theorem dX7_unit_60 : decode cX7_unit 60 = .ok (.isub, 1) := by decide +kernel
theorem dX7_unit_61 : decode cX7_unit 61 = .ok (.ireturn, 1) := by decide +kernel
set_option maxRecDepth 20000 in
theorem ggX7_change_X7_checkUnit : GoodIn wsX7_change wsX7_checkUnit := goodIn_ca (goodIn_r _ [9, 10, 11, 3, 12, 13, 14, 15, 16, 17, 18, 19, 8, 20, 72, 73, 74, 75, 76, 77, 78, 79, 80, 81] (by decide +kernel) (by decide +kernel)) (goodIn_sub (fun _ h => List.mem_cons_of_mem _ (List.mem_append_left _ (List.mem_append_left _ (List.mem_append_right _ h)))) (by decide +kernel))
set_option maxRecDepth 20000 in
theorem gX7_change_X7_checkUnit : GoodIn wsX7_change (wsV RX7 108 RX7 yX7_checkUnit wsX7_checkUnit) := goodIn_app (goodIn_of _ (by decide +kernel)) ggX7_change_X7_checkUnit
set_option maxRecDepth 20000 in
theorem ggX7_change_X7_checkKind : GoodIn wsX7_change wsX7_checkKind := goodIn_ca (goodIn_r _ [23, 24, 25, 18, 19, 8, 20] (by decide +kernel) (by decide +kernel)) (goodIn_sub (fun _ h => List.mem_cons_of_mem _ (List.mem_append_left _ (List.mem_append_right _ h))) (by decide +kernel))
set_option maxRecDepth 20000 in
theorem gX7_change_X7_checkKind : GoodIn wsX7_change (va_wsS RX7 89 yX7_checkKind wsX7_checkKind) := goodIn_app (goodIn_of _ (by decide +kernel)) ggX7_change_X7_checkKind
set_option maxRecDepth 20000 in
theorem ggX7_change_X7_checkDay : GoodIn wsX7_change wsX7_checkDay := goodIn_ca (goodIn_r _ [28, 24, 25, 18, 19, 8, 20] (by decide +kernel) (by decide +kernel)) (goodIn_sub (fun _ h => List.mem_cons_of_mem _ (List.mem_append_left _ (List.mem_append_right _ h))) (by decide +kernel))
set_option maxRecDepth 20000 in
theorem gX7_change_X7_checkDay : GoodIn wsX7_change (va_wsS RX7 92 yX7_checkDay wsX7_checkDay) := goodIn_app (goodIn_of _ (by decide +kernel)) ggX7_change_X7_checkDay
set_option maxRecDepth 20000 in
theorem ggX7_change_Jx4a65c_get_915e3 : GoodIn wsX7_change wsJx4a65c_get_915e3 := goodIn_r _ [32, 17, 33, 34, 35, 36, 37, 38, 39, 40, 41, 42, 43, 15, 44, 45, 79, 80, 81] (by decide +kernel) (by decide +kernel)
set_option maxRecDepth 20000 in
theorem gX7_change_Jx4a65c_get_915e3 : GoodIn wsX7_change (wsV RX7 111 RJx4a65c yJx4a65c_get_915e3 wsJx4a65c_get_915e3) := goodIn_app (goodIn_of _ (by decide +kernel)) ggX7_change_Jx4a65c_get_915e3
set_option maxRecDepth 20000 in
theorem ggX7_change_X7_checkGoesOn : GoodIn wsX7_change wsX7_checkGoesOn := goodIn_ca (goodIn_r _ [48, 49, 50, 51, 52, 53, 54, 55, 56, 57, 82, 83, 84, 85, 86, 87, 88] (by decide +kernel) (by decide +kernel)) (goodIn_sub (fun _ h => List.mem_cons_of_mem _ (List.mem_append_right _ h)) (by decide +kernel))
set_option maxRecDepth 20000 in
theorem gX7_change_X7_checkGoesOn : GoodIn wsX7_change (va_wsS RX7 115 yX7_checkGoesOn wsX7_checkGoesOn) := goodIn_app (goodIn_of _ (by decide +kernel)) ggX7_change_X7_checkGoesOn
set_option maxRecDepth 20000 in
theorem ggX7_change_X6_isFull : GoodIn wsX7_change wsX6_isFull := goodIn_r _ [61, 57, 62, 82, 83, 84, 85, 86, 87, 88] (by decide +kernel) (by decide +kernel)
set_option maxRecDepth 20000 in
theorem gX7_change_X6_isFull : GoodIn wsX7_change (wsV RX7 119 RX6 yX6_isFull wsX6_isFull) := goodIn_app (goodIn_of _ (by decide +kernel)) ggX7_change_X6_isFull
set_option maxRecDepth 20000 in
theorem ggX7_change_X6_kindToldLast : GoodIn wsX7_change wsX6_kindToldLast := goodIn_r _ [66, 62, 57, 82, 83, 84, 85, 86, 87, 88] (by decide +kernel) (by decide +kernel)
set_option maxRecDepth 20000 in
theorem gX7_change_X6_kindToldLast : GoodIn wsX7_change (wsV RX7 122 RX6 yX6_kindToldLast wsX6_kindToldLast) := goodIn_app (goodIn_of _ (by decide +kernel)) ggX7_change_X6_kindToldLast
set_option maxRecDepth 20000 in
theorem ggX7_change_X6_tell : GoodIn wsX7_change wsX6_tell := goodIn_r _ [70, 62, 57, 56, 71, 59, 60, 54, 61, 82, 83, 84, 85, 86, 87, 88] (by decide +kernel) (by decide +kernel)
set_option maxRecDepth 20000 in
theorem gX7_change_X6_tell : GoodIn wsX7_change (wsV RX7 125 RX6 yX6_tell wsX6_tell) := goodIn_app (goodIn_of _ (by decide +kernel)) ggX7_change_X6_tell
theorem dX7_change_0 : decode cX7_change 0 = .ok (.aload_n 0, 1) := by decide +kernel
theorem dX7_change_1 : decode cX7_change 1 = .ok (.iload_n 1, 1) := by decide +kernel
theorem dX7_change_2 : decode cX7_change 2 = .ok (.invokevirtual 108, 3) := by decide +kernel
theorem dX7_change_5 : decode cX7_change 5 = .ok (.iload_n 2, 1) := by decide +kernel
theorem dX7_change_6 : decode cX7_change 6 = .ok (.invokestatic 89, 3) := by decide +kernel
theorem dX7_change_9 : decode cX7_change 9 = .ok (.iload_n 3, 1) := by decide +kernel
theorem dX7_change_10 : decode cX7_change 10 = .ok (.invokestatic 92, 3) := by decide +kernel
theorem dX7_change_13 : decode cX7_change 13 = .ok (.aload_n 0, 1) := by decide +kernel
theorem dX7_change_14 : decode cX7_change 14 = .ok (.getfield 29, 3) := by decide +kernel
theorem dX7_change_17 : decode cX7_change 17 = .ok (.iload_n 1, 1) := by decide +kernel
theorem dX7_change_18 : decode cX7_change 18 = .ok (.invokevirtual 111, 3) := by decide +kernel
theorem dX7_change_21 : decode cX7_change 21 = .ok (.checkcast 100, 3) := by decide +kernel
theorem dX7_change_24 : decode cX7_change 24 = .ok (.astore 4, 2) := by decide +kernel
theorem dX7_change_26 : decode cX7_change 26 = .ok (.aload 4, 2) := by decide +kernel
theorem dX7_change_28 : decode cX7_change 28 = .ok (.iload_n 3, 1) := by decide +kernel
theorem dX7_change_29 : decode cX7_change 29 = .ok (.invokestatic 115, 3) := by decide +kernel
theorem dX7_change_32 : decode cX7_change 32 = .ok (.aload 4, 2) := by decide +kernel
theorem dX7_change_34 : decode cX7_change 34 = .ok (.invokevirtual 119, 3) := by decide +kernel
theorem dX7_change_37 : decode cX7_change 37 = .ok (.ifCond .eq 13, 3) := by decide +kernel
theorem dX7_change_40 : decode cX7_change 40 = .ok (.new 65, 3) := by decide +kernel
theorem dX7_change_43 : decode cX7_change 43 = .ok (.dup, 1) := by decide +kernel
theorem dX7_change_44 : decode cX7_change 44 = .ok (.ldc 120, 2) := by decide +kernel
theorem dX7_change_46 : decode cX7_change 46 = .ok (.invokespecial 69, 3) := by decide +kernel
theorem dX7_change_49 : decode cX7_change 49 = .ok (.athrow, 1) := by decide +kernel
theorem dX7_change_50 : decode cX7_change 50 = .ok (.aload 4, 2) := by decide +kernel
theorem dX7_change_52 : decode cX7_change 52 = .ok (.invokevirtual 122, 3) := by decide +kernel
theorem dX7_change_55 : decode cX7_change 55 = .ok (.iload_n 2, 1) := by decide +kernel
theorem dX7_change_56 : decode cX7_change 56 = .ok (.if_icmp .eq 7, 3) := by decide +kernel
theorem dX7_change_59 : decode cX7_change 59 = .ok (.iconst 1, 1) := by decide +kernel
theorem dX7_change_60 : decode cX7_change 60 = .ok (.goto 4, 3) := by decide +kernel
theorem dX7_change_63 : decode cX7_change 63 = .ok (.iconst 0, 1) := by decide +kernel
theorem dX7_change_64 : decode cX7_change 64 = .ok (.istore 5, 2) := by decide +kernel
theorem dX7_change_66 : decode cX7_change 66 = .ok (.aload 4, 2) := by decide +kernel
theorem dX7_change_68 : decode cX7_change 68 = .ok (.iload_n 2, 1) := by decide +kernel
theorem dX7_change_69 : decode cX7_change 69 = .ok (.iload_n 3, 1) := by decide +kernel
theorem dX7_change_70 : decode cX7_change 70 = .ok (.invokevirtual 125, 3) := by decide +kernel
theorem dX7_change_73 : decode cX7_change 73 = .ok (.iload 5, 2) := by decide +kernel
theorem dX7_change_75 : decode cX7_change 75 = .ok (.ireturn, 1) := by decide +kernel
set_option maxRecDepth 20000 in
theorem ggX7_gone_X7_checkUnit : GoodIn wsX7_gone wsX7_checkUnit := goodIn_ca (goodIn_r _ [7, 8, 9, 1, 10, 11, 12, 13, 14, 15, 16, 17, 6, 18, 71, 72, 73, 74, 75, 76, 77, 78, 79, 80] (by decide +kernel) (by decide +kernel)) (goodIn_sub (fun _ h => List.mem_cons_of_mem _ (List.mem_append_left _ (List.mem_append_left _ (List.mem_append_right _ h)))) (by decide +kernel))
set_option maxRecDepth 20000 in
theorem gX7_gone_X7_checkUnit : GoodIn wsX7_gone (wsV RX7 108 RX7 yX7_checkUnit wsX7_checkUnit) := goodIn_app (goodIn_of _ (by decide +kernel)) ggX7_gone_X7_checkUnit
set_option maxRecDepth 20000 in
theorem ggX7_gone_X7_checkDay : GoodIn wsX7_gone wsX7_checkDay := goodIn_ca (goodIn_r _ [21, 22, 23, 16, 17, 6, 18] (by decide +kernel) (by decide +kernel)) (goodIn_sub (fun _ h => List.mem_cons_of_mem _ (List.mem_append_left _ (List.mem_append_right _ h))) (by decide +kernel))
set_option maxRecDepth 20000 in
theorem gX7_gone_X7_checkDay : GoodIn wsX7_gone (va_wsS RX7 92 yX7_checkDay wsX7_checkDay) := goodIn_app (goodIn_of _ (by decide +kernel)) ggX7_gone_X7_checkDay
set_option maxRecDepth 20000 in
theorem ggX7_gone_Jx4a65c_get_915e3 : GoodIn wsX7_gone wsJx4a65c_get_915e3 := goodIn_r _ [27, 15, 28, 29, 30, 31, 32, 33, 34, 35, 36, 37, 38, 13, 39, 40, 78, 79, 80] (by decide +kernel) (by decide +kernel)
set_option maxRecDepth 20000 in
theorem gX7_gone_Jx4a65c_get_915e3 : GoodIn wsX7_gone (wsV RX7 111 RJx4a65c yJx4a65c_get_915e3 wsJx4a65c_get_915e3) := goodIn_app (goodIn_of _ (by decide +kernel)) ggX7_gone_Jx4a65c_get_915e3
set_option maxRecDepth 20000 in
theorem ggX7_gone_X7_checkGoesOn : GoodIn wsX7_gone wsX7_checkGoesOn := goodIn_ca (goodIn_r _ [43, 44, 45, 46, 47, 48, 49, 50, 51, 52, 81, 82, 83, 84, 85, 86, 87] (by decide +kernel) (by decide +kernel)) (goodIn_sub (fun _ h => List.mem_cons_of_mem _ (List.mem_append_right _ h)) (by decide +kernel))
set_option maxRecDepth 20000 in
theorem gX7_gone_X7_checkGoesOn : GoodIn wsX7_gone (va_wsS RX7 115 yX7_checkGoesOn wsX7_checkGoesOn) := goodIn_app (goodIn_of _ (by decide +kernel)) ggX7_gone_X7_checkGoesOn
set_option maxRecDepth 20000 in
theorem ggX7_gone_X6_leave : GoodIn wsX7_gone wsX6_leave := goodIn_r _ [56, 57, 58, 81, 82, 83, 84, 85, 86, 87] (by decide +kernel) (by decide +kernel)
set_option maxRecDepth 20000 in
theorem gX7_gone_X6_leave : GoodIn wsX7_gone (wsV RX7 129 RX6 yX6_leave wsX6_leave) := goodIn_app (goodIn_of _ (by decide +kernel)) ggX7_gone_X6_leave
set_option maxRecDepth 20000 in
theorem ggX7_gone_X6_daysThere : GoodIn wsX7_gone wsX6_daysThere := goodIn_r _ [62, 57, 63, 64, 65, 66, 67, 68, 69, 70, 81, 82, 83, 84, 85, 86, 87] (by decide +kernel) (by decide +kernel)
set_option maxRecDepth 20000 in
theorem gX7_gone_X6_daysThere : GoodIn wsX7_gone (wsV RX7 132 RX6 yX6_daysThere wsX6_daysThere) := goodIn_app (goodIn_of _ (by decide +kernel)) ggX7_gone_X6_daysThere
theorem dX7_gone_0 : decode cX7_gone 0 = .ok (.aload_n 0, 1) := by decide +kernel
theorem dX7_gone_1 : decode cX7_gone 1 = .ok (.iload_n 1, 1) := by decide +kernel
theorem dX7_gone_2 : decode cX7_gone 2 = .ok (.invokevirtual 108, 3) := by decide +kernel
theorem dX7_gone_5 : decode cX7_gone 5 = .ok (.iload_n 2, 1) := by decide +kernel
theorem dX7_gone_6 : decode cX7_gone 6 = .ok (.invokestatic 92, 3) := by decide +kernel
theorem dX7_gone_9 : decode cX7_gone 9 = .ok (.aload_n 0, 1) := by decide +kernel
theorem dX7_gone_10 : decode cX7_gone 10 = .ok (.getfield 29, 3) := by decide +kernel
theorem dX7_gone_13 : decode cX7_gone 13 = .ok (.iload_n 1, 1) := by decide +kernel
theorem dX7_gone_14 : decode cX7_gone 14 = .ok (.invokevirtual 111, 3) := by decide +kernel
theorem dX7_gone_17 : decode cX7_gone 17 = .ok (.checkcast 100, 3) := by decide +kernel
theorem dX7_gone_20 : decode cX7_gone 20 = .ok (.astore_n 3, 1) := by decide +kernel
theorem dX7_gone_21 : decode cX7_gone 21 = .ok (.aload_n 3, 1) := by decide +kernel
theorem dX7_gone_22 : decode cX7_gone 22 = .ok (.iload_n 2, 1) := by decide +kernel
theorem dX7_gone_23 : decode cX7_gone 23 = .ok (.invokestatic 115, 3) := by decide +kernel
theorem dX7_gone_26 : decode cX7_gone 26 = .ok (.aload_n 3, 1) := by decide +kernel
theorem dX7_gone_27 : decode cX7_gone 27 = .ok (.iload_n 2, 1) := by decide +kernel
theorem dX7_gone_28 : decode cX7_gone 28 = .ok (.invokevirtual 129, 3) := by decide +kernel
theorem dX7_gone_31 : decode cX7_gone 31 = .ok (.aload_n 3, 1) := by decide +kernel
theorem dX7_gone_32 : decode cX7_gone 32 = .ok (.iconst 0, 1) := by decide +kernel
theorem dX7_gone_33 : decode cX7_gone 33 = .ok (.sipush 3599, 3) := by decide +kernel
theorem dX7_gone_36 : decode cX7_gone 36 = .ok (.invokevirtual 132, 3) := by decide +kernel
theorem dX7_gone_39 : decode cX7_gone 39 = .ok (.ireturn, 1) := by decide +kernel
set_option maxRecDepth 20000 in
theorem ggX7_move_X7_checkOwner : GoodIn wsX7_move wsX7_checkOwner := goodIn_ca (goodIn_r _ [12, 1, 2, 13, 14, 11, 15] (by decide +kernel) (by decide +kernel)) (goodIn_sub (fun _ h => List.mem_cons_of_mem _ (List.mem_append_left _ (List.mem_append_right _ h))) (by decide +kernel))
set_option maxRecDepth 20000 in
theorem gX7_move_X7_checkOwner : GoodIn wsX7_move (va_wsS RX7 86 yX7_checkOwner wsX7_checkOwner) := goodIn_app (goodIn_of _ (by decide +kernel)) ggX7_move_X7_checkOwner
set_option maxRecDepth 20000 in
theorem ggX7_move_X7_checkKind : GoodIn wsX7_move wsX7_checkKind := goodIn_ca (goodIn_r _ [18, 1, 2, 13, 14, 11, 15] (by decide +kernel) (by decide +kernel)) (goodIn_sub (fun _ h => List.mem_cons_of_mem _ (List.mem_append_left _ (List.mem_append_right _ h))) (by decide +kernel))
set_option maxRecDepth 20000 in
theorem gX7_move_X7_checkKind : GoodIn wsX7_move (va_wsS RX7 89 yX7_checkKind wsX7_checkKind) := goodIn_app (goodIn_of _ (by decide +kernel)) ggX7_move_X7_checkKind
set_option maxRecDepth 20000 in
theorem ggX7_move_X7_checkDay : GoodIn wsX7_move wsX7_checkDay := goodIn_ca (goodIn_r _ [21, 1, 2, 13, 14, 11, 15] (by decide +kernel) (by decide +kernel)) (goodIn_sub (fun _ h => List.mem_cons_of_mem _ (List.mem_append_left _ (List.mem_append_right _ h))) (by decide +kernel))
set_option maxRecDepth 20000 in
theorem gX7_move_X7_checkDay : GoodIn wsX7_move (va_wsS RX7 92 yX7_checkDay wsX7_checkDay) := goodIn_app (goodIn_of _ (by decide +kernel)) ggX7_move_X7_checkDay
set_option maxRecDepth 20000 in
theorem ggX7_move_X7_isWithin : GoodIn wsX7_move wsX7_isWithin := goodIn_r _ [15] (by decide +kernel) (by decide +kernel)
set_option maxRecDepth 20000 in
theorem gX7_move_X7_isWithin : GoodIn wsX7_move (va_wsS RX7 50 yX7_isWithin wsX7_isWithin) := goodIn_app (goodIn_of _ (by decide +kernel)) ggX7_move_X7_isWithin
set_option maxRecDepth 20000 in
theorem ggX7_move_Jx4a65c_size_8abf5 : GoodIn wsX7_move wsJx4a65c_size_8abf5 := goodIn_r _ [26, 27, 124, 125, 126] (by decide +kernel) (by decide +kernel)
set_option maxRecDepth 20000 in
theorem gX7_move_Jx4a65c_size_8abf5 : GoodIn wsX7_move (wsV RX7 95 RJx4a65c yJx4a65c_size_8abf5 wsJx4a65c_size_8abf5) := goodIn_app (goodIn_of _ (by decide +kernel)) ggX7_move_Jx4a65c_size_8abf5
set_option maxRecDepth 20000 in
theorem ggX7_move_X3_init : GoodIn wsX7_move wsX3_init := goodIn_r _ [30, 31, 32, 33, 34, 35, 36, 37, 120, 121, 122, 123] (by decide +kernel) (by decide +kernel)
set_option maxRecDepth 20000 in
theorem gX7_move_X3_init : GoodIn wsX7_move (wsX3_init) := ggX7_move_X3_init
set_option maxRecDepth 20000 in
theorem ggX7_move_Jx4a65c_add_9ea2d : GoodIn wsX7_move wsJx4a65c_add_9ea2d := goodIn_r _ [41, 42, 43, 44, 27, 45, 46, 47, 25, 48, 49, 50, 51, 52, 53, 54, 55, 56, 57, 58, 59, 60, 61, 62, 63, 64, 65, 66, 67, 68, 69, 70, 71, 72, 73, 74, 75, 76, 77, 78, 79, 80, 81, 82, 83, 84, 85, 86, 87, 88, 89, 90, 91, 124, 125, 126] (by decide +kernel) (by decide +kernel)
set_option maxRecDepth 20000 in
theorem gX7_move_Jx4a65c_add_9ea2d : GoodIn wsX7_move (wsV RX7 105 RJx4a65c yJx4a65c_add_9ea2d wsJx4a65c_add_9ea2d) := goodIn_app (goodIn_of _ (by decide +kernel)) ggX7_move_Jx4a65c_add_9ea2d
set_option maxRecDepth 20000 in
theorem ggX7_move_X7_movesOf : GoodIn wsX7_move wsX7_movesOf := goodIn_r _ [95, 5, 96, 22, 23, 24, 25, 26, 27, 97, 98, 99, 100, 101, 102, 103, 104, 105, 106, 107, 108, 109, 110, 111, 112, 44, 113, 114, 115, 116, 117, 118, 119, 120, 121, 122, 123, 124, 125, 126] (by decide +kernel) (by decide +kernel)
set_option maxRecDepth 20000 in
theorem gX7_move_X7_movesOf : GoodIn wsX7_move (wsV RX7 145 RX7 yX7_movesOf wsX7_movesOf) := goodIn_app (goodIn_of _ (by decide +kernel)) ggX7_move_X7_movesOf
theorem dX7_move_0 : decode cX7_move 0 = .ok (.iload_n 1, 1) := by decide +kernel
theorem dX7_move_1 : decode cX7_move 1 = .ok (.invokestatic 86, 3) := by decide +kernel
theorem dX7_move_4 : decode cX7_move 4 = .ok (.iload_n 2, 1) := by decide +kernel
theorem dX7_move_5 : decode cX7_move 5 = .ok (.invokestatic 89, 3) := by decide +kernel
theorem dX7_move_8 : decode cX7_move 8 = .ok (.iload_n 3, 1) := by decide +kernel
theorem dX7_move_9 : decode cX7_move 9 = .ok (.invokestatic 92, 3) := by decide +kernel
theorem dX7_move_12 : decode cX7_move 12 = .ok (.iload 4, 2) := by decide +kernel
theorem dX7_move_14 : decode cX7_move 14 = .ok (.iconst 1, 1) := by decide +kernel
theorem dX7_move_15 : decode cX7_move 15 = .ok (.bipush 100, 2) := by decide +kernel
theorem dX7_move_17 : decode cX7_move 17 = .ok (.invokestatic 50, 3) := by decide +kernel
theorem dX7_move_20 : decode cX7_move 20 = .ok (.ifCond .ne 13, 3) := by decide +kernel
theorem dX7_move_23 : decode cX7_move 23 = .ok (.new 54, 3) := by decide +kernel
theorem dX7_move_26 : decode cX7_move 26 = .ok (.dup, 1) := by decide +kernel
theorem dX7_move_27 : decode cX7_move 27 = .ok (.ldc 136, 2) := by decide +kernel
theorem dX7_move_29 : decode cX7_move 29 = .ok (.invokespecial 58, 3) := by decide +kernel
theorem dX7_move_32 : decode cX7_move 32 = .ok (.athrow, 1) := by decide +kernel
theorem dX7_move_33 : decode cX7_move 33 = .ok (.aload_n 0, 1) := by decide +kernel
theorem dX7_move_34 : decode cX7_move 34 = .ok (.getfield 33, 3) := by decide +kernel
theorem dX7_move_37 : decode cX7_move 37 = .ok (.invokevirtual 95, 3) := by decide +kernel
theorem dX7_move_40 : decode cX7_move 40 = .ok (.bipush 60, 2) := by decide +kernel
theorem dX7_move_42 : decode cX7_move 42 = .ok (.if_icmp .lt 13, 3) := by decide +kernel
theorem dX7_move_45 : decode cX7_move 45 = .ok (.new 65, 3) := by decide +kernel
theorem dX7_move_48 : decode cX7_move 48 = .ok (.dup, 1) := by decide +kernel
theorem dX7_move_49 : decode cX7_move 49 = .ok (.ldc 138, 2) := by decide +kernel
theorem dX7_move_51 : decode cX7_move 51 = .ok (.invokespecial 69, 3) := by decide +kernel
theorem dX7_move_54 : decode cX7_move 54 = .ok (.athrow, 1) := by decide +kernel
theorem dX7_move_55 : decode cX7_move 55 = .ok (.aload_n 0, 1) := by decide +kernel
theorem dX7_move_56 : decode cX7_move 56 = .ok (.getfield 33, 3) := by decide +kernel
theorem dX7_move_59 : decode cX7_move 59 = .ok (.new 140, 3) := by decide +kernel
theorem dX7_move_62 : decode cX7_move 62 = .ok (.dup, 1) := by decide +kernel
theorem dX7_move_63 : decode cX7_move 63 = .ok (.iload_n 1, 1) := by decide +kernel
theorem dX7_move_64 : decode cX7_move 64 = .ok (.iload_n 2, 1) := by decide +kernel
theorem dX7_move_65 : decode cX7_move 65 = .ok (.iload_n 3, 1) := by decide +kernel
theorem dX7_move_66 : decode cX7_move 66 = .ok (.iload 4, 2) := by decide +kernel
theorem dX7_move_68 : decode cX7_move 68 = .ok (.invokespecial 142, 3) := by decide +kernel
theorem dX7_move_71 : decode cX7_move 71 = .ok (.invokevirtual 105, 3) := by decide +kernel
theorem dX7_move_74 : decode cX7_move 74 = .ok (.pop, 1) := by decide +kernel
theorem dX7_move_75 : decode cX7_move 75 = .ok (.aload_n 0, 1) := by decide +kernel
theorem dX7_move_76 : decode cX7_move 76 = .ok (.iload_n 1, 1) := by decide +kernel
theorem dX7_move_77 : decode cX7_move 77 = .ok (.invokevirtual 145, 3) := by decide +kernel
theorem dX7_move_80 : decode cX7_move 80 = .ok (.ireturn, 1) := by decide +kernel
set_option maxRecDepth 20000 in
theorem ggX7_sum_X7_checkOwner : GoodIn wsX7_sum wsX7_checkOwner := goodIn_ca (goodIn_r _ [4, 5, 6, 7, 8, 3, 9] (by decide +kernel) (by decide +kernel)) (goodIn_sub (fun _ h => List.mem_cons_of_mem _ (List.mem_append_right _ h)) (by decide +kernel))
set_option maxRecDepth 20000 in
theorem gX7_sum_X7_checkOwner : GoodIn wsX7_sum (va_wsS RX7 86 yX7_checkOwner wsX7_checkOwner) := goodIn_app (goodIn_of _ (by decide +kernel)) ggX7_sum_X7_checkOwner
set_option maxRecDepth 20000 in
theorem ggX7_sum_X7_checkMonth : GoodIn wsX7_sum wsX7_checkMonth := goodIn_ca (goodIn_r _ [12, 5, 6, 7, 8, 3, 9] (by decide +kernel) (by decide +kernel)) (goodIn_sub (fun _ h => List.mem_cons_of_mem _ (List.mem_append_right _ h)) (by decide +kernel))
set_option maxRecDepth 20000 in
theorem gX7_sum_X7_checkMonth : GoodIn wsX7_sum (va_wsS RX7 149 yX7_checkMonth wsX7_checkMonth) := goodIn_app (goodIn_of _ (by decide +kernel)) ggX7_sum_X7_checkMonth
set_option maxRecDepth 20000 in
theorem ggX7_sum_X7_sumBy : GoodIn wsX7_sum wsX7_sumBy := goodIn_r _ [16, 17, 18, 19, 20, 21, 22, 23, 24, 3, 25, 26, 27, 28, 29, 30, 31, 32, 33, 34, 35, 36, 37, 38, 39, 40, 41, 42, 43, 44, 45, 46, 47, 48, 49, 50, 51, 52, 53, 54, 55, 56, 57, 58, 59, 60, 61, 62, 63, 64, 65, 66, 67, 68, 69, 70, 71, 72, 73, 74, 75, 76, 77, 78, 79, 80, 81, 82, 83, 84, 8, 9, 85, 86, 87, 88, 89, 90, 91, 92, 93, 94, 95, 96, 97, 98, 99, 100, 101, 102, 103, 104, 105, 106, 107, 108, 109, 7, 110, 111, 112, 113, 114, 115, 116, 117, 118, 119, 120, 121, 122, 123, 124, 125, 126, 127, 128, 129, 130, 131, 132, 133, 134, 135, 136, 137, 138, 139, 140, 141, 142, 143, 144, 145, 146, 147, 148, 149] (by decide +kernel) (by decide +kernel)
set_option maxRecDepth 20000 in
theorem gX7_sum_X7_sumBy : GoodIn wsX7_sum (wsV RX7 152 RX7 yX7_sumBy wsX7_sumBy) := goodIn_app (goodIn_of _ (by decide +kernel)) ggX7_sum_X7_sumBy
theorem dX7_sum_0 : decode cX7_sum 0 = .ok (.iload_n 1, 1) := by decide +kernel
theorem dX7_sum_1 : decode cX7_sum 1 = .ok (.invokestatic 86, 3) := by decide +kernel
theorem dX7_sum_4 : decode cX7_sum 4 = .ok (.iload_n 2, 1) := by decide +kernel
theorem dX7_sum_5 : decode cX7_sum 5 = .ok (.invokestatic 149, 3) := by decide +kernel
theorem dX7_sum_8 : decode cX7_sum 8 = .ok (.aload_n 0, 1) := by decide +kernel
theorem dX7_sum_9 : decode cX7_sum 9 = .ok (.iload_n 1, 1) := by decide +kernel
theorem dX7_sum_10 : decode cX7_sum 10 = .ok (.iload_n 1, 1) := by decide +kernel
theorem dX7_sum_11 : decode cX7_sum 11 = .ok (.iload_n 2, 1) := by decide +kernel
theorem dX7_sum_12 : decode cX7_sum 12 = .ok (.invokevirtual 152, 3) := by decide +kernel
theorem dX7_sum_15 : decode cX7_sum 15 = .ok (.ireturn, 1) := by decide +kernel
set_option maxRecDepth 20000 in
theorem ggX7_days_X7_checkOwner : GoodIn wsX7_days wsX7_checkOwner := goodIn_ca (goodIn_r _ [4, 5, 6, 7, 8, 3, 9] (by decide +kernel) (by decide +kernel)) (goodIn_sub (fun _ h => List.mem_cons_of_mem _ (List.mem_append_right _ h)) (by decide +kernel))
set_option maxRecDepth 20000 in
theorem gX7_days_X7_checkOwner : GoodIn wsX7_days (va_wsS RX7 86 yX7_checkOwner wsX7_checkOwner) := goodIn_app (goodIn_of _ (by decide +kernel)) ggX7_days_X7_checkOwner
set_option maxRecDepth 20000 in
theorem ggX7_days_X7_checkMonth : GoodIn wsX7_days wsX7_checkMonth := goodIn_ca (goodIn_r _ [12, 5, 6, 7, 8, 3, 9] (by decide +kernel) (by decide +kernel)) (goodIn_sub (fun _ h => List.mem_cons_of_mem _ (List.mem_append_right _ h)) (by decide +kernel))
set_option maxRecDepth 20000 in
theorem gX7_days_X7_checkMonth : GoodIn wsX7_days (va_wsS RX7 149 yX7_checkMonth wsX7_checkMonth) := goodIn_app (goodIn_of _ (by decide +kernel)) ggX7_days_X7_checkMonth
set_option maxRecDepth 20000 in
theorem ggX7_days_X7_unitDays : GoodIn wsX7_days wsX7_unitDays := goodIn_r _ [16, 17, 18, 19, 20, 21, 22, 23, 24, 25, 26, 27, 28, 29, 30, 31, 32, 33, 34, 35, 36, 37, 38, 39, 40, 41, 42, 43, 3, 44, 45, 46, 47, 48, 49, 50, 51, 52, 53, 54, 55, 56, 57, 58, 59, 60, 61, 62, 63, 64, 65, 66, 67, 68, 69, 70, 71, 72, 73, 74, 75, 76, 77, 78] (by decide +kernel) (by decide +kernel)
set_option maxRecDepth 20000 in
theorem gX7_days_X7_unitDays : GoodIn wsX7_days (wsV RX7 156 RX7 yX7_unitDays wsX7_unitDays) := goodIn_app (goodIn_of _ (by decide +kernel)) ggX7_days_X7_unitDays
theorem dX7_days_0 : decode cX7_days 0 = .ok (.iload_n 1, 1) := by decide +kernel
theorem dX7_days_1 : decode cX7_days 1 = .ok (.invokestatic 86, 3) := by decide +kernel
theorem dX7_days_4 : decode cX7_days 4 = .ok (.iload_n 2, 1) := by decide +kernel
theorem dX7_days_5 : decode cX7_days 5 = .ok (.invokestatic 149, 3) := by decide +kernel
theorem dX7_days_8 : decode cX7_days 8 = .ok (.aload_n 0, 1) := by decide +kernel
theorem dX7_days_9 : decode cX7_days 9 = .ok (.iload_n 1, 1) := by decide +kernel
theorem dX7_days_10 : decode cX7_days 10 = .ok (.iload_n 2, 1) := by decide +kernel
theorem dX7_days_11 : decode cX7_days 11 = .ok (.invokevirtual 156, 3) := by decide +kernel
theorem dX7_days_14 : decode cX7_days 14 = .ok (.ireturn, 1) := by decide +kernel
set_option maxRecDepth 20000 in
theorem ggX7_average_X7_checkOwner : GoodIn wsX7_average wsX7_checkOwner := goodIn_ca (goodIn_r _ [6, 7, 8, 9, 10, 5, 11] (by decide +kernel) (by decide +kernel)) (goodIn_sub (fun _ h => List.mem_cons_of_mem _ (List.mem_append_right _ h)) (by decide +kernel))
set_option maxRecDepth 20000 in
theorem gX7_average_X7_checkOwner : GoodIn wsX7_average (va_wsS RX7 86 yX7_checkOwner wsX7_checkOwner) := goodIn_app (goodIn_of _ (by decide +kernel)) ggX7_average_X7_checkOwner
set_option maxRecDepth 20000 in
theorem ggX7_average_X7_checkMonth : GoodIn wsX7_average wsX7_checkMonth := goodIn_ca (goodIn_r _ [14, 7, 8, 9, 10, 5, 11] (by decide +kernel) (by decide +kernel)) (goodIn_sub (fun _ h => List.mem_cons_of_mem _ (List.mem_append_right _ h)) (by decide +kernel))
set_option maxRecDepth 20000 in
theorem gX7_average_X7_checkMonth : GoodIn wsX7_average (va_wsS RX7 149 yX7_checkMonth wsX7_checkMonth) := goodIn_app (goodIn_of _ (by decide +kernel)) ggX7_average_X7_checkMonth
set_option maxRecDepth 20000 in
theorem ggX7_average_X7_unitDays : GoodIn wsX7_average wsX7_unitDays := goodIn_r _ [18, 19, 20, 21, 22, 23, 24, 25, 26, 27, 28, 29, 30, 31, 32, 33, 34, 35, 36, 37, 38, 39, 40, 41, 42, 43, 44, 45, 5, 46, 47, 48, 49, 50, 51, 52, 53, 54, 55, 56, 57, 58, 59, 60, 61, 62, 63, 102, 103, 104, 105, 106, 107, 108, 109, 110, 111, 112, 113, 114, 115, 116, 117, 118] (by decide +kernel) (by decide +kernel)
set_option maxRecDepth 20000 in
theorem gX7_average_X7_unitDays : GoodIn wsX7_average (wsV RX7 156 RX7 yX7_unitDays wsX7_unitDays) := goodIn_app (goodIn_of _ (by decide +kernel)) ggX7_average_X7_unitDays
set_option maxRecDepth 20000 in
theorem ggX7_average_X7_storageBy : GoodIn wsX7_average wsX7_storageBy := goodIn_r _ [67, 19, 20, 68, 21, 22, 23, 24, 25, 26, 27, 28, 29, 30, 31, 32, 33, 34, 35, 36, 37, 38, 39, 40, 41, 42, 43, 69, 70, 71, 5, 72, 73, 62, 58, 63, 74, 57, 59, 44, 45, 46, 47, 48, 49, 75, 76, 77, 53, 78, 79, 80, 81, 61, 82, 83, 84, 85, 86, 87, 88, 89, 90, 91, 92, 93, 10, 11, 15, 16, 17, 18, 50, 51, 52, 54, 55, 56, 60, 94, 95, 96, 97, 98, 99, 100, 101, 102, 103, 104, 105, 106, 107, 108, 109, 110, 111, 112, 113, 114, 115, 116, 117, 118, 119, 120, 121, 122, 123, 124, 125, 126, 127] (by decide +kernel) (by decide +kernel)
set_option maxRecDepth 20000 in
theorem gX7_average_X7_storageBy : GoodIn wsX7_average (wsV RX7 164 RX7 yX7_storageBy wsX7_storageBy) := goodIn_app (goodIn_of _ (by decide +kernel)) ggX7_average_X7_storageBy
theorem dX7_average_0 : decode cX7_average 0 = .ok (.iload_n 1, 1) := by decide +kernel
theorem dX7_average_1 : decode cX7_average 1 = .ok (.invokestatic 86, 3) := by decide +kernel
theorem dX7_average_4 : decode cX7_average 4 = .ok (.iload_n 2, 1) := by decide +kernel
theorem dX7_average_5 : decode cX7_average 5 = .ok (.invokestatic 149, 3) := by decide +kernel
theorem dX7_average_8 : decode cX7_average 8 = .ok (.aload_n 0, 1) := by decide +kernel
theorem dX7_average_9 : decode cX7_average 9 = .ok (.iload_n 1, 1) := by decide +kernel
theorem dX7_average_10 : decode cX7_average 10 = .ok (.iload_n 2, 1) := by decide +kernel
theorem dX7_average_11 : decode cX7_average 11 = .ok (.invokevirtual 156, 3) := by decide +kernel
theorem dX7_average_14 : decode cX7_average 14 = .ok (.istore_n 3, 1) := by decide +kernel
theorem dX7_average_15 : decode cX7_average 15 = .ok (.iload_n 3, 1) := by decide +kernel
theorem dX7_average_16 : decode cX7_average 16 = .ok (.ifCond .ne 13, 3) := by decide +kernel
theorem dX7_average_19 : decode cX7_average 19 = .ok (.new 159, 3) := by decide +kernel
theorem dX7_average_22 : decode cX7_average 22 = .ok (.dup, 1) := by decide +kernel
theorem dX7_average_23 : decode cX7_average 23 = .ok (.ldc 161, 2) := by decide +kernel
theorem dX7_average_25 : decode cX7_average 25 = .ok (.invokespecial 163, 3) := by decide +kernel
theorem dX7_average_28 : decode cX7_average 28 = .ok (.athrow, 1) := by decide +kernel
theorem dX7_average_29 : decode cX7_average 29 = .ok (.aload_n 0, 1) := by decide +kernel
theorem dX7_average_30 : decode cX7_average 30 = .ok (.iload_n 1, 1) := by decide +kernel
theorem dX7_average_31 : decode cX7_average 31 = .ok (.iload_n 1, 1) := by decide +kernel
theorem dX7_average_32 : decode cX7_average 32 = .ok (.iload_n 2, 1) := by decide +kernel
theorem dX7_average_33 : decode cX7_average 33 = .ok (.invokevirtual 164, 3) := by decide +kernel
theorem dX7_average_36 : decode cX7_average 36 = .ok (.iload_n 3, 1) := by decide +kernel
theorem dX7_average_37 : decode cX7_average 37 = .ok (.idiv, 1) := by decide +kernel
theorem dX7_average_38 : decode cX7_average 38 = .ok (.ireturn, 1) := by decide +kernel
set_option maxRecDepth 20000 in
theorem ggX7_bill_X7_checkOwner : GoodIn wsX7_bill wsX7_checkOwner := goodIn_ca (goodIn_r _ [10, 11, 12, 13, 14, 9, 15] (by decide +kernel) (by decide +kernel)) (goodIn_sub (fun _ h => List.mem_cons_of_mem _ (List.mem_append_right _ h)) (by decide +kernel))
set_option maxRecDepth 20000 in
theorem gX7_bill_X7_checkOwner : GoodIn wsX7_bill (va_wsS RX7 86 yX7_checkOwner wsX7_checkOwner) := goodIn_app (goodIn_of _ (by decide +kernel)) ggX7_bill_X7_checkOwner
set_option maxRecDepth 20000 in
theorem ggX7_bill_X7_checkMonth : GoodIn wsX7_bill wsX7_checkMonth := goodIn_ca (goodIn_r _ [18, 11, 12, 13, 14, 9, 15] (by decide +kernel) (by decide +kernel)) (goodIn_sub (fun _ h => List.mem_cons_of_mem _ (List.mem_append_right _ h)) (by decide +kernel))
set_option maxRecDepth 20000 in
theorem gX7_bill_X7_checkMonth : GoodIn wsX7_bill (va_wsS RX7 149 yX7_checkMonth wsX7_checkMonth) := goodIn_app (goodIn_of _ (by decide +kernel)) ggX7_bill_X7_checkMonth
set_option maxRecDepth 20000 in
theorem ggX7_bill_X1_isBilled : GoodIn wsX7_bill wsX1_isBilled := goodIn_r _ [23, 24, 25, 26, 27, 28, 29, 30, 31, 32, 33, 34, 35, 36, 37, 38, 39, 40, 41, 42, 43, 44, 45, 46, 47, 48, 208, 204, 205, 206, 207, 209, 210, 211] (by decide +kernel) (by decide +kernel)
set_option maxRecDepth 20000 in
theorem gX7_bill_X1_isBilled : GoodIn wsX7_bill (wsV RX7 167 RX1 yX1_isBilled wsX1_isBilled) := goodIn_app (goodIn_of _ (by decide +kernel)) ggX7_bill_X1_isBilled
set_option maxRecDepth 20000 in
theorem ggX7_bill_X7_sumBy : GoodIn wsX7_bill wsX7_sumBy := goodIn_r _ [52, 53, 54, 55, 56, 57, 58, 59, 60, 9, 61, 62, 63, 64, 27, 28, 29, 30, 31, 65, 33, 34, 35, 36, 37, 38, 39, 40, 41, 42, 43, 44, 45, 46, 47, 48, 66, 67, 68, 69, 70, 71, 72, 73, 74, 75, 76, 77, 78, 79, 80, 81, 82, 83, 84, 85, 86, 87, 88, 89, 90, 91, 92, 93, 94, 95, 96, 97, 98, 99, 14, 15, 100, 101, 102, 103, 104, 105, 106, 107, 108, 109, 110, 111, 112, 113, 114, 115, 116, 117, 118, 119, 120, 121, 122, 123, 124, 13, 125, 126, 127, 128, 129, 130, 131, 132, 133, 134, 197, 198, 199, 200, 201, 202, 203, 212, 213, 214, 215, 216, 217, 218, 209, 210, 211, 219, 220, 221, 222, 223, 224, 225, 226, 227, 228, 229, 230, 231] (by decide +kernel) (by decide +kernel)
set_option maxRecDepth 20000 in
theorem gX7_bill_X7_sumBy : GoodIn wsX7_bill (wsV RX7 152 RX7 yX7_sumBy wsX7_sumBy) := goodIn_app (goodIn_of _ (by decide +kernel)) ggX7_bill_X7_sumBy
set_option maxRecDepth 20000 in
theorem ggX7_bill_X0_init : GoodIn wsX7_bill wsX0_init := goodIn_r _ [137, 138, 139, 140, 141, 142, 143, 144, 204, 205, 206, 207] (by decide +kernel) (by decide +kernel)
set_option maxRecDepth 20000 in
theorem gX7_bill_X0_init : GoodIn wsX7_bill (wsX0_init) := ggX7_bill_X0_init
set_option maxRecDepth 20000 in
theorem ggX7_bill_X1_add : GoodIn wsX7_bill wsX1_add := goodIn_r _ [148, 24, 26, 27, 28, 29, 30, 31, 149, 150, 151, 152, 153, 154, 48, 155, 156, 157, 158, 159, 160, 161, 162, 163, 164, 165, 166, 167, 168, 55, 56, 57, 169, 170, 171, 172, 173, 174, 175, 176, 177, 178, 179, 180, 181, 182, 183, 184, 185, 186, 187, 188, 189, 190, 191, 192, 71, 72, 193, 194, 195, 196, 208, 209, 210, 211] (by decide +kernel) (by decide +kernel)
set_option maxRecDepth 20000 in
theorem gX7_bill_X1_add : GoodIn wsX7_bill (wsV RX7 181 RX1 yX1_add wsX1_add) := goodIn_app (goodIn_of _ (by decide +kernel)) ggX7_bill_X1_add
theorem dX7_bill_0 : decode cX7_bill 0 = .ok (.iload_n 1, 1) := by decide +kernel
theorem dX7_bill_1 : decode cX7_bill 1 = .ok (.invokestatic 86, 3) := by decide +kernel
theorem dX7_bill_4 : decode cX7_bill 4 = .ok (.iload_n 2, 1) := by decide +kernel
theorem dX7_bill_5 : decode cX7_bill 5 = .ok (.invokestatic 149, 3) := by decide +kernel
theorem dX7_bill_8 : decode cX7_bill 8 = .ok (.aload_n 0, 1) := by decide +kernel
theorem dX7_bill_9 : decode cX7_bill 9 = .ok (.getfield 39, 3) := by decide +kernel
theorem dX7_bill_12 : decode cX7_bill 12 = .ok (.iload_n 1, 1) := by decide +kernel
theorem dX7_bill_13 : decode cX7_bill 13 = .ok (.iload_n 2, 1) := by decide +kernel
theorem dX7_bill_14 : decode cX7_bill 14 = .ok (.invokevirtual 167, 3) := by decide +kernel
theorem dX7_bill_17 : decode cX7_bill 17 = .ok (.ifCond .eq 13, 3) := by decide +kernel
theorem dX7_bill_20 : decode cX7_bill 20 = .ok (.new 171, 3) := by decide +kernel
theorem dX7_bill_23 : decode cX7_bill 23 = .ok (.dup, 1) := by decide +kernel
theorem dX7_bill_24 : decode cX7_bill 24 = .ok (.ldc 173, 2) := by decide +kernel
theorem dX7_bill_26 : decode cX7_bill 26 = .ok (.invokespecial 175, 3) := by decide +kernel
theorem dX7_bill_29 : decode cX7_bill 29 = .ok (.athrow, 1) := by decide +kernel
theorem dX7_bill_30 : decode cX7_bill 30 = .ok (.aload_n 0, 1) := by decide +kernel
theorem dX7_bill_31 : decode cX7_bill 31 = .ok (.iload_n 1, 1) := by decide +kernel
theorem dX7_bill_32 : decode cX7_bill 32 = .ok (.iload_n 1, 1) := by decide +kernel
theorem dX7_bill_33 : decode cX7_bill 33 = .ok (.iload_n 2, 1) := by decide +kernel
theorem dX7_bill_34 : decode cX7_bill 34 = .ok (.invokevirtual 152, 3) := by decide +kernel
theorem dX7_bill_37 : decode cX7_bill 37 = .ok (.istore_n 3, 1) := by decide +kernel
theorem dX7_bill_38 : decode cX7_bill 38 = .ok (.aload_n 0, 1) := by decide +kernel
theorem dX7_bill_39 : decode cX7_bill 39 = .ok (.getfield 39, 3) := by decide +kernel
theorem dX7_bill_42 : decode cX7_bill 42 = .ok (.new 176, 3) := by decide +kernel
theorem dX7_bill_45 : decode cX7_bill 45 = .ok (.dup, 1) := by decide +kernel
theorem dX7_bill_46 : decode cX7_bill 46 = .ok (.iload_n 1, 1) := by decide +kernel
theorem dX7_bill_47 : decode cX7_bill 47 = .ok (.iload_n 2, 1) := by decide +kernel
theorem dX7_bill_48 : decode cX7_bill 48 = .ok (.iload_n 3, 1) := by decide +kernel
theorem dX7_bill_49 : decode cX7_bill 49 = .ok (.iconst 0, 1) := by decide +kernel
theorem dX7_bill_50 : decode cX7_bill 50 = .ok (.invokespecial 178, 3) := by decide +kernel
theorem dX7_bill_53 : decode cX7_bill 53 = .ok (.invokevirtual 181, 3) := by decide +kernel
theorem dX7_bill_56 : decode cX7_bill 56 = .ok (.iload_n 3, 1) := by decide +kernel
theorem dX7_bill_57 : decode cX7_bill 57 = .ok (.ireturn, 1) := by decide +kernel
set_option maxRecDepth 20000 in
theorem ggX7_correct_X7_checkOwner : GoodIn wsX7_correct wsX7_checkOwner := goodIn_ca (goodIn_r _ [10, 11, 12, 13, 14, 9, 15] (by decide +kernel) (by decide +kernel)) (goodIn_sub (fun _ h => List.mem_cons_of_mem _ (List.mem_append_right _ h)) (by decide +kernel))
set_option maxRecDepth 20000 in
theorem gX7_correct_X7_checkOwner : GoodIn wsX7_correct (va_wsS RX7 86 yX7_checkOwner wsX7_checkOwner) := goodIn_app (goodIn_of _ (by decide +kernel)) ggX7_correct_X7_checkOwner
set_option maxRecDepth 20000 in
theorem ggX7_correct_X7_checkMonth : GoodIn wsX7_correct wsX7_checkMonth := goodIn_ca (goodIn_r _ [18, 11, 12, 13, 14, 9, 15] (by decide +kernel) (by decide +kernel)) (goodIn_sub (fun _ h => List.mem_cons_of_mem _ (List.mem_append_right _ h)) (by decide +kernel))
set_option maxRecDepth 20000 in
theorem gX7_correct_X7_checkMonth : GoodIn wsX7_correct (va_wsS RX7 149 yX7_checkMonth wsX7_checkMonth) := goodIn_app (goodIn_of _ (by decide +kernel)) ggX7_correct_X7_checkMonth
set_option maxRecDepth 20000 in
theorem ggX7_correct_X1_isBilled : GoodIn wsX7_correct wsX1_isBilled := goodIn_r _ [23, 24, 25, 26, 27, 28, 29, 30, 31, 32, 33, 34, 35, 36, 37, 38, 39, 40, 41, 42, 43, 44, 45, 46, 47, 48, 212, 208, 209, 210, 211, 213, 214, 215] (by decide +kernel) (by decide +kernel)
set_option maxRecDepth 20000 in
theorem gX7_correct_X1_isBilled : GoodIn wsX7_correct (wsV RX7 167 RX1 yX1_isBilled wsX1_isBilled) := goodIn_app (goodIn_of _ (by decide +kernel)) ggX7_correct_X1_isBilled
set_option maxRecDepth 20000 in
theorem ggX7_correct_X7_sumBy : GoodIn wsX7_correct wsX7_sumBy := goodIn_r _ [52, 53, 54, 55, 56, 57, 58, 59, 60, 9, 61, 62, 63, 64, 27, 28, 29, 30, 31, 65, 33, 34, 35, 36, 37, 38, 39, 40, 41, 42, 43, 44, 45, 46, 47, 48, 66, 67, 68, 69, 70, 71, 72, 73, 74, 75, 76, 77, 78, 79, 80, 81, 82, 83, 84, 85, 86, 87, 88, 89, 90, 91, 92, 93, 94, 95, 96, 97, 98, 99, 14, 15, 100, 101, 102, 103, 104, 105, 106, 107, 108, 109, 110, 111, 112, 113, 114, 115, 116, 117, 118, 119, 120, 121, 122, 123, 124, 13, 125, 126, 127, 128, 129, 130, 131, 132, 133, 134, 201, 202, 203, 204, 205, 206, 207, 216, 217, 218, 219, 220, 221, 222, 213, 214, 215, 223, 224, 225, 226, 227, 228, 229, 230, 231, 232, 233, 234, 235] (by decide +kernel) (by decide +kernel)
set_option maxRecDepth 20000 in
theorem gX7_correct_X7_sumBy : GoodIn wsX7_correct (wsV RX7 152 RX7 yX7_sumBy wsX7_sumBy) := goodIn_app (goodIn_of _ (by decide +kernel)) ggX7_correct_X7_sumBy
set_option maxRecDepth 20000 in
theorem ggX7_correct_X1_centsOfMonth : GoodIn wsX7_correct wsX1_centsOfMonth := goodIn_r _ [138, 24, 25, 26, 27, 28, 29, 30, 31, 32, 33, 34, 35, 36, 37, 38, 39, 40, 41, 42, 43, 44, 45, 46, 47, 48, 212, 208, 209, 210, 211, 213, 214, 215] (by decide +kernel) (by decide +kernel)
set_option maxRecDepth 20000 in
theorem gX7_correct_X1_centsOfMonth : GoodIn wsX7_correct (wsV RX7 186 RX1 yX1_centsOfMonth wsX1_centsOfMonth) := goodIn_app (goodIn_of _ (by decide +kernel)) ggX7_correct_X1_centsOfMonth
set_option maxRecDepth 20000 in
theorem ggX7_correct_X0_init : GoodIn wsX7_correct wsX0_init := goodIn_r _ [141, 142, 143, 144, 145, 146, 147, 148, 208, 209, 210, 211] (by decide +kernel) (by decide +kernel)
set_option maxRecDepth 20000 in
theorem gX7_correct_X0_init : GoodIn wsX7_correct (wsX0_init) := ggX7_correct_X0_init
set_option maxRecDepth 20000 in
theorem ggX7_correct_X1_add : GoodIn wsX7_correct wsX1_add := goodIn_r _ [152, 24, 26, 27, 28, 29, 30, 31, 153, 154, 155, 156, 157, 158, 48, 159, 160, 161, 162, 163, 164, 165, 166, 167, 168, 169, 170, 171, 172, 55, 56, 57, 173, 174, 175, 176, 177, 178, 179, 180, 181, 182, 183, 184, 185, 186, 187, 188, 189, 190, 191, 192, 193, 194, 195, 196, 71, 72, 197, 198, 199, 200, 212, 213, 214, 215] (by decide +kernel) (by decide +kernel)
set_option maxRecDepth 20000 in
theorem gX7_correct_X1_add : GoodIn wsX7_correct (wsV RX7 181 RX1 yX1_add wsX1_add) := goodIn_app (goodIn_of _ (by decide +kernel)) ggX7_correct_X1_add
theorem dX7_correct_0 : decode cX7_correct 0 = .ok (.iload_n 1, 1) := by decide +kernel
theorem dX7_correct_1 : decode cX7_correct 1 = .ok (.invokestatic 86, 3) := by decide +kernel
theorem dX7_correct_4 : decode cX7_correct 4 = .ok (.iload_n 2, 1) := by decide +kernel
theorem dX7_correct_5 : decode cX7_correct 5 = .ok (.invokestatic 149, 3) := by decide +kernel
theorem dX7_correct_8 : decode cX7_correct 8 = .ok (.aload_n 0, 1) := by decide +kernel
theorem dX7_correct_9 : decode cX7_correct 9 = .ok (.getfield 39, 3) := by decide +kernel
theorem dX7_correct_12 : decode cX7_correct 12 = .ok (.iload_n 1, 1) := by decide +kernel
theorem dX7_correct_13 : decode cX7_correct 13 = .ok (.iload_n 2, 1) := by decide +kernel
theorem dX7_correct_14 : decode cX7_correct 14 = .ok (.invokevirtual 167, 3) := by decide +kernel
theorem dX7_correct_17 : decode cX7_correct 17 = .ok (.ifCond .ne 13, 3) := by decide +kernel
theorem dX7_correct_20 : decode cX7_correct 20 = .ok (.new 171, 3) := by decide +kernel
theorem dX7_correct_23 : decode cX7_correct 23 = .ok (.dup, 1) := by decide +kernel
theorem dX7_correct_24 : decode cX7_correct 24 = .ok (.ldc 184, 2) := by decide +kernel
theorem dX7_correct_26 : decode cX7_correct 26 = .ok (.invokespecial 175, 3) := by decide +kernel
theorem dX7_correct_29 : decode cX7_correct 29 = .ok (.athrow, 1) := by decide +kernel
theorem dX7_correct_30 : decode cX7_correct 30 = .ok (.aload_n 0, 1) := by decide +kernel
theorem dX7_correct_31 : decode cX7_correct 31 = .ok (.iload_n 1, 1) := by decide +kernel
theorem dX7_correct_32 : decode cX7_correct 32 = .ok (.iload_n 1, 1) := by decide +kernel
theorem dX7_correct_33 : decode cX7_correct 33 = .ok (.iload_n 2, 1) := by decide +kernel
theorem dX7_correct_34 : decode cX7_correct 34 = .ok (.invokevirtual 152, 3) := by decide +kernel
theorem dX7_correct_37 : decode cX7_correct 37 = .ok (.aload_n 0, 1) := by decide +kernel
theorem dX7_correct_38 : decode cX7_correct 38 = .ok (.getfield 39, 3) := by decide +kernel
theorem dX7_correct_41 : decode cX7_correct 41 = .ok (.iload_n 1, 1) := by decide +kernel
theorem dX7_correct_42 : decode cX7_correct 42 = .ok (.iload_n 2, 1) := by decide +kernel
theorem dX7_correct_43 : decode cX7_correct 43 = .ok (.invokevirtual 186, 3) := by decide +kernel
theorem dX7_correct_46 : decode cX7_correct 46 = .ok (.isub, 1) := by decide +kernel
theorem dX7_correct_47 : decode cX7_correct 47 = .ok (.istore_n 3, 1) := by decide +kernel
theorem dX7_correct_48 : decode cX7_correct 48 = .ok (.iload_n 3, 1) := by decide +kernel
theorem dX7_correct_49 : decode cX7_correct 49 = .ok (.ifCond .eq 21, 3) := by decide +kernel
theorem dX7_correct_52 : decode cX7_correct 52 = .ok (.aload_n 0, 1) := by decide +kernel
theorem dX7_correct_53 : decode cX7_correct 53 = .ok (.getfield 39, 3) := by decide +kernel
theorem dX7_correct_56 : decode cX7_correct 56 = .ok (.new 176, 3) := by decide +kernel
theorem dX7_correct_59 : decode cX7_correct 59 = .ok (.dup, 1) := by decide +kernel
theorem dX7_correct_60 : decode cX7_correct 60 = .ok (.iload_n 1, 1) := by decide +kernel
theorem dX7_correct_61 : decode cX7_correct 61 = .ok (.iload_n 2, 1) := by decide +kernel
theorem dX7_correct_62 : decode cX7_correct 62 = .ok (.iload_n 3, 1) := by decide +kernel
theorem dX7_correct_63 : decode cX7_correct 63 = .ok (.iconst 1, 1) := by decide +kernel
theorem dX7_correct_64 : decode cX7_correct 64 = .ok (.invokespecial 178, 3) := by decide +kernel
theorem dX7_correct_67 : decode cX7_correct 67 = .ok (.invokevirtual 181, 3) := by decide +kernel
theorem dX7_correct_70 : decode cX7_correct 70 = .ok (.iload_n 3, 1) := by decide +kernel
theorem dX7_correct_71 : decode cX7_correct 71 = .ok (.ireturn, 1) := by decide +kernel
set_option maxRecDepth 20000 in
theorem ggX7_line_X7_checkOwner : GoodIn wsX7_line wsX7_checkOwner := goodIn_ca (goodIn_r _ [9, 3, 4, 10, 11, 8, 12] (by decide +kernel) (by decide +kernel)) (goodIn_sub (fun _ h => List.mem_cons_of_mem _ (List.mem_append_right _ h)) (by decide +kernel))
set_option maxRecDepth 20000 in
theorem gX7_line_X7_checkOwner : GoodIn wsX7_line (va_wsS RX7 86 yX7_checkOwner wsX7_checkOwner) := goodIn_app (goodIn_of _ (by decide +kernel)) ggX7_line_X7_checkOwner
set_option maxRecDepth 20000 in
theorem ggX7_line_X1_find : GoodIn wsX7_line wsX1_find := goodIn_r _ [17, 18, 19, 20, 21, 22, 23, 24, 25, 26, 27, 28, 29, 30, 31, 32, 33, 34, 35, 36, 37, 38, 39, 40, 41, 42, 54, 50, 51, 52, 53, 55, 56, 57] (by decide +kernel) (by decide +kernel)
set_option maxRecDepth 20000 in
theorem gX7_line_X1_find : GoodIn wsX7_line (wsV RX7 189 RX1 yX1_find wsX1_find) := goodIn_app (goodIn_of _ (by decide +kernel)) ggX7_line_X1_find
theorem dX7_line_0 : decode cX7_line 0 = .ok (.iload_n 1, 1) := by decide +kernel
theorem dX7_line_1 : decode cX7_line 1 = .ok (.invokestatic 86, 3) := by decide +kernel
theorem dX7_line_4 : decode cX7_line 4 = .ok (.aload_n 0, 1) := by decide +kernel
theorem dX7_line_5 : decode cX7_line 5 = .ok (.getfield 39, 3) := by decide +kernel
theorem dX7_line_8 : decode cX7_line 8 = .ok (.iload_n 1, 1) := by decide +kernel
theorem dX7_line_9 : decode cX7_line 9 = .ok (.iload_n 2, 1) := by decide +kernel
theorem dX7_line_10 : decode cX7_line 10 = .ok (.invokevirtual 189, 3) := by decide +kernel
theorem dX7_line_13 : decode cX7_line 13 = .ok (.astore 4, 2) := by decide +kernel
theorem dX7_line_15 : decode cX7_line 15 = .ok (.aload 4, 2) := by decide +kernel
theorem dX7_line_17 : decode cX7_line 17 = .ok (.ifnonnull 13, 3) := by decide +kernel
theorem dX7_line_20 : decode cX7_line 20 = .ok (.new 193, 3) := by decide +kernel
theorem dX7_line_23 : decode cX7_line 23 = .ok (.dup, 1) := by decide +kernel
theorem dX7_line_24 : decode cX7_line 24 = .ok (.ldc 195, 2) := by decide +kernel
theorem dX7_line_26 : decode cX7_line 26 = .ok (.invokespecial 197, 3) := by decide +kernel
theorem dX7_line_29 : decode cX7_line 29 = .ok (.athrow, 1) := by decide +kernel
theorem dX7_line_30 : decode cX7_line 30 = .ok (.iload_n 3, 1) := by decide +kernel
theorem dX7_line_31 : decode cX7_line 31 = .ok (.tableswitch 51 0 2 #[25, 31, 37], 25) := by decide +kernel
theorem dX7_line_56 : decode cX7_line 56 = .ok (.aload 4, 2) := by decide +kernel
theorem dX7_line_58 : decode cX7_line 58 = .ok (.getfield 198, 3) := by decide +kernel
theorem dX7_line_61 : decode cX7_line 61 = .ok (.ireturn, 1) := by decide +kernel
theorem dX7_line_62 : decode cX7_line 62 = .ok (.aload 4, 2) := by decide +kernel
theorem dX7_line_64 : decode cX7_line 64 = .ok (.getfield 201, 3) := by decide +kernel
theorem dX7_line_67 : decode cX7_line 67 = .ok (.ireturn, 1) := by decide +kernel
theorem dX7_line_68 : decode cX7_line 68 = .ok (.aload 4, 2) := by decide +kernel
theorem dX7_line_70 : decode cX7_line 70 = .ok (.getfield 204, 3) := by decide +kernel
theorem dX7_line_73 : decode cX7_line 73 = .ok (.ifCond .eq 7, 3) := by decide +kernel
theorem dX7_line_76 : decode cX7_line 76 = .ok (.iconst 1, 1) := by decide +kernel
theorem dX7_line_77 : decode cX7_line 77 = .ok (.goto 4, 3) := by decide +kernel
theorem dX7_line_80 : decode cX7_line 80 = .ok (.iconst 0, 1) := by decide +kernel
theorem dX7_line_81 : decode cX7_line 81 = .ok (.ireturn, 1) := by decide +kernel
theorem dX7_line_82 : decode cX7_line 82 = .ok (.new 54, 3) := by decide +kernel
theorem dX7_line_85 : decode cX7_line 85 = .ok (.dup, 1) := by decide +kernel
theorem dX7_line_86 : decode cX7_line 86 = .ok (.ldc 208, 2) := by decide +kernel
theorem dX7_line_88 : decode cX7_line 88 = .ok (.invokespecial 58, 3) := by decide +kernel
theorem dX7_line_91 : decode cX7_line 91 = .ok (.athrow, 1) := by decide +kernel
set_option maxRecDepth 20000 in
theorem ggX7_billed_X7_checkOwner : GoodIn wsX7_billed wsX7_checkOwner := goodIn_ca (goodIn_r _ [5, 6, 7, 8, 9, 4, 10] (by decide +kernel) (by decide +kernel)) (goodIn_sub (fun _ h => List.mem_cons_of_mem _ (List.mem_append_right _ h)) (by decide +kernel))
set_option maxRecDepth 20000 in
theorem gX7_billed_X7_checkOwner : GoodIn wsX7_billed (va_wsS RX7 86 yX7_checkOwner wsX7_checkOwner) := goodIn_app (goodIn_of _ (by decide +kernel)) ggX7_billed_X7_checkOwner
set_option maxRecDepth 20000 in
theorem ggX7_billed_X1_centsOfOwner : GoodIn wsX7_billed wsX1_centsOfOwner := goodIn_r _ [15, 16, 17, 18, 19, 20, 21, 22, 23, 24, 25, 26, 27, 28, 29, 30, 31, 32, 33, 34, 35, 36, 37, 38, 39, 40, 48, 49, 50, 51, 52, 53, 54, 55] (by decide +kernel) (by decide +kernel)
set_option maxRecDepth 20000 in
theorem gX7_billed_X1_centsOfOwner : GoodIn wsX7_billed (wsV RX7 210 RX1 yX1_centsOfOwner wsX1_centsOfOwner) := goodIn_app (goodIn_of _ (by decide +kernel)) ggX7_billed_X1_centsOfOwner
theorem dX7_billed_0 : decode cX7_billed 0 = .ok (.iload_n 1, 1) := by decide +kernel
theorem dX7_billed_1 : decode cX7_billed 1 = .ok (.invokestatic 86, 3) := by decide +kernel
theorem dX7_billed_4 : decode cX7_billed 4 = .ok (.aload_n 0, 1) := by decide +kernel
theorem dX7_billed_5 : decode cX7_billed 5 = .ok (.getfield 39, 3) := by decide +kernel
theorem dX7_billed_8 : decode cX7_billed 8 = .ok (.iload_n 1, 1) := by decide +kernel
theorem dX7_billed_9 : decode cX7_billed 9 = .ok (.invokevirtual 210, 3) := by decide +kernel
theorem dX7_billed_12 : decode cX7_billed 12 = .ok (.ireturn, 1) := by decide +kernel
set_option maxRecDepth 20000 in
theorem ggX7_compare_X7_checkOwner : GoodIn wsX7_compare wsX7_checkOwner := goodIn_ca (goodIn_r _ [4, 5, 6, 7, 8, 3, 9] (by decide +kernel) (by decide +kernel)) (goodIn_sub (fun _ h => List.mem_cons_of_mem _ (List.mem_append_right _ h)) (by decide +kernel))
set_option maxRecDepth 20000 in
theorem gX7_compare_X7_checkOwner : GoodIn wsX7_compare (va_wsS RX7 86 yX7_checkOwner wsX7_checkOwner) := goodIn_app (goodIn_of _ (by decide +kernel)) ggX7_compare_X7_checkOwner
set_option maxRecDepth 20000 in
theorem ggX7_compare_X7_checkMonth : GoodIn wsX7_compare wsX7_checkMonth := goodIn_ca (goodIn_r _ [12, 5, 6, 7, 8, 3, 9] (by decide +kernel) (by decide +kernel)) (goodIn_sub (fun _ h => List.mem_cons_of_mem _ (List.mem_append_right _ h)) (by decide +kernel))
set_option maxRecDepth 20000 in
theorem gX7_compare_X7_checkMonth : GoodIn wsX7_compare (va_wsS RX7 149 yX7_checkMonth wsX7_checkMonth) := goodIn_app (goodIn_of _ (by decide +kernel)) ggX7_compare_X7_checkMonth
set_option maxRecDepth 20000 in
theorem ggX7_compare_X7_sumBy : GoodIn wsX7_compare wsX7_sumBy := goodIn_r _ [16, 17, 18, 19, 20, 21, 22, 23, 24, 3, 25, 26, 27, 28, 29, 30, 31, 32, 33, 34, 35, 36, 37, 38, 39, 40, 41, 42, 43, 44, 45, 46, 47, 48, 49, 50, 51, 52, 53, 54, 55, 56, 57, 58, 59, 60, 61, 62, 63, 64, 65, 66, 67, 68, 69, 70, 71, 72, 73, 74, 75, 76, 77, 78, 79, 80, 81, 82, 83, 84, 8, 9, 85, 86, 87, 88, 89, 90, 91, 92, 93, 94, 95, 96, 97, 98, 99, 100, 101, 102, 103, 104, 105, 106, 107, 108, 109, 7, 110, 111, 112, 113, 114, 115, 116, 117, 118, 119, 120, 121, 122, 123, 124, 125, 126, 127, 128, 129, 130, 131, 132, 133, 134, 135, 136, 137, 138, 139, 140, 141, 142, 143, 144, 145, 146, 147, 148, 149] (by decide +kernel) (by decide +kernel)
set_option maxRecDepth 20000 in
theorem gX7_compare_X7_sumBy : GoodIn wsX7_compare (wsV RX7 152 RX7 yX7_sumBy wsX7_sumBy) := goodIn_app (goodIn_of _ (by decide +kernel)) ggX7_compare_X7_sumBy
theorem dX7_compare_0 : decode cX7_compare 0 = .ok (.iload_n 1, 1) := by decide +kernel
theorem dX7_compare_1 : decode cX7_compare 1 = .ok (.invokestatic 86, 3) := by decide +kernel
theorem dX7_compare_4 : decode cX7_compare 4 = .ok (.iload_n 2, 1) := by decide +kernel
theorem dX7_compare_5 : decode cX7_compare 5 = .ok (.invokestatic 86, 3) := by decide +kernel
theorem dX7_compare_8 : decode cX7_compare 8 = .ok (.iload_n 3, 1) := by decide +kernel
theorem dX7_compare_9 : decode cX7_compare 9 = .ok (.invokestatic 149, 3) := by decide +kernel
theorem dX7_compare_12 : decode cX7_compare 12 = .ok (.aload_n 0, 1) := by decide +kernel
theorem dX7_compare_13 : decode cX7_compare 13 = .ok (.iload_n 2, 1) := by decide +kernel
theorem dX7_compare_14 : decode cX7_compare 14 = .ok (.iload_n 1, 1) := by decide +kernel
theorem dX7_compare_15 : decode cX7_compare 15 = .ok (.iload_n 3, 1) := by decide +kernel
theorem dX7_compare_16 : decode cX7_compare 16 = .ok (.invokevirtual 152, 3) := by decide +kernel
theorem dX7_compare_19 : decode cX7_compare 19 = .ok (.aload_n 0, 1) := by decide +kernel
theorem dX7_compare_20 : decode cX7_compare 20 = .ok (.iload_n 1, 1) := by decide +kernel
theorem dX7_compare_21 : decode cX7_compare 21 = .ok (.iload_n 1, 1) := by decide +kernel
theorem dX7_compare_22 : decode cX7_compare 22 = .ok (.iload_n 3, 1) := by decide +kernel
theorem dX7_compare_23 : decode cX7_compare 23 = .ok (.invokevirtual 152, 3) := by decide +kernel
theorem dX7_compare_26 : decode cX7_compare 26 = .ok (.isub, 1) := by decide +kernel
theorem dX7_compare_27 : decode cX7_compare 27 = .ok (.ireturn, 1) := by decide +kernel
set_option maxRecDepth 20000 in
theorem ggX7_print_X7_checkOwner : GoodIn wsX7_print wsX7_checkOwner := goodIn_ca (goodIn_r _ [7, 8, 9, 10, 11, 6, 12] (by decide +kernel) (by decide +kernel)) (goodIn_sub (fun _ h => List.mem_cons_of_mem _ (List.mem_append_right _ h)) (by decide +kernel))
set_option maxRecDepth 20000 in
theorem gX7_print_X7_checkOwner : GoodIn wsX7_print (va_wsS RX7 86 yX7_checkOwner wsX7_checkOwner) := goodIn_app (goodIn_of _ (by decide +kernel)) ggX7_print_X7_checkOwner
set_option maxRecDepth 20000 in
theorem ggX7_print_X4_clear : GoodIn wsX7_print wsX4_clear := goodIn_r _ [17, 18, 74, 75] (by decide +kernel) (by decide +kernel)
set_option maxRecDepth 20000 in
theorem gX7_print_X4_clear : GoodIn wsX7_print (wsV RX7 213 RX4 yX4_clear wsX4_clear) := goodIn_app (goodIn_of _ (by decide +kernel)) ggX7_print_X4_clear
set_option maxRecDepth 20000 in
theorem ggX7_print_Jx4a65c_size_8abf5 : GoodIn wsX7_print wsJx4a65c_size_8abf5 := goodIn_r _ [23, 24, 76, 77, 78] (by decide +kernel) (by decide +kernel)
set_option maxRecDepth 20000 in
theorem gX7_print_Jx4a65c_size_8abf5 : GoodIn wsX7_print (wsV RX7 95 RJx4a65c yJx4a65c_size_8abf5 wsJx4a65c_size_8abf5) := goodIn_app (goodIn_of _ (by decide +kernel)) ggX7_print_Jx4a65c_size_8abf5
set_option maxRecDepth 20000 in
theorem ggX7_print_Jx4a65c_get_915e3 : GoodIn wsX7_print wsJx4a65c_get_915e3 := goodIn_r _ [28, 24, 29, 30, 31, 32, 33, 34, 35, 36, 37, 38, 39, 22, 40, 41, 76, 77, 78] (by decide +kernel) (by decide +kernel)
set_option maxRecDepth 20000 in
theorem gX7_print_Jx4a65c_get_915e3 : GoodIn wsX7_print (wsV RX7 111 RJx4a65c yJx4a65c_get_915e3 wsJx4a65c_get_915e3) := goodIn_app (goodIn_of _ (by decide +kernel)) ggX7_print_Jx4a65c_get_915e3
set_option maxRecDepth 20000 in
theorem ggX7_print_X4_write : GoodIn wsX7_print wsX4_write := goodIn_r _ [45, 46, 47, 48, 16, 49, 18, 50, 51, 52, 53, 54, 55, 56, 57, 58, 59, 60, 61, 70, 71, 72, 73, 74, 75] (by decide +kernel) (by decide +kernel)
set_option maxRecDepth 20000 in
theorem gX7_print_X4_write : GoodIn wsX7_print (wsV RX7 220 RX4 yX4_write wsX4_write) := goodIn_app (goodIn_of _ (by decide +kernel)) ggX7_print_X4_write
theorem dX7_print_0 : decode cX7_print 0 = .ok (.iload_n 1, 1) := by decide +kernel
theorem dX7_print_1 : decode cX7_print 1 = .ok (.invokestatic 86, 3) := by decide +kernel
theorem dX7_print_4 : decode cX7_print 4 = .ok (.aload_n 0, 1) := by decide +kernel
theorem dX7_print_5 : decode cX7_print 5 = .ok (.getfield 46, 3) := by decide +kernel
theorem dX7_print_8 : decode cX7_print 8 = .ok (.invokevirtual 213, 3) := by decide +kernel
theorem dX7_print_11 : decode cX7_print 11 = .ok (.iconst 0, 1) := by decide +kernel
theorem dX7_print_12 : decode cX7_print 12 = .ok (.istore_n 2, 1) := by decide +kernel
theorem dX7_print_13 : decode cX7_print 13 = .ok (.iload_n 2, 1) := by decide +kernel
theorem dX7_print_14 : decode cX7_print 14 = .ok (.aload_n 0, 1) := by decide +kernel
theorem dX7_print_15 : decode cX7_print 15 = .ok (.getfield 39, 3) := by decide +kernel
theorem dX7_print_18 : decode cX7_print 18 = .ok (.getfield 214, 3) := by decide +kernel
theorem dX7_print_21 : decode cX7_print 21 = .ok (.invokevirtual 95, 3) := by decide +kernel
theorem dX7_print_24 : decode cX7_print 24 = .ok (.if_icmp .ge 40, 3) := by decide +kernel
theorem dX7_print_27 : decode cX7_print 27 = .ok (.aload_n 0, 1) := by decide +kernel
theorem dX7_print_28 : decode cX7_print 28 = .ok (.getfield 39, 3) := by decide +kernel
theorem dX7_print_31 : decode cX7_print 31 = .ok (.getfield 214, 3) := by decide +kernel
theorem dX7_print_34 : decode cX7_print 34 = .ok (.iload_n 2, 1) := by decide +kernel
theorem dX7_print_35 : decode cX7_print 35 = .ok (.invokevirtual 111, 3) := by decide +kernel
theorem dX7_print_38 : decode cX7_print 38 = .ok (.checkcast 176, 3) := by decide +kernel
theorem dX7_print_41 : decode cX7_print 41 = .ok (.astore_n 3, 1) := by decide +kernel
theorem dX7_print_42 : decode cX7_print 42 = .ok (.aload_n 3, 1) := by decide +kernel
theorem dX7_print_43 : decode cX7_print 43 = .ok (.getfield 217, 3) := by decide +kernel
theorem dX7_print_46 : decode cX7_print 46 = .ok (.iload_n 1, 1) := by decide +kernel
theorem dX7_print_47 : decode cX7_print 47 = .ok (.if_icmp .ne 11, 3) := by decide +kernel
theorem dX7_print_50 : decode cX7_print 50 = .ok (.aload_n 0, 1) := by decide +kernel
theorem dX7_print_51 : decode cX7_print 51 = .ok (.getfield 46, 3) := by decide +kernel
theorem dX7_print_54 : decode cX7_print 54 = .ok (.aload_n 3, 1) := by decide +kernel
theorem dX7_print_55 : decode cX7_print 55 = .ok (.invokevirtual 220, 3) := by decide +kernel
theorem dX7_print_58 : decode cX7_print 58 = .ok (.iinc 2 1, 3) := by decide +kernel
theorem dX7_print_61 : decode cX7_print 61 = .ok (.goto (-48), 3) := by decide +kernel
theorem dX7_print_64 : decode cX7_print 64 = .ok (.aload_n 0, 1) := by decide +kernel
theorem dX7_print_65 : decode cX7_print 65 = .ok (.getfield 46, 3) := by decide +kernel
theorem dX7_print_68 : decode cX7_print 68 = .ok (.getfield 223, 3) := by decide +kernel
theorem dX7_print_71 : decode cX7_print 71 = .ok (.ireturn, 1) := by decide +kernel
set_option maxRecDepth 20000 in
theorem ggX7_at_X7_isWithin : GoodIn wsX7_at wsX7_isWithin := goodIn_r _ [8] (by decide +kernel) (by decide +kernel)
set_option maxRecDepth 20000 in
theorem gX7_at_X7_isWithin : GoodIn wsX7_at (va_wsS RX7 50 yX7_isWithin wsX7_isWithin) := goodIn_app (goodIn_of _ (by decide +kernel)) ggX7_at_X7_isWithin
theorem dX7_at_0 : decode cX7_at 0 = .ok (.iload_n 1, 1) := by decide +kernel
theorem dX7_at_1 : decode cX7_at 1 = .ok (.iconst 0, 1) := by decide +kernel
theorem dX7_at_2 : decode cX7_at 2 = .ok (.aload_n 0, 1) := by decide +kernel
theorem dX7_at_3 : decode cX7_at 3 = .ok (.getfield 46, 3) := by decide +kernel
theorem dX7_at_6 : decode cX7_at 6 = .ok (.getfield 223, 3) := by decide +kernel
theorem dX7_at_9 : decode cX7_at 9 = .ok (.iconst 1, 1) := by decide +kernel
theorem dX7_at_10 : decode cX7_at 10 = .ok (.isub, 1) := by decide +kernel
theorem dX7_at_11 : decode cX7_at 11 = .ok (.invokestatic 50, 3) := by decide +kernel
theorem dX7_at_14 : decode cX7_at 14 = .ok (.ifCond .ne 13, 3) := by decide +kernel
theorem dX7_at_17 : decode cX7_at 17 = .ok (.new 224, 3) := by decide +kernel
theorem dX7_at_20 : decode cX7_at 20 = .ok (.dup, 1) := by decide +kernel
theorem dX7_at_21 : decode cX7_at 21 = .ok (.ldc 226, 2) := by decide +kernel
theorem dX7_at_23 : decode cX7_at 23 = .ok (.invokespecial 228, 3) := by decide +kernel
theorem dX7_at_26 : decode cX7_at 26 = .ok (.athrow, 1) := by decide +kernel
theorem dX7_at_27 : decode cX7_at 27 = .ok (.aload_n 0, 1) := by decide +kernel
theorem dX7_at_28 : decode cX7_at 28 = .ok (.getfield 46, 3) := by decide +kernel
theorem dX7_at_31 : decode cX7_at 31 = .ok (.getfield 229, 3) := by decide +kernel
theorem dX7_at_34 : decode cX7_at 34 = .ok (.iload_n 1, 1) := by decide +kernel
theorem dX7_at_35 : decode cX7_at 35 = .ok (.caload, 1) := by decide +kernel
theorem dX7_at_36 : decode cX7_at 36 = .ok (.ireturn, 1) := by decide +kernel
set_option maxRecDepth 20000 in
theorem ggX7_count_Jx4a65c_size_8abf5 : GoodIn wsX7_count wsJx4a65c_size_8abf5 := goodIn_r _ [10, 11, 56, 57, 58] (by decide +kernel) (by decide +kernel)
set_option maxRecDepth 20000 in
theorem gX7_count_Jx4a65c_size_8abf5 : GoodIn wsX7_count (wsV RX7 95 RJx4a65c yJx4a65c_size_8abf5 wsJx4a65c_size_8abf5) := goodIn_app (goodIn_of _ (by decide +kernel)) ggX7_count_Jx4a65c_size_8abf5
set_option maxRecDepth 20000 in
theorem ggX7_count_X7_unitsStillThere : GoodIn wsX7_count wsX7_unitsStillThere := goodIn_r _ [16, 3, 17, 6, 7, 8, 9, 10, 11, 18, 19, 20, 21, 22, 23, 24, 25, 26, 27, 28, 29, 30, 31, 32, 33, 34, 35, 36, 37, 38, 39, 40, 41, 59, 60, 61, 62, 63, 64, 65, 56, 57, 58] (by decide +kernel) (by decide +kernel)
set_option maxRecDepth 20000 in
theorem gX7_count_X7_unitsStillThere : GoodIn wsX7_count (wsV RX7 235 RX7 yX7_unitsStillThere wsX7_unitsStillThere) := goodIn_app (goodIn_of _ (by decide +kernel)) ggX7_count_X7_unitsStillThere
theorem dX7_count_0 : decode cX7_count 0 = .ok (.iload_n 1, 1) := by decide +kernel
theorem dX7_count_1 : decode cX7_count 1 = .ok (.tableswitch 96 0 6 #[43, 51, 59, 67, 72, 80, 88], 43) := by decide +kernel
theorem dX7_count_44 : decode cX7_count 44 = .ok (.aload_n 0, 1) := by decide +kernel
theorem dX7_count_45 : decode cX7_count 45 = .ok (.getfield 10, 3) := by decide +kernel
theorem dX7_count_48 : decode cX7_count 48 = .ok (.getfield 74, 3) := by decide +kernel
theorem dX7_count_51 : decode cX7_count 51 = .ok (.ireturn, 1) := by decide +kernel
theorem dX7_count_52 : decode cX7_count 52 = .ok (.aload_n 0, 1) := by decide +kernel
theorem dX7_count_53 : decode cX7_count 53 = .ok (.getfield 19, 3) := by decide +kernel
theorem dX7_count_56 : decode cX7_count 56 = .ok (.getfield 233, 3) := by decide +kernel
theorem dX7_count_59 : decode cX7_count 59 = .ok (.ireturn, 1) := by decide +kernel
theorem dX7_count_60 : decode cX7_count 60 = .ok (.aload_n 0, 1) := by decide +kernel
theorem dX7_count_61 : decode cX7_count 61 = .ok (.getfield 29, 3) := by decide +kernel
theorem dX7_count_64 : decode cX7_count 64 = .ok (.invokevirtual 95, 3) := by decide +kernel
theorem dX7_count_67 : decode cX7_count 67 = .ok (.ireturn, 1) := by decide +kernel
theorem dX7_count_68 : decode cX7_count 68 = .ok (.aload_n 0, 1) := by decide +kernel
theorem dX7_count_69 : decode cX7_count 69 = .ok (.invokevirtual 235, 3) := by decide +kernel
theorem dX7_count_72 : decode cX7_count 72 = .ok (.ireturn, 1) := by decide +kernel
theorem dX7_count_73 : decode cX7_count 73 = .ok (.aload_n 0, 1) := by decide +kernel
theorem dX7_count_74 : decode cX7_count 74 = .ok (.getfield 33, 3) := by decide +kernel
theorem dX7_count_77 : decode cX7_count 77 = .ok (.invokevirtual 95, 3) := by decide +kernel
theorem dX7_count_80 : decode cX7_count 80 = .ok (.ireturn, 1) := by decide +kernel
theorem dX7_count_81 : decode cX7_count 81 = .ok (.aload_n 0, 1) := by decide +kernel
theorem dX7_count_82 : decode cX7_count 82 = .ok (.getfield 46, 3) := by decide +kernel
theorem dX7_count_85 : decode cX7_count 85 = .ok (.getfield 223, 3) := by decide +kernel
theorem dX7_count_88 : decode cX7_count 88 = .ok (.ireturn, 1) := by decide +kernel
theorem dX7_count_89 : decode cX7_count 89 = .ok (.aload_n 0, 1) := by decide +kernel
theorem dX7_count_90 : decode cX7_count 90 = .ok (.getfield 19, 3) := by decide +kernel
theorem dX7_count_93 : decode cX7_count 93 = .ok (.getfield 238, 3) := by decide +kernel
theorem dX7_count_96 : decode cX7_count 96 = .ok (.ireturn, 1) := by decide +kernel
theorem dX7_count_97 : decode cX7_count 97 = .ok (.iconst (-1), 1) := by decide +kernel
theorem dX7_count_98 : decode cX7_count 98 = .ok (.ireturn, 1) := by decide +kernel
theorem dX7_isWithin_0 : decode cX7_isWithin 0 = .ok (.iload_n 0, 1) := by decide +kernel
theorem dX7_isWithin_1 : decode cX7_isWithin 1 = .ok (.iload_n 1, 1) := by decide +kernel
theorem dX7_isWithin_2 : decode cX7_isWithin 2 = .ok (.if_icmp .lt 12, 3) := by decide +kernel
theorem dX7_isWithin_5 : decode cX7_isWithin 5 = .ok (.iload_n 0, 1) := by decide +kernel
theorem dX7_isWithin_6 : decode cX7_isWithin 6 = .ok (.iload_n 2, 1) := by decide +kernel
theorem dX7_isWithin_7 : decode cX7_isWithin 7 = .ok (.if_icmp .gt 7, 3) := by decide +kernel
theorem dX7_isWithin_10 : decode cX7_isWithin 10 = .ok (.iconst 1, 1) := by decide +kernel
theorem dX7_isWithin_11 : decode cX7_isWithin 11 = .ok (.goto 4, 3) := by decide +kernel
theorem dX7_isWithin_14 : decode cX7_isWithin 14 = .ok (.iconst 0, 1) := by decide +kernel
theorem dX7_isWithin_15 : decode cX7_isWithin 15 = .ok (.ireturn, 1) := by decide +kernel
set_option maxRecDepth 20000 in
theorem ggX7_checkOwner_X7_isWithin : GoodIn wsX7_checkOwner wsX7_isWithin := goodIn_r _ [6] (by decide +kernel) (by decide +kernel)
set_option maxRecDepth 20000 in
theorem gX7_checkOwner_X7_isWithin : GoodIn wsX7_checkOwner (va_wsS RX7 50 yX7_isWithin wsX7_isWithin) := goodIn_app (goodIn_of _ (by decide +kernel)) ggX7_checkOwner_X7_isWithin
theorem dX7_checkOwner_0 : decode cX7_checkOwner 0 = .ok (.iload_n 0, 1) := by decide +kernel
theorem dX7_checkOwner_1 : decode cX7_checkOwner 1 = .ok (.iconst 0, 1) := by decide +kernel
theorem dX7_checkOwner_2 : decode cX7_checkOwner 2 = .ok (.bipush 7, 2) := by decide +kernel
theorem dX7_checkOwner_4 : decode cX7_checkOwner 4 = .ok (.invokestatic 50, 3) := by decide +kernel
theorem dX7_checkOwner_7 : decode cX7_checkOwner 7 = .ok (.ifCond .ne 13, 3) := by decide +kernel
theorem dX7_checkOwner_10 : decode cX7_checkOwner 10 = .ok (.new 54, 3) := by decide +kernel
theorem dX7_checkOwner_13 : decode cX7_checkOwner 13 = .ok (.dup, 1) := by decide +kernel
theorem dX7_checkOwner_14 : decode cX7_checkOwner 14 = .ok (.ldc 241, 2) := by decide +kernel
theorem dX7_checkOwner_16 : decode cX7_checkOwner 16 = .ok (.invokespecial 58, 3) := by decide +kernel
theorem dX7_checkOwner_19 : decode cX7_checkOwner 19 = .ok (.athrow, 1) := by decide +kernel
theorem dX7_checkOwner_20 : decode cX7_checkOwner 20 = .ok (.return_, 1) := by decide +kernel
set_option maxRecDepth 20000 in
theorem ggX7_checkKind_X7_isWithin : GoodIn wsX7_checkKind wsX7_isWithin := goodIn_r _ [6] (by decide +kernel) (by decide +kernel)
set_option maxRecDepth 20000 in
theorem gX7_checkKind_X7_isWithin : GoodIn wsX7_checkKind (va_wsS RX7 50 yX7_isWithin wsX7_isWithin) := goodIn_app (goodIn_of _ (by decide +kernel)) ggX7_checkKind_X7_isWithin
theorem dX7_checkKind_0 : decode cX7_checkKind 0 = .ok (.iload_n 0, 1) := by decide +kernel
theorem dX7_checkKind_1 : decode cX7_checkKind 1 = .ok (.iconst 0, 1) := by decide +kernel
theorem dX7_checkKind_2 : decode cX7_checkKind 2 = .ok (.iconst 4, 1) := by decide +kernel
theorem dX7_checkKind_3 : decode cX7_checkKind 3 = .ok (.invokestatic 50, 3) := by decide +kernel
theorem dX7_checkKind_6 : decode cX7_checkKind 6 = .ok (.ifCond .ne 13, 3) := by decide +kernel
theorem dX7_checkKind_9 : decode cX7_checkKind 9 = .ok (.new 54, 3) := by decide +kernel
theorem dX7_checkKind_12 : decode cX7_checkKind 12 = .ok (.dup, 1) := by decide +kernel
theorem dX7_checkKind_13 : decode cX7_checkKind 13 = .ok (.ldc 243, 2) := by decide +kernel
theorem dX7_checkKind_15 : decode cX7_checkKind 15 = .ok (.invokespecial 58, 3) := by decide +kernel
theorem dX7_checkKind_18 : decode cX7_checkKind 18 = .ok (.athrow, 1) := by decide +kernel
theorem dX7_checkKind_19 : decode cX7_checkKind 19 = .ok (.return_, 1) := by decide +kernel
set_option maxRecDepth 20000 in
theorem ggX7_checkDay_X7_isWithin : GoodIn wsX7_checkDay wsX7_isWithin := goodIn_r _ [6] (by decide +kernel) (by decide +kernel)
set_option maxRecDepth 20000 in
theorem gX7_checkDay_X7_isWithin : GoodIn wsX7_checkDay (va_wsS RX7 50 yX7_isWithin wsX7_isWithin) := goodIn_app (goodIn_of _ (by decide +kernel)) ggX7_checkDay_X7_isWithin
theorem dX7_checkDay_0 : decode cX7_checkDay 0 = .ok (.iload_n 0, 1) := by decide +kernel
theorem dX7_checkDay_1 : decode cX7_checkDay 1 = .ok (.iconst 0, 1) := by decide +kernel
theorem dX7_checkDay_2 : decode cX7_checkDay 2 = .ok (.sipush 3599, 3) := by decide +kernel
theorem dX7_checkDay_5 : decode cX7_checkDay 5 = .ok (.invokestatic 50, 3) := by decide +kernel
theorem dX7_checkDay_8 : decode cX7_checkDay 8 = .ok (.ifCond .ne 13, 3) := by decide +kernel
theorem dX7_checkDay_11 : decode cX7_checkDay 11 = .ok (.new 54, 3) := by decide +kernel
theorem dX7_checkDay_14 : decode cX7_checkDay 14 = .ok (.dup, 1) := by decide +kernel
theorem dX7_checkDay_15 : decode cX7_checkDay 15 = .ok (.ldc 245, 2) := by decide +kernel
theorem dX7_checkDay_17 : decode cX7_checkDay 17 = .ok (.invokespecial 58, 3) := by decide +kernel
theorem dX7_checkDay_20 : decode cX7_checkDay 20 = .ok (.athrow, 1) := by decide +kernel
theorem dX7_checkDay_21 : decode cX7_checkDay 21 = .ok (.return_, 1) := by decide +kernel
set_option maxRecDepth 20000 in
theorem ggX7_checkMonth_X7_isWithin : GoodIn wsX7_checkMonth wsX7_isWithin := goodIn_r _ [6] (by decide +kernel) (by decide +kernel)
set_option maxRecDepth 20000 in
theorem gX7_checkMonth_X7_isWithin : GoodIn wsX7_checkMonth (va_wsS RX7 50 yX7_isWithin wsX7_isWithin) := goodIn_app (goodIn_of _ (by decide +kernel)) ggX7_checkMonth_X7_isWithin
theorem dX7_checkMonth_0 : decode cX7_checkMonth 0 = .ok (.iload_n 0, 1) := by decide +kernel
theorem dX7_checkMonth_1 : decode cX7_checkMonth 1 = .ok (.iconst 0, 1) := by decide +kernel
theorem dX7_checkMonth_2 : decode cX7_checkMonth 2 = .ok (.bipush 119, 2) := by decide +kernel
theorem dX7_checkMonth_4 : decode cX7_checkMonth 4 = .ok (.invokestatic 50, 3) := by decide +kernel
theorem dX7_checkMonth_7 : decode cX7_checkMonth 7 = .ok (.ifCond .ne 13, 3) := by decide +kernel
theorem dX7_checkMonth_10 : decode cX7_checkMonth 10 = .ok (.new 54, 3) := by decide +kernel
theorem dX7_checkMonth_13 : decode cX7_checkMonth 13 = .ok (.dup, 1) := by decide +kernel
theorem dX7_checkMonth_14 : decode cX7_checkMonth 14 = .ok (.ldc 247, 2) := by decide +kernel
theorem dX7_checkMonth_16 : decode cX7_checkMonth 16 = .ok (.invokespecial 58, 3) := by decide +kernel
theorem dX7_checkMonth_19 : decode cX7_checkMonth 19 = .ok (.athrow, 1) := by decide +kernel
theorem dX7_checkMonth_20 : decode cX7_checkMonth 20 = .ok (.return_, 1) := by decide +kernel
set_option maxRecDepth 20000 in
theorem ggX7_checkUnit_Jx4a65c_size_8abf5 : GoodIn wsX7_checkUnit wsJx4a65c_size_8abf5 := goodIn_r _ [8, 9, 21, 22, 23] (by decide +kernel) (by decide +kernel)
set_option maxRecDepth 20000 in
theorem gX7_checkUnit_Jx4a65c_size_8abf5 : GoodIn wsX7_checkUnit (wsV RX7 95 RJx4a65c yJx4a65c_size_8abf5 wsJx4a65c_size_8abf5) := goodIn_app (goodIn_of _ (by decide +kernel)) ggX7_checkUnit_Jx4a65c_size_8abf5
set_option maxRecDepth 20000 in
theorem ggX7_checkUnit_X7_isWithin : GoodIn wsX7_checkUnit wsX7_isWithin := goodIn_r _ [13] (by decide +kernel) (by decide +kernel)
set_option maxRecDepth 20000 in
theorem gX7_checkUnit_X7_isWithin : GoodIn wsX7_checkUnit (va_wsS RX7 50 yX7_isWithin wsX7_isWithin) := goodIn_app (goodIn_of _ (by decide +kernel)) ggX7_checkUnit_X7_isWithin
theorem dX7_checkUnit_0 : decode cX7_checkUnit 0 = .ok (.iload_n 1, 1) := by decide +kernel
theorem dX7_checkUnit_1 : decode cX7_checkUnit 1 = .ok (.iconst 0, 1) := by decide +kernel
theorem dX7_checkUnit_2 : decode cX7_checkUnit 2 = .ok (.aload_n 0, 1) := by decide +kernel
theorem dX7_checkUnit_3 : decode cX7_checkUnit 3 = .ok (.getfield 29, 3) := by decide +kernel
theorem dX7_checkUnit_6 : decode cX7_checkUnit 6 = .ok (.invokevirtual 95, 3) := by decide +kernel
theorem dX7_checkUnit_9 : decode cX7_checkUnit 9 = .ok (.iconst 1, 1) := by decide +kernel
theorem dX7_checkUnit_10 : decode cX7_checkUnit 10 = .ok (.isub, 1) := by decide +kernel
theorem dX7_checkUnit_11 : decode cX7_checkUnit 11 = .ok (.invokestatic 50, 3) := by decide +kernel
theorem dX7_checkUnit_14 : decode cX7_checkUnit 14 = .ok (.ifCond .ne 13, 3) := by decide +kernel
theorem dX7_checkUnit_17 : decode cX7_checkUnit 17 = .ok (.new 193, 3) := by decide +kernel
theorem dX7_checkUnit_20 : decode cX7_checkUnit 20 = .ok (.dup, 1) := by decide +kernel
theorem dX7_checkUnit_21 : decode cX7_checkUnit 21 = .ok (.ldc 249, 2) := by decide +kernel
theorem dX7_checkUnit_23 : decode cX7_checkUnit 23 = .ok (.invokespecial 197, 3) := by decide +kernel
theorem dX7_checkUnit_26 : decode cX7_checkUnit 26 = .ok (.athrow, 1) := by decide +kernel
theorem dX7_checkUnit_27 : decode cX7_checkUnit 27 = .ok (.return_, 1) := by decide +kernel
set_option maxRecDepth 20000 in
theorem ggX7_checkGoesOn_X6_dayToldLast : GoodIn wsX7_checkGoesOn wsX6_dayToldLast := goodIn_r _ [7, 8, 9, 10, 11, 12, 13, 14, 15, 16] (by decide +kernel) (by decide +kernel)
set_option maxRecDepth 20000 in
theorem gX7_checkGoesOn_X6_dayToldLast : GoodIn wsX7_checkGoesOn (wsV RX7 256 RX6 yX6_dayToldLast wsX6_dayToldLast) := goodIn_app (goodIn_of _ (by decide +kernel)) ggX7_checkGoesOn_X6_dayToldLast
theorem dX7_checkGoesOn_0 : decode cX7_checkGoesOn 0 = .ok (.aload_n 0, 1) := by decide +kernel
theorem dX7_checkGoesOn_1 : decode cX7_checkGoesOn 1 = .ok (.getfield 251, 3) := by decide +kernel
theorem dX7_checkGoesOn_4 : decode cX7_checkGoesOn 4 = .ok (.ifCond .eq 13, 3) := by decide +kernel
theorem dX7_checkGoesOn_7 : decode cX7_checkGoesOn 7 = .ok (.new 171, 3) := by decide +kernel
theorem dX7_checkGoesOn_10 : decode cX7_checkGoesOn 10 = .ok (.dup, 1) := by decide +kernel
theorem dX7_checkGoesOn_11 : decode cX7_checkGoesOn 11 = .ok (.ldc 254, 2) := by decide +kernel
theorem dX7_checkGoesOn_13 : decode cX7_checkGoesOn 13 = .ok (.invokespecial 175, 3) := by decide +kernel
theorem dX7_checkGoesOn_16 : decode cX7_checkGoesOn 16 = .ok (.athrow, 1) := by decide +kernel
theorem dX7_checkGoesOn_17 : decode cX7_checkGoesOn 17 = .ok (.iload_n 1, 1) := by decide +kernel
theorem dX7_checkGoesOn_18 : decode cX7_checkGoesOn 18 = .ok (.aload_n 0, 1) := by decide +kernel
theorem dX7_checkGoesOn_19 : decode cX7_checkGoesOn 19 = .ok (.invokevirtual 256, 3) := by decide +kernel
theorem dX7_checkGoesOn_22 : decode cX7_checkGoesOn 22 = .ok (.if_icmp .ge 14, 3) := by decide +kernel
theorem dX7_checkGoesOn_25 : decode cX7_checkGoesOn 25 = .ok (.new 171, 3) := by decide +kernel
theorem dX7_checkGoesOn_28 : decode cX7_checkGoesOn 28 = .ok (.dup, 1) := by decide +kernel
theorem dX7_checkGoesOn_29 : decode cX7_checkGoesOn 29 = .ok (.ldc_w 259, 3) := by decide +kernel
theorem dX7_checkGoesOn_32 : decode cX7_checkGoesOn 32 = .ok (.invokespecial 175, 3) := by decide +kernel
theorem dX7_checkGoesOn_35 : decode cX7_checkGoesOn 35 = .ok (.athrow, 1) := by decide +kernel
theorem dX7_checkGoesOn_36 : decode cX7_checkGoesOn 36 = .ok (.return_, 1) := by decide +kernel
set_option maxRecDepth 20000 in
theorem ggX7_readLines_X5_isRead : GoodIn wsX7_readLines wsX5_isRead := goodIn_r _ [6, 7, 8, 70, 71, 72] (by decide +kernel) (by decide +kernel)
set_option maxRecDepth 20000 in
theorem gX7_readLines_X5_isRead : GoodIn wsX7_readLines (wsV RX7 261 RX5 yX5_isRead wsX5_isRead) := goodIn_app (goodIn_of _ (by decide +kernel)) ggX7_readLines_X5_isRead
set_option maxRecDepth 20000 in
theorem ggX7_readLines_X7_readLine : GoodIn wsX7_readLines wsX7_readLine := goodIn_r _ [13, 1, 14, 15, 16, 17, 5, 18, 7, 19, 20, 21, 22, 8, 23, 24, 12, 25, 26, 27, 28, 29, 30, 31, 32, 33, 34, 35, 36, 37, 38, 39, 40, 41, 42, 43, 44, 45, 46, 47, 48, 49, 50, 51, 52, 53, 54, 55, 56, 57, 58, 59, 60, 61, 62, 63, 64, 65, 66, 67, 68, 69, 70, 71, 72, 73, 74, 75, 76, 77, 78, 79, 80, 81] (by decide +kernel) (by decide +kernel)
set_option maxRecDepth 20000 in
theorem gX7_readLines_X7_readLine : GoodIn wsX7_readLines (wsV RX7 267 RX7 yX7_readLine wsX7_readLine) := goodIn_app (goodIn_of _ (by decide +kernel)) ggX7_readLines_X7_readLine
theorem dX7_readLines_0 : decode cX7_readLines 0 = .ok (.iconst 0, 1) := by decide +kernel
theorem dX7_readLines_1 : decode cX7_readLines 1 = .ok (.istore_n 1, 1) := by decide +kernel
theorem dX7_readLines_2 : decode cX7_readLines 2 = .ok (.iload_n 1, 1) := by decide +kernel
theorem dX7_readLines_3 : decode cX7_readLines 3 = .ok (.bipush 60, 2) := by decide +kernel
theorem dX7_readLines_5 : decode cX7_readLines 5 = .ok (.if_icmp .ge 40, 3) := by decide +kernel
theorem dX7_readLines_8 : decode cX7_readLines 8 = .ok (.aload_n 0, 1) := by decide +kernel
theorem dX7_readLines_9 : decode cX7_readLines 9 = .ok (.getfield 10, 3) := by decide +kernel
theorem dX7_readLines_12 : decode cX7_readLines 12 = .ok (.invokevirtual 261, 3) := by decide +kernel
theorem dX7_readLines_15 : decode cX7_readLines 15 = .ok (.ifCond .eq 5, 3) := by decide +kernel
theorem dX7_readLines_18 : decode cX7_readLines 18 = .ok (.iload_n 1, 1) := by decide +kernel
theorem dX7_readLines_19 : decode cX7_readLines 19 = .ok (.ireturn, 1) := by decide +kernel
theorem dX7_readLines_20 : decode cX7_readLines 20 = .ok (.aload_n 0, 1) := by decide +kernel
theorem dX7_readLines_21 : decode cX7_readLines 21 = .ok (.getfield 10, 3) := by decide +kernel
theorem dX7_readLines_24 : decode cX7_readLines 24 = .ok (.getfield 264, 3) := by decide +kernel
theorem dX7_readLines_27 : decode cX7_readLines 27 = .ok (.istore_n 2, 1) := by decide +kernel
theorem dX7_readLines_28 : decode cX7_readLines 28 = .ok (.aload_n 0, 1) := by decide +kernel
theorem dX7_readLines_29 : decode cX7_readLines 29 = .ok (.invokevirtual 267, 3) := by decide +kernel
theorem dX7_readLines_32 : decode cX7_readLines 32 = .ok (.ifCond .ne 7, 3) := by decide +kernel
theorem dX7_readLines_35 : decode cX7_readLines 35 = .ok (.iconst (-1), 1) := by decide +kernel
theorem dX7_readLines_36 : decode cX7_readLines 36 = .ok (.iload_n 2, 1) := by decide +kernel
theorem dX7_readLines_37 : decode cX7_readLines 37 = .ok (.isub, 1) := by decide +kernel
theorem dX7_readLines_38 : decode cX7_readLines 38 = .ok (.ireturn, 1) := by decide +kernel
theorem dX7_readLines_39 : decode cX7_readLines 39 = .ok (.iinc 1 1, 3) := by decide +kernel
theorem dX7_readLines_42 : decode cX7_readLines 42 = .ok (.goto (-40), 3) := by decide +kernel
theorem dX7_readLines_45 : decode cX7_readLines 45 = .ok (.aload_n 0, 1) := by decide +kernel
theorem dX7_readLines_46 : decode cX7_readLines 46 = .ok (.getfield 10, 3) := by decide +kernel
theorem dX7_readLines_49 : decode cX7_readLines 49 = .ok (.invokevirtual 261, 3) := by decide +kernel
theorem dX7_readLines_52 : decode cX7_readLines 52 = .ok (.ifCond .eq 8, 3) := by decide +kernel
theorem dX7_readLines_55 : decode cX7_readLines 55 = .ok (.bipush 60, 2) := by decide +kernel
theorem dX7_readLines_57 : decode cX7_readLines 57 = .ok (.goto 12, 3) := by decide +kernel
theorem dX7_readLines_60 : decode cX7_readLines 60 = .ok (.iconst (-1), 1) := by decide +kernel
theorem dX7_readLines_61 : decode cX7_readLines 61 = .ok (.aload_n 0, 1) := by decide +kernel
theorem dX7_readLines_62 : decode cX7_readLines 62 = .ok (.getfield 10, 3) := by decide +kernel
theorem dX7_readLines_65 : decode cX7_readLines 65 = .ok (.getfield 264, 3) := by decide +kernel
theorem dX7_readLines_68 : decode cX7_readLines 68 = .ok (.isub, 1) := by decide +kernel
theorem dX7_readLines_69 : decode cX7_readLines 69 = .ok (.ireturn, 1) := by decide +kernel
set_option maxRecDepth 20000 in
theorem ggX7_readLine_X5_takeSign : GoodIn wsX7_readLine wsX5_takeSign := goodIn_r _ [7, 8, 9, 10, 11, 6, 12, 13, 14, 15, 16, 17, 62, 63, 64] (by decide +kernel) (by decide +kernel)
set_option maxRecDepth 20000 in
theorem gX7_readLine_X5_takeSign : GoodIn wsX7_readLine (wsV RX7 270 RX5 yX5_takeSign wsX5_takeSign) := goodIn_app (goodIn_of _ (by decide +kernel)) ggX7_readLine_X5_takeSign
set_option maxRecDepth 20000 in
theorem ggX7_readLine_X5_takeNumber : GoodIn wsX7_readLine wsX5_takeNumber := goodIn_r _ [21, 8, 9, 10, 11, 6, 12, 13, 14, 15, 16, 17, 22, 4, 5, 7, 62, 63, 64] (by decide +kernel) (by decide +kernel)
set_option maxRecDepth 20000 in
theorem gX7_readLine_X5_takeNumber : GoodIn wsX7_readLine (wsV RX7 273 RX5 yX5_takeNumber wsX5_takeNumber) := goodIn_app (goodIn_of _ (by decide +kernel)) ggX7_readLine_X5_takeNumber
set_option maxRecDepth 20000 in
theorem ggX7_readLine_X2_tell : GoodIn wsX7_readLine wsX2_tell := goodIn_r _ [27, 28, 29, 15, 16, 17, 30, 31, 32, 26, 33, 34, 35, 36, 37, 38, 39, 40, 41, 42, 43, 44, 45, 46, 47, 48, 49, 50, 51, 52, 53, 54, 65, 66, 67, 68, 69, 70, 71, 72, 73] (by decide +kernel) (by decide +kernel)
set_option maxRecDepth 20000 in
theorem gX7_readLine_X2_tell : GoodIn wsX7_readLine (wsV RX7 276 RX2 yX2_tell wsX2_tell) := goodIn_app (goodIn_of _ (by decide +kernel)) ggX7_readLine_X2_tell
theorem dX7_readLine_0 : decode cX7_readLine 0 = .ok (.aload_n 0, 1) := by decide +kernel
theorem dX7_readLine_1 : decode cX7_readLine 1 = .ok (.getfield 10, 3) := by decide +kernel
theorem dX7_readLine_4 : decode cX7_readLine 4 = .ok (.invokevirtual 270, 3) := by decide +kernel
theorem dX7_readLine_7 : decode cX7_readLine 7 = .ok (.istore_n 1, 1) := by decide +kernel
theorem dX7_readLine_8 : decode cX7_readLine 8 = .ok (.aload_n 0, 1) := by decide +kernel
theorem dX7_readLine_9 : decode cX7_readLine 9 = .ok (.getfield 10, 3) := by decide +kernel
theorem dX7_readLine_12 : decode cX7_readLine 12 = .ok (.invokevirtual 273, 3) := by decide +kernel
theorem dX7_readLine_15 : decode cX7_readLine 15 = .ok (.istore_n 2, 1) := by decide +kernel
theorem dX7_readLine_16 : decode cX7_readLine 16 = .ok (.aload_n 0, 1) := by decide +kernel
theorem dX7_readLine_17 : decode cX7_readLine 17 = .ok (.getfield 10, 3) := by decide +kernel
theorem dX7_readLine_20 : decode cX7_readLine 20 = .ok (.invokevirtual 273, 3) := by decide +kernel
theorem dX7_readLine_23 : decode cX7_readLine 23 = .ok (.istore_n 3, 1) := by decide +kernel
theorem dX7_readLine_24 : decode cX7_readLine 24 = .ok (.iload_n 1, 1) := by decide +kernel
theorem dX7_readLine_25 : decode cX7_readLine 25 = .ok (.bipush 77, 2) := by decide +kernel
theorem dX7_readLine_27 : decode cX7_readLine 27 = .ok (.if_icmp .ne 7, 3) := by decide +kernel
theorem dX7_readLine_30 : decode cX7_readLine 30 = .ok (.iconst (-1), 1) := by decide +kernel
theorem dX7_readLine_31 : decode cX7_readLine 31 = .ok (.goto 10, 3) := by decide +kernel
theorem dX7_readLine_34 : decode cX7_readLine 34 = .ok (.aload_n 0, 1) := by decide +kernel
theorem dX7_readLine_35 : decode cX7_readLine 35 = .ok (.getfield 10, 3) := by decide +kernel
theorem dX7_readLine_38 : decode cX7_readLine 38 = .ok (.invokevirtual 273, 3) := by decide +kernel
theorem dX7_readLine_41 : decode cX7_readLine 41 = .ok (.istore 4, 2) := by decide +kernel
theorem dX7_readLine_43 : decode cX7_readLine 43 = .ok (.aload_n 0, 1) := by decide +kernel
theorem dX7_readLine_44 : decode cX7_readLine 44 = .ok (.getfield 10, 3) := by decide +kernel
theorem dX7_readLine_47 : decode cX7_readLine 47 = .ok (.invokevirtual 270, 3) := by decide +kernel
theorem dX7_readLine_50 : decode cX7_readLine 50 = .ok (.bipush 10, 2) := by decide +kernel
theorem dX7_readLine_52 : decode cX7_readLine 52 = .ok (.if_icmp .ne 22, 3) := by decide +kernel
theorem dX7_readLine_55 : decode cX7_readLine 55 = .ok (.aload_n 0, 1) := by decide +kernel
theorem dX7_readLine_56 : decode cX7_readLine 56 = .ok (.getfield 23, 3) := by decide +kernel
theorem dX7_readLine_59 : decode cX7_readLine 59 = .ok (.iload_n 1, 1) := by decide +kernel
theorem dX7_readLine_60 : decode cX7_readLine 60 = .ok (.iload_n 2, 1) := by decide +kernel
theorem dX7_readLine_61 : decode cX7_readLine 61 = .ok (.iload_n 3, 1) := by decide +kernel
theorem dX7_readLine_62 : decode cX7_readLine 62 = .ok (.iload 4, 2) := by decide +kernel
theorem dX7_readLine_64 : decode cX7_readLine 64 = .ok (.invokevirtual 276, 3) := by decide +kernel
theorem dX7_readLine_67 : decode cX7_readLine 67 = .ok (.ifCond .eq 7, 3) := by decide +kernel
theorem dX7_readLine_70 : decode cX7_readLine 70 = .ok (.iconst 1, 1) := by decide +kernel
theorem dX7_readLine_71 : decode cX7_readLine 71 = .ok (.goto 4, 3) := by decide +kernel
theorem dX7_readLine_74 : decode cX7_readLine 74 = .ok (.iconst 0, 1) := by decide +kernel
theorem dX7_readLine_75 : decode cX7_readLine 75 = .ok (.ireturn, 1) := by decide +kernel
set_option maxRecDepth 20000 in
theorem ggX7_movesOf_Jx4a65c_size_8abf5 : GoodIn wsX7_movesOf wsJx4a65c_size_8abf5 := goodIn_r _ [7, 8, 37, 38, 39] (by decide +kernel) (by decide +kernel)
set_option maxRecDepth 20000 in
theorem gX7_movesOf_Jx4a65c_size_8abf5 : GoodIn wsX7_movesOf (wsV RX7 95 RJx4a65c yJx4a65c_size_8abf5 wsJx4a65c_size_8abf5) := goodIn_app (goodIn_of _ (by decide +kernel)) ggX7_movesOf_Jx4a65c_size_8abf5
set_option maxRecDepth 20000 in
theorem ggX7_movesOf_Jx4a65c_get_915e3 : GoodIn wsX7_movesOf wsJx4a65c_get_915e3 := goodIn_r _ [12, 8, 13, 14, 15, 16, 17, 18, 19, 20, 21, 22, 23, 6, 24, 25, 37, 38, 39] (by decide +kernel) (by decide +kernel)
set_option maxRecDepth 20000 in
theorem gX7_movesOf_Jx4a65c_get_915e3 : GoodIn wsX7_movesOf (wsV RX7 111 RJx4a65c yJx4a65c_get_915e3 wsJx4a65c_get_915e3) := goodIn_app (goodIn_of _ (by decide +kernel)) ggX7_movesOf_Jx4a65c_get_915e3
theorem dX7_movesOf_0 : decode cX7_movesOf 0 = .ok (.iconst 0, 1) := by decide +kernel
theorem dX7_movesOf_1 : decode cX7_movesOf 1 = .ok (.istore_n 2, 1) := by decide +kernel
theorem dX7_movesOf_2 : decode cX7_movesOf 2 = .ok (.iconst 0, 1) := by decide +kernel
theorem dX7_movesOf_3 : decode cX7_movesOf 3 = .ok (.istore_n 3, 1) := by decide +kernel
theorem dX7_movesOf_4 : decode cX7_movesOf 4 = .ok (.iload_n 3, 1) := by decide +kernel
theorem dX7_movesOf_5 : decode cX7_movesOf 5 = .ok (.aload_n 0, 1) := by decide +kernel
theorem dX7_movesOf_6 : decode cX7_movesOf 6 = .ok (.getfield 33, 3) := by decide +kernel
theorem dX7_movesOf_9 : decode cX7_movesOf 9 = .ok (.invokevirtual 95, 3) := by decide +kernel
theorem dX7_movesOf_12 : decode cX7_movesOf 12 = .ok (.if_icmp .ge 30, 3) := by decide +kernel
theorem dX7_movesOf_15 : decode cX7_movesOf 15 = .ok (.aload_n 0, 1) := by decide +kernel
theorem dX7_movesOf_16 : decode cX7_movesOf 16 = .ok (.getfield 33, 3) := by decide +kernel
theorem dX7_movesOf_19 : decode cX7_movesOf 19 = .ok (.iload_n 3, 1) := by decide +kernel
theorem dX7_movesOf_20 : decode cX7_movesOf 20 = .ok (.invokevirtual 111, 3) := by decide +kernel
theorem dX7_movesOf_23 : decode cX7_movesOf 23 = .ok (.checkcast 140, 3) := by decide +kernel
theorem dX7_movesOf_26 : decode cX7_movesOf 26 = .ok (.getfield 279, 3) := by decide +kernel
theorem dX7_movesOf_29 : decode cX7_movesOf 29 = .ok (.iload_n 1, 1) := by decide +kernel
theorem dX7_movesOf_30 : decode cX7_movesOf 30 = .ok (.if_icmp .ne 6, 3) := by decide +kernel
theorem dX7_movesOf_33 : decode cX7_movesOf 33 = .ok (.iinc 2 1, 3) := by decide +kernel
theorem dX7_movesOf_36 : decode cX7_movesOf 36 = .ok (.iinc 3 1, 3) := by decide +kernel
theorem dX7_movesOf_39 : decode cX7_movesOf 39 = .ok (.goto (-35), 3) := by decide +kernel
theorem dX7_movesOf_42 : decode cX7_movesOf 42 = .ok (.iload_n 2, 1) := by decide +kernel
theorem dX7_movesOf_43 : decode cX7_movesOf 43 = .ok (.ireturn, 1) := by decide +kernel
set_option maxRecDepth 20000 in
theorem ggX7_unitsStillThere_Jx4a65c_size_8abf5 : GoodIn wsX7_unitsStillThere wsJx4a65c_size_8abf5 := goodIn_r _ [7, 8, 40, 41, 42] (by decide +kernel) (by decide +kernel)
set_option maxRecDepth 20000 in
theorem gX7_unitsStillThere_Jx4a65c_size_8abf5 : GoodIn wsX7_unitsStillThere (wsV RX7 95 RJx4a65c yJx4a65c_size_8abf5 wsJx4a65c_size_8abf5) := goodIn_app (goodIn_of _ (by decide +kernel)) ggX7_unitsStillThere_Jx4a65c_size_8abf5
set_option maxRecDepth 20000 in
theorem ggX7_unitsStillThere_Jx4a65c_get_915e3 : GoodIn wsX7_unitsStillThere wsJx4a65c_get_915e3 := goodIn_r _ [12, 8, 13, 14, 15, 16, 17, 18, 19, 20, 21, 22, 23, 6, 24, 25, 40, 41, 42] (by decide +kernel) (by decide +kernel)
set_option maxRecDepth 20000 in
theorem gX7_unitsStillThere_Jx4a65c_get_915e3 : GoodIn wsX7_unitsStillThere (wsV RX7 111 RJx4a65c yJx4a65c_get_915e3 wsJx4a65c_get_915e3) := goodIn_app (goodIn_of _ (by decide +kernel)) ggX7_unitsStillThere_Jx4a65c_get_915e3
theorem dX7_unitsStillThere_0 : decode cX7_unitsStillThere 0 = .ok (.iconst 0, 1) := by decide +kernel
theorem dX7_unitsStillThere_1 : decode cX7_unitsStillThere 1 = .ok (.istore_n 1, 1) := by decide +kernel
theorem dX7_unitsStillThere_2 : decode cX7_unitsStillThere 2 = .ok (.iconst 0, 1) := by decide +kernel
theorem dX7_unitsStillThere_3 : decode cX7_unitsStillThere 3 = .ok (.istore_n 2, 1) := by decide +kernel
theorem dX7_unitsStillThere_4 : decode cX7_unitsStillThere 4 = .ok (.iload_n 2, 1) := by decide +kernel
theorem dX7_unitsStillThere_5 : decode cX7_unitsStillThere 5 = .ok (.aload_n 0, 1) := by decide +kernel
theorem dX7_unitsStillThere_6 : decode cX7_unitsStillThere 6 = .ok (.getfield 29, 3) := by decide +kernel
theorem dX7_unitsStillThere_9 : decode cX7_unitsStillThere 9 = .ok (.invokevirtual 95, 3) := by decide +kernel
theorem dX7_unitsStillThere_12 : decode cX7_unitsStillThere 12 = .ok (.if_icmp .ge 29, 3) := by decide +kernel
theorem dX7_unitsStillThere_15 : decode cX7_unitsStillThere 15 = .ok (.aload_n 0, 1) := by decide +kernel
theorem dX7_unitsStillThere_16 : decode cX7_unitsStillThere 16 = .ok (.getfield 29, 3) := by decide +kernel
theorem dX7_unitsStillThere_19 : decode cX7_unitsStillThere 19 = .ok (.iload_n 2, 1) := by decide +kernel
theorem dX7_unitsStillThere_20 : decode cX7_unitsStillThere 20 = .ok (.invokevirtual 111, 3) := by decide +kernel
theorem dX7_unitsStillThere_23 : decode cX7_unitsStillThere 23 = .ok (.checkcast 100, 3) := by decide +kernel
theorem dX7_unitsStillThere_26 : decode cX7_unitsStillThere 26 = .ok (.getfield 251, 3) := by decide +kernel
theorem dX7_unitsStillThere_29 : decode cX7_unitsStillThere 29 = .ok (.ifCond .ne 6, 3) := by decide +kernel
theorem dX7_unitsStillThere_32 : decode cX7_unitsStillThere 32 = .ok (.iinc 1 1, 3) := by decide +kernel
theorem dX7_unitsStillThere_35 : decode cX7_unitsStillThere 35 = .ok (.iinc 2 1, 3) := by decide +kernel
theorem dX7_unitsStillThere_38 : decode cX7_unitsStillThere 38 = .ok (.goto (-34), 3) := by decide +kernel
theorem dX7_unitsStillThere_41 : decode cX7_unitsStillThere 41 = .ok (.iload_n 1, 1) := by decide +kernel
theorem dX7_unitsStillThere_42 : decode cX7_unitsStillThere 42 = .ok (.ireturn, 1) := by decide +kernel
set_option maxRecDepth 20000 in
theorem ggX7_sumBy_X7_storageBy : GoodIn wsX7_sumBy wsX7_storageBy := goodIn_r _ [10, 11, 12, 1, 13, 14, 15, 16, 17, 18, 19, 20, 21, 22, 23, 24, 25, 26, 27, 28, 29, 30, 31, 32, 33, 34, 35, 36, 37, 38, 9, 39, 2, 3, 4, 5, 40, 41, 42, 43, 44, 45, 46, 47, 48, 49, 50, 51, 52, 53, 54, 55, 56, 57, 58, 59, 60, 61, 62, 63, 64, 65, 66, 67, 68, 69, 70, 71, 72, 73, 74, 75, 76, 77, 78, 79, 80, 81, 82, 83, 84, 85, 86, 87, 88, 89, 90, 108, 109, 110, 111, 112, 113, 114, 115, 116, 117, 118, 119, 120, 121, 122, 123, 124, 125, 126, 127, 128, 129, 130, 131, 132, 133] (by decide +kernel) (by decide +kernel)
set_option maxRecDepth 20000 in
theorem gX7_sumBy_X7_storageBy : GoodIn wsX7_sumBy (wsV RX7 164 RX7 yX7_storageBy wsX7_storageBy) := goodIn_app (goodIn_of _ (by decide +kernel)) ggX7_sumBy_X7_storageBy
set_option maxRecDepth 20000 in
theorem ggX7_sumBy_X7_handlingBy : GoodIn wsX7_sumBy wsX7_handlingBy := goodIn_r _ [94, 95, 96, 1, 13, 14, 15, 16, 17, 18, 19, 20, 21, 22, 23, 24, 25, 26, 27, 28, 29, 30, 31, 32, 33, 34, 35, 43, 44, 9, 45, 46, 47, 48, 97, 70, 71, 98, 99, 100, 61, 101, 102, 64, 65, 66, 67, 68, 69, 108, 109, 110, 111, 112, 113, 114, 134, 135, 136, 137, 122, 123, 124, 125, 126, 127, 128, 129, 130, 131, 132, 133] (by decide +kernel) (by decide +kernel)
set_option maxRecDepth 20000 in
theorem gX7_sumBy_X7_handlingBy : GoodIn wsX7_sumBy (wsV RX7 280 RX7 yX7_handlingBy wsX7_handlingBy) := goodIn_app (goodIn_of _ (by decide +kernel)) ggX7_sumBy_X7_handlingBy
set_option maxRecDepth 20000 in
theorem ggX7_sumBy_X2_minimumOf : GoodIn wsX7_sumBy wsX2_minimumOf := goodIn_r _ [106, 107, 67, 68, 61, 69, 70, 9, 71, 125, 126, 127, 128, 129, 130, 131, 132, 133] (by decide +kernel) (by decide +kernel)
set_option maxRecDepth 20000 in
theorem gX7_sumBy_X2_minimumOf : GoodIn wsX7_sumBy (wsV RX7 283 RX2 yX2_minimumOf wsX2_minimumOf) := goodIn_app (goodIn_of _ (by decide +kernel)) ggX7_sumBy_X2_minimumOf
theorem dX7_sumBy_0 : decode cX7_sumBy 0 = .ok (.aload_n 0, 1) := by decide +kernel
theorem dX7_sumBy_1 : decode cX7_sumBy 1 = .ok (.iload_n 1, 1) := by decide +kernel
theorem dX7_sumBy_2 : decode cX7_sumBy 2 = .ok (.iload_n 2, 1) := by decide +kernel
theorem dX7_sumBy_3 : decode cX7_sumBy 3 = .ok (.iload_n 3, 1) := by decide +kernel
theorem dX7_sumBy_4 : decode cX7_sumBy 4 = .ok (.invokevirtual 164, 3) := by decide +kernel
theorem dX7_sumBy_7 : decode cX7_sumBy 7 = .ok (.aload_n 0, 1) := by decide +kernel
theorem dX7_sumBy_8 : decode cX7_sumBy 8 = .ok (.iload_n 1, 1) := by decide +kernel
theorem dX7_sumBy_9 : decode cX7_sumBy 9 = .ok (.iload_n 2, 1) := by decide +kernel
theorem dX7_sumBy_10 : decode cX7_sumBy 10 = .ok (.iload_n 3, 1) := by decide +kernel
theorem dX7_sumBy_11 : decode cX7_sumBy 11 = .ok (.invokevirtual 280, 3) := by decide +kernel
theorem dX7_sumBy_14 : decode cX7_sumBy 14 = .ok (.iadd, 1) := by decide +kernel
theorem dX7_sumBy_15 : decode cX7_sumBy 15 = .ok (.istore 4, 2) := by decide +kernel
theorem dX7_sumBy_17 : decode cX7_sumBy 17 = .ok (.iload 4, 2) := by decide +kernel
theorem dX7_sumBy_19 : decode cX7_sumBy 19 = .ok (.aload_n 0, 1) := by decide +kernel
theorem dX7_sumBy_20 : decode cX7_sumBy 20 = .ok (.getfield 19, 3) := by decide +kernel
theorem dX7_sumBy_23 : decode cX7_sumBy 23 = .ok (.iload_n 1, 1) := by decide +kernel
theorem dX7_sumBy_24 : decode cX7_sumBy 24 = .ok (.invokevirtual 283, 3) := by decide +kernel
theorem dX7_sumBy_27 : decode cX7_sumBy 27 = .ok (.invokestatic 286, 3) := by decide +kernel
theorem dX7_sumBy_30 : decode cX7_sumBy 30 = .ok (.ireturn, 1) := by decide +kernel
set_option maxRecDepth 20000 in
theorem ggX7_storageBy_Jx4a65c_size_8abf5 : GoodIn wsX7_storageBy wsJx4a65c_size_8abf5 := goodIn_r _ [8, 9, 101, 102, 103] (by decide +kernel) (by decide +kernel)
set_option maxRecDepth 20000 in
theorem gX7_storageBy_Jx4a65c_size_8abf5 : GoodIn wsX7_storageBy (wsV RX7 95 RJx4a65c yJx4a65c_size_8abf5 wsJx4a65c_size_8abf5) := goodIn_app (goodIn_of _ (by decide +kernel)) ggX7_storageBy_Jx4a65c_size_8abf5
set_option maxRecDepth 20000 in
theorem ggX7_storageBy_Jx4a65c_get_915e3 : GoodIn wsX7_storageBy wsJx4a65c_get_915e3 := goodIn_r _ [13, 9, 14, 15, 16, 17, 18, 19, 20, 21, 22, 23, 24, 7, 25, 26, 101, 102, 103] (by decide +kernel) (by decide +kernel)
set_option maxRecDepth 20000 in
theorem gX7_storageBy_Jx4a65c_get_915e3 : GoodIn wsX7_storageBy (wsV RX7 111 RJx4a65c yJx4a65c_get_915e3 wsJx4a65c_get_915e3) := goodIn_app (goodIn_of _ (by decide +kernel)) ggX7_storageBy_Jx4a65c_get_915e3
set_option maxRecDepth 20000 in
theorem ggX7_storageBy_X7_storageOfUnit : GoodIn wsX7_storageBy wsX7_storageOfUnit := goodIn_r _ [31, 32, 33, 34, 35, 36, 37, 38, 3, 39, 40, 30, 41, 42, 43, 44, 45, 46, 47, 48, 49, 50, 51, 52, 53, 54, 55, 56, 57, 58, 59, 60, 61, 62, 63, 64, 65, 66, 67, 94, 95, 96, 97, 98, 99, 100, 87, 88, 89, 90, 91, 92, 93, 104, 105, 106, 107, 108, 109, 110, 111, 112] (by decide +kernel) (by decide +kernel)
set_option maxRecDepth 20000 in
theorem gX7_storageBy_X7_storageOfUnit : GoodIn wsX7_storageBy (wsV RX7 292 RX7 yX7_storageOfUnit wsX7_storageOfUnit) := goodIn_app (goodIn_of _ (by decide +kernel)) ggX7_storageBy_X7_storageOfUnit
set_option maxRecDepth 20000 in
theorem ggX7_storageBy_X7_unitDays : GoodIn wsX7_storageBy wsX7_unitDays := goodIn_r _ [71, 1, 2, 4, 5, 6, 7, 8, 9, 10, 11, 12, 13, 14, 15, 16, 17, 18, 19, 20, 21, 22, 23, 24, 25, 26, 39, 40, 30, 41, 42, 43, 44, 72, 73, 74, 48, 75, 76, 77, 37, 34, 38, 78, 53, 33, 35, 87, 88, 89, 90, 91, 92, 93, 94, 95, 96, 97, 98, 99, 100, 101, 102, 103] (by decide +kernel) (by decide +kernel)
set_option maxRecDepth 20000 in
theorem gX7_storageBy_X7_unitDays : GoodIn wsX7_storageBy (wsV RX7 156 RX7 yX7_unitDays wsX7_unitDays) := goodIn_app (goodIn_of _ (by decide +kernel)) ggX7_storageBy_X7_unitDays
set_option maxRecDepth 20000 in
theorem ggX7_storageBy_X2_percentFor : GoodIn wsX7_storageBy wsX2_percentFor := goodIn_r _ [82, 83, 84, 85, 86, 66, 30, 67, 104, 105, 106, 107, 108, 109, 110, 111, 112] (by decide +kernel) (by decide +kernel)
set_option maxRecDepth 20000 in
theorem gX7_storageBy_X2_percentFor : GoodIn wsX7_storageBy (wsV RX7 296 RX2 yX2_percentFor wsX2_percentFor) := goodIn_app (goodIn_of _ (by decide +kernel)) ggX7_storageBy_X2_percentFor
theorem dX7_storageBy_0 : decode cX7_storageBy 0 = .ok (.iconst 0, 1) := by decide +kernel
theorem dX7_storageBy_1 : decode cX7_storageBy 1 = .ok (.istore 4, 2) := by decide +kernel
theorem dX7_storageBy_3 : decode cX7_storageBy 3 = .ok (.iconst 0, 1) := by decide +kernel
theorem dX7_storageBy_4 : decode cX7_storageBy 4 = .ok (.istore 5, 2) := by decide +kernel
theorem dX7_storageBy_6 : decode cX7_storageBy 6 = .ok (.iload 5, 2) := by decide +kernel
theorem dX7_storageBy_8 : decode cX7_storageBy 8 = .ok (.aload_n 0, 1) := by decide +kernel
theorem dX7_storageBy_9 : decode cX7_storageBy 9 = .ok (.getfield 29, 3) := by decide +kernel
theorem dX7_storageBy_12 : decode cX7_storageBy 12 = .ok (.invokevirtual 95, 3) := by decide +kernel
theorem dX7_storageBy_15 : decode cX7_storageBy 15 = .ok (.if_icmp .ge 45, 3) := by decide +kernel
theorem dX7_storageBy_18 : decode cX7_storageBy 18 = .ok (.aload_n 0, 1) := by decide +kernel
theorem dX7_storageBy_19 : decode cX7_storageBy 19 = .ok (.getfield 29, 3) := by decide +kernel
theorem dX7_storageBy_22 : decode cX7_storageBy 22 = .ok (.iload 5, 2) := by decide +kernel
theorem dX7_storageBy_24 : decode cX7_storageBy 24 = .ok (.invokevirtual 111, 3) := by decide +kernel
theorem dX7_storageBy_27 : decode cX7_storageBy 27 = .ok (.checkcast 100, 3) := by decide +kernel
theorem dX7_storageBy_30 : decode cX7_storageBy 30 = .ok (.astore 6, 2) := by decide +kernel
theorem dX7_storageBy_32 : decode cX7_storageBy 32 = .ok (.aload 6, 2) := by decide +kernel
theorem dX7_storageBy_34 : decode cX7_storageBy 34 = .ok (.getfield 291, 3) := by decide +kernel
theorem dX7_storageBy_37 : decode cX7_storageBy 37 = .ok (.iload_n 2, 1) := by decide +kernel
theorem dX7_storageBy_38 : decode cX7_storageBy 38 = .ok (.if_icmp .ne 16, 3) := by decide +kernel
theorem dX7_storageBy_41 : decode cX7_storageBy 41 = .ok (.iload 4, 2) := by decide +kernel
theorem dX7_storageBy_43 : decode cX7_storageBy 43 = .ok (.aload_n 0, 1) := by decide +kernel
theorem dX7_storageBy_44 : decode cX7_storageBy 44 = .ok (.iload_n 1, 1) := by decide +kernel
theorem dX7_storageBy_45 : decode cX7_storageBy 45 = .ok (.aload 6, 2) := by decide +kernel
theorem dX7_storageBy_47 : decode cX7_storageBy 47 = .ok (.iload_n 3, 1) := by decide +kernel
theorem dX7_storageBy_48 : decode cX7_storageBy 48 = .ok (.invokevirtual 292, 3) := by decide +kernel
theorem dX7_storageBy_51 : decode cX7_storageBy 51 = .ok (.iadd, 1) := by decide +kernel
theorem dX7_storageBy_52 : decode cX7_storageBy 52 = .ok (.istore 4, 2) := by decide +kernel
theorem dX7_storageBy_54 : decode cX7_storageBy 54 = .ok (.iinc 5 1, 3) := by decide +kernel
theorem dX7_storageBy_57 : decode cX7_storageBy 57 = .ok (.goto (-51), 3) := by decide +kernel
theorem dX7_storageBy_60 : decode cX7_storageBy 60 = .ok (.aload_n 0, 1) := by decide +kernel
theorem dX7_storageBy_61 : decode cX7_storageBy 61 = .ok (.getfield 19, 3) := by decide +kernel
theorem dX7_storageBy_64 : decode cX7_storageBy 64 = .ok (.iload_n 1, 1) := by decide +kernel
theorem dX7_storageBy_65 : decode cX7_storageBy 65 = .ok (.aload_n 0, 1) := by decide +kernel
theorem dX7_storageBy_66 : decode cX7_storageBy 66 = .ok (.iload_n 2, 1) := by decide +kernel
theorem dX7_storageBy_67 : decode cX7_storageBy 67 = .ok (.iload_n 3, 1) := by decide +kernel
theorem dX7_storageBy_68 : decode cX7_storageBy 68 = .ok (.invokevirtual 156, 3) := by decide +kernel
theorem dX7_storageBy_71 : decode cX7_storageBy 71 = .ok (.invokevirtual 296, 3) := by decide +kernel
theorem dX7_storageBy_74 : decode cX7_storageBy 74 = .ok (.istore 5, 2) := by decide +kernel
theorem dX7_storageBy_76 : decode cX7_storageBy 76 = .ok (.iload 4, 2) := by decide +kernel
theorem dX7_storageBy_78 : decode cX7_storageBy 78 = .ok (.iload 4, 2) := by decide +kernel
theorem dX7_storageBy_80 : decode cX7_storageBy 80 = .ok (.iload 5, 2) := by decide +kernel
theorem dX7_storageBy_82 : decode cX7_storageBy 82 = .ok (.imul, 1) := by decide +kernel
theorem dX7_storageBy_83 : decode cX7_storageBy 83 = .ok (.bipush 100, 2) := by decide +kernel
theorem dX7_storageBy_85 : decode cX7_storageBy 85 = .ok (.idiv, 1) := by decide +kernel
theorem dX7_storageBy_86 : decode cX7_storageBy 86 = .ok (.isub, 1) := by decide +kernel
theorem dX7_storageBy_87 : decode cX7_storageBy 87 = .ok (.ireturn, 1) := by decide +kernel
set_option maxRecDepth 20000 in
theorem ggX7_storageOfUnit_X7_firstDayOf : GoodIn wsX7_storageOfUnit wsX7_firstDayOf := goodIn_r _ [12] (by decide +kernel) (by decide +kernel)
set_option maxRecDepth 20000 in
theorem gX7_storageOfUnit_X7_firstDayOf : GoodIn wsX7_storageOfUnit (va_wsS RX7 299 yX7_firstDayOf wsX7_firstDayOf) := goodIn_app (goodIn_of _ (by decide +kernel)) ggX7_storageOfUnit_X7_firstDayOf
set_option maxRecDepth 20000 in
theorem ggX7_storageOfUnit_X7_lastDayOf : GoodIn wsX7_storageOfUnit wsX7_lastDayOf := goodIn_r _ [15] (by decide +kernel) (by decide +kernel)
set_option maxRecDepth 20000 in
theorem gX7_storageOfUnit_X7_lastDayOf : GoodIn wsX7_storageOfUnit (va_wsS RX7 305 yX7_lastDayOf wsX7_lastDayOf) := goodIn_app (goodIn_of _ (by decide +kernel)) ggX7_storageOfUnit_X7_lastDayOf
set_option maxRecDepth 20000 in
theorem ggX7_storageOfUnit_X6_kindOn : GoodIn wsX7_storageOfUnit wsX6_kindOn := goodIn_r _ [20, 21, 22, 23, 24, 2, 3, 4, 39, 40, 41, 42, 43, 44, 45] (by decide +kernel) (by decide +kernel)
set_option maxRecDepth 20000 in
theorem gX7_storageOfUnit_X6_kindOn : GoodIn wsX7_storageOfUnit (wsV RX7 314 RX6 yX6_kindOn wsX6_kindOn) := goodIn_app (goodIn_of _ (by decide +kernel)) ggX7_storageOfUnit_X6_kindOn
set_option maxRecDepth 20000 in
theorem ggX7_storageOfUnit_X2_storageCents : GoodIn wsX7_storageOfUnit wsX2_storageCents := goodIn_r _ [29, 30, 31, 32, 28, 33, 34, 35, 36, 37, 11, 38, 53, 54, 55, 56, 57, 58, 59, 60, 61] (by decide +kernel) (by decide +kernel)
set_option maxRecDepth 20000 in
theorem gX7_storageOfUnit_X2_storageCents : GoodIn wsX7_storageOfUnit (wsV RX7 317 RX2 yX2_storageCents wsX2_storageCents) := goodIn_app (goodIn_of _ (by decide +kernel)) ggX7_storageOfUnit_X2_storageCents
theorem dX7_storageOfUnit_0 : decode cX7_storageOfUnit 0 = .ok (.iload_n 3, 1) := by decide +kernel
theorem dX7_storageOfUnit_1 : decode cX7_storageOfUnit 1 = .ok (.invokestatic 299, 3) := by decide +kernel
theorem dX7_storageOfUnit_4 : decode cX7_storageOfUnit 4 = .ok (.aload_n 2, 1) := by decide +kernel
theorem dX7_storageOfUnit_5 : decode cX7_storageOfUnit 5 = .ok (.getfield 302, 3) := by decide +kernel
theorem dX7_storageOfUnit_8 : decode cX7_storageOfUnit 8 = .ok (.invokestatic 286, 3) := by decide +kernel
theorem dX7_storageOfUnit_11 : decode cX7_storageOfUnit 11 = .ok (.istore 4, 2) := by decide +kernel
theorem dX7_storageOfUnit_13 : decode cX7_storageOfUnit 13 = .ok (.iload_n 3, 1) := by decide +kernel
theorem dX7_storageOfUnit_14 : decode cX7_storageOfUnit 14 = .ok (.invokestatic 305, 3) := by decide +kernel
theorem dX7_storageOfUnit_17 : decode cX7_storageOfUnit 17 = .ok (.aload_n 2, 1) := by decide +kernel
theorem dX7_storageOfUnit_18 : decode cX7_storageOfUnit 18 = .ok (.getfield 308, 3) := by decide +kernel
theorem dX7_storageOfUnit_21 : decode cX7_storageOfUnit 21 = .ok (.invokestatic 311, 3) := by decide +kernel
theorem dX7_storageOfUnit_24 : decode cX7_storageOfUnit 24 = .ok (.istore 5, 2) := by decide +kernel
theorem dX7_storageOfUnit_26 : decode cX7_storageOfUnit 26 = .ok (.iconst 0, 1) := by decide +kernel
theorem dX7_storageOfUnit_27 : decode cX7_storageOfUnit 27 = .ok (.istore 6, 2) := by decide +kernel
theorem dX7_storageOfUnit_29 : decode cX7_storageOfUnit 29 = .ok (.iload 4, 2) := by decide +kernel
theorem dX7_storageOfUnit_31 : decode cX7_storageOfUnit 31 = .ok (.istore 7, 2) := by decide +kernel
theorem dX7_storageOfUnit_33 : decode cX7_storageOfUnit 33 = .ok (.iload 7, 2) := by decide +kernel
theorem dX7_storageOfUnit_35 : decode cX7_storageOfUnit 35 = .ok (.iload 5, 2) := by decide +kernel
theorem dX7_storageOfUnit_37 : decode cX7_storageOfUnit 37 = .ok (.if_icmp .gt 28, 3) := by decide +kernel
theorem dX7_storageOfUnit_40 : decode cX7_storageOfUnit 40 = .ok (.iload 6, 2) := by decide +kernel
theorem dX7_storageOfUnit_42 : decode cX7_storageOfUnit 42 = .ok (.aload_n 0, 1) := by decide +kernel
theorem dX7_storageOfUnit_43 : decode cX7_storageOfUnit 43 = .ok (.getfield 19, 3) := by decide +kernel
theorem dX7_storageOfUnit_46 : decode cX7_storageOfUnit 46 = .ok (.iload_n 1, 1) := by decide +kernel
theorem dX7_storageOfUnit_47 : decode cX7_storageOfUnit 47 = .ok (.aload_n 2, 1) := by decide +kernel
theorem dX7_storageOfUnit_48 : decode cX7_storageOfUnit 48 = .ok (.iload 7, 2) := by decide +kernel
theorem dX7_storageOfUnit_50 : decode cX7_storageOfUnit 50 = .ok (.invokevirtual 314, 3) := by decide +kernel
theorem dX7_storageOfUnit_53 : decode cX7_storageOfUnit 53 = .ok (.invokevirtual 317, 3) := by decide +kernel
theorem dX7_storageOfUnit_56 : decode cX7_storageOfUnit 56 = .ok (.iadd, 1) := by decide +kernel
theorem dX7_storageOfUnit_57 : decode cX7_storageOfUnit 57 = .ok (.istore 6, 2) := by decide +kernel
theorem dX7_storageOfUnit_59 : decode cX7_storageOfUnit 59 = .ok (.iinc 7 1, 3) := by decide +kernel
theorem dX7_storageOfUnit_62 : decode cX7_storageOfUnit 62 = .ok (.goto (-29), 3) := by decide +kernel
theorem dX7_storageOfUnit_65 : decode cX7_storageOfUnit 65 = .ok (.iload 6, 2) := by decide +kernel
theorem dX7_storageOfUnit_67 : decode cX7_storageOfUnit 67 = .ok (.ireturn, 1) := by decide +kernel
set_option maxRecDepth 20000 in
theorem ggX7_handlingBy_Jx4a65c_size_8abf5 : GoodIn wsX7_handlingBy wsJx4a65c_size_8abf5 := goodIn_r _ [8, 9, 60, 61, 62] (by decide +kernel) (by decide +kernel)
set_option maxRecDepth 20000 in
theorem gX7_handlingBy_Jx4a65c_size_8abf5 : GoodIn wsX7_handlingBy (wsV RX7 95 RJx4a65c yJx4a65c_size_8abf5 wsJx4a65c_size_8abf5) := goodIn_app (goodIn_of _ (by decide +kernel)) ggX7_handlingBy_Jx4a65c_size_8abf5
set_option maxRecDepth 20000 in
theorem ggX7_handlingBy_Jx4a65c_get_915e3 : GoodIn wsX7_handlingBy wsJx4a65c_get_915e3 := goodIn_r _ [13, 9, 14, 15, 16, 17, 18, 19, 20, 21, 22, 23, 24, 7, 25, 26, 60, 61, 62] (by decide +kernel) (by decide +kernel)
set_option maxRecDepth 20000 in
theorem gX7_handlingBy_Jx4a65c_get_915e3 : GoodIn wsX7_handlingBy (wsV RX7 111 RJx4a65c yJx4a65c_get_915e3 wsJx4a65c_get_915e3) := goodIn_app (goodIn_of _ (by decide +kernel)) ggX7_handlingBy_Jx4a65c_get_915e3
set_option maxRecDepth 20000 in
theorem ggX7_handlingBy_X7_firstDayOf : GoodIn wsX7_handlingBy wsX7_firstDayOf := goodIn_r _ [30] (by decide +kernel) (by decide +kernel)
set_option maxRecDepth 20000 in
theorem gX7_handlingBy_X7_firstDayOf : GoodIn wsX7_handlingBy (va_wsS RX7 299 yX7_firstDayOf wsX7_firstDayOf) := goodIn_app (goodIn_of _ (by decide +kernel)) ggX7_handlingBy_X7_firstDayOf
set_option maxRecDepth 20000 in
theorem ggX7_handlingBy_X7_lastDayOf : GoodIn wsX7_handlingBy wsX7_lastDayOf := goodIn_r _ [33] (by decide +kernel) (by decide +kernel)
set_option maxRecDepth 20000 in
theorem gX7_handlingBy_X7_lastDayOf : GoodIn wsX7_handlingBy (va_wsS RX7 305 yX7_lastDayOf wsX7_lastDayOf) := goodIn_app (goodIn_of _ (by decide +kernel)) ggX7_handlingBy_X7_lastDayOf
set_option maxRecDepth 20000 in
theorem ggX7_handlingBy_X7_isWithin : GoodIn wsX7_handlingBy wsX7_isWithin := goodIn_r _ [36] (by decide +kernel) (by decide +kernel)
set_option maxRecDepth 20000 in
theorem gX7_handlingBy_X7_isWithin : GoodIn wsX7_handlingBy (va_wsS RX7 50 yX7_isWithin wsX7_isWithin) := goodIn_app (goodIn_of _ (by decide +kernel)) ggX7_handlingBy_X7_isWithin
set_option maxRecDepth 20000 in
theorem ggX7_handlingBy_X2_handlingCents : GoodIn wsX7_handlingBy wsX2_handlingCents := goodIn_r _ [41, 42, 43, 44, 40, 45, 46, 47, 48, 35, 29, 36, 63, 64, 65, 66, 67, 68, 69, 70, 71] (by decide +kernel) (by decide +kernel)
set_option maxRecDepth 20000 in
theorem gX7_handlingBy_X2_handlingCents : GoodIn wsX7_handlingBy (wsV RX7 329 RX2 yX2_handlingCents wsX2_handlingCents) := goodIn_app (goodIn_of _ (by decide +kernel)) ggX7_handlingBy_X2_handlingCents
theorem dX7_handlingBy_0 : decode cX7_handlingBy 0 = .ok (.iconst 0, 1) := by decide +kernel
theorem dX7_handlingBy_1 : decode cX7_handlingBy 1 = .ok (.istore 4, 2) := by decide +kernel
theorem dX7_handlingBy_3 : decode cX7_handlingBy 3 = .ok (.iconst 0, 1) := by decide +kernel
theorem dX7_handlingBy_4 : decode cX7_handlingBy 4 = .ok (.istore 5, 2) := by decide +kernel
theorem dX7_handlingBy_6 : decode cX7_handlingBy 6 = .ok (.iload 5, 2) := by decide +kernel
theorem dX7_handlingBy_8 : decode cX7_handlingBy 8 = .ok (.aload_n 0, 1) := by decide +kernel
theorem dX7_handlingBy_9 : decode cX7_handlingBy 9 = .ok (.getfield 33, 3) := by decide +kernel
theorem dX7_handlingBy_12 : decode cX7_handlingBy 12 = .ok (.invokevirtual 95, 3) := by decide +kernel
theorem dX7_handlingBy_15 : decode cX7_handlingBy 15 = .ok (.if_icmp .ge 75, 3) := by decide +kernel
theorem dX7_handlingBy_18 : decode cX7_handlingBy 18 = .ok (.aload_n 0, 1) := by decide +kernel
theorem dX7_handlingBy_19 : decode cX7_handlingBy 19 = .ok (.getfield 33, 3) := by decide +kernel
theorem dX7_handlingBy_22 : decode cX7_handlingBy 22 = .ok (.iload 5, 2) := by decide +kernel
theorem dX7_handlingBy_24 : decode cX7_handlingBy 24 = .ok (.invokevirtual 111, 3) := by decide +kernel
theorem dX7_handlingBy_27 : decode cX7_handlingBy 27 = .ok (.checkcast 140, 3) := by decide +kernel
theorem dX7_handlingBy_30 : decode cX7_handlingBy 30 = .ok (.astore 6, 2) := by decide +kernel
theorem dX7_handlingBy_32 : decode cX7_handlingBy 32 = .ok (.aload 6, 2) := by decide +kernel
theorem dX7_handlingBy_34 : decode cX7_handlingBy 34 = .ok (.getfield 279, 3) := by decide +kernel
theorem dX7_handlingBy_37 : decode cX7_handlingBy 37 = .ok (.iload_n 2, 1) := by decide +kernel
theorem dX7_handlingBy_38 : decode cX7_handlingBy 38 = .ok (.if_icmp .ne 46, 3) := by decide +kernel
theorem dX7_handlingBy_41 : decode cX7_handlingBy 41 = .ok (.aload 6, 2) := by decide +kernel
theorem dX7_handlingBy_43 : decode cX7_handlingBy 43 = .ok (.getfield 320, 3) := by decide +kernel
theorem dX7_handlingBy_46 : decode cX7_handlingBy 46 = .ok (.iload_n 3, 1) := by decide +kernel
theorem dX7_handlingBy_47 : decode cX7_handlingBy 47 = .ok (.invokestatic 299, 3) := by decide +kernel
theorem dX7_handlingBy_50 : decode cX7_handlingBy 50 = .ok (.iload_n 3, 1) := by decide +kernel
theorem dX7_handlingBy_51 : decode cX7_handlingBy 51 = .ok (.invokestatic 305, 3) := by decide +kernel
theorem dX7_handlingBy_54 : decode cX7_handlingBy 54 = .ok (.invokestatic 50, 3) := by decide +kernel
theorem dX7_handlingBy_57 : decode cX7_handlingBy 57 = .ok (.ifCond .eq 27, 3) := by decide +kernel
theorem dX7_handlingBy_60 : decode cX7_handlingBy 60 = .ok (.iload 4, 2) := by decide +kernel
theorem dX7_handlingBy_62 : decode cX7_handlingBy 62 = .ok (.aload 6, 2) := by decide +kernel
theorem dX7_handlingBy_64 : decode cX7_handlingBy 64 = .ok (.getfield 323, 3) := by decide +kernel
theorem dX7_handlingBy_67 : decode cX7_handlingBy 67 = .ok (.aload_n 0, 1) := by decide +kernel
theorem dX7_handlingBy_68 : decode cX7_handlingBy 68 = .ok (.getfield 19, 3) := by decide +kernel
theorem dX7_handlingBy_71 : decode cX7_handlingBy 71 = .ok (.iload_n 1, 1) := by decide +kernel
theorem dX7_handlingBy_72 : decode cX7_handlingBy 72 = .ok (.aload 6, 2) := by decide +kernel
theorem dX7_handlingBy_74 : decode cX7_handlingBy 74 = .ok (.getfield 326, 3) := by decide +kernel
theorem dX7_handlingBy_77 : decode cX7_handlingBy 77 = .ok (.invokevirtual 329, 3) := by decide +kernel
theorem dX7_handlingBy_80 : decode cX7_handlingBy 80 = .ok (.imul, 1) := by decide +kernel
theorem dX7_handlingBy_81 : decode cX7_handlingBy 81 = .ok (.iadd, 1) := by decide +kernel
theorem dX7_handlingBy_82 : decode cX7_handlingBy 82 = .ok (.istore 4, 2) := by decide +kernel
theorem dX7_handlingBy_84 : decode cX7_handlingBy 84 = .ok (.iinc 5 1, 3) := by decide +kernel
theorem dX7_handlingBy_87 : decode cX7_handlingBy 87 = .ok (.goto (-81), 3) := by decide +kernel
theorem dX7_handlingBy_90 : decode cX7_handlingBy 90 = .ok (.iload 4, 2) := by decide +kernel
theorem dX7_handlingBy_92 : decode cX7_handlingBy 92 = .ok (.ireturn, 1) := by decide +kernel
set_option maxRecDepth 20000 in
theorem ggX7_unitDays_Jx4a65c_size_8abf5 : GoodIn wsX7_unitDays wsJx4a65c_size_8abf5 := goodIn_r _ [7, 8, 61, 62, 63] (by decide +kernel) (by decide +kernel)
set_option maxRecDepth 20000 in
theorem gX7_unitDays_Jx4a65c_size_8abf5 : GoodIn wsX7_unitDays (wsV RX7 95 RJx4a65c yJx4a65c_size_8abf5 wsJx4a65c_size_8abf5) := goodIn_app (goodIn_of _ (by decide +kernel)) ggX7_unitDays_Jx4a65c_size_8abf5
set_option maxRecDepth 20000 in
theorem ggX7_unitDays_Jx4a65c_get_915e3 : GoodIn wsX7_unitDays wsJx4a65c_get_915e3 := goodIn_r _ [12, 8, 13, 14, 15, 16, 17, 18, 19, 20, 21, 22, 23, 6, 24, 25, 61, 62, 63] (by decide +kernel) (by decide +kernel)
set_option maxRecDepth 20000 in
theorem gX7_unitDays_Jx4a65c_get_915e3 : GoodIn wsX7_unitDays (wsV RX7 111 RJx4a65c yJx4a65c_get_915e3 wsJx4a65c_get_915e3) := goodIn_app (goodIn_of _ (by decide +kernel)) ggX7_unitDays_Jx4a65c_get_915e3
set_option maxRecDepth 20000 in
theorem ggX7_unitDays_X7_firstDayOf : GoodIn wsX7_unitDays wsX7_firstDayOf := goodIn_r _ [29] (by decide +kernel) (by decide +kernel)
set_option maxRecDepth 20000 in
theorem gX7_unitDays_X7_firstDayOf : GoodIn wsX7_unitDays (va_wsS RX7 299 yX7_firstDayOf wsX7_firstDayOf) := goodIn_app (goodIn_of _ (by decide +kernel)) ggX7_unitDays_X7_firstDayOf
set_option maxRecDepth 20000 in
theorem ggX7_unitDays_X7_lastDayOf : GoodIn wsX7_unitDays wsX7_lastDayOf := goodIn_r _ [32] (by decide +kernel) (by decide +kernel)
set_option maxRecDepth 20000 in
theorem gX7_unitDays_X7_lastDayOf : GoodIn wsX7_unitDays (va_wsS RX7 305 yX7_lastDayOf wsX7_lastDayOf) := goodIn_app (goodIn_of _ (by decide +kernel)) ggX7_unitDays_X7_lastDayOf
set_option maxRecDepth 20000 in
theorem ggX7_unitDays_X6_daysThere : GoodIn wsX7_unitDays wsX6_daysThere := goodIn_r _ [37, 38, 39, 40, 41, 42, 43, 44, 45, 46, 54, 55, 56, 57, 58, 59, 60] (by decide +kernel) (by decide +kernel)
set_option maxRecDepth 20000 in
theorem gX7_unitDays_X6_daysThere : GoodIn wsX7_unitDays (wsV RX7 132 RX6 yX6_daysThere wsX6_daysThere) := goodIn_app (goodIn_of _ (by decide +kernel)) ggX7_unitDays_X6_daysThere
theorem dX7_unitDays_0 : decode cX7_unitDays 0 = .ok (.iconst 0, 1) := by decide +kernel
theorem dX7_unitDays_1 : decode cX7_unitDays 1 = .ok (.istore_n 3, 1) := by decide +kernel
theorem dX7_unitDays_2 : decode cX7_unitDays 2 = .ok (.iconst 0, 1) := by decide +kernel
theorem dX7_unitDays_3 : decode cX7_unitDays 3 = .ok (.istore 4, 2) := by decide +kernel
theorem dX7_unitDays_5 : decode cX7_unitDays 5 = .ok (.iload 4, 2) := by decide +kernel
theorem dX7_unitDays_7 : decode cX7_unitDays 7 = .ok (.aload_n 0, 1) := by decide +kernel
theorem dX7_unitDays_8 : decode cX7_unitDays 8 = .ok (.getfield 29, 3) := by decide +kernel
theorem dX7_unitDays_11 : decode cX7_unitDays 11 = .ok (.invokevirtual 95, 3) := by decide +kernel
theorem dX7_unitDays_14 : decode cX7_unitDays 14 = .ok (.if_icmp .ge 48, 3) := by decide +kernel
theorem dX7_unitDays_17 : decode cX7_unitDays 17 = .ok (.aload_n 0, 1) := by decide +kernel
theorem dX7_unitDays_18 : decode cX7_unitDays 18 = .ok (.getfield 29, 3) := by decide +kernel
theorem dX7_unitDays_21 : decode cX7_unitDays 21 = .ok (.iload 4, 2) := by decide +kernel
theorem dX7_unitDays_23 : decode cX7_unitDays 23 = .ok (.invokevirtual 111, 3) := by decide +kernel
theorem dX7_unitDays_26 : decode cX7_unitDays 26 = .ok (.checkcast 100, 3) := by decide +kernel
theorem dX7_unitDays_29 : decode cX7_unitDays 29 = .ok (.astore 5, 2) := by decide +kernel
theorem dX7_unitDays_31 : decode cX7_unitDays 31 = .ok (.aload 5, 2) := by decide +kernel
theorem dX7_unitDays_33 : decode cX7_unitDays 33 = .ok (.getfield 291, 3) := by decide +kernel
theorem dX7_unitDays_36 : decode cX7_unitDays 36 = .ok (.iload_n 1, 1) := by decide +kernel
theorem dX7_unitDays_37 : decode cX7_unitDays 37 = .ok (.if_icmp .ne 19, 3) := by decide +kernel
theorem dX7_unitDays_40 : decode cX7_unitDays 40 = .ok (.iload_n 3, 1) := by decide +kernel
theorem dX7_unitDays_41 : decode cX7_unitDays 41 = .ok (.aload 5, 2) := by decide +kernel
theorem dX7_unitDays_43 : decode cX7_unitDays 43 = .ok (.iload_n 2, 1) := by decide +kernel
theorem dX7_unitDays_44 : decode cX7_unitDays 44 = .ok (.invokestatic 299, 3) := by decide +kernel
theorem dX7_unitDays_47 : decode cX7_unitDays 47 = .ok (.iload_n 2, 1) := by decide +kernel
theorem dX7_unitDays_48 : decode cX7_unitDays 48 = .ok (.invokestatic 305, 3) := by decide +kernel
theorem dX7_unitDays_51 : decode cX7_unitDays 51 = .ok (.invokevirtual 132, 3) := by decide +kernel
theorem dX7_unitDays_54 : decode cX7_unitDays 54 = .ok (.iadd, 1) := by decide +kernel
theorem dX7_unitDays_55 : decode cX7_unitDays 55 = .ok (.istore_n 3, 1) := by decide +kernel
theorem dX7_unitDays_56 : decode cX7_unitDays 56 = .ok (.iinc 4 1, 3) := by decide +kernel
theorem dX7_unitDays_59 : decode cX7_unitDays 59 = .ok (.goto (-54), 3) := by decide +kernel
theorem dX7_unitDays_62 : decode cX7_unitDays 62 = .ok (.iload_n 3, 1) := by decide +kernel
theorem dX7_unitDays_63 : decode cX7_unitDays 63 = .ok (.ireturn, 1) := by decide +kernel
theorem dX7_firstDayOf_0 : decode cX7_firstDayOf 0 = .ok (.bipush 30, 2) := by decide +kernel
theorem dX7_firstDayOf_2 : decode cX7_firstDayOf 2 = .ok (.iload_n 0, 1) := by decide +kernel
theorem dX7_firstDayOf_3 : decode cX7_firstDayOf 3 = .ok (.imul, 1) := by decide +kernel
theorem dX7_firstDayOf_4 : decode cX7_firstDayOf 4 = .ok (.ireturn, 1) := by decide +kernel
theorem dX7_lastDayOf_0 : decode cX7_lastDayOf 0 = .ok (.bipush 30, 2) := by decide +kernel
theorem dX7_lastDayOf_2 : decode cX7_lastDayOf 2 = .ok (.iload_n 0, 1) := by decide +kernel
theorem dX7_lastDayOf_3 : decode cX7_lastDayOf 3 = .ok (.imul, 1) := by decide +kernel
theorem dX7_lastDayOf_4 : decode cX7_lastDayOf 4 = .ok (.bipush 30, 2) := by decide +kernel
theorem dX7_lastDayOf_6 : decode cX7_lastDayOf 6 = .ok (.iadd, 1) := by decide +kernel
theorem dX7_lastDayOf_7 : decode cX7_lastDayOf 7 = .ok (.iconst 1, 1) := by decide +kernel
theorem dX7_lastDayOf_8 : decode cX7_lastDayOf 8 = .ok (.isub, 1) := by decide +kernel
theorem dX7_lastDayOf_9 : decode cX7_lastDayOf 9 = .ok (.ireturn, 1) := by decide +kernel
