set_option maxRecDepth 20000 in
theorem ggX6_copyFrom_X4_copyFrom : GoodIn wsX6_copyFrom wsX4_copyFrom := goodIn_r _ [10, 11, 12, 13, 14, 15, 16, 17, 18, 19, 20, 21, 62, 63, 64, 65, 66, 67, 68] (by decide +kernel) (by decide +kernel)
set_option maxRecDepth 20000 in
theorem gX6_copyFrom_X4_copyFrom : GoodIn wsX6_copyFrom (wsV RX6 43 RX4 yX4_copyFrom wsX4_copyFrom) := goodIn_app (goodIn_of _ (by decide +kernel)) ggX6_copyFrom_X4_copyFrom
set_option maxRecDepth 20000 in
theorem ggX6_copyFrom_X0_copyFrom : GoodIn wsX6_copyFrom wsX0_copyFrom := goodIn_r _ [26, 27, 28, 29, 14, 15, 16, 30, 31, 32, 69, 70, 71, 72, 73, 74] (by decide +kernel) (by decide +kernel)
set_option maxRecDepth 20000 in
theorem gX6_copyFrom_X0_copyFrom : GoodIn wsX6_copyFrom (wsV RX6 47 RX0 yX0_copyFrom wsX0_copyFrom) := goodIn_app (goodIn_of _ (by decide +kernel)) ggX6_copyFrom_X0_copyFrom
set_option maxRecDepth 20000 in
theorem ggX6_copyFrom_X1_copyFrom : GoodIn wsX6_copyFrom wsX1_copyFrom := goodIn_r _ [37, 38, 39, 40, 14, 15, 16, 41, 42, 43, 44, 75, 76, 77, 78, 79, 80] (by decide +kernel) (by decide +kernel)
set_option maxRecDepth 20000 in
theorem gX6_copyFrom_X1_copyFrom : GoodIn wsX6_copyFrom (wsV RX6 50 RX1 yX1_copyFrom wsX1_copyFrom) := goodIn_app (goodIn_of _ (by decide +kernel)) ggX6_copyFrom_X1_copyFrom
set_option maxRecDepth 20000 in
theorem ggX6_copyFrom_X3_copyFrom : GoodIn wsX6_copyFrom wsX3_copyFrom := goodIn_r _ [49, 50, 51, 52, 53, 14, 15, 16, 54, 55, 56, 81, 82, 83, 84, 85, 86] (by decide +kernel) (by decide +kernel)
set_option maxRecDepth 20000 in
theorem gX6_copyFrom_X3_copyFrom : GoodIn wsX6_copyFrom (wsV RX6 53 RX3 yX3_copyFrom wsX3_copyFrom) := goodIn_app (goodIn_of _ (by decide +kernel)) ggX6_copyFrom_X3_copyFrom
theorem dX6_copyFrom_0 : decode cX6_copyFrom 0 = .ok (.aload_n 0, 1) := by decide +kernel
theorem dX6_copyFrom_1 : decode cX6_copyFrom 1 = .ok (.aload_n 1, 1) := by decide +kernel
theorem dX6_copyFrom_2 : decode cX6_copyFrom 2 = .ok (.getfield 9, 3) := by decide +kernel
theorem dX6_copyFrom_5 : decode cX6_copyFrom 5 = .ok (.putfield 9, 3) := by decide +kernel
theorem dX6_copyFrom_8 : decode cX6_copyFrom 8 = .ok (.aload_n 0, 1) := by decide +kernel
theorem dX6_copyFrom_9 : decode cX6_copyFrom 9 = .ok (.getfield 18, 3) := by decide +kernel
theorem dX6_copyFrom_12 : decode cX6_copyFrom 12 = .ok (.aload_n 1, 1) := by decide +kernel
theorem dX6_copyFrom_13 : decode cX6_copyFrom 13 = .ok (.getfield 18, 3) := by decide +kernel
theorem dX6_copyFrom_16 : decode cX6_copyFrom 16 = .ok (.invokevirtual 43, 3) := by decide +kernel
theorem dX6_copyFrom_19 : decode cX6_copyFrom 19 = .ok (.aload_n 0, 1) := by decide +kernel
theorem dX6_copyFrom_20 : decode cX6_copyFrom 20 = .ok (.getfield 25, 3) := by decide +kernel
theorem dX6_copyFrom_23 : decode cX6_copyFrom 23 = .ok (.aload_n 1, 1) := by decide +kernel
theorem dX6_copyFrom_24 : decode cX6_copyFrom 24 = .ok (.getfield 25, 3) := by decide +kernel
theorem dX6_copyFrom_27 : decode cX6_copyFrom 27 = .ok (.invokevirtual 47, 3) := by decide +kernel
theorem dX6_copyFrom_30 : decode cX6_copyFrom 30 = .ok (.aload_n 0, 1) := by decide +kernel
theorem dX6_copyFrom_31 : decode cX6_copyFrom 31 = .ok (.getfield 32, 3) := by decide +kernel
theorem dX6_copyFrom_34 : decode cX6_copyFrom 34 = .ok (.aload_n 1, 1) := by decide +kernel
theorem dX6_copyFrom_35 : decode cX6_copyFrom 35 = .ok (.getfield 32, 3) := by decide +kernel
theorem dX6_copyFrom_38 : decode cX6_copyFrom 38 = .ok (.invokevirtual 50, 3) := by decide +kernel
theorem dX6_copyFrom_41 : decode cX6_copyFrom 41 = .ok (.aload_n 0, 1) := by decide +kernel
theorem dX6_copyFrom_42 : decode cX6_copyFrom 42 = .ok (.getfield 39, 3) := by decide +kernel
theorem dX6_copyFrom_45 : decode cX6_copyFrom 45 = .ok (.aload_n 1, 1) := by decide +kernel
theorem dX6_copyFrom_46 : decode cX6_copyFrom 46 = .ok (.getfield 39, 3) := by decide +kernel
theorem dX6_copyFrom_49 : decode cX6_copyFrom 49 = .ok (.invokevirtual 53, 3) := by decide +kernel
theorem dX6_copyFrom_52 : decode cX6_copyFrom 52 = .ok (.return_, 1) := by decide +kernel
theorem dX6_empty_0 : decode cX6_empty 0 = .ok (.aload_n 0, 1) := by decide +kernel
theorem dX6_empty_1 : decode cX6_empty 1 = .ok (.iconst 0, 1) := by decide +kernel
theorem dX6_empty_2 : decode cX6_empty 2 = .ok (.putfield 9, 3) := by decide +kernel
theorem dX6_empty_5 : decode cX6_empty 5 = .ok (.aload_n 0, 1) := by decide +kernel
theorem dX6_empty_6 : decode cX6_empty 6 = .ok (.getfield 18, 3) := by decide +kernel
theorem dX6_empty_9 : decode cX6_empty 9 = .ok (.iconst 0, 1) := by decide +kernel
theorem dX6_empty_10 : decode cX6_empty 10 = .ok (.putfield 56, 3) := by decide +kernel
theorem dX6_empty_13 : decode cX6_empty 13 = .ok (.aload_n 0, 1) := by decide +kernel
theorem dX6_empty_14 : decode cX6_empty 14 = .ok (.getfield 25, 3) := by decide +kernel
theorem dX6_empty_17 : decode cX6_empty 17 = .ok (.iconst 0, 1) := by decide +kernel
theorem dX6_empty_18 : decode cX6_empty 18 = .ok (.putfield 59, 3) := by decide +kernel
theorem dX6_empty_21 : decode cX6_empty 21 = .ok (.aload_n 0, 1) := by decide +kernel
theorem dX6_empty_22 : decode cX6_empty 22 = .ok (.getfield 32, 3) := by decide +kernel
theorem dX6_empty_25 : decode cX6_empty 25 = .ok (.iconst 0, 1) := by decide +kernel
theorem dX6_empty_26 : decode cX6_empty 26 = .ok (.putfield 60, 3) := by decide +kernel
theorem dX6_empty_29 : decode cX6_empty 29 = .ok (.aload_n 0, 1) := by decide +kernel
theorem dX6_empty_30 : decode cX6_empty 30 = .ok (.getfield 39, 3) := by decide +kernel
theorem dX6_empty_33 : decode cX6_empty 33 = .ok (.iconst 0, 1) := by decide +kernel
theorem dX6_empty_34 : decode cX6_empty 34 = .ok (.putfield 61, 3) := by decide +kernel
theorem dX6_empty_37 : decode cX6_empty 37 = .ok (.aload_n 0, 1) := by decide +kernel
theorem dX6_empty_38 : decode cX6_empty 38 = .ok (.getfield 39, 3) := by decide +kernel
theorem dX6_empty_41 : decode cX6_empty 41 = .ok (.iconst 0, 1) := by decide +kernel
theorem dX6_empty_42 : decode cX6_empty 42 = .ok (.putfield 62, 3) := by decide +kernel
theorem dX6_empty_45 : decode cX6_empty 45 = .ok (.return_, 1) := by decide +kernel
set_option maxRecDepth 20000 in
theorem ggX6_holderAt_X4_has : GoodIn wsX6_holderAt wsX4_has := goodIn_r _ [8, 9, 29, 30, 31, 32, 33, 34, 35] (by decide +kernel) (by decide +kernel)
set_option maxRecDepth 20000 in
theorem gX6_holderAt_X4_has : GoodIn wsX6_holderAt (wsV RX6 65 RX4 yX4_has wsX4_has) := goodIn_app (goodIn_of _ (by decide +kernel)) ggX6_holderAt_X4_has
set_option maxRecDepth 20000 in
theorem ggX6_holderAt_X0_rowsUpTo : GoodIn wsX6_holderAt wsX0_rowsUpTo := goodIn_ca (goodIn_r _ [14, 15, 16, 36, 37, 38, 39, 40, 41] (by decide +kernel) (by decide +kernel)) (goodIn_sub (fun _ h => List.mem_cons_of_mem _ (List.mem_append_right _ h)) (by decide +kernel))
set_option maxRecDepth 20000 in
theorem gX6_holderAt_X0_rowsUpTo : GoodIn wsX6_holderAt (wsV RX6 73 RX0 yX0_rowsUpTo wsX0_rowsUpTo) := goodIn_app (goodIn_of _ (by decide +kernel)) ggX6_holderAt_X0_rowsUpTo
set_option maxRecDepth 20000 in
theorem ggX6_holderAt_X0_holderBehind : GoodIn wsX6_holderAt wsX0_holderBehind := goodIn_ca (goodIn_r _ [20, 15, 21, 22, 23, 36, 37, 38, 39, 40, 41] (by decide +kernel) (by decide +kernel)) (goodIn_sub (fun _ h => List.mem_cons_of_mem _ (List.mem_append_right _ h)) (by decide +kernel))
set_option maxRecDepth 20000 in
theorem gX6_holderAt_X0_holderBehind : GoodIn wsX6_holderAt (wsV RX6 77 RX0 yX0_holderBehind wsX0_holderBehind) := goodIn_app (goodIn_of _ (by decide +kernel)) ggX6_holderAt_X0_holderBehind
theorem dX6_holderAt_0 : decode cX6_holderAt 0 = .ok (.aload_n 0, 1) := by decide +kernel
theorem dX6_holderAt_1 : decode cX6_holderAt 1 = .ok (.getfield 18, 3) := by decide +kernel
theorem dX6_holderAt_4 : decode cX6_holderAt 4 = .ok (.iload_n 1, 1) := by decide +kernel
theorem dX6_holderAt_5 : decode cX6_holderAt 5 = .ok (.invokevirtual 65, 3) := by decide +kernel
theorem dX6_holderAt_8 : decode cX6_holderAt 8 = .ok (.ifCond .ne 5, 3) := by decide +kernel
theorem dX6_holderAt_11 : decode cX6_holderAt 11 = .ok (.iconst (-1), 1) := by decide +kernel
theorem dX6_holderAt_12 : decode cX6_holderAt 12 = .ok (.ireturn, 1) := by decide +kernel
theorem dX6_holderAt_13 : decode cX6_holderAt 13 = .ok (.aload_n 0, 1) := by decide +kernel
theorem dX6_holderAt_14 : decode cX6_holderAt 14 = .ok (.getfield 25, 3) := by decide +kernel
theorem dX6_holderAt_17 : decode cX6_holderAt 17 = .ok (.iload_n 1, 1) := by decide +kernel
theorem dX6_holderAt_18 : decode cX6_holderAt 18 = .ok (.aload_n 0, 1) := by decide +kernel
theorem dX6_holderAt_19 : decode cX6_holderAt 19 = .ok (.getfield 18, 3) := by decide +kernel
theorem dX6_holderAt_22 : decode cX6_holderAt 22 = .ok (.getfield 69, 3) := by decide +kernel
theorem dX6_holderAt_25 : decode cX6_holderAt 25 = .ok (.iload_n 1, 1) := by decide +kernel
theorem dX6_holderAt_26 : decode cX6_holderAt 26 = .ok (.iaload, 1) := by decide +kernel
theorem dX6_holderAt_27 : decode cX6_holderAt 27 = .ok (.aload_n 0, 1) := by decide +kernel
theorem dX6_holderAt_28 : decode cX6_holderAt 28 = .ok (.getfield 25, 3) := by decide +kernel
theorem dX6_holderAt_31 : decode cX6_holderAt 31 = .ok (.iload_n 2, 1) := by decide +kernel
theorem dX6_holderAt_32 : decode cX6_holderAt 32 = .ok (.invokevirtual 73, 3) := by decide +kernel
theorem dX6_holderAt_35 : decode cX6_holderAt 35 = .ok (.invokevirtual 77, 3) := by decide +kernel
theorem dX6_holderAt_38 : decode cX6_holderAt 38 = .ok (.ireturn, 1) := by decide +kernel
set_option maxRecDepth 20000 in
theorem ggX6_holderNow_X6_holderAt : GoodIn wsX6_holderNow wsX6_holderAt := goodIn_ca (goodIn_r _ [5, 6, 7, 8, 9, 10, 11, 12, 13, 14, 15, 16, 17, 18, 19, 20, 21, 22, 23, 24, 25, 26, 27, 28, 29, 30, 31, 32, 33, 34, 35, 36, 37, 38, 39, 40, 41, 42, 43, 44, 45, 46] (by decide +kernel) (by decide +kernel)) (goodIn_sub (fun _ h => List.mem_cons_of_mem _ (List.mem_append_right _ h)) (by decide +kernel))
set_option maxRecDepth 20000 in
theorem gX6_holderNow_X6_holderAt : GoodIn wsX6_holderNow (wsV RX6 81 RX6 yX6_holderAt wsX6_holderAt) := goodIn_app (goodIn_of _ (by decide +kernel)) ggX6_holderNow_X6_holderAt
theorem dX6_holderNow_0 : decode cX6_holderNow 0 = .ok (.aload_n 0, 1) := by decide +kernel
theorem dX6_holderNow_1 : decode cX6_holderNow 1 = .ok (.iload_n 1, 1) := by decide +kernel
theorem dX6_holderNow_2 : decode cX6_holderNow 2 = .ok (.sipush 9999, 3) := by decide +kernel
theorem dX6_holderNow_5 : decode cX6_holderNow 5 = .ok (.invokevirtual 81, 3) := by decide +kernel
theorem dX6_holderNow_8 : decode cX6_holderNow 8 = .ok (.ireturn, 1) := by decide +kernel
set_option maxRecDepth 20000 in
theorem ggX6_wasThere_X4_has : GoodIn wsX6_wasThere wsX4_has := goodIn_r _ [9, 10, 25, 26, 27, 28, 29, 30, 31] (by decide +kernel) (by decide +kernel)
set_option maxRecDepth 20000 in
theorem gX6_wasThere_X4_has : GoodIn wsX6_wasThere (wsV RX6 65 RX4 yX4_has wsX4_has) := goodIn_app (goodIn_of _ (by decide +kernel)) ggX6_wasThere_X4_has
set_option maxRecDepth 20000 in
theorem ggX6_wasThere_X4_isPresent : GoodIn wsX6_wasThere wsX4_isPresent := goodIn_ca (goodIn_r _ [14, 15, 16, 6, 7, 8, 9, 10, 25, 26, 27, 28, 29, 30, 31] (by decide +kernel) (by decide +kernel)) (goodIn_sub (fun _ h => List.mem_cons_of_mem _ (List.mem_append_right _ h)) (by decide +kernel))
set_option maxRecDepth 20000 in
theorem gX6_wasThere_X4_isPresent : GoodIn wsX6_wasThere (wsV RX6 85 RX4 yX4_isPresent wsX4_isPresent) := goodIn_app (goodIn_of _ (by decide +kernel)) ggX6_wasThere_X4_isPresent
set_option maxRecDepth 20000 in
theorem ggX6_wasThere_X7_isFrom : GoodIn wsX6_wasThere wsX7_isFrom := goodIn_r _ [19] (by decide +kernel) (by decide +kernel)
set_option maxRecDepth 20000 in
theorem gX6_wasThere_X7_isFrom_n94 : GoodIn wsX6_wasThere (wsX7_isFrom) := ggX6_wasThere_X7_isFrom
theorem dX6_wasThere_0 : decode cX6_wasThere 0 = .ok (.aload_n 0, 1) := by decide +kernel
theorem dX6_wasThere_1 : decode cX6_wasThere 1 = .ok (.getfield 18, 3) := by decide +kernel
theorem dX6_wasThere_4 : decode cX6_wasThere 4 = .ok (.iload_n 1, 1) := by decide +kernel
theorem dX6_wasThere_5 : decode cX6_wasThere 5 = .ok (.invokevirtual 65, 3) := by decide +kernel
theorem dX6_wasThere_8 : decode cX6_wasThere 8 = .ok (.ifCond .ne 5, 3) := by decide +kernel
theorem dX6_wasThere_11 : decode cX6_wasThere 11 = .ok (.iconst 0, 1) := by decide +kernel
theorem dX6_wasThere_12 : decode cX6_wasThere 12 = .ok (.ireturn, 1) := by decide +kernel
theorem dX6_wasThere_13 : decode cX6_wasThere 13 = .ok (.aload_n 0, 1) := by decide +kernel
theorem dX6_wasThere_14 : decode cX6_wasThere 14 = .ok (.getfield 18, 3) := by decide +kernel
theorem dX6_wasThere_17 : decode cX6_wasThere 17 = .ok (.iload_n 1, 1) := by decide +kernel
theorem dX6_wasThere_18 : decode cX6_wasThere 18 = .ok (.invokevirtual 85, 3) := by decide +kernel
theorem dX6_wasThere_21 : decode cX6_wasThere 21 = .ok (.ifCond .ne 16, 3) := by decide +kernel
theorem dX6_wasThere_24 : decode cX6_wasThere 24 = .ok (.iload_n 2, 1) := by decide +kernel
theorem dX6_wasThere_25 : decode cX6_wasThere 25 = .ok (.aload_n 0, 1) := by decide +kernel
theorem dX6_wasThere_26 : decode cX6_wasThere 26 = .ok (.getfield 18, 3) := by decide +kernel
theorem dX6_wasThere_29 : decode cX6_wasThere 29 = .ok (.getfield 88, 3) := by decide +kernel
theorem dX6_wasThere_32 : decode cX6_wasThere 32 = .ok (.iload_n 1, 1) := by decide +kernel
theorem dX6_wasThere_33 : decode cX6_wasThere 33 = .ok (.iaload, 1) := by decide +kernel
theorem dX6_wasThere_34 : decode cX6_wasThere 34 = .ok (.if_icmp .ge 7, 3) := by decide +kernel
theorem dX6_wasThere_37 : decode cX6_wasThere 37 = .ok (.iconst 1, 1) := by decide +kernel
theorem dX6_wasThere_38 : decode cX6_wasThere 38 = .ok (.goto 4, 3) := by decide +kernel
theorem dX6_wasThere_41 : decode cX6_wasThere 41 = .ok (.iconst 0, 1) := by decide +kernel
theorem dX6_wasThere_42 : decode cX6_wasThere 42 = .ok (.istore_n 3, 1) := by decide +kernel
theorem dX6_wasThere_43 : decode cX6_wasThere 43 = .ok (.iload_n 3, 1) := by decide +kernel
theorem dX6_wasThere_44 : decode cX6_wasThere 44 = .ok (.ifCond .eq 27, 3) := by decide +kernel
theorem dX6_wasThere_47 : decode cX6_wasThere 47 = .ok (.iload_n 2, 1) := by decide +kernel
theorem dX6_wasThere_48 : decode cX6_wasThere 48 = .ok (.aload_n 0, 1) := by decide +kernel
theorem dX6_wasThere_49 : decode cX6_wasThere 49 = .ok (.getfield 18, 3) := by decide +kernel
theorem dX6_wasThere_52 : decode cX6_wasThere 52 = .ok (.getfield 91, 3) := by decide +kernel
theorem dX6_wasThere_55 : decode cX6_wasThere 55 = .ok (.iload_n 1, 1) := by decide +kernel
theorem dX6_wasThere_56 : decode cX6_wasThere 56 = .ok (.iaload, 1) := by decide +kernel
theorem dX6_wasThere_57 : decode cX6_wasThere 57 = .ok (.aload_n 0, 1) := by decide +kernel
theorem dX6_wasThere_58 : decode cX6_wasThere 58 = .ok (.getfield 9, 3) := by decide +kernel
theorem dX6_wasThere_61 : decode cX6_wasThere 61 = .ok (.invokestatic 94, 3) := by decide +kernel
theorem dX6_wasThere_64 : decode cX6_wasThere 64 = .ok (.ifCond .eq 7, 3) := by decide +kernel
theorem dX6_wasThere_67 : decode cX6_wasThere 67 = .ok (.iconst 1, 1) := by decide +kernel
theorem dX6_wasThere_68 : decode cX6_wasThere 68 = .ok (.goto 4, 3) := by decide +kernel
theorem dX6_wasThere_71 : decode cX6_wasThere 71 = .ok (.iconst 0, 1) := by decide +kernel
theorem dX6_wasThere_72 : decode cX6_wasThere 72 = .ok (.ireturn, 1) := by decide +kernel
set_option maxRecDepth 20000 in
theorem ggX6_presentOf_X4_isPresent : GoodIn wsX6_presentOf wsX4_isPresent := goodIn_ca (goodIn_r _ [7, 8, 9, 10, 11, 6, 12, 13, 45, 46, 47, 48, 49, 50, 51] (by decide +kernel) (by decide +kernel)) (goodIn_sub (fun _ h => List.mem_cons_of_mem _ (List.mem_append_right _ h)) (by decide +kernel))
set_option maxRecDepth 20000 in
theorem gX6_presentOf_X4_isPresent : GoodIn wsX6_presentOf (wsV RX6 85 RX4 yX4_isPresent wsX4_isPresent) := goodIn_app (goodIn_of _ (by decide +kernel)) ggX6_presentOf_X4_isPresent
set_option maxRecDepth 20000 in
theorem ggX6_presentOf_X6_holderNow : GoodIn wsX6_presentOf wsX6_holderNow := goodIn_ca (goodIn_r _ [18, 19, 20, 21, 17, 22, 1, 23, 24, 25, 10, 11, 6, 12, 13, 26, 27, 28, 29, 30, 31, 32, 33, 34, 35, 36, 37, 38, 39, 40, 41, 42, 43, 44, 45, 46, 47, 48, 49, 50, 51, 52, 53, 54, 55, 56, 57] (by decide +kernel) (by decide +kernel)) (goodIn_sub (fun _ h => List.mem_cons_of_mem _ (List.mem_append_right _ h)) (by decide +kernel))
set_option maxRecDepth 20000 in
theorem gX6_presentOf_X6_holderNow : GoodIn wsX6_presentOf (wsV RX6 98 RX6 yX6_holderNow wsX6_holderNow) := goodIn_app (goodIn_of _ (by decide +kernel)) ggX6_presentOf_X6_holderNow
theorem dX6_presentOf_0 : decode cX6_presentOf 0 = .ok (.iconst 0, 1) := by decide +kernel
theorem dX6_presentOf_1 : decode cX6_presentOf 1 = .ok (.istore_n 2, 1) := by decide +kernel
theorem dX6_presentOf_2 : decode cX6_presentOf 2 = .ok (.iconst 0, 1) := by decide +kernel
theorem dX6_presentOf_3 : decode cX6_presentOf 3 = .ok (.istore_n 3, 1) := by decide +kernel
theorem dX6_presentOf_4 : decode cX6_presentOf 4 = .ok (.iload_n 3, 1) := by decide +kernel
theorem dX6_presentOf_5 : decode cX6_presentOf 5 = .ok (.aload_n 0, 1) := by decide +kernel
theorem dX6_presentOf_6 : decode cX6_presentOf 6 = .ok (.getfield 18, 3) := by decide +kernel
theorem dX6_presentOf_9 : decode cX6_presentOf 9 = .ok (.getfield 56, 3) := by decide +kernel
theorem dX6_presentOf_12 : decode cX6_presentOf 12 = .ok (.if_icmp .ge 35, 3) := by decide +kernel
theorem dX6_presentOf_15 : decode cX6_presentOf 15 = .ok (.aload_n 0, 1) := by decide +kernel
theorem dX6_presentOf_16 : decode cX6_presentOf 16 = .ok (.getfield 18, 3) := by decide +kernel
theorem dX6_presentOf_19 : decode cX6_presentOf 19 = .ok (.iload_n 3, 1) := by decide +kernel
theorem dX6_presentOf_20 : decode cX6_presentOf 20 = .ok (.invokevirtual 85, 3) := by decide +kernel
theorem dX6_presentOf_23 : decode cX6_presentOf 23 = .ok (.ifCond .eq 18, 3) := by decide +kernel
theorem dX6_presentOf_26 : decode cX6_presentOf 26 = .ok (.aload_n 0, 1) := by decide +kernel
theorem dX6_presentOf_27 : decode cX6_presentOf 27 = .ok (.iload_n 3, 1) := by decide +kernel
theorem dX6_presentOf_28 : decode cX6_presentOf 28 = .ok (.invokevirtual 98, 3) := by decide +kernel
theorem dX6_presentOf_31 : decode cX6_presentOf 31 = .ok (.iload_n 1, 1) := by decide +kernel
theorem dX6_presentOf_32 : decode cX6_presentOf 32 = .ok (.if_icmp .ne 9, 3) := by decide +kernel
theorem dX6_presentOf_35 : decode cX6_presentOf 35 = .ok (.iload_n 2, 1) := by decide +kernel
theorem dX6_presentOf_36 : decode cX6_presentOf 36 = .ok (.iconst 1, 1) := by decide +kernel
theorem dX6_presentOf_37 : decode cX6_presentOf 37 = .ok (.iload_n 3, 1) := by decide +kernel
theorem dX6_presentOf_38 : decode cX6_presentOf 38 = .ok (.ishl, 1) := by decide +kernel
theorem dX6_presentOf_39 : decode cX6_presentOf 39 = .ok (.ior, 1) := by decide +kernel
theorem dX6_presentOf_40 : decode cX6_presentOf 40 = .ok (.istore_n 2, 1) := by decide +kernel
theorem dX6_presentOf_41 : decode cX6_presentOf 41 = .ok (.iinc 3 1, 3) := by decide +kernel
theorem dX6_presentOf_44 : decode cX6_presentOf 44 = .ok (.goto (-40), 3) := by decide +kernel
theorem dX6_presentOf_47 : decode cX6_presentOf 47 = .ok (.iload_n 2, 1) := by decide +kernel
theorem dX6_presentOf_48 : decode cX6_presentOf 48 = .ok (.ireturn, 1) := by decide +kernel
set_option maxRecDepth 20000 in
theorem ggX6_allGaps_X0_gapsOf : GoodIn wsX6_allGaps wsX0_gapsOf := goodIn_ca (goodIn_r _ [9, 10, 11, 12, 13, 26, 27, 28, 29, 30, 31] (by decide +kernel) (by decide +kernel)) (goodIn_sub (fun _ h => List.mem_cons_of_mem _ (List.mem_append_right _ h)) (by decide +kernel))
set_option maxRecDepth 20000 in
theorem gX6_allGaps_X0_gapsOf : GoodIn wsX6_allGaps (wsV RX6 101 RX0 yX0_gapsOf wsX0_gapsOf) := goodIn_app (goodIn_of _ (by decide +kernel)) ggX6_allGaps_X0_gapsOf
theorem dX6_allGaps_0 : decode cX6_allGaps 0 = .ok (.iconst 0, 1) := by decide +kernel
theorem dX6_allGaps_1 : decode cX6_allGaps 1 = .ok (.istore_n 1, 1) := by decide +kernel
theorem dX6_allGaps_2 : decode cX6_allGaps 2 = .ok (.iconst 0, 1) := by decide +kernel
theorem dX6_allGaps_3 : decode cX6_allGaps 3 = .ok (.istore_n 2, 1) := by decide +kernel
theorem dX6_allGaps_4 : decode cX6_allGaps 4 = .ok (.iload_n 2, 1) := by decide +kernel
theorem dX6_allGaps_5 : decode cX6_allGaps 5 = .ok (.aload_n 0, 1) := by decide +kernel
theorem dX6_allGaps_6 : decode cX6_allGaps 6 = .ok (.getfield 18, 3) := by decide +kernel
theorem dX6_allGaps_9 : decode cX6_allGaps 9 = .ok (.getfield 56, 3) := by decide +kernel
theorem dX6_allGaps_12 : decode cX6_allGaps 12 = .ok (.if_icmp .ge 29, 3) := by decide +kernel
theorem dX6_allGaps_15 : decode cX6_allGaps 15 = .ok (.iload_n 1, 1) := by decide +kernel
theorem dX6_allGaps_16 : decode cX6_allGaps 16 = .ok (.aload_n 0, 1) := by decide +kernel
theorem dX6_allGaps_17 : decode cX6_allGaps 17 = .ok (.getfield 25, 3) := by decide +kernel
theorem dX6_allGaps_20 : decode cX6_allGaps 20 = .ok (.iload_n 2, 1) := by decide +kernel
theorem dX6_allGaps_21 : decode cX6_allGaps 21 = .ok (.aload_n 0, 1) := by decide +kernel
theorem dX6_allGaps_22 : decode cX6_allGaps 22 = .ok (.getfield 18, 3) := by decide +kernel
theorem dX6_allGaps_25 : decode cX6_allGaps 25 = .ok (.getfield 69, 3) := by decide +kernel
theorem dX6_allGaps_28 : decode cX6_allGaps 28 = .ok (.iload_n 2, 1) := by decide +kernel
theorem dX6_allGaps_29 : decode cX6_allGaps 29 = .ok (.iaload, 1) := by decide +kernel
theorem dX6_allGaps_30 : decode cX6_allGaps 30 = .ok (.invokevirtual 101, 3) := by decide +kernel
theorem dX6_allGaps_33 : decode cX6_allGaps 33 = .ok (.iadd, 1) := by decide +kernel
theorem dX6_allGaps_34 : decode cX6_allGaps 34 = .ok (.istore_n 1, 1) := by decide +kernel
theorem dX6_allGaps_35 : decode cX6_allGaps 35 = .ok (.iinc 2 1, 3) := by decide +kernel
theorem dX6_allGaps_38 : decode cX6_allGaps 38 = .ok (.goto (-34), 3) := by decide +kernel
theorem dX6_allGaps_41 : decode cX6_allGaps 41 = .ok (.iload_n 1, 1) := by decide +kernel
theorem dX6_allGaps_42 : decode cX6_allGaps 42 = .ok (.ireturn, 1) := by decide +kernel
set_option maxRecDepth 20000 in
theorem ggX6_faultOfParcel_X7_isFrom : GoodIn wsX6_faultOfParcel wsX7_isFrom := goodIn_r _ [5] (by decide +kernel) (by decide +kernel)
set_option maxRecDepth 20000 in
theorem gX6_faultOfParcel_X7_isFrom_n94 : GoodIn wsX6_faultOfParcel (wsX7_isFrom) := ggX6_faultOfParcel_X7_isFrom
set_option maxRecDepth 20000 in
theorem ggX6_faultOfParcel_X7_isPerson : GoodIn wsX6_faultOfParcel wsX7_isPerson := goodIn_r _ [7, 8, 3, 4, 5] (by decide +kernel) (by decide +kernel)
set_option maxRecDepth 20000 in
theorem gX6_faultOfParcel_X7_isPerson_n104 : GoodIn wsX6_faultOfParcel (wsX7_isPerson) := ggX6_faultOfParcel_X7_isPerson
theorem dX6_faultOfParcel_0 : decode cX6_faultOfParcel 0 = .ok (.iload_n 1, 1) := by decide +kernel
theorem dX6_faultOfParcel_1 : decode cX6_faultOfParcel 1 = .ok (.bipush 10, 2) := by decide +kernel
theorem dX6_faultOfParcel_3 : decode cX6_faultOfParcel 3 = .ok (.sipush 9999, 3) := by decide +kernel
theorem dX6_faultOfParcel_6 : decode cX6_faultOfParcel 6 = .ok (.invokestatic 94, 3) := by decide +kernel
theorem dX6_faultOfParcel_9 : decode cX6_faultOfParcel 9 = .ok (.ifCond .eq 10, 3) := by decide +kernel
theorem dX6_faultOfParcel_12 : decode cX6_faultOfParcel 12 = .ok (.iload_n 2, 1) := by decide +kernel
theorem dX6_faultOfParcel_13 : decode cX6_faultOfParcel 13 = .ok (.invokestatic 104, 3) := by decide +kernel
theorem dX6_faultOfParcel_16 : decode cX6_faultOfParcel 16 = .ok (.ifCond .ne 6, 3) := by decide +kernel
theorem dX6_faultOfParcel_19 : decode cX6_faultOfParcel 19 = .ok (.bipush 8, 2) := by decide +kernel
theorem dX6_faultOfParcel_21 : decode cX6_faultOfParcel 21 = .ok (.ireturn, 1) := by decide +kernel
theorem dX6_faultOfParcel_22 : decode cX6_faultOfParcel 22 = .ok (.aload_n 0, 1) := by decide +kernel
theorem dX6_faultOfParcel_23 : decode cX6_faultOfParcel 23 = .ok (.getfield 18, 3) := by decide +kernel
theorem dX6_faultOfParcel_26 : decode cX6_faultOfParcel 26 = .ok (.getfield 56, 3) := by decide +kernel
theorem dX6_faultOfParcel_29 : decode cX6_faultOfParcel 29 = .ok (.bipush 24, 2) := by decide +kernel
theorem dX6_faultOfParcel_31 : decode cX6_faultOfParcel 31 = .ok (.if_icmp .ge 7, 3) := by decide +kernel
theorem dX6_faultOfParcel_34 : decode cX6_faultOfParcel 34 = .ok (.iconst 0, 1) := by decide +kernel
theorem dX6_faultOfParcel_35 : decode cX6_faultOfParcel 35 = .ok (.goto 5, 3) := by decide +kernel
theorem dX6_faultOfParcel_38 : decode cX6_faultOfParcel 38 = .ok (.bipush 9, 2) := by decide +kernel
theorem dX6_faultOfParcel_40 : decode cX6_faultOfParcel 40 = .ok (.ireturn, 1) := by decide +kernel
set_option maxRecDepth 20000 in
theorem ggX6_faultOfBorder_X4_has : GoodIn wsX6_faultOfBorder wsX4_has := goodIn_r _ [6, 7, 19, 20, 21, 22, 23, 24, 25] (by decide +kernel) (by decide +kernel)
set_option maxRecDepth 20000 in
theorem gX6_faultOfBorder_X4_has : GoodIn wsX6_faultOfBorder (wsV RX6 65 RX4 yX4_has wsX4_has) := goodIn_app (goodIn_of _ (by decide +kernel)) ggX6_faultOfBorder_X4_has
set_option maxRecDepth 20000 in
theorem ggX6_faultOfBorder_X4_isPresent : GoodIn wsX6_faultOfBorder wsX4_isPresent := goodIn_ca (goodIn_r _ [11, 12, 13, 3, 4, 5, 6, 7, 19, 20, 21, 22, 23, 24, 25] (by decide +kernel) (by decide +kernel)) (goodIn_sub (fun _ h => List.mem_cons_of_mem _ (List.mem_append_right _ h)) (by decide +kernel))
set_option maxRecDepth 20000 in
theorem gX6_faultOfBorder_X4_isPresent : GoodIn wsX6_faultOfBorder (wsV RX6 85 RX4 yX4_isPresent wsX4_isPresent) := goodIn_app (goodIn_of _ (by decide +kernel)) ggX6_faultOfBorder_X4_isPresent
theorem dX6_faultOfBorder_0 : decode cX6_faultOfBorder 0 = .ok (.aload_n 0, 1) := by decide +kernel
theorem dX6_faultOfBorder_1 : decode cX6_faultOfBorder 1 = .ok (.getfield 18, 3) := by decide +kernel
theorem dX6_faultOfBorder_4 : decode cX6_faultOfBorder 4 = .ok (.iload_n 1, 1) := by decide +kernel
theorem dX6_faultOfBorder_5 : decode cX6_faultOfBorder 5 = .ok (.invokevirtual 65, 3) := by decide +kernel
theorem dX6_faultOfBorder_8 : decode cX6_faultOfBorder 8 = .ok (.ifCond .eq 14, 3) := by decide +kernel
theorem dX6_faultOfBorder_11 : decode cX6_faultOfBorder 11 = .ok (.aload_n 0, 1) := by decide +kernel
theorem dX6_faultOfBorder_12 : decode cX6_faultOfBorder 12 = .ok (.getfield 18, 3) := by decide +kernel
theorem dX6_faultOfBorder_15 : decode cX6_faultOfBorder 15 = .ok (.iload_n 2, 1) := by decide +kernel
theorem dX6_faultOfBorder_16 : decode cX6_faultOfBorder 16 = .ok (.invokevirtual 65, 3) := by decide +kernel
theorem dX6_faultOfBorder_19 : decode cX6_faultOfBorder 19 = .ok (.ifCond .ne 6, 3) := by decide +kernel
theorem dX6_faultOfBorder_22 : decode cX6_faultOfBorder 22 = .ok (.bipush 7, 2) := by decide +kernel
theorem dX6_faultOfBorder_24 : decode cX6_faultOfBorder 24 = .ok (.ireturn, 1) := by decide +kernel
theorem dX6_faultOfBorder_25 : decode cX6_faultOfBorder 25 = .ok (.iload_n 1, 1) := by decide +kernel
theorem dX6_faultOfBorder_26 : decode cX6_faultOfBorder 26 = .ok (.iload_n 2, 1) := by decide +kernel
theorem dX6_faultOfBorder_27 : decode cX6_faultOfBorder 27 = .ok (.if_icmp .ne 6, 3) := by decide +kernel
theorem dX6_faultOfBorder_30 : decode cX6_faultOfBorder 30 = .ok (.bipush 8, 2) := by decide +kernel
theorem dX6_faultOfBorder_32 : decode cX6_faultOfBorder 32 = .ok (.ireturn, 1) := by decide +kernel
theorem dX6_faultOfBorder_33 : decode cX6_faultOfBorder 33 = .ok (.aload_n 0, 1) := by decide +kernel
theorem dX6_faultOfBorder_34 : decode cX6_faultOfBorder 34 = .ok (.getfield 18, 3) := by decide +kernel
theorem dX6_faultOfBorder_37 : decode cX6_faultOfBorder 37 = .ok (.iload_n 1, 1) := by decide +kernel
theorem dX6_faultOfBorder_38 : decode cX6_faultOfBorder 38 = .ok (.invokevirtual 85, 3) := by decide +kernel
theorem dX6_faultOfBorder_41 : decode cX6_faultOfBorder 41 = .ok (.ifCond .eq 18, 3) := by decide +kernel
theorem dX6_faultOfBorder_44 : decode cX6_faultOfBorder 44 = .ok (.aload_n 0, 1) := by decide +kernel
theorem dX6_faultOfBorder_45 : decode cX6_faultOfBorder 45 = .ok (.getfield 18, 3) := by decide +kernel
theorem dX6_faultOfBorder_48 : decode cX6_faultOfBorder 48 = .ok (.iload_n 2, 1) := by decide +kernel
theorem dX6_faultOfBorder_49 : decode cX6_faultOfBorder 49 = .ok (.invokevirtual 85, 3) := by decide +kernel
theorem dX6_faultOfBorder_52 : decode cX6_faultOfBorder 52 = .ok (.ifCond .eq 7, 3) := by decide +kernel
theorem dX6_faultOfBorder_55 : decode cX6_faultOfBorder 55 = .ok (.iconst 0, 1) := by decide +kernel
theorem dX6_faultOfBorder_56 : decode cX6_faultOfBorder 56 = .ok (.goto 5, 3) := by decide +kernel
theorem dX6_faultOfBorder_59 : decode cX6_faultOfBorder 59 = .ok (.bipush 9, 2) := by decide +kernel
theorem dX6_faultOfBorder_61 : decode cX6_faultOfBorder 61 = .ok (.ireturn, 1) := by decide +kernel
set_option maxRecDepth 20000 in
theorem ggX6_faultOfSplit_X4_has : GoodIn wsX6_faultOfSplit wsX4_has := goodIn_r _ [9, 10, 25, 26, 27, 28, 29, 30, 31] (by decide +kernel) (by decide +kernel)
set_option maxRecDepth 20000 in
theorem gX6_faultOfSplit_X4_has : GoodIn wsX6_faultOfSplit (wsV RX6 65 RX4 yX4_has wsX4_has) := goodIn_app (goodIn_of _ (by decide +kernel)) ggX6_faultOfSplit_X4_has
set_option maxRecDepth 20000 in
theorem ggX6_faultOfSplit_X4_isPresent : GoodIn wsX6_faultOfSplit wsX4_isPresent := goodIn_ca (goodIn_r _ [14, 15, 16, 6, 7, 8, 9, 10, 25, 26, 27, 28, 29, 30, 31] (by decide +kernel) (by decide +kernel)) (goodIn_sub (fun _ h => List.mem_cons_of_mem _ (List.mem_append_right _ h)) (by decide +kernel))
set_option maxRecDepth 20000 in
theorem gX6_faultOfSplit_X4_isPresent : GoodIn wsX6_faultOfSplit (wsV RX6 85 RX4 yX4_isPresent wsX4_isPresent) := goodIn_app (goodIn_of _ (by decide +kernel)) ggX6_faultOfSplit_X4_isPresent
set_option maxRecDepth 20000 in
theorem ggX6_faultOfSplit_X7_isFrom : GoodIn wsX6_faultOfSplit wsX7_isFrom := goodIn_r _ [19] (by decide +kernel) (by decide +kernel)
set_option maxRecDepth 20000 in
theorem gX6_faultOfSplit_X7_isFrom_n94 : GoodIn wsX6_faultOfSplit (wsX7_isFrom) := ggX6_faultOfSplit_X7_isFrom
theorem dX6_faultOfSplit_0 : decode cX6_faultOfSplit 0 = .ok (.aload_n 0, 1) := by decide +kernel
theorem dX6_faultOfSplit_1 : decode cX6_faultOfSplit 1 = .ok (.getfield 18, 3) := by decide +kernel
theorem dX6_faultOfSplit_4 : decode cX6_faultOfSplit 4 = .ok (.iload_n 1, 1) := by decide +kernel
theorem dX6_faultOfSplit_5 : decode cX6_faultOfSplit 5 = .ok (.invokevirtual 65, 3) := by decide +kernel
theorem dX6_faultOfSplit_8 : decode cX6_faultOfSplit 8 = .ok (.ifCond .ne 6, 3) := by decide +kernel
theorem dX6_faultOfSplit_11 : decode cX6_faultOfSplit 11 = .ok (.bipush 7, 2) := by decide +kernel
theorem dX6_faultOfSplit_13 : decode cX6_faultOfSplit 13 = .ok (.ireturn, 1) := by decide +kernel
theorem dX6_faultOfSplit_14 : decode cX6_faultOfSplit 14 = .ok (.aload_n 0, 1) := by decide +kernel
theorem dX6_faultOfSplit_15 : decode cX6_faultOfSplit 15 = .ok (.getfield 18, 3) := by decide +kernel
theorem dX6_faultOfSplit_18 : decode cX6_faultOfSplit 18 = .ok (.iload_n 1, 1) := by decide +kernel
theorem dX6_faultOfSplit_19 : decode cX6_faultOfSplit 19 = .ok (.invokevirtual 85, 3) := by decide +kernel
theorem dX6_faultOfSplit_22 : decode cX6_faultOfSplit 22 = .ok (.ifCond .ne 5, 3) := by decide +kernel
theorem dX6_faultOfSplit_25 : decode cX6_faultOfSplit 25 = .ok (.iconst 1, 1) := by decide +kernel
theorem dX6_faultOfSplit_26 : decode cX6_faultOfSplit 26 = .ok (.ireturn, 1) := by decide +kernel
theorem dX6_faultOfSplit_27 : decode cX6_faultOfSplit 27 = .ok (.aload_n 0, 1) := by decide +kernel
theorem dX6_faultOfSplit_28 : decode cX6_faultOfSplit 28 = .ok (.getfield 18, 3) := by decide +kernel
theorem dX6_faultOfSplit_31 : decode cX6_faultOfSplit 31 = .ok (.getfield 107, 3) := by decide +kernel
theorem dX6_faultOfSplit_34 : decode cX6_faultOfSplit 34 = .ok (.iload_n 1, 1) := by decide +kernel
theorem dX6_faultOfSplit_35 : decode cX6_faultOfSplit 35 = .ok (.iaload, 1) := by decide +kernel
theorem dX6_faultOfSplit_36 : decode cX6_faultOfSplit 36 = .ok (.bipush 10, 2) := by decide +kernel
theorem dX6_faultOfSplit_38 : decode cX6_faultOfSplit 38 = .ok (.isub, 1) := by decide +kernel
theorem dX6_faultOfSplit_39 : decode cX6_faultOfSplit 39 = .ok (.istore 4, 2) := by decide +kernel
theorem dX6_faultOfSplit_41 : decode cX6_faultOfSplit 41 = .ok (.iload_n 2, 1) := by decide +kernel
theorem dX6_faultOfSplit_42 : decode cX6_faultOfSplit 42 = .ok (.bipush 10, 2) := by decide +kernel
theorem dX6_faultOfSplit_44 : decode cX6_faultOfSplit 44 = .ok (.iload 4, 2) := by decide +kernel
theorem dX6_faultOfSplit_46 : decode cX6_faultOfSplit 46 = .ok (.invokestatic 94, 3) := by decide +kernel
theorem dX6_faultOfSplit_49 : decode cX6_faultOfSplit 49 = .ok (.ifCond .ne 5, 3) := by decide +kernel
theorem dX6_faultOfSplit_52 : decode cX6_faultOfSplit 52 = .ok (.iconst 2, 1) := by decide +kernel
theorem dX6_faultOfSplit_53 : decode cX6_faultOfSplit 53 = .ok (.ireturn, 1) := by decide +kernel
theorem dX6_faultOfSplit_54 : decode cX6_faultOfSplit 54 = .ok (.iload_n 3, 1) := by decide +kernel
theorem dX6_faultOfSplit_55 : decode cX6_faultOfSplit 55 = .ok (.aload_n 0, 1) := by decide +kernel
theorem dX6_faultOfSplit_56 : decode cX6_faultOfSplit 56 = .ok (.getfield 18, 3) := by decide +kernel
theorem dX6_faultOfSplit_59 : decode cX6_faultOfSplit 59 = .ok (.getfield 110, 3) := by decide +kernel
theorem dX6_faultOfSplit_62 : decode cX6_faultOfSplit 62 = .ok (.iload_n 1, 1) := by decide +kernel
theorem dX6_faultOfSplit_63 : decode cX6_faultOfSplit 63 = .ok (.iaload, 1) := by decide +kernel
theorem dX6_faultOfSplit_64 : decode cX6_faultOfSplit 64 = .ok (.iconst (-1), 1) := by decide +kernel
theorem dX6_faultOfSplit_65 : decode cX6_faultOfSplit 65 = .ok (.ixor, 1) := by decide +kernel
theorem dX6_faultOfSplit_66 : decode cX6_faultOfSplit 66 = .ok (.iand, 1) := by decide +kernel
theorem dX6_faultOfSplit_67 : decode cX6_faultOfSplit 67 = .ok (.ifCond .eq 5, 3) := by decide +kernel
theorem dX6_faultOfSplit_70 : decode cX6_faultOfSplit 70 = .ok (.iconst 3, 1) := by decide +kernel
theorem dX6_faultOfSplit_71 : decode cX6_faultOfSplit 71 = .ok (.ireturn, 1) := by decide +kernel
theorem dX6_faultOfSplit_72 : decode cX6_faultOfSplit 72 = .ok (.aload_n 0, 1) := by decide +kernel
theorem dX6_faultOfSplit_73 : decode cX6_faultOfSplit 73 = .ok (.getfield 18, 3) := by decide +kernel
theorem dX6_faultOfSplit_76 : decode cX6_faultOfSplit 76 = .ok (.getfield 56, 3) := by decide +kernel
theorem dX6_faultOfSplit_79 : decode cX6_faultOfSplit 79 = .ok (.bipush 22, 2) := by decide +kernel
theorem dX6_faultOfSplit_81 : decode cX6_faultOfSplit 81 = .ok (.if_icmp .gt 7, 3) := by decide +kernel
theorem dX6_faultOfSplit_84 : decode cX6_faultOfSplit 84 = .ok (.iconst 0, 1) := by decide +kernel
theorem dX6_faultOfSplit_85 : decode cX6_faultOfSplit 85 = .ok (.goto 5, 3) := by decide +kernel
theorem dX6_faultOfSplit_88 : decode cX6_faultOfSplit 88 = .ok (.bipush 6, 2) := by decide +kernel
theorem dX6_faultOfSplit_90 : decode cX6_faultOfSplit 90 = .ok (.ireturn, 1) := by decide +kernel
set_option maxRecDepth 20000 in
theorem ggX6_faultOfMerge_X4_has : GoodIn wsX6_faultOfMerge wsX4_has := goodIn_r _ [8, 9, 58, 59, 60, 61, 62, 63, 64] (by decide +kernel) (by decide +kernel)
set_option maxRecDepth 20000 in
theorem gX6_faultOfMerge_X4_has : GoodIn wsX6_faultOfMerge (wsV RX6 65 RX4 yX4_has wsX4_has) := goodIn_app (goodIn_of _ (by decide +kernel)) ggX6_faultOfMerge_X4_has
set_option maxRecDepth 20000 in
theorem ggX6_faultOfMerge_X4_isPresent : GoodIn wsX6_faultOfMerge wsX4_isPresent := goodIn_ca (goodIn_r _ [13, 14, 15, 5, 6, 7, 8, 9, 58, 59, 60, 61, 62, 63, 64] (by decide +kernel) (by decide +kernel)) (goodIn_sub (fun _ h => List.mem_cons_of_mem _ (List.mem_append_right _ h)) (by decide +kernel))
set_option maxRecDepth 20000 in
theorem gX6_faultOfMerge_X4_isPresent : GoodIn wsX6_faultOfMerge (wsV RX6 85 RX4 yX4_isPresent wsX4_isPresent) := goodIn_app (goodIn_of _ (by decide +kernel)) ggX6_faultOfMerge_X4_isPresent
set_option maxRecDepth 20000 in
theorem ggX6_faultOfMerge_X4_areNeighbours : GoodIn wsX6_faultOfMerge wsX4_areNeighbours := goodIn_ca (goodIn_r _ [19, 20, 21, 22, 7, 23, 24, 15, 5, 6, 8, 9, 25, 26, 27, 58, 59, 60, 61, 62, 63, 64] (by decide +kernel) (by decide +kernel)) (goodIn_sub (fun _ h => List.mem_cons_of_mem _ (List.mem_append_right _ h)) (by decide +kernel))
set_option maxRecDepth 20000 in
theorem gX6_faultOfMerge_X4_areNeighbours : GoodIn wsX6_faultOfMerge (wsV RX6 113 RX4 yX4_areNeighbours wsX4_areNeighbours) := goodIn_app (goodIn_of _ (by decide +kernel)) ggX6_faultOfMerge_X4_areNeighbours
set_option maxRecDepth 20000 in
theorem ggX6_faultOfMerge_X6_holderNow : GoodIn wsX6_faultOfMerge wsX6_holderNow := goodIn_ca (goodIn_r _ [32, 33, 34, 35, 31, 36, 1, 37, 38, 4, 5, 6, 7, 8, 9, 39, 40, 41, 42, 43, 44, 45, 46, 47, 48, 49, 50, 51, 52, 53, 54, 55, 56, 57, 58, 59, 60, 61, 62, 63, 64, 65, 66, 67, 68, 69, 70] (by decide +kernel) (by decide +kernel)) (goodIn_sub (fun _ h => List.mem_cons_of_mem _ (List.mem_append_right _ h)) (by decide +kernel))
set_option maxRecDepth 20000 in
theorem gX6_faultOfMerge_X6_holderNow : GoodIn wsX6_faultOfMerge (wsV RX6 98 RX6 yX6_holderNow wsX6_holderNow) := goodIn_app (goodIn_of _ (by decide +kernel)) ggX6_faultOfMerge_X6_holderNow
theorem dX6_faultOfMerge_0 : decode cX6_faultOfMerge 0 = .ok (.aload_n 0, 1) := by decide +kernel
theorem dX6_faultOfMerge_1 : decode cX6_faultOfMerge 1 = .ok (.getfield 18, 3) := by decide +kernel
theorem dX6_faultOfMerge_4 : decode cX6_faultOfMerge 4 = .ok (.iload_n 1, 1) := by decide +kernel
theorem dX6_faultOfMerge_5 : decode cX6_faultOfMerge 5 = .ok (.invokevirtual 65, 3) := by decide +kernel
theorem dX6_faultOfMerge_8 : decode cX6_faultOfMerge 8 = .ok (.ifCond .eq 14, 3) := by decide +kernel
theorem dX6_faultOfMerge_11 : decode cX6_faultOfMerge 11 = .ok (.aload_n 0, 1) := by decide +kernel
theorem dX6_faultOfMerge_12 : decode cX6_faultOfMerge 12 = .ok (.getfield 18, 3) := by decide +kernel
theorem dX6_faultOfMerge_15 : decode cX6_faultOfMerge 15 = .ok (.iload_n 2, 1) := by decide +kernel
theorem dX6_faultOfMerge_16 : decode cX6_faultOfMerge 16 = .ok (.invokevirtual 65, 3) := by decide +kernel
theorem dX6_faultOfMerge_19 : decode cX6_faultOfMerge 19 = .ok (.ifCond .ne 6, 3) := by decide +kernel
theorem dX6_faultOfMerge_22 : decode cX6_faultOfMerge 22 = .ok (.bipush 7, 2) := by decide +kernel
theorem dX6_faultOfMerge_24 : decode cX6_faultOfMerge 24 = .ok (.ireturn, 1) := by decide +kernel
theorem dX6_faultOfMerge_25 : decode cX6_faultOfMerge 25 = .ok (.iload_n 1, 1) := by decide +kernel
theorem dX6_faultOfMerge_26 : decode cX6_faultOfMerge 26 = .ok (.iload_n 2, 1) := by decide +kernel
theorem dX6_faultOfMerge_27 : decode cX6_faultOfMerge 27 = .ok (.if_icmp .ne 6, 3) := by decide +kernel
theorem dX6_faultOfMerge_30 : decode cX6_faultOfMerge 30 = .ok (.bipush 8, 2) := by decide +kernel
theorem dX6_faultOfMerge_32 : decode cX6_faultOfMerge 32 = .ok (.ireturn, 1) := by decide +kernel
theorem dX6_faultOfMerge_33 : decode cX6_faultOfMerge 33 = .ok (.aload_n 0, 1) := by decide +kernel
theorem dX6_faultOfMerge_34 : decode cX6_faultOfMerge 34 = .ok (.getfield 18, 3) := by decide +kernel
theorem dX6_faultOfMerge_37 : decode cX6_faultOfMerge 37 = .ok (.iload_n 1, 1) := by decide +kernel
theorem dX6_faultOfMerge_38 : decode cX6_faultOfMerge 38 = .ok (.invokevirtual 85, 3) := by decide +kernel
theorem dX6_faultOfMerge_41 : decode cX6_faultOfMerge 41 = .ok (.ifCond .eq 14, 3) := by decide +kernel
theorem dX6_faultOfMerge_44 : decode cX6_faultOfMerge 44 = .ok (.aload_n 0, 1) := by decide +kernel
theorem dX6_faultOfMerge_45 : decode cX6_faultOfMerge 45 = .ok (.getfield 18, 3) := by decide +kernel
theorem dX6_faultOfMerge_48 : decode cX6_faultOfMerge 48 = .ok (.iload_n 2, 1) := by decide +kernel
theorem dX6_faultOfMerge_49 : decode cX6_faultOfMerge 49 = .ok (.invokevirtual 85, 3) := by decide +kernel
theorem dX6_faultOfMerge_52 : decode cX6_faultOfMerge 52 = .ok (.ifCond .ne 5, 3) := by decide +kernel
theorem dX6_faultOfMerge_55 : decode cX6_faultOfMerge 55 = .ok (.iconst 1, 1) := by decide +kernel
theorem dX6_faultOfMerge_56 : decode cX6_faultOfMerge 56 = .ok (.ireturn, 1) := by decide +kernel
theorem dX6_faultOfMerge_57 : decode cX6_faultOfMerge 57 = .ok (.aload_n 0, 1) := by decide +kernel
theorem dX6_faultOfMerge_58 : decode cX6_faultOfMerge 58 = .ok (.getfield 18, 3) := by decide +kernel
theorem dX6_faultOfMerge_61 : decode cX6_faultOfMerge 61 = .ok (.iload_n 1, 1) := by decide +kernel
theorem dX6_faultOfMerge_62 : decode cX6_faultOfMerge 62 = .ok (.iload_n 2, 1) := by decide +kernel
theorem dX6_faultOfMerge_63 : decode cX6_faultOfMerge 63 = .ok (.invokevirtual 113, 3) := by decide +kernel
theorem dX6_faultOfMerge_66 : decode cX6_faultOfMerge 66 = .ok (.ifCond .ne 5, 3) := by decide +kernel
theorem dX6_faultOfMerge_69 : decode cX6_faultOfMerge 69 = .ok (.iconst 4, 1) := by decide +kernel
theorem dX6_faultOfMerge_70 : decode cX6_faultOfMerge 70 = .ok (.ireturn, 1) := by decide +kernel
theorem dX6_faultOfMerge_71 : decode cX6_faultOfMerge 71 = .ok (.aload_n 0, 1) := by decide +kernel
theorem dX6_faultOfMerge_72 : decode cX6_faultOfMerge 72 = .ok (.iload_n 1, 1) := by decide +kernel
theorem dX6_faultOfMerge_73 : decode cX6_faultOfMerge 73 = .ok (.invokevirtual 98, 3) := by decide +kernel
theorem dX6_faultOfMerge_76 : decode cX6_faultOfMerge 76 = .ok (.aload_n 0, 1) := by decide +kernel
theorem dX6_faultOfMerge_77 : decode cX6_faultOfMerge 77 = .ok (.iload_n 2, 1) := by decide +kernel
theorem dX6_faultOfMerge_78 : decode cX6_faultOfMerge 78 = .ok (.invokevirtual 98, 3) := by decide +kernel
theorem dX6_faultOfMerge_81 : decode cX6_faultOfMerge 81 = .ok (.if_icmp .eq 5, 3) := by decide +kernel
theorem dX6_faultOfMerge_84 : decode cX6_faultOfMerge 84 = .ok (.iconst 5, 1) := by decide +kernel
theorem dX6_faultOfMerge_85 : decode cX6_faultOfMerge 85 = .ok (.ireturn, 1) := by decide +kernel
theorem dX6_faultOfMerge_86 : decode cX6_faultOfMerge 86 = .ok (.aload_n 0, 1) := by decide +kernel
theorem dX6_faultOfMerge_87 : decode cX6_faultOfMerge 87 = .ok (.getfield 18, 3) := by decide +kernel
theorem dX6_faultOfMerge_90 : decode cX6_faultOfMerge 90 = .ok (.getfield 107, 3) := by decide +kernel
theorem dX6_faultOfMerge_93 : decode cX6_faultOfMerge 93 = .ok (.iload_n 1, 1) := by decide +kernel
theorem dX6_faultOfMerge_94 : decode cX6_faultOfMerge 94 = .ok (.iaload, 1) := by decide +kernel
theorem dX6_faultOfMerge_95 : decode cX6_faultOfMerge 95 = .ok (.aload_n 0, 1) := by decide +kernel
theorem dX6_faultOfMerge_96 : decode cX6_faultOfMerge 96 = .ok (.getfield 18, 3) := by decide +kernel
theorem dX6_faultOfMerge_99 : decode cX6_faultOfMerge 99 = .ok (.getfield 107, 3) := by decide +kernel
theorem dX6_faultOfMerge_102 : decode cX6_faultOfMerge 102 = .ok (.iload_n 2, 1) := by decide +kernel
theorem dX6_faultOfMerge_103 : decode cX6_faultOfMerge 103 = .ok (.iaload, 1) := by decide +kernel
theorem dX6_faultOfMerge_104 : decode cX6_faultOfMerge 104 = .ok (.iadd, 1) := by decide +kernel
theorem dX6_faultOfMerge_105 : decode cX6_faultOfMerge 105 = .ok (.sipush 9999, 3) := by decide +kernel
theorem dX6_faultOfMerge_108 : decode cX6_faultOfMerge 108 = .ok (.if_icmp .le 5, 3) := by decide +kernel
theorem dX6_faultOfMerge_111 : decode cX6_faultOfMerge 111 = .ok (.iconst 2, 1) := by decide +kernel
theorem dX6_faultOfMerge_112 : decode cX6_faultOfMerge 112 = .ok (.ireturn, 1) := by decide +kernel
theorem dX6_faultOfMerge_113 : decode cX6_faultOfMerge 113 = .ok (.aload_n 0, 1) := by decide +kernel
theorem dX6_faultOfMerge_114 : decode cX6_faultOfMerge 114 = .ok (.getfield 18, 3) := by decide +kernel
theorem dX6_faultOfMerge_117 : decode cX6_faultOfMerge 117 = .ok (.getfield 56, 3) := by decide +kernel
theorem dX6_faultOfMerge_120 : decode cX6_faultOfMerge 120 = .ok (.bipush 24, 2) := by decide +kernel
theorem dX6_faultOfMerge_122 : decode cX6_faultOfMerge 122 = .ok (.if_icmp .ge 7, 3) := by decide +kernel
theorem dX6_faultOfMerge_125 : decode cX6_faultOfMerge 125 = .ok (.iconst 0, 1) := by decide +kernel
theorem dX6_faultOfMerge_126 : decode cX6_faultOfMerge 126 = .ok (.goto 5, 3) := by decide +kernel
theorem dX6_faultOfMerge_129 : decode cX6_faultOfMerge 129 = .ok (.bipush 6, 2) := by decide +kernel
theorem dX6_faultOfMerge_131 : decode cX6_faultOfMerge 131 = .ok (.ireturn, 1) := by decide +kernel
set_option maxRecDepth 20000 in
theorem ggX6_faultOfDeed_X4_has : GoodIn wsX6_faultOfDeed wsX4_has := goodIn_r _ [10, 11, 29, 30, 31, 32, 33, 34, 35] (by decide +kernel) (by decide +kernel)
set_option maxRecDepth 20000 in
theorem gX6_faultOfDeed_X4_has : GoodIn wsX6_faultOfDeed (wsV RX6 65 RX4 yX4_has wsX4_has) := goodIn_app (goodIn_of _ (by decide +kernel)) ggX6_faultOfDeed_X4_has
set_option maxRecDepth 20000 in
theorem ggX6_faultOfDeed_X7_isPerson : GoodIn wsX6_faultOfDeed wsX7_isPerson := goodIn_r _ [14, 15, 16, 13, 17] (by decide +kernel) (by decide +kernel)
set_option maxRecDepth 20000 in
theorem gX6_faultOfDeed_X7_isPerson_n104 : GoodIn wsX6_faultOfDeed (wsX7_isPerson) := ggX6_faultOfDeed_X7_isPerson
set_option maxRecDepth 20000 in
theorem ggX6_faultOfDeed_X7_isFrom : GoodIn wsX6_faultOfDeed wsX7_isFrom := goodIn_r _ [17] (by decide +kernel) (by decide +kernel)
set_option maxRecDepth 20000 in
theorem gX6_faultOfDeed_X7_isFrom_n94 : GoodIn wsX6_faultOfDeed (wsX7_isFrom) := ggX6_faultOfDeed_X7_isFrom
set_option maxRecDepth 20000 in
theorem ggX6_faultOfDeed_X4_isPresent : GoodIn wsX6_faultOfDeed wsX4_isPresent := goodIn_ca (goodIn_r _ [21, 22, 23, 7, 8, 9, 10, 11, 29, 30, 31, 32, 33, 34, 35] (by decide +kernel) (by decide +kernel)) (goodIn_sub (fun _ h => List.mem_cons_of_mem _ (List.mem_append_right _ h)) (by decide +kernel))
set_option maxRecDepth 20000 in
theorem gX6_faultOfDeed_X4_isPresent : GoodIn wsX6_faultOfDeed (wsV RX6 85 RX4 yX4_isPresent wsX4_isPresent) := goodIn_app (goodIn_of _ (by decide +kernel)) ggX6_faultOfDeed_X4_isPresent
theorem dX6_faultOfDeed_0 : decode cX6_faultOfDeed 0 = .ok (.aload_n 0, 1) := by decide +kernel
theorem dX6_faultOfDeed_1 : decode cX6_faultOfDeed 1 = .ok (.getfield 18, 3) := by decide +kernel
theorem dX6_faultOfDeed_4 : decode cX6_faultOfDeed 4 = .ok (.iload_n 1, 1) := by decide +kernel
theorem dX6_faultOfDeed_5 : decode cX6_faultOfDeed 5 = .ok (.invokevirtual 65, 3) := by decide +kernel
theorem dX6_faultOfDeed_8 : decode cX6_faultOfDeed 8 = .ok (.ifCond .ne 6, 3) := by decide +kernel
theorem dX6_faultOfDeed_11 : decode cX6_faultOfDeed 11 = .ok (.bipush 7, 2) := by decide +kernel
theorem dX6_faultOfDeed_13 : decode cX6_faultOfDeed 13 = .ok (.ireturn, 1) := by decide +kernel
theorem dX6_faultOfDeed_14 : decode cX6_faultOfDeed 14 = .ok (.iload_n 2, 1) := by decide +kernel
theorem dX6_faultOfDeed_15 : decode cX6_faultOfDeed 15 = .ok (.invokestatic 104, 3) := by decide +kernel
theorem dX6_faultOfDeed_18 : decode cX6_faultOfDeed 18 = .ok (.ifCond .eq 31, 3) := by decide +kernel
theorem dX6_faultOfDeed_21 : decode cX6_faultOfDeed 21 = .ok (.iload_n 3, 1) := by decide +kernel
theorem dX6_faultOfDeed_22 : decode cX6_faultOfDeed 22 = .ok (.invokestatic 104, 3) := by decide +kernel
theorem dX6_faultOfDeed_25 : decode cX6_faultOfDeed 25 = .ok (.ifCond .eq 24, 3) := by decide +kernel
theorem dX6_faultOfDeed_28 : decode cX6_faultOfDeed 28 = .ok (.iload 4, 2) := by decide +kernel
theorem dX6_faultOfDeed_30 : decode cX6_faultOfDeed 30 = .ok (.aload_n 0, 1) := by decide +kernel
theorem dX6_faultOfDeed_31 : decode cX6_faultOfDeed 31 = .ok (.getfield 18, 3) := by decide +kernel
theorem dX6_faultOfDeed_34 : decode cX6_faultOfDeed 34 = .ok (.getfield 91, 3) := by decide +kernel
theorem dX6_faultOfDeed_37 : decode cX6_faultOfDeed 37 = .ok (.iload_n 1, 1) := by decide +kernel
theorem dX6_faultOfDeed_38 : decode cX6_faultOfDeed 38 = .ok (.iaload, 1) := by decide +kernel
theorem dX6_faultOfDeed_39 : decode cX6_faultOfDeed 39 = .ok (.aload_n 0, 1) := by decide +kernel
theorem dX6_faultOfDeed_40 : decode cX6_faultOfDeed 40 = .ok (.getfield 9, 3) := by decide +kernel
theorem dX6_faultOfDeed_43 : decode cX6_faultOfDeed 43 = .ok (.invokestatic 94, 3) := by decide +kernel
theorem dX6_faultOfDeed_46 : decode cX6_faultOfDeed 46 = .ok (.ifCond .ne 6, 3) := by decide +kernel
theorem dX6_faultOfDeed_49 : decode cX6_faultOfDeed 49 = .ok (.bipush 8, 2) := by decide +kernel
theorem dX6_faultOfDeed_51 : decode cX6_faultOfDeed 51 = .ok (.ireturn, 1) := by decide +kernel
theorem dX6_faultOfDeed_52 : decode cX6_faultOfDeed 52 = .ok (.aload_n 0, 1) := by decide +kernel
theorem dX6_faultOfDeed_53 : decode cX6_faultOfDeed 53 = .ok (.getfield 18, 3) := by decide +kernel
theorem dX6_faultOfDeed_56 : decode cX6_faultOfDeed 56 = .ok (.iload_n 1, 1) := by decide +kernel
theorem dX6_faultOfDeed_57 : decode cX6_faultOfDeed 57 = .ok (.invokevirtual 85, 3) := by decide +kernel
theorem dX6_faultOfDeed_60 : decode cX6_faultOfDeed 60 = .ok (.ifCond .eq 19, 3) := by decide +kernel
theorem dX6_faultOfDeed_63 : decode cX6_faultOfDeed 63 = .ok (.aload_n 0, 1) := by decide +kernel
theorem dX6_faultOfDeed_64 : decode cX6_faultOfDeed 64 = .ok (.getfield 25, 3) := by decide +kernel
theorem dX6_faultOfDeed_67 : decode cX6_faultOfDeed 67 = .ok (.getfield 59, 3) := by decide +kernel
theorem dX6_faultOfDeed_70 : decode cX6_faultOfDeed 70 = .ok (.bipush 60, 2) := by decide +kernel
theorem dX6_faultOfDeed_72 : decode cX6_faultOfDeed 72 = .ok (.if_icmp .ge 7, 3) := by decide +kernel
theorem dX6_faultOfDeed_75 : decode cX6_faultOfDeed 75 = .ok (.iconst 0, 1) := by decide +kernel
theorem dX6_faultOfDeed_76 : decode cX6_faultOfDeed 76 = .ok (.goto 5, 3) := by decide +kernel
theorem dX6_faultOfDeed_79 : decode cX6_faultOfDeed 79 = .ok (.bipush 9, 2) := by decide +kernel
theorem dX6_faultOfDeed_81 : decode cX6_faultOfDeed 81 = .ok (.ireturn, 1) := by decide +kernel
set_option maxRecDepth 20000 in
theorem ggX6_faultOfEasement_X4_has : GoodIn wsX6_faultOfEasement wsX4_has := goodIn_r _ [8, 9, 30, 31, 32, 33, 34, 35, 36] (by decide +kernel) (by decide +kernel)
set_option maxRecDepth 20000 in
theorem gX6_faultOfEasement_X4_has : GoodIn wsX6_faultOfEasement (wsV RX6 65 RX4 yX4_has wsX4_has) := goodIn_app (goodIn_of _ (by decide +kernel)) ggX6_faultOfEasement_X4_has
set_option maxRecDepth 20000 in
theorem ggX6_faultOfEasement_X7_isFrom : GoodIn wsX6_faultOfEasement wsX7_isFrom := goodIn_r _ [12] (by decide +kernel) (by decide +kernel)
set_option maxRecDepth 20000 in
theorem gX6_faultOfEasement_X7_isFrom_n94 : GoodIn wsX6_faultOfEasement (wsX7_isFrom) := ggX6_faultOfEasement_X7_isFrom
set_option maxRecDepth 20000 in
theorem ggX6_faultOfEasement_X4_isPresent : GoodIn wsX6_faultOfEasement wsX4_isPresent := goodIn_ca (goodIn_r _ [16, 17, 18, 5, 6, 7, 8, 9, 30, 31, 32, 33, 34, 35, 36] (by decide +kernel) (by decide +kernel)) (goodIn_sub (fun _ h => List.mem_cons_of_mem _ (List.mem_append_right _ h)) (by decide +kernel))
set_option maxRecDepth 20000 in
theorem gX6_faultOfEasement_X4_isPresent : GoodIn wsX6_faultOfEasement (wsV RX6 85 RX4 yX4_isPresent wsX4_isPresent) := goodIn_app (goodIn_of _ (by decide +kernel)) ggX6_faultOfEasement_X4_isPresent
theorem dX6_faultOfEasement_0 : decode cX6_faultOfEasement 0 = .ok (.aload_n 0, 1) := by decide +kernel
theorem dX6_faultOfEasement_1 : decode cX6_faultOfEasement 1 = .ok (.getfield 18, 3) := by decide +kernel
theorem dX6_faultOfEasement_4 : decode cX6_faultOfEasement 4 = .ok (.iload_n 2, 1) := by decide +kernel
theorem dX6_faultOfEasement_5 : decode cX6_faultOfEasement 5 = .ok (.invokevirtual 65, 3) := by decide +kernel
theorem dX6_faultOfEasement_8 : decode cX6_faultOfEasement 8 = .ok (.ifCond .eq 14, 3) := by decide +kernel
theorem dX6_faultOfEasement_11 : decode cX6_faultOfEasement 11 = .ok (.aload_n 0, 1) := by decide +kernel
theorem dX6_faultOfEasement_12 : decode cX6_faultOfEasement 12 = .ok (.getfield 18, 3) := by decide +kernel
theorem dX6_faultOfEasement_15 : decode cX6_faultOfEasement 15 = .ok (.iload_n 3, 1) := by decide +kernel
theorem dX6_faultOfEasement_16 : decode cX6_faultOfEasement 16 = .ok (.invokevirtual 65, 3) := by decide +kernel
theorem dX6_faultOfEasement_19 : decode cX6_faultOfEasement 19 = .ok (.ifCond .ne 6, 3) := by decide +kernel
theorem dX6_faultOfEasement_22 : decode cX6_faultOfEasement 22 = .ok (.bipush 7, 2) := by decide +kernel
theorem dX6_faultOfEasement_24 : decode cX6_faultOfEasement 24 = .ok (.ireturn, 1) := by decide +kernel
theorem dX6_faultOfEasement_25 : decode cX6_faultOfEasement 25 = .ok (.iload_n 1, 1) := by decide +kernel
theorem dX6_faultOfEasement_26 : decode cX6_faultOfEasement 26 = .ok (.iconst 0, 1) := by decide +kernel
theorem dX6_faultOfEasement_27 : decode cX6_faultOfEasement 27 = .ok (.iconst 3, 1) := by decide +kernel
theorem dX6_faultOfEasement_28 : decode cX6_faultOfEasement 28 = .ok (.invokestatic 94, 3) := by decide +kernel
theorem dX6_faultOfEasement_31 : decode cX6_faultOfEasement 31 = .ok (.ifCond .eq 8, 3) := by decide +kernel
theorem dX6_faultOfEasement_34 : decode cX6_faultOfEasement 34 = .ok (.iload_n 2, 1) := by decide +kernel
theorem dX6_faultOfEasement_35 : decode cX6_faultOfEasement 35 = .ok (.iload_n 3, 1) := by decide +kernel
theorem dX6_faultOfEasement_36 : decode cX6_faultOfEasement 36 = .ok (.if_icmp .ne 6, 3) := by decide +kernel
theorem dX6_faultOfEasement_39 : decode cX6_faultOfEasement 39 = .ok (.bipush 8, 2) := by decide +kernel
theorem dX6_faultOfEasement_41 : decode cX6_faultOfEasement 41 = .ok (.ireturn, 1) := by decide +kernel
theorem dX6_faultOfEasement_42 : decode cX6_faultOfEasement 42 = .ok (.aload_n 0, 1) := by decide +kernel
theorem dX6_faultOfEasement_43 : decode cX6_faultOfEasement 43 = .ok (.getfield 18, 3) := by decide +kernel
theorem dX6_faultOfEasement_46 : decode cX6_faultOfEasement 46 = .ok (.iload_n 2, 1) := by decide +kernel
theorem dX6_faultOfEasement_47 : decode cX6_faultOfEasement 47 = .ok (.invokevirtual 85, 3) := by decide +kernel
theorem dX6_faultOfEasement_50 : decode cX6_faultOfEasement 50 = .ok (.ifCond .eq 14, 3) := by decide +kernel
theorem dX6_faultOfEasement_53 : decode cX6_faultOfEasement 53 = .ok (.aload_n 0, 1) := by decide +kernel
theorem dX6_faultOfEasement_54 : decode cX6_faultOfEasement 54 = .ok (.getfield 18, 3) := by decide +kernel
theorem dX6_faultOfEasement_57 : decode cX6_faultOfEasement 57 = .ok (.iload_n 3, 1) := by decide +kernel
theorem dX6_faultOfEasement_58 : decode cX6_faultOfEasement 58 = .ok (.invokevirtual 85, 3) := by decide +kernel
theorem dX6_faultOfEasement_61 : decode cX6_faultOfEasement 61 = .ok (.ifCond .ne 6, 3) := by decide +kernel
theorem dX6_faultOfEasement_64 : decode cX6_faultOfEasement 64 = .ok (.bipush 9, 2) := by decide +kernel
theorem dX6_faultOfEasement_66 : decode cX6_faultOfEasement 66 = .ok (.ireturn, 1) := by decide +kernel
theorem dX6_faultOfEasement_67 : decode cX6_faultOfEasement 67 = .ok (.aload_n 0, 1) := by decide +kernel
theorem dX6_faultOfEasement_68 : decode cX6_faultOfEasement 68 = .ok (.getfield 32, 3) := by decide +kernel
theorem dX6_faultOfEasement_71 : decode cX6_faultOfEasement 71 = .ok (.getfield 60, 3) := by decide +kernel
theorem dX6_faultOfEasement_74 : decode cX6_faultOfEasement 74 = .ok (.bipush 30, 2) := by decide +kernel
theorem dX6_faultOfEasement_76 : decode cX6_faultOfEasement 76 = .ok (.if_icmp .ge 7, 3) := by decide +kernel
theorem dX6_faultOfEasement_79 : decode cX6_faultOfEasement 79 = .ok (.iconst 0, 1) := by decide +kernel
theorem dX6_faultOfEasement_80 : decode cX6_faultOfEasement 80 = .ok (.goto 5, 3) := by decide +kernel
theorem dX6_faultOfEasement_83 : decode cX6_faultOfEasement 83 = .ok (.bipush 9, 2) := by decide +kernel
theorem dX6_faultOfEasement_85 : decode cX6_faultOfEasement 85 = .ok (.ireturn, 1) := by decide +kernel
set_option maxRecDepth 20000 in
theorem ggX6_faultOfLien_X4_has : GoodIn wsX6_faultOfLien wsX4_has := goodIn_r _ [8, 9, 33, 34, 35, 36, 37, 38, 39] (by decide +kernel) (by decide +kernel)
set_option maxRecDepth 20000 in
theorem gX6_faultOfLien_X4_has : GoodIn wsX6_faultOfLien (wsV RX6 65 RX4 yX4_has wsX4_has) := goodIn_app (goodIn_of _ (by decide +kernel)) ggX6_faultOfLien_X4_has
set_option maxRecDepth 20000 in
theorem ggX6_faultOfLien_X7_isPerson : GoodIn wsX6_faultOfLien wsX7_isPerson := goodIn_r _ [12, 13, 14, 11, 15] (by decide +kernel) (by decide +kernel)
set_option maxRecDepth 20000 in
theorem gX6_faultOfLien_X7_isPerson_n104 : GoodIn wsX6_faultOfLien (wsX7_isPerson) := ggX6_faultOfLien_X7_isPerson
set_option maxRecDepth 20000 in
theorem ggX6_faultOfLien_X7_isFrom : GoodIn wsX6_faultOfLien wsX7_isFrom := goodIn_r _ [15] (by decide +kernel) (by decide +kernel)
set_option maxRecDepth 20000 in
theorem gX6_faultOfLien_X7_isFrom_n94 : GoodIn wsX6_faultOfLien (wsX7_isFrom) := ggX6_faultOfLien_X7_isFrom
set_option maxRecDepth 20000 in
theorem ggX6_faultOfLien_X4_isPresent : GoodIn wsX6_faultOfLien wsX4_isPresent := goodIn_ca (goodIn_r _ [19, 20, 21, 5, 6, 7, 8, 9, 33, 34, 35, 36, 37, 38, 39] (by decide +kernel) (by decide +kernel)) (goodIn_sub (fun _ h => List.mem_cons_of_mem _ (List.mem_append_right _ h)) (by decide +kernel))
set_option maxRecDepth 20000 in
theorem gX6_faultOfLien_X4_isPresent : GoodIn wsX6_faultOfLien (wsV RX6 85 RX4 yX4_isPresent wsX4_isPresent) := goodIn_app (goodIn_of _ (by decide +kernel)) ggX6_faultOfLien_X4_isPresent
theorem dX6_faultOfLien_0 : decode cX6_faultOfLien 0 = .ok (.aload_n 0, 1) := by decide +kernel
theorem dX6_faultOfLien_1 : decode cX6_faultOfLien 1 = .ok (.getfield 18, 3) := by decide +kernel
theorem dX6_faultOfLien_4 : decode cX6_faultOfLien 4 = .ok (.iload_n 1, 1) := by decide +kernel
theorem dX6_faultOfLien_5 : decode cX6_faultOfLien 5 = .ok (.invokevirtual 65, 3) := by decide +kernel
theorem dX6_faultOfLien_8 : decode cX6_faultOfLien 8 = .ok (.ifCond .ne 6, 3) := by decide +kernel
theorem dX6_faultOfLien_11 : decode cX6_faultOfLien 11 = .ok (.bipush 7, 2) := by decide +kernel
theorem dX6_faultOfLien_13 : decode cX6_faultOfLien 13 = .ok (.ireturn, 1) := by decide +kernel
theorem dX6_faultOfLien_14 : decode cX6_faultOfLien 14 = .ok (.iload_n 2, 1) := by decide +kernel
theorem dX6_faultOfLien_15 : decode cX6_faultOfLien 15 = .ok (.invokestatic 104, 3) := by decide +kernel
theorem dX6_faultOfLien_18 : decode cX6_faultOfLien 18 = .ok (.ifCond .eq 14, 3) := by decide +kernel
theorem dX6_faultOfLien_21 : decode cX6_faultOfLien 21 = .ok (.iload_n 3, 1) := by decide +kernel
theorem dX6_faultOfLien_22 : decode cX6_faultOfLien 22 = .ok (.iconst 1, 1) := by decide +kernel
theorem dX6_faultOfLien_23 : decode cX6_faultOfLien 23 = .ok (.sipush 9999, 3) := by decide +kernel
theorem dX6_faultOfLien_26 : decode cX6_faultOfLien 26 = .ok (.invokestatic 94, 3) := by decide +kernel
theorem dX6_faultOfLien_29 : decode cX6_faultOfLien 29 = .ok (.ifCond .ne 6, 3) := by decide +kernel
theorem dX6_faultOfLien_32 : decode cX6_faultOfLien 32 = .ok (.bipush 8, 2) := by decide +kernel
theorem dX6_faultOfLien_34 : decode cX6_faultOfLien 34 = .ok (.ireturn, 1) := by decide +kernel
theorem dX6_faultOfLien_35 : decode cX6_faultOfLien 35 = .ok (.aload_n 0, 1) := by decide +kernel
theorem dX6_faultOfLien_36 : decode cX6_faultOfLien 36 = .ok (.getfield 18, 3) := by decide +kernel
theorem dX6_faultOfLien_39 : decode cX6_faultOfLien 39 = .ok (.iload_n 1, 1) := by decide +kernel
theorem dX6_faultOfLien_40 : decode cX6_faultOfLien 40 = .ok (.invokevirtual 85, 3) := by decide +kernel
theorem dX6_faultOfLien_43 : decode cX6_faultOfLien 43 = .ok (.ifCond .eq 19, 3) := by decide +kernel
theorem dX6_faultOfLien_46 : decode cX6_faultOfLien 46 = .ok (.aload_n 0, 1) := by decide +kernel
theorem dX6_faultOfLien_47 : decode cX6_faultOfLien 47 = .ok (.getfield 39, 3) := by decide +kernel
theorem dX6_faultOfLien_50 : decode cX6_faultOfLien 50 = .ok (.getfield 61, 3) := by decide +kernel
theorem dX6_faultOfLien_53 : decode cX6_faultOfLien 53 = .ok (.bipush 20, 2) := by decide +kernel
theorem dX6_faultOfLien_55 : decode cX6_faultOfLien 55 = .ok (.if_icmp .ge 7, 3) := by decide +kernel
theorem dX6_faultOfLien_58 : decode cX6_faultOfLien 58 = .ok (.iconst 0, 1) := by decide +kernel
theorem dX6_faultOfLien_59 : decode cX6_faultOfLien 59 = .ok (.goto 5, 3) := by decide +kernel
theorem dX6_faultOfLien_62 : decode cX6_faultOfLien 62 = .ok (.bipush 9, 2) := by decide +kernel
theorem dX6_faultOfLien_64 : decode cX6_faultOfLien 64 = .ok (.ireturn, 1) := by decide +kernel
set_option maxRecDepth 20000 in
theorem ggX6_faultOfDays_X7_isFrom : GoodIn wsX6_faultOfDays wsX7_isFrom := goodIn_r _ [4] (by decide +kernel) (by decide +kernel)
set_option maxRecDepth 20000 in
theorem gX6_faultOfDays_X7_isFrom_n94 : GoodIn wsX6_faultOfDays (wsX7_isFrom) := ggX6_faultOfDays_X7_isFrom
theorem dX6_faultOfDays_0 : decode cX6_faultOfDays 0 = .ok (.iload_n 1, 1) := by decide +kernel
theorem dX6_faultOfDays_1 : decode cX6_faultOfDays 1 = .ok (.iconst 0, 1) := by decide +kernel
theorem dX6_faultOfDays_2 : decode cX6_faultOfDays 2 = .ok (.sipush 999, 3) := by decide +kernel
theorem dX6_faultOfDays_5 : decode cX6_faultOfDays 5 = .ok (.invokestatic 94, 3) := by decide +kernel
theorem dX6_faultOfDays_8 : decode cX6_faultOfDays 8 = .ok (.ifCond .ne 6, 3) := by decide +kernel
theorem dX6_faultOfDays_11 : decode cX6_faultOfDays 11 = .ok (.bipush 8, 2) := by decide +kernel
theorem dX6_faultOfDays_13 : decode cX6_faultOfDays 13 = .ok (.ireturn, 1) := by decide +kernel
theorem dX6_faultOfDays_14 : decode cX6_faultOfDays 14 = .ok (.aload_n 0, 1) := by decide +kernel
theorem dX6_faultOfDays_15 : decode cX6_faultOfDays 15 = .ok (.getfield 9, 3) := by decide +kernel
theorem dX6_faultOfDays_18 : decode cX6_faultOfDays 18 = .ok (.iload_n 1, 1) := by decide +kernel
theorem dX6_faultOfDays_19 : decode cX6_faultOfDays 19 = .ok (.iadd, 1) := by decide +kernel
theorem dX6_faultOfDays_20 : decode cX6_faultOfDays 20 = .ok (.sipush 9999, 3) := by decide +kernel
theorem dX6_faultOfDays_23 : decode cX6_faultOfDays 23 = .ok (.if_icmp .gt 7, 3) := by decide +kernel
theorem dX6_faultOfDays_26 : decode cX6_faultOfDays 26 = .ok (.iconst 0, 1) := by decide +kernel
theorem dX6_faultOfDays_27 : decode cX6_faultOfDays 27 = .ok (.goto 5, 3) := by decide +kernel
theorem dX6_faultOfDays_30 : decode cX6_faultOfDays 30 = .ok (.bipush 9, 2) := by decide +kernel
theorem dX6_faultOfDays_32 : decode cX6_faultOfDays 32 = .ok (.ireturn, 1) := by decide +kernel
set_option maxRecDepth 20000 in
theorem ggX6_divide_X6_holderNow : GoodIn wsX6_divide wsX6_holderNow := goodIn_ca (goodIn_r _ [9, 10, 11, 12, 8, 13, 1, 14, 15, 16, 17, 18, 19, 20, 21, 22, 23, 24, 25, 26, 27, 28, 29, 30, 31, 32, 33, 34, 35, 98, 99, 100, 101, 102, 103, 104, 105, 106, 107, 108, 109, 110, 111, 112, 113, 114, 115] (by decide +kernel) (by decide +kernel)) (goodIn_sub (fun _ h => List.mem_cons_of_mem _ (List.mem_append_right _ h)) (by decide +kernel))
set_option maxRecDepth 20000 in
theorem gX6_divide_X6_holderNow : GoodIn wsX6_divide (wsV RX6 98 RX6 yX6_holderNow wsX6_holderNow) := goodIn_app (goodIn_of _ (by decide +kernel)) ggX6_divide_X6_holderNow
set_option maxRecDepth 20000 in
theorem ggX6_divide_X4_neighboursOf : GoodIn wsX6_divide wsX4_neighboursOf := goodIn_ca (goodIn_r _ [39, 40, 41, 17, 18, 19, 20, 21, 103, 104, 105, 106, 107, 108, 109] (by decide +kernel) (by decide +kernel)) (goodIn_sub (fun _ h => List.mem_cons_of_mem _ (List.mem_append_right _ h)) (by decide +kernel))
set_option maxRecDepth 20000 in
theorem gX6_divide_X4_neighboursOf : GoodIn wsX6_divide (wsV RX6 117 RX4 yX4_neighboursOf wsX4_neighboursOf) := goodIn_app (goodIn_of _ (by decide +kernel)) ggX6_divide_X4_neighboursOf
set_option maxRecDepth 20000 in
theorem ggX6_divide_X4_areaOf : GoodIn wsX6_divide wsX4_areaOf := goodIn_ca (goodIn_r _ [45, 21, 46, 47, 48, 49, 103, 104, 105, 106, 107, 108, 109] (by decide +kernel) (by decide +kernel)) (goodIn_sub (fun _ h => List.mem_cons_of_mem _ (List.mem_append_right _ h)) (by decide +kernel))
set_option maxRecDepth 20000 in
theorem gX6_divide_X4_areaOf : GoodIn wsX6_divide (wsV RX6 120 RX4 yX4_areaOf wsX4_areaOf) := goodIn_app (goodIn_of _ (by decide +kernel)) ggX6_divide_X4_areaOf
set_option maxRecDepth 20000 in
theorem ggX6_divide_X4_end : GoodIn wsX6_divide wsX4_end := goodIn_ca (goodIn_r _ [53, 21, 40, 54, 41, 17, 18, 19, 20, 103, 104, 105, 106, 107, 108, 109] (by decide +kernel) (by decide +kernel)) (goodIn_sub (fun _ h => List.mem_cons_of_mem _ (List.mem_append_right _ h)) (by decide +kernel))
set_option maxRecDepth 20000 in
theorem gX6_divide_X4_end : GoodIn wsX6_divide (wsV RX6 123 RX4 yX4_end wsX4_end) := goodIn_app (goodIn_of _ (by decide +kernel)) ggX6_divide_X4_end
set_option maxRecDepth 20000 in
theorem ggX6_divide_X4_come : GoodIn wsX6_divide wsX4_come := goodIn_ca (goodIn_r _ [58, 21, 46, 59, 54, 40, 60, 61, 103, 104, 105, 106, 107, 108, 109] (by decide +kernel) (by decide +kernel)) (goodIn_sub (fun _ h => List.mem_cons_of_mem _ (List.mem_append_right _ h)) (by decide +kernel))
set_option maxRecDepth 20000 in
theorem gX6_divide_X4_come : GoodIn wsX6_divide (wsV RX6 127 RX4 yX4_come wsX4_come) := goodIn_app (goodIn_of _ (by decide +kernel)) ggX6_divide_X4_come
set_option maxRecDepth 20000 in
theorem ggX6_divide_X4_link : GoodIn wsX6_divide wsX4_link := goodIn_ca (goodIn_r _ [65, 40, 41, 17, 18, 19, 20, 21, 103, 104, 105, 106, 107, 108, 109] (by decide +kernel) (by decide +kernel)) (goodIn_sub (fun _ h => List.mem_cons_of_mem _ (List.mem_append_right _ h)) (by decide +kernel))
set_option maxRecDepth 20000 in
theorem gX6_divide_X4_link : GoodIn wsX6_divide (wsV RX6 131 RX4 yX4_link wsX4_link) := goodIn_app (goodIn_of _ (by decide +kernel)) ggX6_divide_X4_link
set_option maxRecDepth 20000 in
theorem ggX6_divide_X4_linkAll : GoodIn wsX6_divide wsX4_linkAll := goodIn_ca (goodIn_r _ [69, 21, 47, 48, 49, 70, 63, 64, 19, 65, 40, 41, 17, 18, 20, 103, 104, 105, 106, 107, 108, 109] (by decide +kernel) (by decide +kernel)) (goodIn_sub (fun _ h => List.mem_cons_of_mem _ (List.mem_append_right _ h)) (by decide +kernel))
set_option maxRecDepth 20000 in
theorem gX6_divide_X4_linkAll : GoodIn wsX6_divide (wsV RX6 134 RX4 yX4_linkAll wsX4_linkAll) := goodIn_app (goodIn_of _ (by decide +kernel)) ggX6_divide_X4_linkAll
set_option maxRecDepth 20000 in
theorem ggX6_divide_X1_followSplit : GoodIn wsX6_divide wsX1_followSplit := goodIn_ca (goodIn_r _ [75, 76, 77, 78, 79, 80, 81, 82, 83, 74, 84, 85, 86, 87, 88, 89, 116, 117, 118, 119, 120, 121] (by decide +kernel) (by decide +kernel)) (goodIn_sub (fun _ h => List.mem_cons_of_mem _ (List.mem_append_right _ h)) (by decide +kernel))
set_option maxRecDepth 20000 in
theorem gX6_divide_X1_followSplit : GoodIn wsX6_divide (wsV RX6 137 RX1 yX1_followSplit wsX1_followSplit) := goodIn_app (goodIn_of _ (by decide +kernel)) ggX6_divide_X1_followSplit
set_option maxRecDepth 20000 in
theorem ggX6_divide_X3_follow : GoodIn wsX6_divide wsX3_follow := goodIn_ca (goodIn_r _ [94, 95, 96, 97, 122, 123, 124, 125, 126, 127] (by decide +kernel) (by decide +kernel)) (goodIn_sub (fun _ h => List.mem_cons_of_mem _ (List.mem_append_right _ h)) (by decide +kernel))
set_option maxRecDepth 20000 in
theorem gX6_divide_X3_follow : GoodIn wsX6_divide (wsV RX6 141 RX3 yX3_follow wsX3_follow) := goodIn_app (goodIn_of _ (by decide +kernel)) ggX6_divide_X3_follow
theorem dX6_divide_0 : decode cX6_divide 0 = .ok (.aload_n 0, 1) := by decide +kernel
theorem dX6_divide_1 : decode cX6_divide 1 = .ok (.iload_n 1, 1) := by decide +kernel
theorem dX6_divide_2 : decode cX6_divide 2 = .ok (.invokevirtual 98, 3) := by decide +kernel
theorem dX6_divide_5 : decode cX6_divide 5 = .ok (.istore 4, 2) := by decide +kernel
theorem dX6_divide_7 : decode cX6_divide 7 = .ok (.aload_n 0, 1) := by decide +kernel
theorem dX6_divide_8 : decode cX6_divide 8 = .ok (.getfield 18, 3) := by decide +kernel
theorem dX6_divide_11 : decode cX6_divide 11 = .ok (.iload_n 1, 1) := by decide +kernel
theorem dX6_divide_12 : decode cX6_divide 12 = .ok (.invokevirtual 117, 3) := by decide +kernel
theorem dX6_divide_15 : decode cX6_divide 15 = .ok (.iload_n 3, 1) := by decide +kernel
theorem dX6_divide_16 : decode cX6_divide 16 = .ok (.iconst (-1), 1) := by decide +kernel
theorem dX6_divide_17 : decode cX6_divide 17 = .ok (.ixor, 1) := by decide +kernel
theorem dX6_divide_18 : decode cX6_divide 18 = .ok (.iand, 1) := by decide +kernel
theorem dX6_divide_19 : decode cX6_divide 19 = .ok (.istore 5, 2) := by decide +kernel
theorem dX6_divide_21 : decode cX6_divide 21 = .ok (.aload_n 0, 1) := by decide +kernel
theorem dX6_divide_22 : decode cX6_divide 22 = .ok (.getfield 18, 3) := by decide +kernel
theorem dX6_divide_25 : decode cX6_divide 25 = .ok (.iconst 1, 1) := by decide +kernel
theorem dX6_divide_26 : decode cX6_divide 26 = .ok (.iload_n 1, 1) := by decide +kernel
theorem dX6_divide_27 : decode cX6_divide 27 = .ok (.ishl, 1) := by decide +kernel
theorem dX6_divide_28 : decode cX6_divide 28 = .ok (.invokevirtual 120, 3) := by decide +kernel
theorem dX6_divide_31 : decode cX6_divide 31 = .ok (.iload_n 2, 1) := by decide +kernel
theorem dX6_divide_32 : decode cX6_divide 32 = .ok (.isub, 1) := by decide +kernel
theorem dX6_divide_33 : decode cX6_divide 33 = .ok (.istore 6, 2) := by decide +kernel
theorem dX6_divide_35 : decode cX6_divide 35 = .ok (.aload_n 0, 1) := by decide +kernel
theorem dX6_divide_36 : decode cX6_divide 36 = .ok (.getfield 18, 3) := by decide +kernel
theorem dX6_divide_39 : decode cX6_divide 39 = .ok (.iload_n 1, 1) := by decide +kernel
theorem dX6_divide_40 : decode cX6_divide 40 = .ok (.aload_n 0, 1) := by decide +kernel
theorem dX6_divide_41 : decode cX6_divide 41 = .ok (.getfield 9, 3) := by decide +kernel
theorem dX6_divide_44 : decode cX6_divide 44 = .ok (.invokevirtual 123, 3) := by decide +kernel
theorem dX6_divide_47 : decode cX6_divide 47 = .ok (.aload_n 0, 1) := by decide +kernel
theorem dX6_divide_48 : decode cX6_divide 48 = .ok (.getfield 18, 3) := by decide +kernel
theorem dX6_divide_51 : decode cX6_divide 51 = .ok (.iload_n 2, 1) := by decide +kernel
theorem dX6_divide_52 : decode cX6_divide 52 = .ok (.iload 4, 2) := by decide +kernel
theorem dX6_divide_54 : decode cX6_divide 54 = .ok (.iconst 1, 1) := by decide +kernel
theorem dX6_divide_55 : decode cX6_divide 55 = .ok (.iload_n 1, 1) := by decide +kernel
theorem dX6_divide_56 : decode cX6_divide 56 = .ok (.ishl, 1) := by decide +kernel
theorem dX6_divide_57 : decode cX6_divide 57 = .ok (.aload_n 0, 1) := by decide +kernel
theorem dX6_divide_58 : decode cX6_divide 58 = .ok (.getfield 9, 3) := by decide +kernel
theorem dX6_divide_61 : decode cX6_divide 61 = .ok (.invokevirtual 127, 3) := by decide +kernel
theorem dX6_divide_64 : decode cX6_divide 64 = .ok (.istore 7, 2) := by decide +kernel
theorem dX6_divide_66 : decode cX6_divide 66 = .ok (.aload_n 0, 1) := by decide +kernel
theorem dX6_divide_67 : decode cX6_divide 67 = .ok (.getfield 18, 3) := by decide +kernel
theorem dX6_divide_70 : decode cX6_divide 70 = .ok (.iload 6, 2) := by decide +kernel
theorem dX6_divide_72 : decode cX6_divide 72 = .ok (.iload 4, 2) := by decide +kernel
theorem dX6_divide_74 : decode cX6_divide 74 = .ok (.iconst 1, 1) := by decide +kernel
theorem dX6_divide_75 : decode cX6_divide 75 = .ok (.iload_n 1, 1) := by decide +kernel
theorem dX6_divide_76 : decode cX6_divide 76 = .ok (.ishl, 1) := by decide +kernel
theorem dX6_divide_77 : decode cX6_divide 77 = .ok (.aload_n 0, 1) := by decide +kernel
theorem dX6_divide_78 : decode cX6_divide 78 = .ok (.getfield 9, 3) := by decide +kernel
theorem dX6_divide_81 : decode cX6_divide 81 = .ok (.invokevirtual 127, 3) := by decide +kernel
theorem dX6_divide_84 : decode cX6_divide 84 = .ok (.istore 8, 2) := by decide +kernel
theorem dX6_divide_86 : decode cX6_divide 86 = .ok (.aload_n 0, 1) := by decide +kernel
theorem dX6_divide_87 : decode cX6_divide 87 = .ok (.getfield 18, 3) := by decide +kernel
theorem dX6_divide_90 : decode cX6_divide 90 = .ok (.iload 7, 2) := by decide +kernel
theorem dX6_divide_92 : decode cX6_divide 92 = .ok (.iload 8, 2) := by decide +kernel
theorem dX6_divide_94 : decode cX6_divide 94 = .ok (.invokevirtual 131, 3) := by decide +kernel
theorem dX6_divide_97 : decode cX6_divide 97 = .ok (.aload_n 0, 1) := by decide +kernel
theorem dX6_divide_98 : decode cX6_divide 98 = .ok (.getfield 18, 3) := by decide +kernel
theorem dX6_divide_101 : decode cX6_divide 101 = .ok (.iload 7, 2) := by decide +kernel
theorem dX6_divide_103 : decode cX6_divide 103 = .ok (.iload_n 3, 1) := by decide +kernel
theorem dX6_divide_104 : decode cX6_divide 104 = .ok (.invokevirtual 134, 3) := by decide +kernel
theorem dX6_divide_107 : decode cX6_divide 107 = .ok (.aload_n 0, 1) := by decide +kernel
theorem dX6_divide_108 : decode cX6_divide 108 = .ok (.getfield 18, 3) := by decide +kernel
theorem dX6_divide_111 : decode cX6_divide 111 = .ok (.iload 8, 2) := by decide +kernel
theorem dX6_divide_113 : decode cX6_divide 113 = .ok (.iload 5, 2) := by decide +kernel
theorem dX6_divide_115 : decode cX6_divide 115 = .ok (.invokevirtual 134, 3) := by decide +kernel
theorem dX6_divide_118 : decode cX6_divide 118 = .ok (.aload_n 0, 1) := by decide +kernel
theorem dX6_divide_119 : decode cX6_divide 119 = .ok (.getfield 32, 3) := by decide +kernel
theorem dX6_divide_122 : decode cX6_divide 122 = .ok (.iload_n 1, 1) := by decide +kernel
theorem dX6_divide_123 : decode cX6_divide 123 = .ok (.iload 7, 2) := by decide +kernel
theorem dX6_divide_125 : decode cX6_divide 125 = .ok (.iload 8, 2) := by decide +kernel
theorem dX6_divide_127 : decode cX6_divide 127 = .ok (.aload_n 0, 1) := by decide +kernel
theorem dX6_divide_128 : decode cX6_divide 128 = .ok (.getfield 9, 3) := by decide +kernel
theorem dX6_divide_131 : decode cX6_divide 131 = .ok (.invokevirtual 137, 3) := by decide +kernel
theorem dX6_divide_134 : decode cX6_divide 134 = .ok (.aload_n 0, 1) := by decide +kernel
theorem dX6_divide_135 : decode cX6_divide 135 = .ok (.getfield 39, 3) := by decide +kernel
theorem dX6_divide_138 : decode cX6_divide 138 = .ok (.iconst 1, 1) := by decide +kernel
theorem dX6_divide_139 : decode cX6_divide 139 = .ok (.iload_n 1, 1) := by decide +kernel
theorem dX6_divide_140 : decode cX6_divide 140 = .ok (.ishl, 1) := by decide +kernel
theorem dX6_divide_141 : decode cX6_divide 141 = .ok (.iconst 1, 1) := by decide +kernel
theorem dX6_divide_142 : decode cX6_divide 142 = .ok (.iload 7, 2) := by decide +kernel
theorem dX6_divide_144 : decode cX6_divide 144 = .ok (.ishl, 1) := by decide +kernel
theorem dX6_divide_145 : decode cX6_divide 145 = .ok (.iconst 1, 1) := by decide +kernel
theorem dX6_divide_146 : decode cX6_divide 146 = .ok (.iload 8, 2) := by decide +kernel
theorem dX6_divide_148 : decode cX6_divide 148 = .ok (.ishl, 1) := by decide +kernel
theorem dX6_divide_149 : decode cX6_divide 149 = .ok (.ior, 1) := by decide +kernel
theorem dX6_divide_150 : decode cX6_divide 150 = .ok (.invokevirtual 141, 3) := by decide +kernel
theorem dX6_divide_153 : decode cX6_divide 153 = .ok (.iload 7, 2) := by decide +kernel
theorem dX6_divide_155 : decode cX6_divide 155 = .ok (.ireturn, 1) := by decide +kernel
set_option maxRecDepth 20000 in
theorem ggX6_unite_X6_holderNow : GoodIn wsX6_unite wsX6_holderNow := goodIn_ca (goodIn_r _ [9, 10, 11, 12, 8, 13, 1, 14, 15, 16, 17, 18, 19, 20, 21, 22, 23, 24, 25, 26, 27, 28, 29, 30, 31, 32, 33, 34, 35, 100, 101, 102, 103, 104, 105, 106, 107, 108, 109, 110, 111, 112, 113, 114, 115, 116, 117] (by decide +kernel) (by decide +kernel)) (goodIn_sub (fun _ h => List.mem_cons_of_mem _ (List.mem_append_right _ h)) (by decide +kernel))
set_option maxRecDepth 20000 in
theorem gX6_unite_X6_holderNow : GoodIn wsX6_unite (wsV RX6 98 RX6 yX6_holderNow wsX6_holderNow) := goodIn_app (goodIn_of _ (by decide +kernel)) ggX6_unite_X6_holderNow
set_option maxRecDepth 20000 in
theorem ggX6_unite_X4_neighboursOf : GoodIn wsX6_unite wsX4_neighboursOf := goodIn_ca (goodIn_r _ [39, 40, 41, 17, 18, 19, 20, 21, 105, 106, 107, 108, 109, 110, 111] (by decide +kernel) (by decide +kernel)) (goodIn_sub (fun _ h => List.mem_cons_of_mem _ (List.mem_append_right _ h)) (by decide +kernel))
set_option maxRecDepth 20000 in
theorem gX6_unite_X4_neighboursOf : GoodIn wsX6_unite (wsV RX6 117 RX4 yX4_neighboursOf wsX4_neighboursOf) := goodIn_app (goodIn_of _ (by decide +kernel)) ggX6_unite_X4_neighboursOf
set_option maxRecDepth 20000 in
theorem ggX6_unite_X4_end : GoodIn wsX6_unite wsX4_end := goodIn_ca (goodIn_r _ [45, 21, 40, 46, 41, 17, 18, 19, 20, 105, 106, 107, 108, 109, 110, 111] (by decide +kernel) (by decide +kernel)) (goodIn_sub (fun _ h => List.mem_cons_of_mem _ (List.mem_append_right _ h)) (by decide +kernel))
set_option maxRecDepth 20000 in
theorem gX6_unite_X4_end : GoodIn wsX6_unite (wsV RX6 123 RX4 yX4_end wsX4_end) := goodIn_app (goodIn_of _ (by decide +kernel)) ggX6_unite_X4_end
set_option maxRecDepth 20000 in
theorem ggX6_unite_X4_areaOf : GoodIn wsX6_unite wsX4_areaOf := goodIn_ca (goodIn_r _ [50, 21, 51, 52, 53, 54, 105, 106, 107, 108, 109, 110, 111] (by decide +kernel) (by decide +kernel)) (goodIn_sub (fun _ h => List.mem_cons_of_mem _ (List.mem_append_right _ h)) (by decide +kernel))
set_option maxRecDepth 20000 in
theorem gX6_unite_X4_areaOf : GoodIn wsX6_unite (wsV RX6 120 RX4 yX4_areaOf wsX4_areaOf) := goodIn_app (goodIn_of _ (by decide +kernel)) ggX6_unite_X4_areaOf
set_option maxRecDepth 20000 in
theorem ggX6_unite_X4_come : GoodIn wsX6_unite wsX4_come := goodIn_ca (goodIn_r _ [58, 21, 51, 59, 46, 40, 60, 61, 105, 106, 107, 108, 109, 110, 111] (by decide +kernel) (by decide +kernel)) (goodIn_sub (fun _ h => List.mem_cons_of_mem _ (List.mem_append_right _ h)) (by decide +kernel))
set_option maxRecDepth 20000 in
theorem gX6_unite_X4_come : GoodIn wsX6_unite (wsV RX6 127 RX4 yX4_come wsX4_come) := goodIn_app (goodIn_of _ (by decide +kernel)) ggX6_unite_X4_come
set_option maxRecDepth 20000 in
theorem ggX6_unite_X4_linkAll : GoodIn wsX6_unite wsX4_linkAll := goodIn_ca (goodIn_r _ [65, 21, 52, 53, 54, 66, 67, 68, 19, 69, 40, 41, 17, 18, 20, 105, 106, 107, 108, 109, 110, 111] (by decide +kernel) (by decide +kernel)) (goodIn_sub (fun _ h => List.mem_cons_of_mem _ (List.mem_append_right _ h)) (by decide +kernel))
set_option maxRecDepth 20000 in
theorem gX6_unite_X4_linkAll : GoodIn wsX6_unite (wsV RX6 134 RX4 yX4_linkAll wsX4_linkAll) := goodIn_app (goodIn_of _ (by decide +kernel)) ggX6_unite_X4_linkAll
set_option maxRecDepth 20000 in
theorem ggX6_unite_X1_followMerge : GoodIn wsX6_unite wsX1_followMerge := goodIn_ca (goodIn_r _ [74, 75, 76, 77, 78, 79, 80, 81, 73, 82, 83, 84, 85, 86, 87, 88, 89, 90, 91, 118, 119, 120, 121, 122, 123] (by decide +kernel) (by decide +kernel)) (goodIn_sub (fun _ h => List.mem_cons_of_mem _ (List.mem_append_right _ h)) (by decide +kernel))
set_option maxRecDepth 20000 in
theorem gX6_unite_X1_followMerge : GoodIn wsX6_unite (wsV RX6 144 RX1 yX1_followMerge wsX1_followMerge) := goodIn_app (goodIn_of _ (by decide +kernel)) ggX6_unite_X1_followMerge
set_option maxRecDepth 20000 in
theorem ggX6_unite_X3_follow : GoodIn wsX6_unite wsX3_follow := goodIn_ca (goodIn_r _ [96, 97, 98, 99, 124, 125, 126, 127, 128, 129] (by decide +kernel) (by decide +kernel)) (goodIn_sub (fun _ h => List.mem_cons_of_mem _ (List.mem_append_right _ h)) (by decide +kernel))
set_option maxRecDepth 20000 in
theorem gX6_unite_X3_follow : GoodIn wsX6_unite (wsV RX6 141 RX3 yX3_follow wsX3_follow) := goodIn_app (goodIn_of _ (by decide +kernel)) ggX6_unite_X3_follow
theorem dX6_unite_0 : decode cX6_unite 0 = .ok (.aload_n 0, 1) := by decide +kernel
theorem dX6_unite_1 : decode cX6_unite 1 = .ok (.iload_n 1, 1) := by decide +kernel
theorem dX6_unite_2 : decode cX6_unite 2 = .ok (.invokevirtual 98, 3) := by decide +kernel
theorem dX6_unite_5 : decode cX6_unite 5 = .ok (.istore_n 3, 1) := by decide +kernel
theorem dX6_unite_6 : decode cX6_unite 6 = .ok (.iconst 1, 1) := by decide +kernel
theorem dX6_unite_7 : decode cX6_unite 7 = .ok (.iload_n 1, 1) := by decide +kernel
theorem dX6_unite_8 : decode cX6_unite 8 = .ok (.ishl, 1) := by decide +kernel
theorem dX6_unite_9 : decode cX6_unite 9 = .ok (.iconst 1, 1) := by decide +kernel
theorem dX6_unite_10 : decode cX6_unite 10 = .ok (.iload_n 2, 1) := by decide +kernel
theorem dX6_unite_11 : decode cX6_unite 11 = .ok (.ishl, 1) := by decide +kernel
theorem dX6_unite_12 : decode cX6_unite 12 = .ok (.ior, 1) := by decide +kernel
theorem dX6_unite_13 : decode cX6_unite 13 = .ok (.istore 4, 2) := by decide +kernel
theorem dX6_unite_15 : decode cX6_unite 15 = .ok (.aload_n 0, 1) := by decide +kernel
theorem dX6_unite_16 : decode cX6_unite 16 = .ok (.getfield 18, 3) := by decide +kernel
theorem dX6_unite_19 : decode cX6_unite 19 = .ok (.iload_n 1, 1) := by decide +kernel
theorem dX6_unite_20 : decode cX6_unite 20 = .ok (.invokevirtual 117, 3) := by decide +kernel
theorem dX6_unite_23 : decode cX6_unite 23 = .ok (.aload_n 0, 1) := by decide +kernel
theorem dX6_unite_24 : decode cX6_unite 24 = .ok (.getfield 18, 3) := by decide +kernel
theorem dX6_unite_27 : decode cX6_unite 27 = .ok (.iload_n 2, 1) := by decide +kernel
theorem dX6_unite_28 : decode cX6_unite 28 = .ok (.invokevirtual 117, 3) := by decide +kernel
theorem dX6_unite_31 : decode cX6_unite 31 = .ok (.ior, 1) := by decide +kernel
theorem dX6_unite_32 : decode cX6_unite 32 = .ok (.iload 4, 2) := by decide +kernel
theorem dX6_unite_34 : decode cX6_unite 34 = .ok (.iconst (-1), 1) := by decide +kernel
theorem dX6_unite_35 : decode cX6_unite 35 = .ok (.ixor, 1) := by decide +kernel
theorem dX6_unite_36 : decode cX6_unite 36 = .ok (.iand, 1) := by decide +kernel
theorem dX6_unite_37 : decode cX6_unite 37 = .ok (.istore 5, 2) := by decide +kernel
theorem dX6_unite_39 : decode cX6_unite 39 = .ok (.aload_n 0, 1) := by decide +kernel
theorem dX6_unite_40 : decode cX6_unite 40 = .ok (.getfield 18, 3) := by decide +kernel
theorem dX6_unite_43 : decode cX6_unite 43 = .ok (.iload_n 1, 1) := by decide +kernel
theorem dX6_unite_44 : decode cX6_unite 44 = .ok (.aload_n 0, 1) := by decide +kernel
theorem dX6_unite_45 : decode cX6_unite 45 = .ok (.getfield 9, 3) := by decide +kernel
theorem dX6_unite_48 : decode cX6_unite 48 = .ok (.invokevirtual 123, 3) := by decide +kernel
theorem dX6_unite_51 : decode cX6_unite 51 = .ok (.aload_n 0, 1) := by decide +kernel
theorem dX6_unite_52 : decode cX6_unite 52 = .ok (.getfield 18, 3) := by decide +kernel
theorem dX6_unite_55 : decode cX6_unite 55 = .ok (.iload_n 2, 1) := by decide +kernel
theorem dX6_unite_56 : decode cX6_unite 56 = .ok (.aload_n 0, 1) := by decide +kernel
theorem dX6_unite_57 : decode cX6_unite 57 = .ok (.getfield 9, 3) := by decide +kernel
theorem dX6_unite_60 : decode cX6_unite 60 = .ok (.invokevirtual 123, 3) := by decide +kernel
theorem dX6_unite_63 : decode cX6_unite 63 = .ok (.aload_n 0, 1) := by decide +kernel
theorem dX6_unite_64 : decode cX6_unite 64 = .ok (.getfield 18, 3) := by decide +kernel
theorem dX6_unite_67 : decode cX6_unite 67 = .ok (.aload_n 0, 1) := by decide +kernel
theorem dX6_unite_68 : decode cX6_unite 68 = .ok (.getfield 18, 3) := by decide +kernel
theorem dX6_unite_71 : decode cX6_unite 71 = .ok (.iload 4, 2) := by decide +kernel
theorem dX6_unite_73 : decode cX6_unite 73 = .ok (.invokevirtual 120, 3) := by decide +kernel
theorem dX6_unite_76 : decode cX6_unite 76 = .ok (.iload_n 3, 1) := by decide +kernel
theorem dX6_unite_77 : decode cX6_unite 77 = .ok (.iload 4, 2) := by decide +kernel
theorem dX6_unite_79 : decode cX6_unite 79 = .ok (.aload_n 0, 1) := by decide +kernel
theorem dX6_unite_80 : decode cX6_unite 80 = .ok (.getfield 9, 3) := by decide +kernel
theorem dX6_unite_83 : decode cX6_unite 83 = .ok (.invokevirtual 127, 3) := by decide +kernel
theorem dX6_unite_86 : decode cX6_unite 86 = .ok (.istore 6, 2) := by decide +kernel
theorem dX6_unite_88 : decode cX6_unite 88 = .ok (.aload_n 0, 1) := by decide +kernel
theorem dX6_unite_89 : decode cX6_unite 89 = .ok (.getfield 18, 3) := by decide +kernel
theorem dX6_unite_92 : decode cX6_unite 92 = .ok (.iload 6, 2) := by decide +kernel
theorem dX6_unite_94 : decode cX6_unite 94 = .ok (.iload 5, 2) := by decide +kernel
theorem dX6_unite_96 : decode cX6_unite 96 = .ok (.invokevirtual 134, 3) := by decide +kernel
theorem dX6_unite_99 : decode cX6_unite 99 = .ok (.aload_n 0, 1) := by decide +kernel
theorem dX6_unite_100 : decode cX6_unite 100 = .ok (.getfield 32, 3) := by decide +kernel
theorem dX6_unite_103 : decode cX6_unite 103 = .ok (.iload_n 1, 1) := by decide +kernel
theorem dX6_unite_104 : decode cX6_unite 104 = .ok (.iload_n 2, 1) := by decide +kernel
theorem dX6_unite_105 : decode cX6_unite 105 = .ok (.iload 6, 2) := by decide +kernel
theorem dX6_unite_107 : decode cX6_unite 107 = .ok (.aload_n 0, 1) := by decide +kernel
theorem dX6_unite_108 : decode cX6_unite 108 = .ok (.getfield 9, 3) := by decide +kernel
theorem dX6_unite_111 : decode cX6_unite 111 = .ok (.invokevirtual 144, 3) := by decide +kernel
theorem dX6_unite_114 : decode cX6_unite 114 = .ok (.aload_n 0, 1) := by decide +kernel
theorem dX6_unite_115 : decode cX6_unite 115 = .ok (.getfield 39, 3) := by decide +kernel
theorem dX6_unite_118 : decode cX6_unite 118 = .ok (.iload 4, 2) := by decide +kernel
theorem dX6_unite_120 : decode cX6_unite 120 = .ok (.iconst 1, 1) := by decide +kernel
theorem dX6_unite_121 : decode cX6_unite 121 = .ok (.iload 6, 2) := by decide +kernel
theorem dX6_unite_123 : decode cX6_unite 123 = .ok (.ishl, 1) := by decide +kernel
theorem dX6_unite_124 : decode cX6_unite 124 = .ok (.invokevirtual 141, 3) := by decide +kernel
theorem dX6_unite_127 : decode cX6_unite 127 = .ok (.iload 6, 2) := by decide +kernel
theorem dX6_unite_129 : decode cX6_unite 129 = .ok (.ireturn, 1) := by decide +kernel
