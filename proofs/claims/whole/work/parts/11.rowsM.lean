theorem dX8_thrown_0 : decode cX8_thrown 0 = .ok (.aload_n 0, 1) := by decide +kernel
theorem dX8_thrown_1 : decode cX8_thrown 1 = .ok (.getfield 38, 3) := by decide +kernel
theorem dX8_thrown_4 : decode cX8_thrown 4 = .ok (.ireturn, 1) := by decide +kernel
theorem dX8_isBetween_0 : decode cX8_isBetween 0 = .ok (.iload_n 0, 1) := by decide +kernel
theorem dX8_isBetween_1 : decode cX8_isBetween 1 = .ok (.iload_n 1, 1) := by decide +kernel
theorem dX8_isBetween_2 : decode cX8_isBetween 2 = .ok (.if_icmp .lt 12, 3) := by decide +kernel
theorem dX8_isBetween_5 : decode cX8_isBetween 5 = .ok (.iload_n 0, 1) := by decide +kernel
theorem dX8_isBetween_6 : decode cX8_isBetween 6 = .ok (.iload_n 2, 1) := by decide +kernel
theorem dX8_isBetween_7 : decode cX8_isBetween 7 = .ok (.if_icmp .gt 7, 3) := by decide +kernel
theorem dX8_isBetween_10 : decode cX8_isBetween 10 = .ok (.iconst 1, 1) := by decide +kernel
theorem dX8_isBetween_11 : decode cX8_isBetween 11 = .ok (.goto 4, 3) := by decide +kernel
theorem dX8_isBetween_14 : decode cX8_isBetween 14 = .ok (.iconst 0, 1) := by decide +kernel
theorem dX8_isBetween_15 : decode cX8_isBetween 15 = .ok (.ireturn, 1) := by decide +kernel
theorem dX8_copyRow_0 : decode cX8_copyRow 0 = .ok (.iconst 0, 1) := by decide +kernel
theorem dX8_copyRow_1 : decode cX8_copyRow 1 = .ok (.istore_n 2, 1) := by decide +kernel
theorem dX8_copyRow_2 : decode cX8_copyRow 2 = .ok (.iload_n 2, 1) := by decide +kernel
theorem dX8_copyRow_3 : decode cX8_copyRow 3 = .ok (.sipush 621, 3) := by decide +kernel
theorem dX8_copyRow_6 : decode cX8_copyRow 6 = .ok (.if_icmp .ge 15, 3) := by decide +kernel
theorem dX8_copyRow_9 : decode cX8_copyRow 9 = .ok (.aload_n 1, 1) := by decide +kernel
theorem dX8_copyRow_10 : decode cX8_copyRow 10 = .ok (.iload_n 2, 1) := by decide +kernel
theorem dX8_copyRow_11 : decode cX8_copyRow 11 = .ok (.aload_n 0, 1) := by decide +kernel
theorem dX8_copyRow_12 : decode cX8_copyRow 12 = .ok (.iload_n 2, 1) := by decide +kernel
theorem dX8_copyRow_13 : decode cX8_copyRow 13 = .ok (.iaload, 1) := by decide +kernel
theorem dX8_copyRow_14 : decode cX8_copyRow 14 = .ok (.iastore, 1) := by decide +kernel
theorem dX8_copyRow_15 : decode cX8_copyRow 15 = .ok (.iinc 2 1, 3) := by decide +kernel
theorem dX8_copyRow_18 : decode cX8_copyRow 18 = .ok (.goto (-16), 3) := by decide +kernel
theorem dX8_copyRow_21 : decode cX8_copyRow 21 = .ok (.return_, 1) := by decide +kernel
theorem dX8_fails_0 : decode cX8_fails 0 = .ok (.aload_n 0, 1) := by decide +kernel
theorem dX8_fails_1 : decode cX8_fails 1 = .ok (.iload_n 2, 1) := by decide +kernel
theorem dX8_fails_2 : decode cX8_fails 2 = .ok (.ifCond .eq 7, 3) := by decide +kernel
theorem dX8_fails_5 : decode cX8_fails 5 = .ok (.iload_n 1, 1) := by decide +kernel
theorem dX8_fails_6 : decode cX8_fails 6 = .ok (.goto 4, 3) := by decide +kernel
theorem dX8_fails_9 : decode cX8_fails 9 = .ok (.iconst 0, 1) := by decide +kernel
theorem dX8_fails_10 : decode cX8_fails 10 = .ok (.putfield 38, 3) := by decide +kernel
theorem dX8_fails_13 : decode cX8_fails 13 = .ok (.iload_n 2, 1) := by decide +kernel
theorem dX8_fails_14 : decode cX8_fails 14 = .ok (.ireturn, 1) := by decide +kernel
set_option maxRecDepth 20000 in
theorem ggX8_remember_X8_copyRow : GoodIn wsX8_remember wsX8_copyRow := goodIn_ca (goodIn_r _ [6] (by decide +kernel) (by decide +kernel)) (goodIn_sub (fun _ h => List.mem_cons_of_mem _ (List.mem_append_right _ h)) (by decide +kernel))
set_option maxRecDepth 20000 in
theorem gX8_remember_X8_copyRow : GoodIn wsX8_remember (va_wsS RX8 44 yX8_copyRow wsX8_copyRow) := goodIn_app (goodIn_of _ (by decide +kernel)) ggX8_remember_X8_copyRow
theorem dX8_remember_0 : decode cX8_remember 0 = .ok (.aload_n 0, 1) := by decide +kernel
theorem dX8_remember_1 : decode cX8_remember 1 = .ok (.getfield 41, 3) := by decide +kernel
theorem dX8_remember_4 : decode cX8_remember 4 = .ok (.bipush 6, 2) := by decide +kernel
theorem dX8_remember_6 : decode cX8_remember 6 = .ok (.if_icmp .ne 46, 3) := by decide +kernel
theorem dX8_remember_9 : decode cX8_remember 9 = .ok (.aload_n 0, 1) := by decide +kernel
theorem dX8_remember_10 : decode cX8_remember 10 = .ok (.dup, 1) := by decide +kernel
theorem dX8_remember_11 : decode cX8_remember 11 = .ok (.getfield 41, 3) := by decide +kernel
theorem dX8_remember_14 : decode cX8_remember 14 = .ok (.iconst 1, 1) := by decide +kernel
theorem dX8_remember_15 : decode cX8_remember 15 = .ok (.isub, 1) := by decide +kernel
theorem dX8_remember_16 : decode cX8_remember 16 = .ok (.putfield 41, 3) := by decide +kernel
theorem dX8_remember_19 : decode cX8_remember 19 = .ok (.iconst 0, 1) := by decide +kernel
theorem dX8_remember_20 : decode cX8_remember 20 = .ok (.istore_n 2, 1) := by decide +kernel
theorem dX8_remember_21 : decode cX8_remember 21 = .ok (.iload_n 2, 1) := by decide +kernel
theorem dX8_remember_22 : decode cX8_remember 22 = .ok (.aload_n 0, 1) := by decide +kernel
theorem dX8_remember_23 : decode cX8_remember 23 = .ok (.getfield 41, 3) := by decide +kernel
theorem dX8_remember_26 : decode cX8_remember 26 = .ok (.if_icmp .ge 26, 3) := by decide +kernel
theorem dX8_remember_29 : decode cX8_remember 29 = .ok (.aload_n 0, 1) := by decide +kernel
theorem dX8_remember_30 : decode cX8_remember 30 = .ok (.getfield 21, 3) := by decide +kernel
theorem dX8_remember_33 : decode cX8_remember 33 = .ok (.iload_n 2, 1) := by decide +kernel
theorem dX8_remember_34 : decode cX8_remember 34 = .ok (.iconst 1, 1) := by decide +kernel
theorem dX8_remember_35 : decode cX8_remember 35 = .ok (.iadd, 1) := by decide +kernel
theorem dX8_remember_36 : decode cX8_remember 36 = .ok (.aaload, 1) := by decide +kernel
theorem dX8_remember_37 : decode cX8_remember 37 = .ok (.aload_n 0, 1) := by decide +kernel
theorem dX8_remember_38 : decode cX8_remember 38 = .ok (.getfield 21, 3) := by decide +kernel
theorem dX8_remember_41 : decode cX8_remember 41 = .ok (.iload_n 2, 1) := by decide +kernel
theorem dX8_remember_42 : decode cX8_remember 42 = .ok (.aaload, 1) := by decide +kernel
theorem dX8_remember_43 : decode cX8_remember 43 = .ok (.invokestatic 44, 3) := by decide +kernel
theorem dX8_remember_46 : decode cX8_remember 46 = .ok (.iinc 2 1, 3) := by decide +kernel
theorem dX8_remember_49 : decode cX8_remember 49 = .ok (.goto (-28), 3) := by decide +kernel
theorem dX8_remember_52 : decode cX8_remember 52 = .ok (.aload_n 1, 1) := by decide +kernel
theorem dX8_remember_53 : decode cX8_remember 53 = .ok (.aload_n 0, 1) := by decide +kernel
theorem dX8_remember_54 : decode cX8_remember 54 = .ok (.getfield 21, 3) := by decide +kernel
theorem dX8_remember_57 : decode cX8_remember 57 = .ok (.aload_n 0, 1) := by decide +kernel
theorem dX8_remember_58 : decode cX8_remember 58 = .ok (.getfield 41, 3) := by decide +kernel
theorem dX8_remember_61 : decode cX8_remember 61 = .ok (.aaload, 1) := by decide +kernel
theorem dX8_remember_62 : decode cX8_remember 62 = .ok (.invokestatic 44, 3) := by decide +kernel
theorem dX8_remember_65 : decode cX8_remember 65 = .ok (.aload_n 0, 1) := by decide +kernel
theorem dX8_remember_66 : decode cX8_remember 66 = .ok (.dup, 1) := by decide +kernel
theorem dX8_remember_67 : decode cX8_remember 67 = .ok (.getfield 41, 3) := by decide +kernel
theorem dX8_remember_70 : decode cX8_remember 70 = .ok (.iconst 1, 1) := by decide +kernel
theorem dX8_remember_71 : decode cX8_remember 71 = .ok (.iadd, 1) := by decide +kernel
theorem dX8_remember_72 : decode cX8_remember 72 = .ok (.putfield 41, 3) := by decide +kernel
theorem dX8_remember_75 : decode cX8_remember 75 = .ok (.return_, 1) := by decide +kernel
theorem dX8_bit_0 : decode cX8_bit 0 = .ok (.iconst 1, 1) := by decide +kernel
theorem dX8_bit_1 : decode cX8_bit 1 = .ok (.iload_n 0, 1) := by decide +kernel
theorem dX8_bit_2 : decode cX8_bit 2 = .ok (.ishl, 1) := by decide +kernel
theorem dX8_bit_3 : decode cX8_bit 3 = .ok (.ireturn, 1) := by decide +kernel
theorem dX8_has_0 : decode cX8_has 0 = .ok (.iload_n 0, 1) := by decide +kernel
theorem dX8_has_1 : decode cX8_has 1 = .ok (.iload_n 1, 1) := by decide +kernel
theorem dX8_has_2 : decode cX8_has 2 = .ok (.ishr, 1) := by decide +kernel
theorem dX8_has_3 : decode cX8_has 3 = .ok (.iconst 1, 1) := by decide +kernel
theorem dX8_has_4 : decode cX8_has 4 = .ok (.iand, 1) := by decide +kernel
theorem dX8_has_5 : decode cX8_has 5 = .ok (.iconst 1, 1) := by decide +kernel
theorem dX8_has_6 : decode cX8_has 6 = .ok (.if_icmp .ne 7, 3) := by decide +kernel
theorem dX8_has_9 : decode cX8_has 9 = .ok (.iconst 1, 1) := by decide +kernel
theorem dX8_has_10 : decode cX8_has 10 = .ok (.goto 4, 3) := by decide +kernel
theorem dX8_has_13 : decode cX8_has 13 = .ok (.iconst 0, 1) := by decide +kernel
theorem dX8_has_14 : decode cX8_has 14 = .ok (.ireturn, 1) := by decide +kernel
theorem dX8_count_0 : decode cX8_count 0 = .ok (.iconst 0, 1) := by decide +kernel
theorem dX8_count_1 : decode cX8_count 1 = .ok (.istore_n 1, 1) := by decide +kernel
theorem dX8_count_2 : decode cX8_count 2 = .ok (.iload_n 0, 1) := by decide +kernel
theorem dX8_count_3 : decode cX8_count 3 = .ok (.istore_n 2, 1) := by decide +kernel
theorem dX8_count_4 : decode cX8_count 4 = .ok (.iload_n 2, 1) := by decide +kernel
theorem dX8_count_5 : decode cX8_count 5 = .ok (.ifCond .eq 15, 3) := by decide +kernel
theorem dX8_count_8 : decode cX8_count 8 = .ok (.iinc 1 1, 3) := by decide +kernel
theorem dX8_count_11 : decode cX8_count 11 = .ok (.iload_n 2, 1) := by decide +kernel
theorem dX8_count_12 : decode cX8_count 12 = .ok (.iload_n 2, 1) := by decide +kernel
theorem dX8_count_13 : decode cX8_count 13 = .ok (.iconst 1, 1) := by decide +kernel
theorem dX8_count_14 : decode cX8_count 14 = .ok (.isub, 1) := by decide +kernel
theorem dX8_count_15 : decode cX8_count 15 = .ok (.iand, 1) := by decide +kernel
theorem dX8_count_16 : decode cX8_count 16 = .ok (.istore_n 2, 1) := by decide +kernel
theorem dX8_count_17 : decode cX8_count 17 = .ok (.goto (-13), 3) := by decide +kernel
theorem dX8_count_20 : decode cX8_count 20 = .ok (.iload_n 1, 1) := by decide +kernel
theorem dX8_count_21 : decode cX8_count 21 = .ok (.ireturn, 1) := by decide +kernel
set_option maxRecDepth 20000 in
theorem ggX8_isParcel_X8_isBetween : GoodIn wsX8_isParcel wsX8_isBetween := goodIn_r _ [5] (by decide +kernel) (by decide +kernel)
set_option maxRecDepth 20000 in
theorem gX8_isParcel_X8_isBetween : GoodIn wsX8_isParcel (va_wsS RX8 48 yX8_isBetween wsX8_isBetween) := goodIn_app (goodIn_of _ (by decide +kernel)) ggX8_isParcel_X8_isBetween
theorem dX8_isParcel_0 : decode cX8_isParcel 0 = .ok (.iload_n 1, 1) := by decide +kernel
theorem dX8_isParcel_1 : decode cX8_isParcel 1 = .ok (.iconst 0, 1) := by decide +kernel
theorem dX8_isParcel_2 : decode cX8_isParcel 2 = .ok (.aload_n 0, 1) := by decide +kernel
theorem dX8_isParcel_3 : decode cX8_isParcel 3 = .ok (.getfield 9, 3) := by decide +kernel
theorem dX8_isParcel_6 : decode cX8_isParcel 6 = .ok (.iconst 1, 1) := by decide +kernel
theorem dX8_isParcel_7 : decode cX8_isParcel 7 = .ok (.iaload, 1) := by decide +kernel
theorem dX8_isParcel_8 : decode cX8_isParcel 8 = .ok (.iconst 1, 1) := by decide +kernel
theorem dX8_isParcel_9 : decode cX8_isParcel 9 = .ok (.isub, 1) := by decide +kernel
theorem dX8_isParcel_10 : decode cX8_isParcel 10 = .ok (.invokestatic 48, 3) := by decide +kernel
theorem dX8_isParcel_13 : decode cX8_isParcel 13 = .ok (.ireturn, 1) := by decide +kernel
theorem dX8_of_0 : decode cX8_of 0 = .ok (.aload_n 0, 1) := by decide +kernel
theorem dX8_of_1 : decode cX8_of 1 = .ok (.getfield 9, 3) := by decide +kernel
theorem dX8_of_4 : decode cX8_of 4 = .ok (.bipush 7, 2) := by decide +kernel
theorem dX8_of_6 : decode cX8_of 6 = .ok (.iload_n 1, 1) := by decide +kernel
theorem dX8_of_7 : decode cX8_of 7 = .ok (.bipush 6, 2) := by decide +kernel
theorem dX8_of_9 : decode cX8_of 9 = .ok (.imul, 1) := by decide +kernel
theorem dX8_of_10 : decode cX8_of 10 = .ok (.iadd, 1) := by decide +kernel
theorem dX8_of_11 : decode cX8_of 11 = .ok (.iload_n 2, 1) := by decide +kernel
theorem dX8_of_12 : decode cX8_of 12 = .ok (.iadd, 1) := by decide +kernel
theorem dX8_of_13 : decode cX8_of 13 = .ok (.iaload, 1) := by decide +kernel
theorem dX8_of_14 : decode cX8_of 14 = .ok (.ireturn, 1) := by decide +kernel
theorem dX8_set_0 : decode cX8_set 0 = .ok (.aload_n 0, 1) := by decide +kernel
theorem dX8_set_1 : decode cX8_set 1 = .ok (.getfield 9, 3) := by decide +kernel
theorem dX8_set_4 : decode cX8_set 4 = .ok (.bipush 7, 2) := by decide +kernel
theorem dX8_set_6 : decode cX8_set 6 = .ok (.iload_n 1, 1) := by decide +kernel
theorem dX8_set_7 : decode cX8_set 7 = .ok (.bipush 6, 2) := by decide +kernel
theorem dX8_set_9 : decode cX8_set 9 = .ok (.imul, 1) := by decide +kernel
theorem dX8_set_10 : decode cX8_set 10 = .ok (.iadd, 1) := by decide +kernel
theorem dX8_set_11 : decode cX8_set 11 = .ok (.iload_n 2, 1) := by decide +kernel
theorem dX8_set_12 : decode cX8_set 12 = .ok (.iadd, 1) := by decide +kernel
theorem dX8_set_13 : decode cX8_set 13 = .ok (.iload_n 3, 1) := by decide +kernel
theorem dX8_set_14 : decode cX8_set 14 = .ok (.iastore, 1) := by decide +kernel
theorem dX8_set_15 : decode cX8_set 15 = .ok (.return_, 1) := by decide +kernel
set_option maxRecDepth 20000 in
theorem ggX8_isPresent_X8_isParcel : GoodIn wsX8_isPresent wsX8_isParcel := goodIn_ca (goodIn_r _ [5, 6, 7, 8, 4, 9, 14, 15, 16, 17, 18, 19, 20, 21, 22, 23, 24, 25, 26, 27, 28] (by decide +kernel) (by decide +kernel)) (goodIn_sub (fun _ h => List.mem_cons_of_mem _ (List.mem_append_right _ h)) (by decide +kernel))
set_option maxRecDepth 20000 in
theorem gX8_isPresent_X8_isParcel : GoodIn wsX8_isPresent (wsV RX8 52 RX8 yX8_isParcel wsX8_isParcel) := goodIn_app (goodIn_of _ (by decide +kernel)) ggX8_isPresent_X8_isParcel
set_option maxRecDepth 20000 in
theorem ggX8_isPresent_X8_of : GoodIn wsX8_isPresent wsX8_of := goodIn_ca (goodIn_r _ [13, 6, 14, 15, 16, 17, 18, 19, 20, 21, 22, 23, 24, 25, 26, 27, 28] (by decide +kernel) (by decide +kernel)) (goodIn_sub (fun _ h => List.mem_cons_of_mem _ (List.mem_append_right _ h)) (by decide +kernel))
set_option maxRecDepth 20000 in
theorem gX8_isPresent_X8_of : GoodIn wsX8_isPresent (wsV RX8 56 RX8 yX8_of wsX8_of) := goodIn_app (goodIn_of _ (by decide +kernel)) ggX8_isPresent_X8_of
theorem dX8_isPresent_0 : decode cX8_isPresent 0 = .ok (.aload_n 0, 1) := by decide +kernel
theorem dX8_isPresent_1 : decode cX8_isPresent 1 = .ok (.iload_n 1, 1) := by decide +kernel
theorem dX8_isPresent_2 : decode cX8_isPresent 2 = .ok (.invokevirtual 52, 3) := by decide +kernel
theorem dX8_isPresent_5 : decode cX8_isPresent 5 = .ok (.ifCond .eq 16, 3) := by decide +kernel
theorem dX8_isPresent_8 : decode cX8_isPresent 8 = .ok (.aload_n 0, 1) := by decide +kernel
theorem dX8_isPresent_9 : decode cX8_isPresent 9 = .ok (.iload_n 1, 1) := by decide +kernel
theorem dX8_isPresent_10 : decode cX8_isPresent 10 = .ok (.iconst 2, 1) := by decide +kernel
theorem dX8_isPresent_11 : decode cX8_isPresent 11 = .ok (.invokevirtual 56, 3) := by decide +kernel
theorem dX8_isPresent_14 : decode cX8_isPresent 14 = .ok (.ifCond .ge 7, 3) := by decide +kernel
theorem dX8_isPresent_17 : decode cX8_isPresent 17 = .ok (.iconst 1, 1) := by decide +kernel
theorem dX8_isPresent_18 : decode cX8_isPresent 18 = .ok (.goto 4, 3) := by decide +kernel
theorem dX8_isPresent_21 : decode cX8_isPresent 21 = .ok (.iconst 0, 1) := by decide +kernel
theorem dX8_isPresent_22 : decode cX8_isPresent 22 = .ok (.ireturn, 1) := by decide +kernel
set_option maxRecDepth 20000 in
theorem ggX8_isPerson_X8_isBetween : GoodIn wsX8_isPerson wsX8_isBetween := goodIn_r _ [4] (by decide +kernel) (by decide +kernel)
set_option maxRecDepth 20000 in
theorem gX8_isPerson_X8_isBetween : GoodIn wsX8_isPerson (va_wsS RX8 48 yX8_isBetween wsX8_isBetween) := goodIn_app (goodIn_of _ (by decide +kernel)) ggX8_isPerson_X8_isBetween
theorem dX8_isPerson_0 : decode cX8_isPerson 0 = .ok (.iload_n 0, 1) := by decide +kernel
theorem dX8_isPerson_1 : decode cX8_isPerson 1 = .ok (.iconst 0, 1) := by decide +kernel
theorem dX8_isPerson_2 : decode cX8_isPerson 2 = .ok (.bipush 9, 2) := by decide +kernel
theorem dX8_isPerson_4 : decode cX8_isPerson 4 = .ok (.invokestatic 48, 3) := by decide +kernel
theorem dX8_isPerson_7 : decode cX8_isPerson 7 = .ok (.ireturn, 1) := by decide +kernel
set_option maxRecDepth 20000 in
theorem ggX8_newParcel_X8_set : GoodIn wsX8_newParcel wsX8_set := goodIn_ca (goodIn_r _ [6, 1, 7, 8, 9, 10, 11, 12, 13, 14, 15, 16, 17, 18, 19, 20, 21] (by decide +kernel) (by decide +kernel)) (goodIn_sub (fun _ h => List.mem_cons_of_mem _ (List.mem_append_right _ h)) (by decide +kernel))
set_option maxRecDepth 20000 in
theorem gX8_newParcel_X8_set : GoodIn wsX8_newParcel (wsV RX8 60 RX8 yX8_set wsX8_set) := goodIn_app (goodIn_of _ (by decide +kernel)) ggX8_newParcel_X8_set
theorem dX8_newParcel_0 : decode cX8_newParcel 0 = .ok (.aload_n 0, 1) := by decide +kernel
theorem dX8_newParcel_1 : decode cX8_newParcel 1 = .ok (.getfield 9, 3) := by decide +kernel
theorem dX8_newParcel_4 : decode cX8_newParcel 4 = .ok (.iconst 1, 1) := by decide +kernel
theorem dX8_newParcel_5 : decode cX8_newParcel 5 = .ok (.iaload, 1) := by decide +kernel
theorem dX8_newParcel_6 : decode cX8_newParcel 6 = .ok (.istore 4, 2) := by decide +kernel
theorem dX8_newParcel_8 : decode cX8_newParcel 8 = .ok (.aload_n 0, 1) := by decide +kernel
theorem dX8_newParcel_9 : decode cX8_newParcel 9 = .ok (.getfield 9, 3) := by decide +kernel
theorem dX8_newParcel_12 : decode cX8_newParcel 12 = .ok (.iconst 1, 1) := by decide +kernel
theorem dX8_newParcel_13 : decode cX8_newParcel 13 = .ok (.dup2, 1) := by decide +kernel
theorem dX8_newParcel_14 : decode cX8_newParcel 14 = .ok (.iaload, 1) := by decide +kernel
theorem dX8_newParcel_15 : decode cX8_newParcel 15 = .ok (.iconst 1, 1) := by decide +kernel
theorem dX8_newParcel_16 : decode cX8_newParcel 16 = .ok (.iadd, 1) := by decide +kernel
theorem dX8_newParcel_17 : decode cX8_newParcel 17 = .ok (.iastore, 1) := by decide +kernel
theorem dX8_newParcel_18 : decode cX8_newParcel 18 = .ok (.aload_n 0, 1) := by decide +kernel
theorem dX8_newParcel_19 : decode cX8_newParcel 19 = .ok (.iload 4, 2) := by decide +kernel
theorem dX8_newParcel_21 : decode cX8_newParcel 21 = .ok (.iconst 0, 1) := by decide +kernel
theorem dX8_newParcel_22 : decode cX8_newParcel 22 = .ok (.iload_n 1, 1) := by decide +kernel
theorem dX8_newParcel_23 : decode cX8_newParcel 23 = .ok (.invokevirtual 60, 3) := by decide +kernel
theorem dX8_newParcel_26 : decode cX8_newParcel 26 = .ok (.aload_n 0, 1) := by decide +kernel
theorem dX8_newParcel_27 : decode cX8_newParcel 27 = .ok (.iload 4, 2) := by decide +kernel
theorem dX8_newParcel_29 : decode cX8_newParcel 29 = .ok (.iconst 1, 1) := by decide +kernel
theorem dX8_newParcel_30 : decode cX8_newParcel 30 = .ok (.aload_n 0, 1) := by decide +kernel
theorem dX8_newParcel_31 : decode cX8_newParcel 31 = .ok (.getfield 9, 3) := by decide +kernel
theorem dX8_newParcel_34 : decode cX8_newParcel 34 = .ok (.iconst 0, 1) := by decide +kernel
theorem dX8_newParcel_35 : decode cX8_newParcel 35 = .ok (.iaload, 1) := by decide +kernel
theorem dX8_newParcel_36 : decode cX8_newParcel 36 = .ok (.invokevirtual 60, 3) := by decide +kernel
theorem dX8_newParcel_39 : decode cX8_newParcel 39 = .ok (.aload_n 0, 1) := by decide +kernel
theorem dX8_newParcel_40 : decode cX8_newParcel 40 = .ok (.iload 4, 2) := by decide +kernel
theorem dX8_newParcel_42 : decode cX8_newParcel 42 = .ok (.iconst 2, 1) := by decide +kernel
theorem dX8_newParcel_43 : decode cX8_newParcel 43 = .ok (.iconst (-1), 1) := by decide +kernel
theorem dX8_newParcel_44 : decode cX8_newParcel 44 = .ok (.invokevirtual 60, 3) := by decide +kernel
theorem dX8_newParcel_47 : decode cX8_newParcel 47 = .ok (.aload_n 0, 1) := by decide +kernel
theorem dX8_newParcel_48 : decode cX8_newParcel 48 = .ok (.iload 4, 2) := by decide +kernel
theorem dX8_newParcel_50 : decode cX8_newParcel 50 = .ok (.iconst 3, 1) := by decide +kernel
theorem dX8_newParcel_51 : decode cX8_newParcel 51 = .ok (.iconst 0, 1) := by decide +kernel
theorem dX8_newParcel_52 : decode cX8_newParcel 52 = .ok (.invokevirtual 60, 3) := by decide +kernel
theorem dX8_newParcel_55 : decode cX8_newParcel 55 = .ok (.aload_n 0, 1) := by decide +kernel
theorem dX8_newParcel_56 : decode cX8_newParcel 56 = .ok (.iload 4, 2) := by decide +kernel
theorem dX8_newParcel_58 : decode cX8_newParcel 58 = .ok (.iconst 4, 1) := by decide +kernel
theorem dX8_newParcel_59 : decode cX8_newParcel 59 = .ok (.iload_n 3, 1) := by decide +kernel
theorem dX8_newParcel_60 : decode cX8_newParcel 60 = .ok (.invokevirtual 60, 3) := by decide +kernel
theorem dX8_newParcel_63 : decode cX8_newParcel 63 = .ok (.aload_n 0, 1) := by decide +kernel
theorem dX8_newParcel_64 : decode cX8_newParcel 64 = .ok (.iload 4, 2) := by decide +kernel
theorem dX8_newParcel_66 : decode cX8_newParcel 66 = .ok (.iconst 5, 1) := by decide +kernel
theorem dX8_newParcel_67 : decode cX8_newParcel 67 = .ok (.iload_n 2, 1) := by decide +kernel
theorem dX8_newParcel_68 : decode cX8_newParcel 68 = .ok (.invokevirtual 60, 3) := by decide +kernel
theorem dX8_newParcel_71 : decode cX8_newParcel 71 = .ok (.iload 4, 2) := by decide +kernel
theorem dX8_newParcel_73 : decode cX8_newParcel 73 = .ok (.ireturn, 1) := by decide +kernel
set_option maxRecDepth 20000 in
theorem ggX8_setBorder_X8_of : GoodIn wsX8_setBorder wsX8_of := goodIn_ca (goodIn_r _ [5, 6, 14, 15, 16, 17, 18, 19, 20, 21, 22, 23, 24, 25, 26, 27, 28] (by decide +kernel) (by decide +kernel)) (goodIn_sub (fun _ h => List.mem_cons_of_mem _ (List.mem_append_right _ h)) (by decide +kernel))
set_option maxRecDepth 20000 in
theorem gX8_setBorder_X8_of : GoodIn wsX8_setBorder (wsV RX8 56 RX8 yX8_of wsX8_of) := goodIn_app (goodIn_of _ (by decide +kernel)) ggX8_setBorder_X8_of
set_option maxRecDepth 20000 in
theorem ggX8_setBorder_X8_bit : GoodIn wsX8_setBorder wsX8_bit := goodIn_r _ [9] (by decide +kernel) (by decide +kernel)
set_option maxRecDepth 20000 in
theorem gX8_setBorder_X8_bit : GoodIn wsX8_setBorder (va_wsS RX8 64 yX8_bit wsX8_bit) := goodIn_app (goodIn_of _ (by decide +kernel)) ggX8_setBorder_X8_bit
set_option maxRecDepth 20000 in
theorem ggX8_setBorder_X8_set : GoodIn wsX8_setBorder wsX8_set := goodIn_ca (goodIn_r _ [13, 6, 14, 15, 16, 17, 18, 19, 20, 21, 22, 23, 24, 25, 26, 27, 28] (by decide +kernel) (by decide +kernel)) (goodIn_sub (fun _ h => List.mem_cons_of_mem _ (List.mem_append_right _ h)) (by decide +kernel))
set_option maxRecDepth 20000 in
theorem gX8_setBorder_X8_set : GoodIn wsX8_setBorder (wsV RX8 60 RX8 yX8_set wsX8_set) := goodIn_app (goodIn_of _ (by decide +kernel)) ggX8_setBorder_X8_set
theorem dX8_setBorder_0 : decode cX8_setBorder 0 = .ok (.aload_n 0, 1) := by decide +kernel
theorem dX8_setBorder_1 : decode cX8_setBorder 1 = .ok (.iload_n 1, 1) := by decide +kernel
theorem dX8_setBorder_2 : decode cX8_setBorder 2 = .ok (.iconst 3, 1) := by decide +kernel
theorem dX8_setBorder_3 : decode cX8_setBorder 3 = .ok (.iload_n 3, 1) := by decide +kernel
theorem dX8_setBorder_4 : decode cX8_setBorder 4 = .ok (.ifCond .eq 17, 3) := by decide +kernel
theorem dX8_setBorder_7 : decode cX8_setBorder 7 = .ok (.aload_n 0, 1) := by decide +kernel
theorem dX8_setBorder_8 : decode cX8_setBorder 8 = .ok (.iload_n 1, 1) := by decide +kernel
theorem dX8_setBorder_9 : decode cX8_setBorder 9 = .ok (.iconst 3, 1) := by decide +kernel
theorem dX8_setBorder_10 : decode cX8_setBorder 10 = .ok (.invokevirtual 56, 3) := by decide +kernel
theorem dX8_setBorder_13 : decode cX8_setBorder 13 = .ok (.iload_n 2, 1) := by decide +kernel
theorem dX8_setBorder_14 : decode cX8_setBorder 14 = .ok (.invokestatic 64, 3) := by decide +kernel
theorem dX8_setBorder_17 : decode cX8_setBorder 17 = .ok (.ior, 1) := by decide +kernel
theorem dX8_setBorder_18 : decode cX8_setBorder 18 = .ok (.goto 16, 3) := by decide +kernel
theorem dX8_setBorder_21 : decode cX8_setBorder 21 = .ok (.aload_n 0, 1) := by decide +kernel
theorem dX8_setBorder_22 : decode cX8_setBorder 22 = .ok (.iload_n 1, 1) := by decide +kernel
theorem dX8_setBorder_23 : decode cX8_setBorder 23 = .ok (.iconst 3, 1) := by decide +kernel
theorem dX8_setBorder_24 : decode cX8_setBorder 24 = .ok (.invokevirtual 56, 3) := by decide +kernel
theorem dX8_setBorder_27 : decode cX8_setBorder 27 = .ok (.iload_n 2, 1) := by decide +kernel
theorem dX8_setBorder_28 : decode cX8_setBorder 28 = .ok (.invokestatic 64, 3) := by decide +kernel
theorem dX8_setBorder_31 : decode cX8_setBorder 31 = .ok (.iconst (-1), 1) := by decide +kernel
theorem dX8_setBorder_32 : decode cX8_setBorder 32 = .ok (.ixor, 1) := by decide +kernel
theorem dX8_setBorder_33 : decode cX8_setBorder 33 = .ok (.iand, 1) := by decide +kernel
theorem dX8_setBorder_34 : decode cX8_setBorder 34 = .ok (.invokevirtual 60, 3) := by decide +kernel
theorem dX8_setBorder_37 : decode cX8_setBorder 37 = .ok (.aload_n 0, 1) := by decide +kernel
theorem dX8_setBorder_38 : decode cX8_setBorder 38 = .ok (.iload_n 2, 1) := by decide +kernel
theorem dX8_setBorder_39 : decode cX8_setBorder 39 = .ok (.iconst 3, 1) := by decide +kernel
theorem dX8_setBorder_40 : decode cX8_setBorder 40 = .ok (.iload_n 3, 1) := by decide +kernel
theorem dX8_setBorder_41 : decode cX8_setBorder 41 = .ok (.ifCond .eq 17, 3) := by decide +kernel
theorem dX8_setBorder_44 : decode cX8_setBorder 44 = .ok (.aload_n 0, 1) := by decide +kernel
theorem dX8_setBorder_45 : decode cX8_setBorder 45 = .ok (.iload_n 2, 1) := by decide +kernel
theorem dX8_setBorder_46 : decode cX8_setBorder 46 = .ok (.iconst 3, 1) := by decide +kernel
theorem dX8_setBorder_47 : decode cX8_setBorder 47 = .ok (.invokevirtual 56, 3) := by decide +kernel
theorem dX8_setBorder_50 : decode cX8_setBorder 50 = .ok (.iload_n 1, 1) := by decide +kernel
theorem dX8_setBorder_51 : decode cX8_setBorder 51 = .ok (.invokestatic 64, 3) := by decide +kernel
theorem dX8_setBorder_54 : decode cX8_setBorder 54 = .ok (.ior, 1) := by decide +kernel
theorem dX8_setBorder_55 : decode cX8_setBorder 55 = .ok (.goto 16, 3) := by decide +kernel
theorem dX8_setBorder_58 : decode cX8_setBorder 58 = .ok (.aload_n 0, 1) := by decide +kernel
theorem dX8_setBorder_59 : decode cX8_setBorder 59 = .ok (.iload_n 2, 1) := by decide +kernel
theorem dX8_setBorder_60 : decode cX8_setBorder 60 = .ok (.iconst 3, 1) := by decide +kernel
theorem dX8_setBorder_61 : decode cX8_setBorder 61 = .ok (.invokevirtual 56, 3) := by decide +kernel
theorem dX8_setBorder_64 : decode cX8_setBorder 64 = .ok (.iload_n 1, 1) := by decide +kernel
theorem dX8_setBorder_65 : decode cX8_setBorder 65 = .ok (.invokestatic 64, 3) := by decide +kernel
theorem dX8_setBorder_68 : decode cX8_setBorder 68 = .ok (.iconst (-1), 1) := by decide +kernel
theorem dX8_setBorder_69 : decode cX8_setBorder 69 = .ok (.ixor, 1) := by decide +kernel
theorem dX8_setBorder_70 : decode cX8_setBorder 70 = .ok (.iand, 1) := by decide +kernel
theorem dX8_setBorder_71 : decode cX8_setBorder 71 = .ok (.invokevirtual 60, 3) := by decide +kernel
theorem dX8_setBorder_74 : decode cX8_setBorder 74 = .ok (.return_, 1) := by decide +kernel
set_option maxRecDepth 20000 in
theorem ggX8_setBorders_X8_has : GoodIn wsX8_setBorders wsX8_has := goodIn_r _ [5] (by decide +kernel) (by decide +kernel)
set_option maxRecDepth 20000 in
theorem gX8_setBorders_X8_has : GoodIn wsX8_setBorders (va_wsS RX8 68 yX8_has wsX8_has) := goodIn_app (goodIn_of _ (by decide +kernel)) ggX8_setBorders_X8_has
set_option maxRecDepth 20000 in
theorem ggX8_setBorders_X8_setBorder : GoodIn wsX8_setBorders wsX8_setBorder := goodIn_ca (goodIn_r _ [9, 10, 11, 12, 4, 13, 1, 14, 15, 16, 17, 18, 19, 20, 21, 22, 23, 24, 25, 26, 27, 28, 29, 30, 31, 32, 33, 34, 35] (by decide +kernel) (by decide +kernel)) (goodIn_sub (fun _ h => List.mem_cons_of_mem _ (List.mem_append_right _ h)) (by decide +kernel))
set_option maxRecDepth 20000 in
theorem gX8_setBorders_X8_setBorder : GoodIn wsX8_setBorders (wsV RX8 72 RX8 yX8_setBorder wsX8_setBorder) := goodIn_app (goodIn_of _ (by decide +kernel)) ggX8_setBorders_X8_setBorder
theorem dX8_setBorders_0 : decode cX8_setBorders 0 = .ok (.iconst 0, 1) := by decide +kernel
theorem dX8_setBorders_1 : decode cX8_setBorders 1 = .ok (.istore_n 3, 1) := by decide +kernel
theorem dX8_setBorders_2 : decode cX8_setBorders 2 = .ok (.iload_n 3, 1) := by decide +kernel
theorem dX8_setBorders_3 : decode cX8_setBorders 3 = .ok (.aload_n 0, 1) := by decide +kernel
theorem dX8_setBorders_4 : decode cX8_setBorders 4 = .ok (.getfield 9, 3) := by decide +kernel
theorem dX8_setBorders_7 : decode cX8_setBorders 7 = .ok (.iconst 1, 1) := by decide +kernel
theorem dX8_setBorders_8 : decode cX8_setBorders 8 = .ok (.iaload, 1) := by decide +kernel
theorem dX8_setBorders_9 : decode cX8_setBorders 9 = .ok (.if_icmp .ge 24, 3) := by decide +kernel
theorem dX8_setBorders_12 : decode cX8_setBorders 12 = .ok (.iload_n 2, 1) := by decide +kernel
theorem dX8_setBorders_13 : decode cX8_setBorders 13 = .ok (.iload_n 3, 1) := by decide +kernel
theorem dX8_setBorders_14 : decode cX8_setBorders 14 = .ok (.invokestatic 68, 3) := by decide +kernel
theorem dX8_setBorders_17 : decode cX8_setBorders 17 = .ok (.ifCond .eq 10, 3) := by decide +kernel
theorem dX8_setBorders_20 : decode cX8_setBorders 20 = .ok (.aload_n 0, 1) := by decide +kernel
theorem dX8_setBorders_21 : decode cX8_setBorders 21 = .ok (.iload_n 1, 1) := by decide +kernel
theorem dX8_setBorders_22 : decode cX8_setBorders 22 = .ok (.iload_n 3, 1) := by decide +kernel
theorem dX8_setBorders_23 : decode cX8_setBorders 23 = .ok (.iconst 1, 1) := by decide +kernel
theorem dX8_setBorders_24 : decode cX8_setBorders 24 = .ok (.invokevirtual 72, 3) := by decide +kernel
theorem dX8_setBorders_27 : decode cX8_setBorders 27 = .ok (.iinc 3 1, 3) := by decide +kernel
theorem dX8_setBorders_30 : decode cX8_setBorders 30 = .ok (.goto (-28), 3) := by decide +kernel
theorem dX8_setBorders_33 : decode cX8_setBorders 33 = .ok (.return_, 1) := by decide +kernel
set_option maxRecDepth 20000 in
theorem ggX8_end_X8_of : GoodIn wsX8_end wsX8_of := goodIn_ca (goodIn_r _ [6, 1, 21, 22, 23, 24, 25, 26, 27, 28, 29, 30, 31, 32, 33, 34, 35] (by decide +kernel) (by decide +kernel)) (goodIn_sub (fun _ h => List.mem_cons_of_mem _ (List.mem_append_right _ h)) (by decide +kernel))
set_option maxRecDepth 20000 in
theorem gX8_end_X8_of : GoodIn wsX8_end (wsV RX8 56 RX8 yX8_of wsX8_of) := goodIn_app (goodIn_of _ (by decide +kernel)) ggX8_end_X8_of
set_option maxRecDepth 20000 in
theorem ggX8_end_X8_has : GoodIn wsX8_end wsX8_has := goodIn_r _ [9] (by decide +kernel) (by decide +kernel)
set_option maxRecDepth 20000 in
theorem gX8_end_X8_has : GoodIn wsX8_end (va_wsS RX8 68 yX8_has wsX8_has) := goodIn_app (goodIn_of _ (by decide +kernel)) ggX8_end_X8_has
set_option maxRecDepth 20000 in
theorem ggX8_end_X8_setBorder : GoodIn wsX8_end wsX8_setBorder := goodIn_ca (goodIn_r _ [13, 2, 3, 4, 5, 6, 1, 14, 15, 16, 17, 18, 19, 20, 21, 22, 23, 24, 25, 26, 27, 28, 29, 30, 31, 32, 33, 34, 35] (by decide +kernel) (by decide +kernel)) (goodIn_sub (fun _ h => List.mem_cons_of_mem _ (List.mem_append_right _ h)) (by decide +kernel))
set_option maxRecDepth 20000 in
theorem gX8_end_X8_setBorder : GoodIn wsX8_end (wsV RX8 72 RX8 yX8_setBorder wsX8_setBorder) := goodIn_app (goodIn_of _ (by decide +kernel)) ggX8_end_X8_setBorder
set_option maxRecDepth 20000 in
theorem ggX8_end_X8_set : GoodIn wsX8_end wsX8_set := goodIn_ca (goodIn_r _ [20, 1, 21, 22, 23, 24, 25, 26, 27, 28, 29, 30, 31, 32, 33, 34, 35] (by decide +kernel) (by decide +kernel)) (goodIn_sub (fun _ h => List.mem_cons_of_mem _ (List.mem_append_right _ h)) (by decide +kernel))
set_option maxRecDepth 20000 in
theorem gX8_end_X8_set : GoodIn wsX8_end (wsV RX8 60 RX8 yX8_set wsX8_set) := goodIn_app (goodIn_of _ (by decide +kernel)) ggX8_end_X8_set
theorem dX8_end_0 : decode cX8_end 0 = .ok (.iconst 0, 1) := by decide +kernel
theorem dX8_end_1 : decode cX8_end 1 = .ok (.istore_n 2, 1) := by decide +kernel
theorem dX8_end_2 : decode cX8_end 2 = .ok (.iload_n 2, 1) := by decide +kernel
theorem dX8_end_3 : decode cX8_end 3 = .ok (.aload_n 0, 1) := by decide +kernel
theorem dX8_end_4 : decode cX8_end 4 = .ok (.getfield 9, 3) := by decide +kernel
theorem dX8_end_7 : decode cX8_end 7 = .ok (.iconst 1, 1) := by decide +kernel
theorem dX8_end_8 : decode cX8_end 8 = .ok (.iaload, 1) := by decide +kernel
theorem dX8_end_9 : decode cX8_end 9 = .ok (.if_icmp .ge 29, 3) := by decide +kernel
theorem dX8_end_12 : decode cX8_end 12 = .ok (.aload_n 0, 1) := by decide +kernel
theorem dX8_end_13 : decode cX8_end 13 = .ok (.iload_n 1, 1) := by decide +kernel
theorem dX8_end_14 : decode cX8_end 14 = .ok (.iconst 3, 1) := by decide +kernel
theorem dX8_end_15 : decode cX8_end 15 = .ok (.invokevirtual 56, 3) := by decide +kernel
theorem dX8_end_18 : decode cX8_end 18 = .ok (.iload_n 2, 1) := by decide +kernel
theorem dX8_end_19 : decode cX8_end 19 = .ok (.invokestatic 68, 3) := by decide +kernel
theorem dX8_end_22 : decode cX8_end 22 = .ok (.ifCond .eq 10, 3) := by decide +kernel
theorem dX8_end_25 : decode cX8_end 25 = .ok (.aload_n 0, 1) := by decide +kernel
theorem dX8_end_26 : decode cX8_end 26 = .ok (.iload_n 1, 1) := by decide +kernel
theorem dX8_end_27 : decode cX8_end 27 = .ok (.iload_n 2, 1) := by decide +kernel
theorem dX8_end_28 : decode cX8_end 28 = .ok (.iconst 0, 1) := by decide +kernel
theorem dX8_end_29 : decode cX8_end 29 = .ok (.invokevirtual 72, 3) := by decide +kernel
theorem dX8_end_32 : decode cX8_end 32 = .ok (.iinc 2 1, 3) := by decide +kernel
theorem dX8_end_35 : decode cX8_end 35 = .ok (.goto (-33), 3) := by decide +kernel
theorem dX8_end_38 : decode cX8_end 38 = .ok (.aload_n 0, 1) := by decide +kernel
theorem dX8_end_39 : decode cX8_end 39 = .ok (.iload_n 1, 1) := by decide +kernel
theorem dX8_end_40 : decode cX8_end 40 = .ok (.iconst 2, 1) := by decide +kernel
theorem dX8_end_41 : decode cX8_end 41 = .ok (.aload_n 0, 1) := by decide +kernel
theorem dX8_end_42 : decode cX8_end 42 = .ok (.getfield 9, 3) := by decide +kernel
theorem dX8_end_45 : decode cX8_end 45 = .ok (.iconst 0, 1) := by decide +kernel
theorem dX8_end_46 : decode cX8_end 46 = .ok (.iaload, 1) := by decide +kernel
theorem dX8_end_47 : decode cX8_end 47 = .ok (.invokevirtual 60, 3) := by decide +kernel
theorem dX8_end_50 : decode cX8_end 50 = .ok (.return_, 1) := by decide +kernel
set_option maxRecDepth 20000 in
theorem ggX8_countPresent_X8_isPresent : GoodIn wsX8_countPresent wsX8_isPresent := goodIn_ca (goodIn_r _ [6, 7, 8, 9, 5, 10, 1, 11, 12, 13, 14, 15, 16, 17, 18, 19, 20, 21, 22, 23, 24, 25, 26, 27, 28, 29, 30, 31, 32] (by decide +kernel) (by decide +kernel)) (goodIn_sub (fun _ h => List.mem_cons_of_mem _ (List.mem_append_right _ h)) (by decide +kernel))
set_option maxRecDepth 20000 in
theorem gX8_countPresent_X8_isPresent : GoodIn wsX8_countPresent (wsV RX8 76 RX8 yX8_isPresent wsX8_isPresent) := goodIn_app (goodIn_of _ (by decide +kernel)) ggX8_countPresent_X8_isPresent
theorem dX8_countPresent_0 : decode cX8_countPresent 0 = .ok (.iconst 0, 1) := by decide +kernel
theorem dX8_countPresent_1 : decode cX8_countPresent 1 = .ok (.istore_n 1, 1) := by decide +kernel
theorem dX8_countPresent_2 : decode cX8_countPresent 2 = .ok (.iconst 0, 1) := by decide +kernel
theorem dX8_countPresent_3 : decode cX8_countPresent 3 = .ok (.istore_n 2, 1) := by decide +kernel
theorem dX8_countPresent_4 : decode cX8_countPresent 4 = .ok (.iload_n 2, 1) := by decide +kernel
theorem dX8_countPresent_5 : decode cX8_countPresent 5 = .ok (.aload_n 0, 1) := by decide +kernel
theorem dX8_countPresent_6 : decode cX8_countPresent 6 = .ok (.getfield 9, 3) := by decide +kernel
theorem dX8_countPresent_9 : decode cX8_countPresent 9 = .ok (.iconst 1, 1) := by decide +kernel
theorem dX8_countPresent_10 : decode cX8_countPresent 10 = .ok (.iaload, 1) := by decide +kernel
theorem dX8_countPresent_11 : decode cX8_countPresent 11 = .ok (.if_icmp .ge 25, 3) := by decide +kernel
theorem dX8_countPresent_14 : decode cX8_countPresent 14 = .ok (.iload_n 1, 1) := by decide +kernel
theorem dX8_countPresent_15 : decode cX8_countPresent 15 = .ok (.aload_n 0, 1) := by decide +kernel
theorem dX8_countPresent_16 : decode cX8_countPresent 16 = .ok (.iload_n 2, 1) := by decide +kernel
theorem dX8_countPresent_17 : decode cX8_countPresent 17 = .ok (.invokevirtual 76, 3) := by decide +kernel
theorem dX8_countPresent_20 : decode cX8_countPresent 20 = .ok (.ifCond .eq 7, 3) := by decide +kernel
theorem dX8_countPresent_23 : decode cX8_countPresent 23 = .ok (.iconst 1, 1) := by decide +kernel
theorem dX8_countPresent_24 : decode cX8_countPresent 24 = .ok (.goto 4, 3) := by decide +kernel
theorem dX8_countPresent_27 : decode cX8_countPresent 27 = .ok (.iconst 0, 1) := by decide +kernel
theorem dX8_countPresent_28 : decode cX8_countPresent 28 = .ok (.iadd, 1) := by decide +kernel
theorem dX8_countPresent_29 : decode cX8_countPresent 29 = .ok (.istore_n 1, 1) := by decide +kernel
theorem dX8_countPresent_30 : decode cX8_countPresent 30 = .ok (.iinc 2 1, 3) := by decide +kernel
theorem dX8_countPresent_33 : decode cX8_countPresent 33 = .ok (.goto (-29), 3) := by decide +kernel
theorem dX8_countPresent_36 : decode cX8_countPresent 36 = .ok (.iload_n 1, 1) := by decide +kernel
theorem dX8_countPresent_37 : decode cX8_countPresent 37 = .ok (.ireturn, 1) := by decide +kernel
theorem dX8_empty_0 : decode cX8_empty 0 = .ok (.iconst 0, 1) := by decide +kernel
theorem dX8_empty_1 : decode cX8_empty 1 = .ok (.istore_n 1, 1) := by decide +kernel
theorem dX8_empty_2 : decode cX8_empty 2 = .ok (.iload_n 1, 1) := by decide +kernel
theorem dX8_empty_3 : decode cX8_empty 3 = .ok (.sipush 621, 3) := by decide +kernel
theorem dX8_empty_6 : decode cX8_empty 6 = .ok (.if_icmp .ge 16, 3) := by decide +kernel
theorem dX8_empty_9 : decode cX8_empty 9 = .ok (.aload_n 0, 1) := by decide +kernel
theorem dX8_empty_10 : decode cX8_empty 10 = .ok (.getfield 9, 3) := by decide +kernel
theorem dX8_empty_13 : decode cX8_empty 13 = .ok (.iload_n 1, 1) := by decide +kernel
theorem dX8_empty_14 : decode cX8_empty 14 = .ok (.iconst 0, 1) := by decide +kernel
theorem dX8_empty_15 : decode cX8_empty 15 = .ok (.iastore, 1) := by decide +kernel
theorem dX8_empty_16 : decode cX8_empty 16 = .ok (.iinc 1 1, 3) := by decide +kernel
theorem dX8_empty_19 : decode cX8_empty 19 = .ok (.goto (-17), 3) := by decide +kernel
theorem dX8_empty_22 : decode cX8_empty 22 = .ok (.return_, 1) := by decide +kernel
set_option maxRecDepth 20000 in
theorem ggX8_clear_X8_empty : GoodIn wsX8_clear wsX8_empty := goodIn_ca (goodIn_r _ [8, 2, 9, 10, 11, 12, 13, 14, 15, 16, 17, 18, 19, 20, 21, 22, 23] (by decide +kernel) (by decide +kernel)) (goodIn_sub (fun _ h => List.mem_cons_of_mem _ (List.mem_append_right _ h)) (by decide +kernel))
set_option maxRecDepth 20000 in
theorem gX8_clear_X8_empty : GoodIn wsX8_clear (wsV RX8 79 RX8 yX8_empty wsX8_empty) := goodIn_app (goodIn_of _ (by decide +kernel)) ggX8_clear_X8_empty
theorem dX8_clear_0 : decode cX8_clear 0 = .ok (.aload_n 0, 1) := by decide +kernel
theorem dX8_clear_1 : decode cX8_clear 1 = .ok (.iconst 0, 1) := by decide +kernel
theorem dX8_clear_2 : decode cX8_clear 2 = .ok (.putfield 38, 3) := by decide +kernel
theorem dX8_clear_5 : decode cX8_clear 5 = .ok (.aload_n 0, 1) := by decide +kernel
theorem dX8_clear_6 : decode cX8_clear 6 = .ok (.getfield 9, 3) := by decide +kernel
theorem dX8_clear_9 : decode cX8_clear 9 = .ok (.iconst 1, 1) := by decide +kernel
theorem dX8_clear_10 : decode cX8_clear 10 = .ok (.iaload, 1) := by decide +kernel
theorem dX8_clear_11 : decode cX8_clear 11 = .ok (.istore_n 1, 1) := by decide +kernel
theorem dX8_clear_12 : decode cX8_clear 12 = .ok (.aload_n 0, 1) := by decide +kernel
theorem dX8_clear_13 : decode cX8_clear 13 = .ok (.invokevirtual 79, 3) := by decide +kernel
theorem dX8_clear_16 : decode cX8_clear 16 = .ok (.aload_n 0, 1) := by decide +kernel
theorem dX8_clear_17 : decode cX8_clear 17 = .ok (.iconst 0, 1) := by decide +kernel
theorem dX8_clear_18 : decode cX8_clear 18 = .ok (.putfield 41, 3) := by decide +kernel
theorem dX8_clear_21 : decode cX8_clear 21 = .ok (.iload_n 1, 1) := by decide +kernel
theorem dX8_clear_22 : decode cX8_clear 22 = .ok (.ireturn, 1) := by decide +kernel
set_option maxRecDepth 20000 in
theorem ggX8_addParcel_X8_isBetween : GoodIn wsX8_addParcel wsX8_isBetween := goodIn_r _ [5] (by decide +kernel) (by decide +kernel)
set_option maxRecDepth 20000 in
theorem gX8_addParcel_X8_isBetween : GoodIn wsX8_addParcel (va_wsS RX8 48 yX8_isBetween wsX8_isBetween) := goodIn_app (goodIn_of _ (by decide +kernel)) ggX8_addParcel_X8_isBetween
set_option maxRecDepth 20000 in
theorem ggX8_addParcel_X8_isPerson : GoodIn wsX8_addParcel wsX8_isPerson := goodIn_r _ [8, 2, 3, 4, 5] (by decide +kernel) (by decide +kernel)
set_option maxRecDepth 20000 in
theorem gX8_addParcel_X8_isPerson : GoodIn wsX8_addParcel (va_wsS RX8 82 yX8_isPerson wsX8_isPerson) := goodIn_app (goodIn_of _ (by decide +kernel)) ggX8_addParcel_X8_isPerson
set_option maxRecDepth 20000 in
theorem ggX8_addParcel_X8_fails : GoodIn wsX8_addParcel wsX8_fails := goodIn_r _ [12, 13, 31, 32, 33, 34, 35, 36, 37, 38, 39, 40, 41, 42, 43, 44, 45] (by decide +kernel) (by decide +kernel)
set_option maxRecDepth 20000 in
theorem gX8_addParcel_X8_fails : GoodIn wsX8_addParcel (wsV RX8 85 RX8 yX8_fails wsX8_fails) := goodIn_app (goodIn_of _ (by decide +kernel)) ggX8_addParcel_X8_fails
set_option maxRecDepth 20000 in
theorem ggX8_addParcel_X8_remember : GoodIn wsX8_addParcel wsX8_remember := goodIn_ca (goodIn_r _ [17, 18, 19, 20, 21, 4, 22, 31, 32, 33, 34, 35, 36, 37, 38, 39, 40, 41, 42, 43, 44, 45] (by decide +kernel) (by decide +kernel)) (goodIn_sub (fun _ h => List.mem_cons_of_mem _ (List.mem_append_right _ h)) (by decide +kernel))
set_option maxRecDepth 20000 in
theorem gX8_addParcel_X8_remember : GoodIn wsX8_addParcel (wsV RX8 89 RX8 yX8_remember wsX8_remember) := goodIn_app (goodIn_of _ (by decide +kernel)) ggX8_addParcel_X8_remember
set_option maxRecDepth 20000 in
theorem ggX8_addParcel_X8_newParcel : GoodIn wsX8_addParcel wsX8_newParcel := goodIn_ca (goodIn_r _ [26, 1, 27, 28, 29, 4, 30, 31, 32, 33, 34, 35, 36, 37, 38, 39, 40, 41, 42, 43, 44, 45] (by decide +kernel) (by decide +kernel)) (goodIn_sub (fun _ h => List.mem_cons_of_mem _ (List.mem_append_right _ h)) (by decide +kernel))
set_option maxRecDepth 20000 in
theorem gX8_addParcel_X8_newParcel : GoodIn wsX8_addParcel (wsV RX8 93 RX8 yX8_newParcel wsX8_newParcel) := goodIn_app (goodIn_of _ (by decide +kernel)) ggX8_addParcel_X8_newParcel
theorem dX8_addParcel_0 : decode cX8_addParcel 0 = .ok (.aload_n 0, 1) := by decide +kernel
theorem dX8_addParcel_1 : decode cX8_addParcel 1 = .ok (.iconst 1, 1) := by decide +kernel
theorem dX8_addParcel_2 : decode cX8_addParcel 2 = .ok (.iload_n 1, 1) := by decide +kernel
theorem dX8_addParcel_3 : decode cX8_addParcel 3 = .ok (.bipush 10, 2) := by decide +kernel
theorem dX8_addParcel_5 : decode cX8_addParcel 5 = .ok (.sipush 9999, 3) := by decide +kernel
theorem dX8_addParcel_8 : decode cX8_addParcel 8 = .ok (.invokestatic 48, 3) := by decide +kernel
theorem dX8_addParcel_11 : decode cX8_addParcel 11 = .ok (.ifCond .eq 10, 3) := by decide +kernel
theorem dX8_addParcel_14 : decode cX8_addParcel 14 = .ok (.iload_n 2, 1) := by decide +kernel
theorem dX8_addParcel_15 : decode cX8_addParcel 15 = .ok (.invokestatic 82, 3) := by decide +kernel
theorem dX8_addParcel_18 : decode cX8_addParcel 18 = .ok (.ifCond .ne 7, 3) := by decide +kernel
theorem dX8_addParcel_21 : decode cX8_addParcel 21 = .ok (.iconst 1, 1) := by decide +kernel
theorem dX8_addParcel_22 : decode cX8_addParcel 22 = .ok (.goto 4, 3) := by decide +kernel
theorem dX8_addParcel_25 : decode cX8_addParcel 25 = .ok (.iconst 0, 1) := by decide +kernel
theorem dX8_addParcel_26 : decode cX8_addParcel 26 = .ok (.invokevirtual 85, 3) := by decide +kernel
theorem dX8_addParcel_29 : decode cX8_addParcel 29 = .ok (.ifCond .ne 27, 3) := by decide +kernel
theorem dX8_addParcel_32 : decode cX8_addParcel 32 = .ok (.aload_n 0, 1) := by decide +kernel
theorem dX8_addParcel_33 : decode cX8_addParcel 33 = .ok (.iconst 2, 1) := by decide +kernel
theorem dX8_addParcel_34 : decode cX8_addParcel 34 = .ok (.aload_n 0, 1) := by decide +kernel
theorem dX8_addParcel_35 : decode cX8_addParcel 35 = .ok (.getfield 9, 3) := by decide +kernel
theorem dX8_addParcel_38 : decode cX8_addParcel 38 = .ok (.iconst 1, 1) := by decide +kernel
theorem dX8_addParcel_39 : decode cX8_addParcel 39 = .ok (.iaload, 1) := by decide +kernel
theorem dX8_addParcel_40 : decode cX8_addParcel 40 = .ok (.bipush 24, 2) := by decide +kernel
theorem dX8_addParcel_42 : decode cX8_addParcel 42 = .ok (.if_icmp .ne 7, 3) := by decide +kernel
theorem dX8_addParcel_45 : decode cX8_addParcel 45 = .ok (.iconst 1, 1) := by decide +kernel
theorem dX8_addParcel_46 : decode cX8_addParcel 46 = .ok (.goto 4, 3) := by decide +kernel
theorem dX8_addParcel_49 : decode cX8_addParcel 49 = .ok (.iconst 0, 1) := by decide +kernel
theorem dX8_addParcel_50 : decode cX8_addParcel 50 = .ok (.invokevirtual 85, 3) := by decide +kernel
theorem dX8_addParcel_53 : decode cX8_addParcel 53 = .ok (.ifCond .eq 5, 3) := by decide +kernel
theorem dX8_addParcel_56 : decode cX8_addParcel 56 = .ok (.iconst 0, 1) := by decide +kernel
theorem dX8_addParcel_57 : decode cX8_addParcel 57 = .ok (.ireturn, 1) := by decide +kernel
theorem dX8_addParcel_58 : decode cX8_addParcel 58 = .ok (.aload_n 0, 1) := by decide +kernel
theorem dX8_addParcel_59 : decode cX8_addParcel 59 = .ok (.aload_n 0, 1) := by decide +kernel
theorem dX8_addParcel_60 : decode cX8_addParcel 60 = .ok (.getfield 9, 3) := by decide +kernel
theorem dX8_addParcel_63 : decode cX8_addParcel 63 = .ok (.invokevirtual 89, 3) := by decide +kernel
theorem dX8_addParcel_66 : decode cX8_addParcel 66 = .ok (.aload_n 0, 1) := by decide +kernel
theorem dX8_addParcel_67 : decode cX8_addParcel 67 = .ok (.getfield 9, 3) := by decide +kernel
theorem dX8_addParcel_70 : decode cX8_addParcel 70 = .ok (.bipush 6, 2) := by decide +kernel
theorem dX8_addParcel_72 : decode cX8_addParcel 72 = .ok (.dup2, 1) := by decide +kernel
theorem dX8_addParcel_73 : decode cX8_addParcel 73 = .ok (.iaload, 1) := by decide +kernel
theorem dX8_addParcel_74 : decode cX8_addParcel 74 = .ok (.iload_n 1, 1) := by decide +kernel
theorem dX8_addParcel_75 : decode cX8_addParcel 75 = .ok (.iadd, 1) := by decide +kernel
theorem dX8_addParcel_76 : decode cX8_addParcel 76 = .ok (.iastore, 1) := by decide +kernel
theorem dX8_addParcel_77 : decode cX8_addParcel 77 = .ok (.aload_n 0, 1) := by decide +kernel
theorem dX8_addParcel_78 : decode cX8_addParcel 78 = .ok (.iload_n 1, 1) := by decide +kernel
theorem dX8_addParcel_79 : decode cX8_addParcel 79 = .ok (.iload_n 2, 1) := by decide +kernel
theorem dX8_addParcel_80 : decode cX8_addParcel 80 = .ok (.iconst 0, 1) := by decide +kernel
theorem dX8_addParcel_81 : decode cX8_addParcel 81 = .ok (.invokevirtual 93, 3) := by decide +kernel
theorem dX8_addParcel_84 : decode cX8_addParcel 84 = .ok (.ireturn, 1) := by decide +kernel
set_option maxRecDepth 20000 in
theorem ggX8_border_X8_isParcel : GoodIn wsX8_border wsX8_isParcel := goodIn_ca (goodIn_r _ [6, 1, 7, 8, 5, 9, 46, 47, 48, 49, 50, 51, 52, 53, 54, 55, 56, 57, 58, 59, 60] (by decide +kernel) (by decide +kernel)) (goodIn_sub (fun _ h => List.mem_cons_of_mem _ (List.mem_append_right _ h)) (by decide +kernel))
set_option maxRecDepth 20000 in
theorem gX8_border_X8_isParcel : GoodIn wsX8_border (wsV RX8 52 RX8 yX8_isParcel wsX8_isParcel) := goodIn_app (goodIn_of _ (by decide +kernel)) ggX8_border_X8_isParcel
set_option maxRecDepth 20000 in
theorem ggX8_border_X8_fails : GoodIn wsX8_border wsX8_fails := goodIn_r _ [13, 14, 46, 47, 48, 49, 50, 51, 52, 53, 54, 55, 56, 57, 58, 59, 60] (by decide +kernel) (by decide +kernel)
set_option maxRecDepth 20000 in
theorem gX8_border_X8_fails : GoodIn wsX8_border (wsV RX8 85 RX8 yX8_fails wsX8_fails) := goodIn_app (goodIn_of _ (by decide +kernel)) ggX8_border_X8_fails
set_option maxRecDepth 20000 in
theorem ggX8_border_X8_isPresent : GoodIn wsX8_border wsX8_isPresent := goodIn_ca (goodIn_r _ [18, 2, 3, 4, 5, 6, 1, 7, 8, 9, 19, 20, 21, 22, 46, 47, 48, 49, 50, 51, 52, 53, 54, 55, 56, 57, 58, 59, 60] (by decide +kernel) (by decide +kernel)) (goodIn_sub (fun _ h => List.mem_cons_of_mem _ (List.mem_append_right _ h)) (by decide +kernel))
set_option maxRecDepth 20000 in
theorem gX8_border_X8_isPresent : GoodIn wsX8_border (wsV RX8 76 RX8 yX8_isPresent wsX8_isPresent) := goodIn_app (goodIn_of _ (by decide +kernel)) ggX8_border_X8_isPresent
set_option maxRecDepth 20000 in
theorem ggX8_border_X8_remember : GoodIn wsX8_border wsX8_remember := goodIn_ca (goodIn_r _ [26, 27, 28, 29, 30, 5, 31, 46, 47, 48, 49, 50, 51, 52, 53, 54, 55, 56, 57, 58, 59, 60] (by decide +kernel) (by decide +kernel)) (goodIn_sub (fun _ h => List.mem_cons_of_mem _ (List.mem_append_right _ h)) (by decide +kernel))
set_option maxRecDepth 20000 in
theorem gX8_border_X8_remember : GoodIn wsX8_border (wsV RX8 89 RX8 yX8_remember wsX8_remember) := goodIn_app (goodIn_of _ (by decide +kernel)) ggX8_border_X8_remember
set_option maxRecDepth 20000 in
theorem ggX8_border_X8_of : GoodIn wsX8_border wsX8_of := goodIn_ca (goodIn_r _ [22, 1, 46, 47, 48, 49, 50, 51, 52, 53, 54, 55, 56, 57, 58, 59, 60] (by decide +kernel) (by decide +kernel)) (goodIn_sub (fun _ h => List.mem_cons_of_mem _ (List.mem_append_right _ h)) (by decide +kernel))
set_option maxRecDepth 20000 in
theorem gX8_border_X8_of : GoodIn wsX8_border (wsV RX8 56 RX8 yX8_of wsX8_of) := goodIn_app (goodIn_of _ (by decide +kernel)) ggX8_border_X8_of
set_option maxRecDepth 20000 in
theorem ggX8_border_X8_has : GoodIn wsX8_border wsX8_has := goodIn_r _ [34] (by decide +kernel) (by decide +kernel)
set_option maxRecDepth 20000 in
theorem gX8_border_X8_has : GoodIn wsX8_border (va_wsS RX8 68 yX8_has wsX8_has) := goodIn_app (goodIn_of _ (by decide +kernel)) ggX8_border_X8_has
set_option maxRecDepth 20000 in
theorem ggX8_border_X8_setBorder : GoodIn wsX8_border wsX8_setBorder := goodIn_ca (goodIn_r _ [38, 19, 20, 21, 5, 22, 1, 39, 40, 41, 42, 43, 44, 45, 46, 47, 48, 49, 50, 51, 52, 53, 54, 55, 56, 57, 58, 59, 60] (by decide +kernel) (by decide +kernel)) (goodIn_sub (fun _ h => List.mem_cons_of_mem _ (List.mem_append_right _ h)) (by decide +kernel))
set_option maxRecDepth 20000 in
theorem gX8_border_X8_setBorder : GoodIn wsX8_border (wsV RX8 72 RX8 yX8_setBorder wsX8_setBorder) := goodIn_app (goodIn_of _ (by decide +kernel)) ggX8_border_X8_setBorder
theorem dX8_border_0 : decode cX8_border 0 = .ok (.aload_n 0, 1) := by decide +kernel
theorem dX8_border_1 : decode cX8_border 1 = .ok (.iconst 1, 1) := by decide +kernel
theorem dX8_border_2 : decode cX8_border 2 = .ok (.aload_n 0, 1) := by decide +kernel
theorem dX8_border_3 : decode cX8_border 3 = .ok (.iload_n 1, 1) := by decide +kernel
theorem dX8_border_4 : decode cX8_border 4 = .ok (.invokevirtual 52, 3) := by decide +kernel
theorem dX8_border_7 : decode cX8_border 7 = .ok (.ifCond .eq 11, 3) := by decide +kernel
theorem dX8_border_10 : decode cX8_border 10 = .ok (.aload_n 0, 1) := by decide +kernel
theorem dX8_border_11 : decode cX8_border 11 = .ok (.iload_n 2, 1) := by decide +kernel
theorem dX8_border_12 : decode cX8_border 12 = .ok (.invokevirtual 52, 3) := by decide +kernel
theorem dX8_border_15 : decode cX8_border 15 = .ok (.ifCond .ne 7, 3) := by decide +kernel
theorem dX8_border_18 : decode cX8_border 18 = .ok (.iconst 1, 1) := by decide +kernel
theorem dX8_border_19 : decode cX8_border 19 = .ok (.goto 4, 3) := by decide +kernel
theorem dX8_border_22 : decode cX8_border 22 = .ok (.iconst 0, 1) := by decide +kernel
theorem dX8_border_23 : decode cX8_border 23 = .ok (.invokevirtual 85, 3) := by decide +kernel
theorem dX8_border_26 : decode cX8_border 26 = .ok (.ifCond .ne 50, 3) := by decide +kernel
theorem dX8_border_29 : decode cX8_border 29 = .ok (.aload_n 0, 1) := by decide +kernel
theorem dX8_border_30 : decode cX8_border 30 = .ok (.iconst 2, 1) := by decide +kernel
theorem dX8_border_31 : decode cX8_border 31 = .ok (.iload_n 1, 1) := by decide +kernel
theorem dX8_border_32 : decode cX8_border 32 = .ok (.iload_n 2, 1) := by decide +kernel
theorem dX8_border_33 : decode cX8_border 33 = .ok (.if_icmp .ne 7, 3) := by decide +kernel
theorem dX8_border_36 : decode cX8_border 36 = .ok (.iconst 1, 1) := by decide +kernel
theorem dX8_border_37 : decode cX8_border 37 = .ok (.goto 4, 3) := by decide +kernel
theorem dX8_border_40 : decode cX8_border 40 = .ok (.iconst 0, 1) := by decide +kernel
theorem dX8_border_41 : decode cX8_border 41 = .ok (.invokevirtual 85, 3) := by decide +kernel
theorem dX8_border_44 : decode cX8_border 44 = .ok (.ifCond .ne 32, 3) := by decide +kernel
theorem dX8_border_47 : decode cX8_border 47 = .ok (.aload_n 0, 1) := by decide +kernel
theorem dX8_border_48 : decode cX8_border 48 = .ok (.iconst 3, 1) := by decide +kernel
theorem dX8_border_49 : decode cX8_border 49 = .ok (.aload_n 0, 1) := by decide +kernel
theorem dX8_border_50 : decode cX8_border 50 = .ok (.iload_n 1, 1) := by decide +kernel
theorem dX8_border_51 : decode cX8_border 51 = .ok (.invokevirtual 76, 3) := by decide +kernel
theorem dX8_border_54 : decode cX8_border 54 = .ok (.ifCond .eq 11, 3) := by decide +kernel
theorem dX8_border_57 : decode cX8_border 57 = .ok (.aload_n 0, 1) := by decide +kernel
theorem dX8_border_58 : decode cX8_border 58 = .ok (.iload_n 2, 1) := by decide +kernel
theorem dX8_border_59 : decode cX8_border 59 = .ok (.invokevirtual 76, 3) := by decide +kernel
theorem dX8_border_62 : decode cX8_border 62 = .ok (.ifCond .ne 7, 3) := by decide +kernel
theorem dX8_border_65 : decode cX8_border 65 = .ok (.iconst 1, 1) := by decide +kernel
theorem dX8_border_66 : decode cX8_border 66 = .ok (.goto 4, 3) := by decide +kernel
theorem dX8_border_69 : decode cX8_border 69 = .ok (.iconst 0, 1) := by decide +kernel
theorem dX8_border_70 : decode cX8_border 70 = .ok (.invokevirtual 85, 3) := by decide +kernel
theorem dX8_border_73 : decode cX8_border 73 = .ok (.ifCond .eq 5, 3) := by decide +kernel
theorem dX8_border_76 : decode cX8_border 76 = .ok (.iconst 0, 1) := by decide +kernel
theorem dX8_border_77 : decode cX8_border 77 = .ok (.ireturn, 1) := by decide +kernel
theorem dX8_border_78 : decode cX8_border 78 = .ok (.aload_n 0, 1) := by decide +kernel
theorem dX8_border_79 : decode cX8_border 79 = .ok (.aload_n 0, 1) := by decide +kernel
theorem dX8_border_80 : decode cX8_border 80 = .ok (.getfield 9, 3) := by decide +kernel
theorem dX8_border_83 : decode cX8_border 83 = .ok (.invokevirtual 89, 3) := by decide +kernel
theorem dX8_border_86 : decode cX8_border 86 = .ok (.aload_n 0, 1) := by decide +kernel
theorem dX8_border_87 : decode cX8_border 87 = .ok (.iload_n 1, 1) := by decide +kernel
theorem dX8_border_88 : decode cX8_border 88 = .ok (.iconst 3, 1) := by decide +kernel
theorem dX8_border_89 : decode cX8_border 89 = .ok (.invokevirtual 56, 3) := by decide +kernel
theorem dX8_border_92 : decode cX8_border 92 = .ok (.iload_n 2, 1) := by decide +kernel
theorem dX8_border_93 : decode cX8_border 93 = .ok (.invokestatic 68, 3) := by decide +kernel
theorem dX8_border_96 : decode cX8_border 96 = .ok (.istore 4, 2) := by decide +kernel
theorem dX8_border_98 : decode cX8_border 98 = .ok (.aload_n 0, 1) := by decide +kernel
theorem dX8_border_99 : decode cX8_border 99 = .ok (.iload_n 1, 1) := by decide +kernel
theorem dX8_border_100 : decode cX8_border 100 = .ok (.iload_n 2, 1) := by decide +kernel
theorem dX8_border_101 : decode cX8_border 101 = .ok (.iload_n 3, 1) := by decide +kernel
theorem dX8_border_102 : decode cX8_border 102 = .ok (.invokevirtual 72, 3) := by decide +kernel
theorem dX8_border_105 : decode cX8_border 105 = .ok (.iload 4, 2) := by decide +kernel
theorem dX8_border_107 : decode cX8_border 107 = .ok (.ireturn, 1) := by decide +kernel
set_option maxRecDepth 20000 in
theorem ggX8_whyNoSplit_X8_isPresent : GoodIn wsX8_whyNoSplit wsX8_isPresent := goodIn_ca (goodIn_r _ [6, 7, 8, 9, 5, 10, 1, 11, 12, 13, 14, 15, 16, 17, 18, 19, 20, 21, 22, 23, 24, 25, 26, 27, 28, 29, 30, 31, 32] (by decide +kernel) (by decide +kernel)) (goodIn_sub (fun _ h => List.mem_cons_of_mem _ (List.mem_append_right _ h)) (by decide +kernel))
set_option maxRecDepth 20000 in
theorem gX8_whyNoSplit_X8_isPresent : GoodIn wsX8_whyNoSplit (wsV RX8 76 RX8 yX8_isPresent wsX8_isPresent) := goodIn_app (goodIn_of _ (by decide +kernel)) ggX8_whyNoSplit_X8_isPresent
set_option maxRecDepth 20000 in
theorem ggX8_whyNoSplit_X8_of : GoodIn wsX8_whyNoSplit wsX8_of := goodIn_ca (goodIn_r _ [17, 1, 18, 19, 20, 21, 22, 23, 24, 25, 26, 27, 28, 29, 30, 31, 32] (by decide +kernel) (by decide +kernel)) (goodIn_sub (fun _ h => List.mem_cons_of_mem _ (List.mem_append_right _ h)) (by decide +kernel))
set_option maxRecDepth 20000 in
theorem gX8_whyNoSplit_X8_of : GoodIn wsX8_whyNoSplit (wsV RX8 56 RX8 yX8_of wsX8_of) := goodIn_app (goodIn_of _ (by decide +kernel)) ggX8_whyNoSplit_X8_of
theorem dX8_whyNoSplit_0 : decode cX8_whyNoSplit 0 = .ok (.aload_n 0, 1) := by decide +kernel
theorem dX8_whyNoSplit_1 : decode cX8_whyNoSplit 1 = .ok (.iload_n 1, 1) := by decide +kernel
theorem dX8_whyNoSplit_2 : decode cX8_whyNoSplit 2 = .ok (.invokevirtual 76, 3) := by decide +kernel
theorem dX8_whyNoSplit_5 : decode cX8_whyNoSplit 5 = .ok (.ifCond .ne 5, 3) := by decide +kernel
theorem dX8_whyNoSplit_8 : decode cX8_whyNoSplit 8 = .ok (.iconst 1, 1) := by decide +kernel
theorem dX8_whyNoSplit_9 : decode cX8_whyNoSplit 9 = .ok (.ireturn, 1) := by decide +kernel
theorem dX8_whyNoSplit_10 : decode cX8_whyNoSplit 10 = .ok (.iload_n 2, 1) := by decide +kernel
theorem dX8_whyNoSplit_11 : decode cX8_whyNoSplit 11 = .ok (.bipush 10, 2) := by decide +kernel
theorem dX8_whyNoSplit_13 : decode cX8_whyNoSplit 13 = .ok (.if_icmp .lt 16, 3) := by decide +kernel
theorem dX8_whyNoSplit_16 : decode cX8_whyNoSplit 16 = .ok (.aload_n 0, 1) := by decide +kernel
theorem dX8_whyNoSplit_17 : decode cX8_whyNoSplit 17 = .ok (.iload_n 1, 1) := by decide +kernel
theorem dX8_whyNoSplit_18 : decode cX8_whyNoSplit 18 = .ok (.iconst 0, 1) := by decide +kernel
theorem dX8_whyNoSplit_19 : decode cX8_whyNoSplit 19 = .ok (.invokevirtual 56, 3) := by decide +kernel
theorem dX8_whyNoSplit_22 : decode cX8_whyNoSplit 22 = .ok (.bipush 10, 2) := by decide +kernel
theorem dX8_whyNoSplit_24 : decode cX8_whyNoSplit 24 = .ok (.isub, 1) := by decide +kernel
theorem dX8_whyNoSplit_25 : decode cX8_whyNoSplit 25 = .ok (.iload_n 2, 1) := by decide +kernel
theorem dX8_whyNoSplit_26 : decode cX8_whyNoSplit 26 = .ok (.if_icmp .ge 5, 3) := by decide +kernel
theorem dX8_whyNoSplit_29 : decode cX8_whyNoSplit 29 = .ok (.iconst 2, 1) := by decide +kernel
theorem dX8_whyNoSplit_30 : decode cX8_whyNoSplit 30 = .ok (.ireturn, 1) := by decide +kernel
theorem dX8_whyNoSplit_31 : decode cX8_whyNoSplit 31 = .ok (.iload_n 3, 1) := by decide +kernel
theorem dX8_whyNoSplit_32 : decode cX8_whyNoSplit 32 = .ok (.aload_n 0, 1) := by decide +kernel
theorem dX8_whyNoSplit_33 : decode cX8_whyNoSplit 33 = .ok (.iload_n 1, 1) := by decide +kernel
theorem dX8_whyNoSplit_34 : decode cX8_whyNoSplit 34 = .ok (.iconst 3, 1) := by decide +kernel
theorem dX8_whyNoSplit_35 : decode cX8_whyNoSplit 35 = .ok (.invokevirtual 56, 3) := by decide +kernel
theorem dX8_whyNoSplit_38 : decode cX8_whyNoSplit 38 = .ok (.iconst (-1), 1) := by decide +kernel
theorem dX8_whyNoSplit_39 : decode cX8_whyNoSplit 39 = .ok (.ixor, 1) := by decide +kernel
theorem dX8_whyNoSplit_40 : decode cX8_whyNoSplit 40 = .ok (.iand, 1) := by decide +kernel
theorem dX8_whyNoSplit_41 : decode cX8_whyNoSplit 41 = .ok (.ifCond .eq 7, 3) := by decide +kernel
theorem dX8_whyNoSplit_44 : decode cX8_whyNoSplit 44 = .ok (.iconst 3, 1) := by decide +kernel
theorem dX8_whyNoSplit_45 : decode cX8_whyNoSplit 45 = .ok (.goto 22, 3) := by decide +kernel
theorem dX8_whyNoSplit_48 : decode cX8_whyNoSplit 48 = .ok (.aload_n 0, 1) := by decide +kernel
theorem dX8_whyNoSplit_49 : decode cX8_whyNoSplit 49 = .ok (.getfield 9, 3) := by decide +kernel
theorem dX8_whyNoSplit_52 : decode cX8_whyNoSplit 52 = .ok (.iconst 1, 1) := by decide +kernel
theorem dX8_whyNoSplit_53 : decode cX8_whyNoSplit 53 = .ok (.iaload, 1) := by decide +kernel
theorem dX8_whyNoSplit_54 : decode cX8_whyNoSplit 54 = .ok (.iconst 2, 1) := by decide +kernel
theorem dX8_whyNoSplit_55 : decode cX8_whyNoSplit 55 = .ok (.iadd, 1) := by decide +kernel
theorem dX8_whyNoSplit_56 : decode cX8_whyNoSplit 56 = .ok (.bipush 24, 2) := by decide +kernel
theorem dX8_whyNoSplit_58 : decode cX8_whyNoSplit 58 = .ok (.if_icmp .le 8, 3) := by decide +kernel
theorem dX8_whyNoSplit_61 : decode cX8_whyNoSplit 61 = .ok (.bipush 6, 2) := by decide +kernel
theorem dX8_whyNoSplit_63 : decode cX8_whyNoSplit 63 = .ok (.goto 4, 3) := by decide +kernel
theorem dX8_whyNoSplit_66 : decode cX8_whyNoSplit 66 = .ok (.iconst 0, 1) := by decide +kernel
theorem dX8_whyNoSplit_67 : decode cX8_whyNoSplit 67 = .ok (.ireturn, 1) := by decide +kernel
set_option maxRecDepth 20000 in
theorem ggX8_whyNoMerge_X8_isPresent : GoodIn wsX8_whyNoMerge wsX8_isPresent := goodIn_ca (goodIn_r _ [6, 7, 8, 9, 5, 10, 1, 11, 12, 13, 14, 15, 16, 17, 33, 34, 35, 36, 37, 38, 39, 40, 41, 42, 43, 44, 45, 46, 47] (by decide +kernel) (by decide +kernel)) (goodIn_sub (fun _ h => List.mem_cons_of_mem _ (List.mem_append_right _ h)) (by decide +kernel))
set_option maxRecDepth 20000 in
theorem gX8_whyNoMerge_X8_isPresent : GoodIn wsX8_whyNoMerge (wsV RX8 76 RX8 yX8_isPresent wsX8_isPresent) := goodIn_app (goodIn_of _ (by decide +kernel)) ggX8_whyNoMerge_X8_isPresent
set_option maxRecDepth 20000 in
theorem ggX8_whyNoMerge_X8_of : GoodIn wsX8_whyNoMerge wsX8_of := goodIn_ca (goodIn_r _ [17, 1, 33, 34, 35, 36, 37, 38, 39, 40, 41, 42, 43, 44, 45, 46, 47] (by decide +kernel) (by decide +kernel)) (goodIn_sub (fun _ h => List.mem_cons_of_mem _ (List.mem_append_right _ h)) (by decide +kernel))
set_option maxRecDepth 20000 in
theorem gX8_whyNoMerge_X8_of : GoodIn wsX8_whyNoMerge (wsV RX8 56 RX8 yX8_of wsX8_of) := goodIn_app (goodIn_of _ (by decide +kernel)) ggX8_whyNoMerge_X8_of
set_option maxRecDepth 20000 in
theorem ggX8_whyNoMerge_X8_has : GoodIn wsX8_whyNoMerge wsX8_has := goodIn_r _ [20] (by decide +kernel) (by decide +kernel)
set_option maxRecDepth 20000 in
theorem gX8_whyNoMerge_X8_has : GoodIn wsX8_whyNoMerge (va_wsS RX8 68 yX8_has wsX8_has) := goodIn_app (goodIn_of _ (by decide +kernel)) ggX8_whyNoMerge_X8_has
set_option maxRecDepth 20000 in
theorem ggX8_whyNoMerge_X8_holderOf : GoodIn wsX8_whyNoMerge wsX8_holderOf := goodIn_ca (goodIn_r _ [24, 1, 25, 26, 27, 5, 28, 14, 15, 16, 17, 29, 30, 31, 32, 33, 34, 35, 36, 37, 38, 39, 40, 41, 42, 43, 44, 45, 46, 47] (by decide +kernel) (by decide +kernel)) (goodIn_sub (fun _ h => List.mem_cons_of_mem _ (List.mem_append_right _ h)) (by decide +kernel))
set_option maxRecDepth 20000 in
theorem gX8_whyNoMerge_X8_holderOf : GoodIn wsX8_whyNoMerge (wsV RX8 97 RX8 yX8_holderOf wsX8_holderOf) := goodIn_app (goodIn_of _ (by decide +kernel)) ggX8_whyNoMerge_X8_holderOf
theorem dX8_whyNoMerge_0 : decode cX8_whyNoMerge 0 = .ok (.aload_n 0, 1) := by decide +kernel
theorem dX8_whyNoMerge_1 : decode cX8_whyNoMerge 1 = .ok (.iload_n 1, 1) := by decide +kernel
theorem dX8_whyNoMerge_2 : decode cX8_whyNoMerge 2 = .ok (.invokevirtual 76, 3) := by decide +kernel
theorem dX8_whyNoMerge_5 : decode cX8_whyNoMerge 5 = .ok (.ifCond .eq 11, 3) := by decide +kernel
theorem dX8_whyNoMerge_8 : decode cX8_whyNoMerge 8 = .ok (.aload_n 0, 1) := by decide +kernel
theorem dX8_whyNoMerge_9 : decode cX8_whyNoMerge 9 = .ok (.iload_n 2, 1) := by decide +kernel
theorem dX8_whyNoMerge_10 : decode cX8_whyNoMerge 10 = .ok (.invokevirtual 76, 3) := by decide +kernel
theorem dX8_whyNoMerge_13 : decode cX8_whyNoMerge 13 = .ok (.ifCond .ne 5, 3) := by decide +kernel
theorem dX8_whyNoMerge_16 : decode cX8_whyNoMerge 16 = .ok (.iconst 1, 1) := by decide +kernel
theorem dX8_whyNoMerge_17 : decode cX8_whyNoMerge 17 = .ok (.ireturn, 1) := by decide +kernel
theorem dX8_whyNoMerge_18 : decode cX8_whyNoMerge 18 = .ok (.aload_n 0, 1) := by decide +kernel
theorem dX8_whyNoMerge_19 : decode cX8_whyNoMerge 19 = .ok (.iload_n 1, 1) := by decide +kernel
theorem dX8_whyNoMerge_20 : decode cX8_whyNoMerge 20 = .ok (.iconst 3, 1) := by decide +kernel
theorem dX8_whyNoMerge_21 : decode cX8_whyNoMerge 21 = .ok (.invokevirtual 56, 3) := by decide +kernel
theorem dX8_whyNoMerge_24 : decode cX8_whyNoMerge 24 = .ok (.iload_n 2, 1) := by decide +kernel
theorem dX8_whyNoMerge_25 : decode cX8_whyNoMerge 25 = .ok (.invokestatic 68, 3) := by decide +kernel
theorem dX8_whyNoMerge_28 : decode cX8_whyNoMerge 28 = .ok (.ifCond .ne 5, 3) := by decide +kernel
theorem dX8_whyNoMerge_31 : decode cX8_whyNoMerge 31 = .ok (.iconst 4, 1) := by decide +kernel
theorem dX8_whyNoMerge_32 : decode cX8_whyNoMerge 32 = .ok (.ireturn, 1) := by decide +kernel
theorem dX8_whyNoMerge_33 : decode cX8_whyNoMerge 33 = .ok (.aload_n 0, 1) := by decide +kernel
theorem dX8_whyNoMerge_34 : decode cX8_whyNoMerge 34 = .ok (.iload_n 1, 1) := by decide +kernel
theorem dX8_whyNoMerge_35 : decode cX8_whyNoMerge 35 = .ok (.invokevirtual 97, 3) := by decide +kernel
theorem dX8_whyNoMerge_38 : decode cX8_whyNoMerge 38 = .ok (.aload_n 0, 1) := by decide +kernel
theorem dX8_whyNoMerge_39 : decode cX8_whyNoMerge 39 = .ok (.iload_n 2, 1) := by decide +kernel
theorem dX8_whyNoMerge_40 : decode cX8_whyNoMerge 40 = .ok (.invokevirtual 97, 3) := by decide +kernel
theorem dX8_whyNoMerge_43 : decode cX8_whyNoMerge 43 = .ok (.if_icmp .eq 5, 3) := by decide +kernel
theorem dX8_whyNoMerge_46 : decode cX8_whyNoMerge 46 = .ok (.iconst 5, 1) := by decide +kernel
theorem dX8_whyNoMerge_47 : decode cX8_whyNoMerge 47 = .ok (.ireturn, 1) := by decide +kernel
theorem dX8_whyNoMerge_48 : decode cX8_whyNoMerge 48 = .ok (.aload_n 0, 1) := by decide +kernel
theorem dX8_whyNoMerge_49 : decode cX8_whyNoMerge 49 = .ok (.iload_n 1, 1) := by decide +kernel
theorem dX8_whyNoMerge_50 : decode cX8_whyNoMerge 50 = .ok (.iconst 0, 1) := by decide +kernel
theorem dX8_whyNoMerge_51 : decode cX8_whyNoMerge 51 = .ok (.invokevirtual 56, 3) := by decide +kernel
theorem dX8_whyNoMerge_54 : decode cX8_whyNoMerge 54 = .ok (.aload_n 0, 1) := by decide +kernel
theorem dX8_whyNoMerge_55 : decode cX8_whyNoMerge 55 = .ok (.iload_n 2, 1) := by decide +kernel
theorem dX8_whyNoMerge_56 : decode cX8_whyNoMerge 56 = .ok (.iconst 0, 1) := by decide +kernel
theorem dX8_whyNoMerge_57 : decode cX8_whyNoMerge 57 = .ok (.invokevirtual 56, 3) := by decide +kernel
theorem dX8_whyNoMerge_60 : decode cX8_whyNoMerge 60 = .ok (.iadd, 1) := by decide +kernel
theorem dX8_whyNoMerge_61 : decode cX8_whyNoMerge 61 = .ok (.sipush 9999, 3) := by decide +kernel
theorem dX8_whyNoMerge_64 : decode cX8_whyNoMerge 64 = .ok (.if_icmp .le 7, 3) := by decide +kernel
theorem dX8_whyNoMerge_67 : decode cX8_whyNoMerge 67 = .ok (.iconst 2, 1) := by decide +kernel
theorem dX8_whyNoMerge_68 : decode cX8_whyNoMerge 68 = .ok (.goto 20, 3) := by decide +kernel
theorem dX8_whyNoMerge_71 : decode cX8_whyNoMerge 71 = .ok (.aload_n 0, 1) := by decide +kernel
theorem dX8_whyNoMerge_72 : decode cX8_whyNoMerge 72 = .ok (.getfield 9, 3) := by decide +kernel
theorem dX8_whyNoMerge_75 : decode cX8_whyNoMerge 75 = .ok (.iconst 1, 1) := by decide +kernel
theorem dX8_whyNoMerge_76 : decode cX8_whyNoMerge 76 = .ok (.iaload, 1) := by decide +kernel
theorem dX8_whyNoMerge_77 : decode cX8_whyNoMerge 77 = .ok (.bipush 24, 2) := by decide +kernel
theorem dX8_whyNoMerge_79 : decode cX8_whyNoMerge 79 = .ok (.if_icmp .ne 8, 3) := by decide +kernel
theorem dX8_whyNoMerge_82 : decode cX8_whyNoMerge 82 = .ok (.bipush 6, 2) := by decide +kernel
theorem dX8_whyNoMerge_84 : decode cX8_whyNoMerge 84 = .ok (.goto 4, 3) := by decide +kernel
theorem dX8_whyNoMerge_87 : decode cX8_whyNoMerge 87 = .ok (.iconst 0, 1) := by decide +kernel
theorem dX8_whyNoMerge_88 : decode cX8_whyNoMerge 88 = .ok (.ireturn, 1) := by decide +kernel
theorem dX8_moveLiens_0 : decode cX8_moveLiens 0 = .ok (.iconst 0, 1) := by decide +kernel
theorem dX8_moveLiens_1 : decode cX8_moveLiens 1 = .ok (.istore_n 3, 1) := by decide +kernel
theorem dX8_moveLiens_2 : decode cX8_moveLiens 2 = .ok (.iload_n 3, 1) := by decide +kernel
theorem dX8_moveLiens_3 : decode cX8_moveLiens 3 = .ok (.aload_n 0, 1) := by decide +kernel
theorem dX8_moveLiens_4 : decode cX8_moveLiens 4 = .ok (.getfield 9, 3) := by decide +kernel
theorem dX8_moveLiens_7 : decode cX8_moveLiens 7 = .ok (.iconst 5, 1) := by decide +kernel
theorem dX8_moveLiens_8 : decode cX8_moveLiens 8 = .ok (.iaload, 1) := by decide +kernel
theorem dX8_moveLiens_9 : decode cX8_moveLiens 9 = .ok (.if_icmp .ge 71, 3) := by decide +kernel
theorem dX8_moveLiens_12 : decode cX8_moveLiens 12 = .ok (.sipush 541, 3) := by decide +kernel
theorem dX8_moveLiens_15 : decode cX8_moveLiens 15 = .ok (.aload_n 0, 1) := by decide +kernel
theorem dX8_moveLiens_16 : decode cX8_moveLiens 16 = .ok (.getfield 9, 3) := by decide +kernel
theorem dX8_moveLiens_19 : decode cX8_moveLiens 19 = .ok (.sipush 601, 3) := by decide +kernel
theorem dX8_moveLiens_22 : decode cX8_moveLiens 22 = .ok (.iload_n 3, 1) := by decide +kernel
theorem dX8_moveLiens_23 : decode cX8_moveLiens 23 = .ok (.iadd, 1) := by decide +kernel
theorem dX8_moveLiens_24 : decode cX8_moveLiens 24 = .ok (.iaload, 1) := by decide +kernel
theorem dX8_moveLiens_25 : decode cX8_moveLiens 25 = .ok (.iconst 3, 1) := by decide +kernel
theorem dX8_moveLiens_26 : decode cX8_moveLiens 26 = .ok (.imul, 1) := by decide +kernel
theorem dX8_moveLiens_27 : decode cX8_moveLiens 27 = .ok (.iadd, 1) := by decide +kernel
theorem dX8_moveLiens_28 : decode cX8_moveLiens 28 = .ok (.iconst 2, 1) := by decide +kernel
theorem dX8_moveLiens_29 : decode cX8_moveLiens 29 = .ok (.iadd, 1) := by decide +kernel
theorem dX8_moveLiens_30 : decode cX8_moveLiens 30 = .ok (.istore 4, 2) := by decide +kernel
theorem dX8_moveLiens_32 : decode cX8_moveLiens 32 = .ok (.aload_n 0, 1) := by decide +kernel
theorem dX8_moveLiens_33 : decode cX8_moveLiens 33 = .ok (.getfield 9, 3) := by decide +kernel
theorem dX8_moveLiens_36 : decode cX8_moveLiens 36 = .ok (.iload 4, 2) := by decide +kernel
theorem dX8_moveLiens_38 : decode cX8_moveLiens 38 = .ok (.aload_n 0, 1) := by decide +kernel
theorem dX8_moveLiens_39 : decode cX8_moveLiens 39 = .ok (.getfield 9, 3) := by decide +kernel
theorem dX8_moveLiens_42 : decode cX8_moveLiens 42 = .ok (.iload 4, 2) := by decide +kernel
theorem dX8_moveLiens_44 : decode cX8_moveLiens 44 = .ok (.iaload, 1) := by decide +kernel
theorem dX8_moveLiens_45 : decode cX8_moveLiens 45 = .ok (.iload_n 1, 1) := by decide +kernel
theorem dX8_moveLiens_46 : decode cX8_moveLiens 46 = .ok (.iand, 1) := by decide +kernel
theorem dX8_moveLiens_47 : decode cX8_moveLiens 47 = .ok (.ifCond .eq 19, 3) := by decide +kernel
theorem dX8_moveLiens_50 : decode cX8_moveLiens 50 = .ok (.aload_n 0, 1) := by decide +kernel
theorem dX8_moveLiens_51 : decode cX8_moveLiens 51 = .ok (.getfield 9, 3) := by decide +kernel
theorem dX8_moveLiens_54 : decode cX8_moveLiens 54 = .ok (.iload 4, 2) := by decide +kernel
theorem dX8_moveLiens_56 : decode cX8_moveLiens 56 = .ok (.iaload, 1) := by decide +kernel
theorem dX8_moveLiens_57 : decode cX8_moveLiens 57 = .ok (.iload_n 1, 1) := by decide +kernel
theorem dX8_moveLiens_58 : decode cX8_moveLiens 58 = .ok (.iconst (-1), 1) := by decide +kernel
theorem dX8_moveLiens_59 : decode cX8_moveLiens 59 = .ok (.ixor, 1) := by decide +kernel
theorem dX8_moveLiens_60 : decode cX8_moveLiens 60 = .ok (.iand, 1) := by decide +kernel
theorem dX8_moveLiens_61 : decode cX8_moveLiens 61 = .ok (.iload_n 2, 1) := by decide +kernel
theorem dX8_moveLiens_62 : decode cX8_moveLiens 62 = .ok (.ior, 1) := by decide +kernel
theorem dX8_moveLiens_63 : decode cX8_moveLiens 63 = .ok (.goto 10, 3) := by decide +kernel
theorem dX8_moveLiens_66 : decode cX8_moveLiens 66 = .ok (.aload_n 0, 1) := by decide +kernel
theorem dX8_moveLiens_67 : decode cX8_moveLiens 67 = .ok (.getfield 9, 3) := by decide +kernel
theorem dX8_moveLiens_70 : decode cX8_moveLiens 70 = .ok (.iload 4, 2) := by decide +kernel
theorem dX8_moveLiens_72 : decode cX8_moveLiens 72 = .ok (.iaload, 1) := by decide +kernel
theorem dX8_moveLiens_73 : decode cX8_moveLiens 73 = .ok (.iastore, 1) := by decide +kernel
theorem dX8_moveLiens_74 : decode cX8_moveLiens 74 = .ok (.iinc 3 1, 3) := by decide +kernel
theorem dX8_moveLiens_77 : decode cX8_moveLiens 77 = .ok (.goto (-75), 3) := by decide +kernel
theorem dX8_moveLiens_80 : decode cX8_moveLiens 80 = .ok (.return_, 1) := by decide +kernel
theorem dX8_easementOf_0 : decode cX8_easementOf 0 = .ok (.aload_n 0, 1) := by decide +kernel
theorem dX8_easementOf_1 : decode cX8_easementOf 1 = .ok (.getfield 9, 3) := by decide +kernel
theorem dX8_easementOf_4 : decode cX8_easementOf 4 = .ok (.sipush 391, 3) := by decide +kernel
theorem dX8_easementOf_7 : decode cX8_easementOf 7 = .ok (.iload_n 1, 1) := by decide +kernel
theorem dX8_easementOf_8 : decode cX8_easementOf 8 = .ok (.iconst 5, 1) := by decide +kernel
theorem dX8_easementOf_9 : decode cX8_easementOf 9 = .ok (.imul, 1) := by decide +kernel
theorem dX8_easementOf_10 : decode cX8_easementOf 10 = .ok (.iadd, 1) := by decide +kernel
theorem dX8_easementOf_11 : decode cX8_easementOf 11 = .ok (.iload_n 2, 1) := by decide +kernel
theorem dX8_easementOf_12 : decode cX8_easementOf 12 = .ok (.iadd, 1) := by decide +kernel
theorem dX8_easementOf_13 : decode cX8_easementOf 13 = .ok (.iaload, 1) := by decide +kernel
theorem dX8_easementOf_14 : decode cX8_easementOf 14 = .ok (.ireturn, 1) := by decide +kernel
theorem dX8_setEasement_0 : decode cX8_setEasement 0 = .ok (.aload_n 0, 1) := by decide +kernel
theorem dX8_setEasement_1 : decode cX8_setEasement 1 = .ok (.getfield 9, 3) := by decide +kernel
theorem dX8_setEasement_4 : decode cX8_setEasement 4 = .ok (.sipush 391, 3) := by decide +kernel
theorem dX8_setEasement_7 : decode cX8_setEasement 7 = .ok (.iload_n 1, 1) := by decide +kernel
theorem dX8_setEasement_8 : decode cX8_setEasement 8 = .ok (.iconst 5, 1) := by decide +kernel
theorem dX8_setEasement_9 : decode cX8_setEasement 9 = .ok (.imul, 1) := by decide +kernel
theorem dX8_setEasement_10 : decode cX8_setEasement 10 = .ok (.iadd, 1) := by decide +kernel
theorem dX8_setEasement_11 : decode cX8_setEasement 11 = .ok (.iload_n 2, 1) := by decide +kernel
theorem dX8_setEasement_12 : decode cX8_setEasement 12 = .ok (.iadd, 1) := by decide +kernel
theorem dX8_setEasement_13 : decode cX8_setEasement 13 = .ok (.iload_n 3, 1) := by decide +kernel
theorem dX8_setEasement_14 : decode cX8_setEasement 14 = .ok (.iastore, 1) := by decide +kernel
theorem dX8_setEasement_15 : decode cX8_setEasement 15 = .ok (.return_, 1) := by decide +kernel
set_option maxRecDepth 20000 in
theorem ggX8_lasts_X8_easementOf : GoodIn wsX8_lasts wsX8_easementOf := goodIn_ca (goodIn_r _ [5, 6, 7, 8, 9, 10, 11, 12, 13, 14, 15, 16, 17, 18, 19, 20, 21] (by decide +kernel) (by decide +kernel)) (goodIn_sub (fun _ h => List.mem_cons_of_mem _ (List.mem_append_right _ h)) (by decide +kernel))
set_option maxRecDepth 20000 in
theorem gX8_lasts_X8_easementOf : GoodIn wsX8_lasts (wsV RX8 100 RX8 yX8_easementOf wsX8_easementOf) := goodIn_app (goodIn_of _ (by decide +kernel)) ggX8_lasts_X8_easementOf
theorem dX8_lasts_0 : decode cX8_lasts 0 = .ok (.aload_n 0, 1) := by decide +kernel
theorem dX8_lasts_1 : decode cX8_lasts 1 = .ok (.iload_n 1, 1) := by decide +kernel
theorem dX8_lasts_2 : decode cX8_lasts 2 = .ok (.iconst 4, 1) := by decide +kernel
theorem dX8_lasts_3 : decode cX8_lasts 3 = .ok (.invokevirtual 100, 3) := by decide +kernel
theorem dX8_lasts_6 : decode cX8_lasts 6 = .ok (.ifCond .ge 7, 3) := by decide +kernel
theorem dX8_lasts_9 : decode cX8_lasts 9 = .ok (.iconst 1, 1) := by decide +kernel
theorem dX8_lasts_10 : decode cX8_lasts 10 = .ok (.goto 4, 3) := by decide +kernel
theorem dX8_lasts_13 : decode cX8_lasts 13 = .ok (.iconst 0, 1) := by decide +kernel
theorem dX8_lasts_14 : decode cX8_lasts 14 = .ok (.ireturn, 1) := by decide +kernel
set_option maxRecDepth 20000 in
theorem ggX8_newEasement_X8_setEasement : GoodIn wsX8_newEasement wsX8_setEasement := goodIn_ca (goodIn_r _ [6, 1, 7, 8, 9, 10, 11, 12, 13, 14, 15, 16, 17, 18, 19, 20, 21] (by decide +kernel) (by decide +kernel)) (goodIn_sub (fun _ h => List.mem_cons_of_mem _ (List.mem_append_right _ h)) (by decide +kernel))
set_option maxRecDepth 20000 in
theorem gX8_newEasement_X8_setEasement : GoodIn wsX8_newEasement (wsV RX8 103 RX8 yX8_setEasement wsX8_setEasement) := goodIn_app (goodIn_of _ (by decide +kernel)) ggX8_newEasement_X8_setEasement
theorem dX8_newEasement_0 : decode cX8_newEasement 0 = .ok (.aload_n 0, 1) := by decide +kernel
theorem dX8_newEasement_1 : decode cX8_newEasement 1 = .ok (.getfield 9, 3) := by decide +kernel
theorem dX8_newEasement_4 : decode cX8_newEasement 4 = .ok (.iconst 3, 1) := by decide +kernel
theorem dX8_newEasement_5 : decode cX8_newEasement 5 = .ok (.iaload, 1) := by decide +kernel
theorem dX8_newEasement_6 : decode cX8_newEasement 6 = .ok (.istore 4, 2) := by decide +kernel
theorem dX8_newEasement_8 : decode cX8_newEasement 8 = .ok (.aload_n 0, 1) := by decide +kernel
theorem dX8_newEasement_9 : decode cX8_newEasement 9 = .ok (.getfield 9, 3) := by decide +kernel
theorem dX8_newEasement_12 : decode cX8_newEasement 12 = .ok (.iconst 3, 1) := by decide +kernel
theorem dX8_newEasement_13 : decode cX8_newEasement 13 = .ok (.dup2, 1) := by decide +kernel
theorem dX8_newEasement_14 : decode cX8_newEasement 14 = .ok (.iaload, 1) := by decide +kernel
theorem dX8_newEasement_15 : decode cX8_newEasement 15 = .ok (.iconst 1, 1) := by decide +kernel
theorem dX8_newEasement_16 : decode cX8_newEasement 16 = .ok (.iadd, 1) := by decide +kernel
theorem dX8_newEasement_17 : decode cX8_newEasement 17 = .ok (.iastore, 1) := by decide +kernel
theorem dX8_newEasement_18 : decode cX8_newEasement 18 = .ok (.aload_n 0, 1) := by decide +kernel
theorem dX8_newEasement_19 : decode cX8_newEasement 19 = .ok (.iload 4, 2) := by decide +kernel
theorem dX8_newEasement_21 : decode cX8_newEasement 21 = .ok (.iconst 0, 1) := by decide +kernel
theorem dX8_newEasement_22 : decode cX8_newEasement 22 = .ok (.iload_n 1, 1) := by decide +kernel
theorem dX8_newEasement_23 : decode cX8_newEasement 23 = .ok (.invokevirtual 103, 3) := by decide +kernel
theorem dX8_newEasement_26 : decode cX8_newEasement 26 = .ok (.aload_n 0, 1) := by decide +kernel
theorem dX8_newEasement_27 : decode cX8_newEasement 27 = .ok (.iload 4, 2) := by decide +kernel
theorem dX8_newEasement_29 : decode cX8_newEasement 29 = .ok (.iconst 1, 1) := by decide +kernel
theorem dX8_newEasement_30 : decode cX8_newEasement 30 = .ok (.iload_n 2, 1) := by decide +kernel
theorem dX8_newEasement_31 : decode cX8_newEasement 31 = .ok (.invokevirtual 103, 3) := by decide +kernel
theorem dX8_newEasement_34 : decode cX8_newEasement 34 = .ok (.aload_n 0, 1) := by decide +kernel
theorem dX8_newEasement_35 : decode cX8_newEasement 35 = .ok (.iload 4, 2) := by decide +kernel
theorem dX8_newEasement_37 : decode cX8_newEasement 37 = .ok (.iconst 2, 1) := by decide +kernel
theorem dX8_newEasement_38 : decode cX8_newEasement 38 = .ok (.iload_n 3, 1) := by decide +kernel
theorem dX8_newEasement_39 : decode cX8_newEasement 39 = .ok (.invokevirtual 103, 3) := by decide +kernel
theorem dX8_newEasement_42 : decode cX8_newEasement 42 = .ok (.aload_n 0, 1) := by decide +kernel
theorem dX8_newEasement_43 : decode cX8_newEasement 43 = .ok (.iload 4, 2) := by decide +kernel
theorem dX8_newEasement_45 : decode cX8_newEasement 45 = .ok (.iconst 3, 1) := by decide +kernel
theorem dX8_newEasement_46 : decode cX8_newEasement 46 = .ok (.aload_n 0, 1) := by decide +kernel
theorem dX8_newEasement_47 : decode cX8_newEasement 47 = .ok (.getfield 9, 3) := by decide +kernel
theorem dX8_newEasement_50 : decode cX8_newEasement 50 = .ok (.iconst 0, 1) := by decide +kernel
theorem dX8_newEasement_51 : decode cX8_newEasement 51 = .ok (.iaload, 1) := by decide +kernel
theorem dX8_newEasement_52 : decode cX8_newEasement 52 = .ok (.invokevirtual 103, 3) := by decide +kernel
theorem dX8_newEasement_55 : decode cX8_newEasement 55 = .ok (.aload_n 0, 1) := by decide +kernel
theorem dX8_newEasement_56 : decode cX8_newEasement 56 = .ok (.iload 4, 2) := by decide +kernel
theorem dX8_newEasement_58 : decode cX8_newEasement 58 = .ok (.iconst 4, 1) := by decide +kernel
theorem dX8_newEasement_59 : decode cX8_newEasement 59 = .ok (.iconst (-1), 1) := by decide +kernel
theorem dX8_newEasement_60 : decode cX8_newEasement 60 = .ok (.invokevirtual 103, 3) := by decide +kernel
theorem dX8_newEasement_63 : decode cX8_newEasement 63 = .ok (.iload 4, 2) := by decide +kernel
theorem dX8_newEasement_65 : decode cX8_newEasement 65 = .ok (.ireturn, 1) := by decide +kernel
set_option maxRecDepth 20000 in
theorem ggX8_splitEasements_X8_easementOf : GoodIn wsX8_splitEasements wsX8_easementOf := goodIn_ca (goodIn_r _ [6, 1, 19, 20, 21, 22, 23, 24, 25, 26, 27, 28, 29, 30, 31, 32, 33] (by decide +kernel) (by decide +kernel)) (goodIn_sub (fun _ h => List.mem_cons_of_mem _ (List.mem_append_right _ h)) (by decide +kernel))
set_option maxRecDepth 20000 in
theorem gX8_splitEasements_X8_easementOf : GoodIn wsX8_splitEasements (wsV RX8 100 RX8 yX8_easementOf wsX8_easementOf) := goodIn_app (goodIn_of _ (by decide +kernel)) ggX8_splitEasements_X8_easementOf
set_option maxRecDepth 20000 in
theorem ggX8_splitEasements_X8_lasts : GoodIn wsX8_splitEasements wsX8_lasts := goodIn_ca (goodIn_r _ [10, 2, 3, 4, 5, 6, 1, 19, 20, 21, 22, 23, 24, 25, 26, 27, 28, 29, 30, 31, 32, 33] (by decide +kernel) (by decide +kernel)) (goodIn_sub (fun _ h => List.mem_cons_of_mem _ (List.mem_append_right _ h)) (by decide +kernel))
set_option maxRecDepth 20000 in
theorem gX8_splitEasements_X8_lasts : GoodIn wsX8_splitEasements (wsV RX8 106 RX8 yX8_lasts wsX8_lasts) := goodIn_app (goodIn_of _ (by decide +kernel)) ggX8_splitEasements_X8_lasts
set_option maxRecDepth 20000 in
theorem ggX8_splitEasements_X8_setEasement : GoodIn wsX8_splitEasements wsX8_setEasement := goodIn_ca (goodIn_r _ [14, 1, 19, 20, 21, 22, 23, 24, 25, 26, 27, 28, 29, 30, 31, 32, 33] (by decide +kernel) (by decide +kernel)) (goodIn_sub (fun _ h => List.mem_cons_of_mem _ (List.mem_append_right _ h)) (by decide +kernel))
set_option maxRecDepth 20000 in
theorem gX8_splitEasements_X8_setEasement : GoodIn wsX8_splitEasements (wsV RX8 103 RX8 yX8_setEasement wsX8_setEasement) := goodIn_app (goodIn_of _ (by decide +kernel)) ggX8_splitEasements_X8_setEasement
set_option maxRecDepth 20000 in
theorem ggX8_splitEasements_X8_newEasement : GoodIn wsX8_splitEasements wsX8_newEasement := goodIn_ca (goodIn_r _ [18, 1, 11, 12, 13, 5, 14, 19, 20, 21, 22, 23, 24, 25, 26, 27, 28, 29, 30, 31, 32, 33] (by decide +kernel) (by decide +kernel)) (goodIn_sub (fun _ h => List.mem_cons_of_mem _ (List.mem_append_right _ h)) (by decide +kernel))
set_option maxRecDepth 20000 in
theorem gX8_splitEasements_X8_newEasement : GoodIn wsX8_splitEasements (wsV RX8 109 RX8 yX8_newEasement wsX8_newEasement) := goodIn_app (goodIn_of _ (by decide +kernel)) ggX8_splitEasements_X8_newEasement
theorem dX8_splitEasements_0 : decode cX8_splitEasements 0 = .ok (.aload_n 0, 1) := by decide +kernel
theorem dX8_splitEasements_1 : decode cX8_splitEasements 1 = .ok (.getfield 9, 3) := by decide +kernel
theorem dX8_splitEasements_4 : decode cX8_splitEasements 4 = .ok (.iconst 3, 1) := by decide +kernel
theorem dX8_splitEasements_5 : decode cX8_splitEasements 5 = .ok (.iaload, 1) := by decide +kernel
theorem dX8_splitEasements_6 : decode cX8_splitEasements 6 = .ok (.istore 4, 2) := by decide +kernel
theorem dX8_splitEasements_8 : decode cX8_splitEasements 8 = .ok (.iconst 0, 1) := by decide +kernel
theorem dX8_splitEasements_9 : decode cX8_splitEasements 9 = .ok (.istore 5, 2) := by decide +kernel
theorem dX8_splitEasements_11 : decode cX8_splitEasements 11 = .ok (.iload 5, 2) := by decide +kernel
theorem dX8_splitEasements_13 : decode cX8_splitEasements 13 = .ok (.iload 4, 2) := by decide +kernel
theorem dX8_splitEasements_15 : decode cX8_splitEasements 15 = .ok (.if_icmp .ge 124, 3) := by decide +kernel
theorem dX8_splitEasements_18 : decode cX8_splitEasements 18 = .ok (.aload_n 0, 1) := by decide +kernel
theorem dX8_splitEasements_19 : decode cX8_splitEasements 19 = .ok (.iload 5, 2) := by decide +kernel
theorem dX8_splitEasements_21 : decode cX8_splitEasements 21 = .ok (.iconst 1, 1) := by decide +kernel
theorem dX8_splitEasements_22 : decode cX8_splitEasements 22 = .ok (.invokevirtual 100, 3) := by decide +kernel
theorem dX8_splitEasements_25 : decode cX8_splitEasements 25 = .ok (.iload_n 1, 1) := by decide +kernel
theorem dX8_splitEasements_26 : decode cX8_splitEasements 26 = .ok (.if_icmp .ne 7, 3) := by decide +kernel
theorem dX8_splitEasements_29 : decode cX8_splitEasements 29 = .ok (.iconst 1, 1) := by decide +kernel
theorem dX8_splitEasements_30 : decode cX8_splitEasements 30 = .ok (.goto 4, 3) := by decide +kernel
theorem dX8_splitEasements_33 : decode cX8_splitEasements 33 = .ok (.iconst 0, 1) := by decide +kernel
theorem dX8_splitEasements_34 : decode cX8_splitEasements 34 = .ok (.istore 6, 2) := by decide +kernel
theorem dX8_splitEasements_36 : decode cX8_splitEasements 36 = .ok (.aload_n 0, 1) := by decide +kernel
theorem dX8_splitEasements_37 : decode cX8_splitEasements 37 = .ok (.iload 5, 2) := by decide +kernel
theorem dX8_splitEasements_39 : decode cX8_splitEasements 39 = .ok (.invokevirtual 106, 3) := by decide +kernel
theorem dX8_splitEasements_42 : decode cX8_splitEasements 42 = .ok (.ifCond .eq 91, 3) := by decide +kernel
theorem dX8_splitEasements_45 : decode cX8_splitEasements 45 = .ok (.iload 6, 2) := by decide +kernel
theorem dX8_splitEasements_47 : decode cX8_splitEasements 47 = .ok (.ifCond .ne 14, 3) := by decide +kernel
theorem dX8_splitEasements_50 : decode cX8_splitEasements 50 = .ok (.aload_n 0, 1) := by decide +kernel
theorem dX8_splitEasements_51 : decode cX8_splitEasements 51 = .ok (.iload 5, 2) := by decide +kernel
theorem dX8_splitEasements_53 : decode cX8_splitEasements 53 = .ok (.iconst 2, 1) := by decide +kernel
theorem dX8_splitEasements_54 : decode cX8_splitEasements 54 = .ok (.invokevirtual 100, 3) := by decide +kernel
theorem dX8_splitEasements_57 : decode cX8_splitEasements 57 = .ok (.iload_n 1, 1) := by decide +kernel
theorem dX8_splitEasements_58 : decode cX8_splitEasements 58 = .ok (.if_icmp .ne 75, 3) := by decide +kernel
theorem dX8_splitEasements_61 : decode cX8_splitEasements 61 = .ok (.aload_n 0, 1) := by decide +kernel
theorem dX8_splitEasements_62 : decode cX8_splitEasements 62 = .ok (.iload 5, 2) := by decide +kernel
theorem dX8_splitEasements_64 : decode cX8_splitEasements 64 = .ok (.iload 6, 2) := by decide +kernel
theorem dX8_splitEasements_66 : decode cX8_splitEasements 66 = .ok (.ifCond .eq 7, 3) := by decide +kernel
theorem dX8_splitEasements_69 : decode cX8_splitEasements 69 = .ok (.iconst 1, 1) := by decide +kernel
theorem dX8_splitEasements_70 : decode cX8_splitEasements 70 = .ok (.goto 4, 3) := by decide +kernel
theorem dX8_splitEasements_73 : decode cX8_splitEasements 73 = .ok (.iconst 2, 1) := by decide +kernel
theorem dX8_splitEasements_74 : decode cX8_splitEasements 74 = .ok (.iload_n 2, 1) := by decide +kernel
theorem dX8_splitEasements_75 : decode cX8_splitEasements 75 = .ok (.invokevirtual 103, 3) := by decide +kernel
theorem dX8_splitEasements_78 : decode cX8_splitEasements 78 = .ok (.aload_n 0, 1) := by decide +kernel
theorem dX8_splitEasements_79 : decode cX8_splitEasements 79 = .ok (.getfield 9, 3) := by decide +kernel
theorem dX8_splitEasements_82 : decode cX8_splitEasements 82 = .ok (.iconst 3, 1) := by decide +kernel
theorem dX8_splitEasements_83 : decode cX8_splitEasements 83 = .ok (.iaload, 1) := by decide +kernel
theorem dX8_splitEasements_84 : decode cX8_splitEasements 84 = .ok (.bipush 30, 2) := by decide +kernel
theorem dX8_splitEasements_86 : decode cX8_splitEasements 86 = .ok (.if_icmp .ge 47, 3) := by decide +kernel
theorem dX8_splitEasements_89 : decode cX8_splitEasements 89 = .ok (.aload_n 0, 1) := by decide +kernel
theorem dX8_splitEasements_90 : decode cX8_splitEasements 90 = .ok (.aload_n 0, 1) := by decide +kernel
theorem dX8_splitEasements_91 : decode cX8_splitEasements 91 = .ok (.iload 5, 2) := by decide +kernel
theorem dX8_splitEasements_93 : decode cX8_splitEasements 93 = .ok (.iconst 0, 1) := by decide +kernel
theorem dX8_splitEasements_94 : decode cX8_splitEasements 94 = .ok (.invokevirtual 100, 3) := by decide +kernel
theorem dX8_splitEasements_97 : decode cX8_splitEasements 97 = .ok (.iload 6, 2) := by decide +kernel
theorem dX8_splitEasements_99 : decode cX8_splitEasements 99 = .ok (.ifCond .eq 7, 3) := by decide +kernel
theorem dX8_splitEasements_102 : decode cX8_splitEasements 102 = .ok (.iload_n 3, 1) := by decide +kernel
theorem dX8_splitEasements_103 : decode cX8_splitEasements 103 = .ok (.goto 10, 3) := by decide +kernel
theorem dX8_splitEasements_106 : decode cX8_splitEasements 106 = .ok (.aload_n 0, 1) := by decide +kernel
theorem dX8_splitEasements_107 : decode cX8_splitEasements 107 = .ok (.iload 5, 2) := by decide +kernel
theorem dX8_splitEasements_109 : decode cX8_splitEasements 109 = .ok (.iconst 1, 1) := by decide +kernel
theorem dX8_splitEasements_110 : decode cX8_splitEasements 110 = .ok (.invokevirtual 100, 3) := by decide +kernel
theorem dX8_splitEasements_113 : decode cX8_splitEasements 113 = .ok (.iload 6, 2) := by decide +kernel
theorem dX8_splitEasements_115 : decode cX8_splitEasements 115 = .ok (.ifCond .eq 13, 3) := by decide +kernel
theorem dX8_splitEasements_118 : decode cX8_splitEasements 118 = .ok (.aload_n 0, 1) := by decide +kernel
theorem dX8_splitEasements_119 : decode cX8_splitEasements 119 = .ok (.iload 5, 2) := by decide +kernel
theorem dX8_splitEasements_121 : decode cX8_splitEasements 121 = .ok (.iconst 2, 1) := by decide +kernel
theorem dX8_splitEasements_122 : decode cX8_splitEasements 122 = .ok (.invokevirtual 100, 3) := by decide +kernel
theorem dX8_splitEasements_125 : decode cX8_splitEasements 125 = .ok (.goto 4, 3) := by decide +kernel
theorem dX8_splitEasements_128 : decode cX8_splitEasements 128 = .ok (.iload_n 3, 1) := by decide +kernel
theorem dX8_splitEasements_129 : decode cX8_splitEasements 129 = .ok (.invokevirtual 109, 3) := by decide +kernel
theorem dX8_splitEasements_132 : decode cX8_splitEasements 132 = .ok (.pop, 1) := by decide +kernel
theorem dX8_splitEasements_133 : decode cX8_splitEasements 133 = .ok (.iinc 5 1, 3) := by decide +kernel
theorem dX8_splitEasements_136 : decode cX8_splitEasements 136 = .ok (.goto (-125), 3) := by decide +kernel
theorem dX8_splitEasements_139 : decode cX8_splitEasements 139 = .ok (.return_, 1) := by decide +kernel
set_option maxRecDepth 20000 in
theorem ggX8_doSplit_X8_holderOf : GoodIn wsX8_doSplit wsX8_holderOf := goodIn_ca (goodIn_r _ [5, 6, 7, 8, 9, 4, 10, 11, 12, 13, 14, 15, 16, 17, 18, 69, 70, 71, 72, 73, 74, 75, 76, 77, 78, 79, 80, 81, 82, 83] (by decide +kernel) (by decide +kernel)) (goodIn_sub (fun _ h => List.mem_cons_of_mem _ (List.mem_append_right _ h)) (by decide +kernel))
set_option maxRecDepth 20000 in
theorem gX8_doSplit_X8_holderOf : GoodIn wsX8_doSplit (wsV RX8 97 RX8 yX8_holderOf wsX8_holderOf) := goodIn_app (goodIn_of _ (by decide +kernel)) ggX8_doSplit_X8_holderOf
set_option maxRecDepth 20000 in
theorem ggX8_doSplit_X8_of : GoodIn wsX8_doSplit wsX8_of := goodIn_ca (goodIn_r _ [14, 6, 69, 70, 71, 72, 73, 74, 75, 76, 77, 78, 79, 80, 81, 82, 83] (by decide +kernel) (by decide +kernel)) (goodIn_sub (fun _ h => List.mem_cons_of_mem _ (List.mem_append_right _ h)) (by decide +kernel))
set_option maxRecDepth 20000 in
theorem gX8_doSplit_X8_of : GoodIn wsX8_doSplit (wsV RX8 56 RX8 yX8_of wsX8_of) := goodIn_app (goodIn_of _ (by decide +kernel)) ggX8_doSplit_X8_of
set_option maxRecDepth 20000 in
theorem ggX8_doSplit_X8_end : GoodIn wsX8_doSplit wsX8_end := goodIn_ca (goodIn_r _ [22, 6, 11, 12, 13, 4, 14, 23, 24, 25, 26, 27, 28, 29, 30, 31, 32, 33, 34, 35, 36, 69, 70, 71, 72, 73, 74, 75, 76, 77, 78, 79, 80, 81, 82, 83] (by decide +kernel) (by decide +kernel)) (goodIn_sub (fun _ h => List.mem_cons_of_mem _ (List.mem_append_right _ h)) (by decide +kernel))
set_option maxRecDepth 20000 in
theorem gX8_doSplit_X8_end : GoodIn wsX8_doSplit (wsV RX8 112 RX8 yX8_end wsX8_end) := goodIn_app (goodIn_of _ (by decide +kernel)) ggX8_doSplit_X8_end
set_option maxRecDepth 20000 in
theorem ggX8_doSplit_X8_bit : GoodIn wsX8_doSplit wsX8_bit := goodIn_r _ [32] (by decide +kernel) (by decide +kernel)
set_option maxRecDepth 20000 in
theorem gX8_doSplit_X8_bit : GoodIn wsX8_doSplit (va_wsS RX8 64 yX8_bit wsX8_bit) := goodIn_app (goodIn_of _ (by decide +kernel)) ggX8_doSplit_X8_bit
set_option maxRecDepth 20000 in
theorem ggX8_doSplit_X8_newParcel : GoodIn wsX8_doSplit wsX8_newParcel := goodIn_ca (goodIn_r _ [40, 6, 33, 34, 35, 4, 36, 69, 70, 71, 72, 73, 74, 75, 76, 77, 78, 79, 80, 81, 82, 83] (by decide +kernel) (by decide +kernel)) (goodIn_sub (fun _ h => List.mem_cons_of_mem _ (List.mem_append_right _ h)) (by decide +kernel))
set_option maxRecDepth 20000 in
theorem gX8_doSplit_X8_newParcel : GoodIn wsX8_doSplit (wsV RX8 93 RX8 yX8_newParcel wsX8_newParcel) := goodIn_app (goodIn_of _ (by decide +kernel)) ggX8_doSplit_X8_newParcel
set_option maxRecDepth 20000 in
theorem ggX8_doSplit_X8_setBorders : GoodIn wsX8_doSplit wsX8_setBorders := goodIn_ca (goodIn_r _ [44, 6, 23, 24, 4, 25, 26, 27, 28, 29, 11, 12, 13, 14, 30, 31, 32, 33, 34, 35, 36, 69, 70, 71, 72, 73, 74, 75, 76, 77, 78, 79, 80, 81, 82, 83] (by decide +kernel) (by decide +kernel)) (goodIn_sub (fun _ h => List.mem_cons_of_mem _ (List.mem_append_right _ h)) (by decide +kernel))
set_option maxRecDepth 20000 in
theorem gX8_doSplit_X8_setBorders : GoodIn wsX8_doSplit (wsV RX8 116 RX8 yX8_setBorders wsX8_setBorders) := goodIn_app (goodIn_of _ (by decide +kernel)) ggX8_doSplit_X8_setBorders
set_option maxRecDepth 20000 in
theorem ggX8_doSplit_X8_splitEasements : GoodIn wsX8_doSplit wsX8_splitEasements := goodIn_ca (goodIn_r _ [48, 6, 49, 50, 51, 4, 52, 53, 54, 55, 56, 57, 58, 59, 60, 61, 62, 63, 64, 69, 70, 71, 72, 73, 74, 75, 76, 77, 78, 79, 80, 81, 82, 83] (by decide +kernel) (by decide +kernel)) (goodIn_sub (fun _ h => List.mem_cons_of_mem _ (List.mem_append_right _ h)) (by decide +kernel))
set_option maxRecDepth 20000 in
theorem gX8_doSplit_X8_splitEasements : GoodIn wsX8_doSplit (wsV RX8 120 RX8 yX8_splitEasements wsX8_splitEasements) := goodIn_app (goodIn_of _ (by decide +kernel)) ggX8_doSplit_X8_splitEasements
set_option maxRecDepth 20000 in
theorem ggX8_doSplit_X8_moveLiens : GoodIn wsX8_doSplit wsX8_moveLiens := goodIn_ca (goodIn_r _ [68, 6, 69, 70, 71, 72, 73, 74, 75, 76, 77, 78, 79, 80, 81, 82, 83] (by decide +kernel) (by decide +kernel)) (goodIn_sub (fun _ h => List.mem_cons_of_mem _ (List.mem_append_right _ h)) (by decide +kernel))
set_option maxRecDepth 20000 in
theorem gX8_doSplit_X8_moveLiens : GoodIn wsX8_doSplit (wsV RX8 123 RX8 yX8_moveLiens wsX8_moveLiens) := goodIn_app (goodIn_of _ (by decide +kernel)) ggX8_doSplit_X8_moveLiens
theorem dX8_doSplit_0 : decode cX8_doSplit 0 = .ok (.aload_n 0, 1) := by decide +kernel
theorem dX8_doSplit_1 : decode cX8_doSplit 1 = .ok (.iload_n 1, 1) := by decide +kernel
theorem dX8_doSplit_2 : decode cX8_doSplit 2 = .ok (.invokevirtual 97, 3) := by decide +kernel
theorem dX8_doSplit_5 : decode cX8_doSplit 5 = .ok (.istore 4, 2) := by decide +kernel
theorem dX8_doSplit_7 : decode cX8_doSplit 7 = .ok (.aload_n 0, 1) := by decide +kernel
theorem dX8_doSplit_8 : decode cX8_doSplit 8 = .ok (.iload_n 1, 1) := by decide +kernel
theorem dX8_doSplit_9 : decode cX8_doSplit 9 = .ok (.iconst 3, 1) := by decide +kernel
theorem dX8_doSplit_10 : decode cX8_doSplit 10 = .ok (.invokevirtual 56, 3) := by decide +kernel
theorem dX8_doSplit_13 : decode cX8_doSplit 13 = .ok (.istore 5, 2) := by decide +kernel
theorem dX8_doSplit_15 : decode cX8_doSplit 15 = .ok (.aload_n 0, 1) := by decide +kernel
theorem dX8_doSplit_16 : decode cX8_doSplit 16 = .ok (.iload_n 1, 1) := by decide +kernel
theorem dX8_doSplit_17 : decode cX8_doSplit 17 = .ok (.invokevirtual 112, 3) := by decide +kernel
theorem dX8_doSplit_20 : decode cX8_doSplit 20 = .ok (.aload_n 0, 1) := by decide +kernel
theorem dX8_doSplit_21 : decode cX8_doSplit 21 = .ok (.iload_n 2, 1) := by decide +kernel
theorem dX8_doSplit_22 : decode cX8_doSplit 22 = .ok (.iload 4, 2) := by decide +kernel
theorem dX8_doSplit_24 : decode cX8_doSplit 24 = .ok (.iload_n 1, 1) := by decide +kernel
theorem dX8_doSplit_25 : decode cX8_doSplit 25 = .ok (.invokestatic 64, 3) := by decide +kernel
theorem dX8_doSplit_28 : decode cX8_doSplit 28 = .ok (.invokevirtual 93, 3) := by decide +kernel
theorem dX8_doSplit_31 : decode cX8_doSplit 31 = .ok (.istore 6, 2) := by decide +kernel
theorem dX8_doSplit_33 : decode cX8_doSplit 33 = .ok (.aload_n 0, 1) := by decide +kernel
theorem dX8_doSplit_34 : decode cX8_doSplit 34 = .ok (.aload_n 0, 1) := by decide +kernel
theorem dX8_doSplit_35 : decode cX8_doSplit 35 = .ok (.iload_n 1, 1) := by decide +kernel
theorem dX8_doSplit_36 : decode cX8_doSplit 36 = .ok (.iconst 0, 1) := by decide +kernel
theorem dX8_doSplit_37 : decode cX8_doSplit 37 = .ok (.invokevirtual 56, 3) := by decide +kernel
theorem dX8_doSplit_40 : decode cX8_doSplit 40 = .ok (.iload_n 2, 1) := by decide +kernel
theorem dX8_doSplit_41 : decode cX8_doSplit 41 = .ok (.isub, 1) := by decide +kernel
theorem dX8_doSplit_42 : decode cX8_doSplit 42 = .ok (.iload 4, 2) := by decide +kernel
theorem dX8_doSplit_44 : decode cX8_doSplit 44 = .ok (.iload_n 1, 1) := by decide +kernel
theorem dX8_doSplit_45 : decode cX8_doSplit 45 = .ok (.invokestatic 64, 3) := by decide +kernel
theorem dX8_doSplit_48 : decode cX8_doSplit 48 = .ok (.invokevirtual 93, 3) := by decide +kernel
theorem dX8_doSplit_51 : decode cX8_doSplit 51 = .ok (.istore 7, 2) := by decide +kernel
theorem dX8_doSplit_53 : decode cX8_doSplit 53 = .ok (.aload_n 0, 1) := by decide +kernel
theorem dX8_doSplit_54 : decode cX8_doSplit 54 = .ok (.iload 6, 2) := by decide +kernel
theorem dX8_doSplit_56 : decode cX8_doSplit 56 = .ok (.iload_n 3, 1) := by decide +kernel
theorem dX8_doSplit_57 : decode cX8_doSplit 57 = .ok (.iload 7, 2) := by decide +kernel
theorem dX8_doSplit_59 : decode cX8_doSplit 59 = .ok (.invokestatic 64, 3) := by decide +kernel
theorem dX8_doSplit_62 : decode cX8_doSplit 62 = .ok (.ior, 1) := by decide +kernel
theorem dX8_doSplit_63 : decode cX8_doSplit 63 = .ok (.invokevirtual 116, 3) := by decide +kernel
theorem dX8_doSplit_66 : decode cX8_doSplit 66 = .ok (.aload_n 0, 1) := by decide +kernel
theorem dX8_doSplit_67 : decode cX8_doSplit 67 = .ok (.iload 7, 2) := by decide +kernel
theorem dX8_doSplit_69 : decode cX8_doSplit 69 = .ok (.iload 5, 2) := by decide +kernel
theorem dX8_doSplit_71 : decode cX8_doSplit 71 = .ok (.iload_n 3, 1) := by decide +kernel
theorem dX8_doSplit_72 : decode cX8_doSplit 72 = .ok (.iconst (-1), 1) := by decide +kernel
theorem dX8_doSplit_73 : decode cX8_doSplit 73 = .ok (.ixor, 1) := by decide +kernel
theorem dX8_doSplit_74 : decode cX8_doSplit 74 = .ok (.iand, 1) := by decide +kernel
theorem dX8_doSplit_75 : decode cX8_doSplit 75 = .ok (.invokevirtual 116, 3) := by decide +kernel
theorem dX8_doSplit_78 : decode cX8_doSplit 78 = .ok (.aload_n 0, 1) := by decide +kernel
theorem dX8_doSplit_79 : decode cX8_doSplit 79 = .ok (.iload_n 1, 1) := by decide +kernel
theorem dX8_doSplit_80 : decode cX8_doSplit 80 = .ok (.iload 6, 2) := by decide +kernel
theorem dX8_doSplit_82 : decode cX8_doSplit 82 = .ok (.iload 7, 2) := by decide +kernel
theorem dX8_doSplit_84 : decode cX8_doSplit 84 = .ok (.invokevirtual 120, 3) := by decide +kernel
theorem dX8_doSplit_87 : decode cX8_doSplit 87 = .ok (.aload_n 0, 1) := by decide +kernel
theorem dX8_doSplit_88 : decode cX8_doSplit 88 = .ok (.iload_n 1, 1) := by decide +kernel
theorem dX8_doSplit_89 : decode cX8_doSplit 89 = .ok (.invokestatic 64, 3) := by decide +kernel
theorem dX8_doSplit_92 : decode cX8_doSplit 92 = .ok (.iload 6, 2) := by decide +kernel
theorem dX8_doSplit_94 : decode cX8_doSplit 94 = .ok (.invokestatic 64, 3) := by decide +kernel
theorem dX8_doSplit_97 : decode cX8_doSplit 97 = .ok (.iload 7, 2) := by decide +kernel
theorem dX8_doSplit_99 : decode cX8_doSplit 99 = .ok (.invokestatic 64, 3) := by decide +kernel
theorem dX8_doSplit_102 : decode cX8_doSplit 102 = .ok (.ior, 1) := by decide +kernel
theorem dX8_doSplit_103 : decode cX8_doSplit 103 = .ok (.invokevirtual 123, 3) := by decide +kernel
theorem dX8_doSplit_106 : decode cX8_doSplit 106 = .ok (.iload 6, 2) := by decide +kernel
theorem dX8_doSplit_108 : decode cX8_doSplit 108 = .ok (.ireturn, 1) := by decide +kernel
set_option maxRecDepth 20000 in
theorem ggX8_isLike_X8_easementOf : GoodIn wsX8_isLike wsX8_easementOf := goodIn_ca (goodIn_r _ [5, 6, 7, 8, 9, 10, 11, 12, 13, 14, 15, 16, 17, 18, 19, 20, 21] (by decide +kernel) (by decide +kernel)) (goodIn_sub (fun _ h => List.mem_cons_of_mem _ (List.mem_append_right _ h)) (by decide +kernel))
set_option maxRecDepth 20000 in
theorem gX8_isLike_X8_easementOf : GoodIn wsX8_isLike (wsV RX8 100 RX8 yX8_easementOf wsX8_easementOf) := goodIn_app (goodIn_of _ (by decide +kernel)) ggX8_isLike_X8_easementOf
theorem dX8_isLike_0 : decode cX8_isLike 0 = .ok (.aload_n 0, 1) := by decide +kernel
theorem dX8_isLike_1 : decode cX8_isLike 1 = .ok (.iload_n 1, 1) := by decide +kernel
theorem dX8_isLike_2 : decode cX8_isLike 2 = .ok (.iconst 0, 1) := by decide +kernel
theorem dX8_isLike_3 : decode cX8_isLike 3 = .ok (.invokevirtual 100, 3) := by decide +kernel
theorem dX8_isLike_6 : decode cX8_isLike 6 = .ok (.aload_n 0, 1) := by decide +kernel
theorem dX8_isLike_7 : decode cX8_isLike 7 = .ok (.iload_n 2, 1) := by decide +kernel
theorem dX8_isLike_8 : decode cX8_isLike 8 = .ok (.iconst 0, 1) := by decide +kernel
theorem dX8_isLike_9 : decode cX8_isLike 9 = .ok (.invokevirtual 100, 3) := by decide +kernel
theorem dX8_isLike_12 : decode cX8_isLike 12 = .ok (.if_icmp .ne 37, 3) := by decide +kernel
theorem dX8_isLike_15 : decode cX8_isLike 15 = .ok (.aload_n 0, 1) := by decide +kernel
theorem dX8_isLike_16 : decode cX8_isLike 16 = .ok (.iload_n 1, 1) := by decide +kernel
theorem dX8_isLike_17 : decode cX8_isLike 17 = .ok (.iconst 1, 1) := by decide +kernel
theorem dX8_isLike_18 : decode cX8_isLike 18 = .ok (.invokevirtual 100, 3) := by decide +kernel
theorem dX8_isLike_21 : decode cX8_isLike 21 = .ok (.aload_n 0, 1) := by decide +kernel
theorem dX8_isLike_22 : decode cX8_isLike 22 = .ok (.iload_n 2, 1) := by decide +kernel
theorem dX8_isLike_23 : decode cX8_isLike 23 = .ok (.iconst 1, 1) := by decide +kernel
theorem dX8_isLike_24 : decode cX8_isLike 24 = .ok (.invokevirtual 100, 3) := by decide +kernel
theorem dX8_isLike_27 : decode cX8_isLike 27 = .ok (.if_icmp .ne 22, 3) := by decide +kernel
theorem dX8_isLike_30 : decode cX8_isLike 30 = .ok (.aload_n 0, 1) := by decide +kernel
theorem dX8_isLike_31 : decode cX8_isLike 31 = .ok (.iload_n 1, 1) := by decide +kernel
theorem dX8_isLike_32 : decode cX8_isLike 32 = .ok (.iconst 2, 1) := by decide +kernel
theorem dX8_isLike_33 : decode cX8_isLike 33 = .ok (.invokevirtual 100, 3) := by decide +kernel
theorem dX8_isLike_36 : decode cX8_isLike 36 = .ok (.aload_n 0, 1) := by decide +kernel
theorem dX8_isLike_37 : decode cX8_isLike 37 = .ok (.iload_n 2, 1) := by decide +kernel
theorem dX8_isLike_38 : decode cX8_isLike 38 = .ok (.iconst 2, 1) := by decide +kernel
theorem dX8_isLike_39 : decode cX8_isLike 39 = .ok (.invokevirtual 100, 3) := by decide +kernel
theorem dX8_isLike_42 : decode cX8_isLike 42 = .ok (.if_icmp .ne 7, 3) := by decide +kernel
theorem dX8_isLike_45 : decode cX8_isLike 45 = .ok (.iconst 1, 1) := by decide +kernel
theorem dX8_isLike_46 : decode cX8_isLike 46 = .ok (.goto 4, 3) := by decide +kernel
theorem dX8_isLike_49 : decode cX8_isLike 49 = .ok (.iconst 0, 1) := by decide +kernel
theorem dX8_isLike_50 : decode cX8_isLike 50 = .ok (.ireturn, 1) := by decide +kernel
set_option maxRecDepth 20000 in
theorem ggX8_mergeEasements_X8_lasts : GoodIn wsX8_mergeEasements wsX8_lasts := goodIn_ca (goodIn_r _ [6, 7, 8, 9, 5, 10, 1, 19, 20, 21, 22, 23, 24, 25, 26, 27, 28, 29, 30, 31, 32, 33] (by decide +kernel) (by decide +kernel)) (goodIn_sub (fun _ h => List.mem_cons_of_mem _ (List.mem_append_right _ h)) (by decide +kernel))
set_option maxRecDepth 20000 in
theorem gX8_mergeEasements_X8_lasts : GoodIn wsX8_mergeEasements (wsV RX8 106 RX8 yX8_lasts wsX8_lasts) := goodIn_app (goodIn_of _ (by decide +kernel)) ggX8_mergeEasements_X8_lasts
set_option maxRecDepth 20000 in
theorem ggX8_mergeEasements_X8_easementOf : GoodIn wsX8_mergeEasements wsX8_easementOf := goodIn_ca (goodIn_r _ [10, 1, 19, 20, 21, 22, 23, 24, 25, 26, 27, 28, 29, 30, 31, 32, 33] (by decide +kernel) (by decide +kernel)) (goodIn_sub (fun _ h => List.mem_cons_of_mem _ (List.mem_append_right _ h)) (by decide +kernel))
set_option maxRecDepth 20000 in
theorem gX8_mergeEasements_X8_easementOf : GoodIn wsX8_mergeEasements (wsV RX8 100 RX8 yX8_easementOf wsX8_easementOf) := goodIn_app (goodIn_of _ (by decide +kernel)) ggX8_mergeEasements_X8_easementOf
set_option maxRecDepth 20000 in
theorem ggX8_mergeEasements_X8_setEasement : GoodIn wsX8_mergeEasements wsX8_setEasement := goodIn_ca (goodIn_r _ [14, 1, 19, 20, 21, 22, 23, 24, 25, 26, 27, 28, 29, 30, 31, 32, 33] (by decide +kernel) (by decide +kernel)) (goodIn_sub (fun _ h => List.mem_cons_of_mem _ (List.mem_append_right _ h)) (by decide +kernel))
set_option maxRecDepth 20000 in
theorem gX8_mergeEasements_X8_setEasement : GoodIn wsX8_mergeEasements (wsV RX8 103 RX8 yX8_setEasement wsX8_setEasement) := goodIn_app (goodIn_of _ (by decide +kernel)) ggX8_mergeEasements_X8_setEasement
set_option maxRecDepth 20000 in
theorem ggX8_mergeEasements_X8_isLike : GoodIn wsX8_mergeEasements wsX8_isLike := goodIn_ca (goodIn_r _ [18, 7, 8, 9, 5, 10, 1, 19, 20, 21, 22, 23, 24, 25, 26, 27, 28, 29, 30, 31, 32, 33] (by decide +kernel) (by decide +kernel)) (goodIn_sub (fun _ h => List.mem_cons_of_mem _ (List.mem_append_right _ h)) (by decide +kernel))
set_option maxRecDepth 20000 in
theorem gX8_mergeEasements_X8_isLike : GoodIn wsX8_mergeEasements (wsV RX8 126 RX8 yX8_isLike wsX8_isLike) := goodIn_app (goodIn_of _ (by decide +kernel)) ggX8_mergeEasements_X8_isLike
theorem dX8_mergeEasements_0 : decode cX8_mergeEasements 0 = .ok (.iconst 0, 1) := by decide +kernel
theorem dX8_mergeEasements_1 : decode cX8_mergeEasements 1 = .ok (.istore 4, 2) := by decide +kernel
theorem dX8_mergeEasements_3 : decode cX8_mergeEasements 3 = .ok (.iload 4, 2) := by decide +kernel
theorem dX8_mergeEasements_5 : decode cX8_mergeEasements 5 = .ok (.aload_n 0, 1) := by decide +kernel
theorem dX8_mergeEasements_6 : decode cX8_mergeEasements 6 = .ok (.getfield 9, 3) := by decide +kernel
theorem dX8_mergeEasements_9 : decode cX8_mergeEasements 9 = .ok (.iconst 3, 1) := by decide +kernel
theorem dX8_mergeEasements_10 : decode cX8_mergeEasements 10 = .ok (.iaload, 1) := by decide +kernel
theorem dX8_mergeEasements_11 : decode cX8_mergeEasements 11 = .ok (.if_icmp .ge 223, 3) := by decide +kernel
theorem dX8_mergeEasements_14 : decode cX8_mergeEasements 14 = .ok (.aload_n 0, 1) := by decide +kernel
theorem dX8_mergeEasements_15 : decode cX8_mergeEasements 15 = .ok (.iload 4, 2) := by decide +kernel
theorem dX8_mergeEasements_17 : decode cX8_mergeEasements 17 = .ok (.invokevirtual 106, 3) := by decide +kernel
theorem dX8_mergeEasements_20 : decode cX8_mergeEasements 20 = .ok (.ifCond .eq 208, 3) := by decide +kernel
theorem dX8_mergeEasements_23 : decode cX8_mergeEasements 23 = .ok (.iconst 1, 1) := by decide +kernel
theorem dX8_mergeEasements_24 : decode cX8_mergeEasements 24 = .ok (.istore 5, 2) := by decide +kernel
theorem dX8_mergeEasements_26 : decode cX8_mergeEasements 26 = .ok (.iload 5, 2) := by decide +kernel
theorem dX8_mergeEasements_28 : decode cX8_mergeEasements 28 = .ok (.iconst 2, 1) := by decide +kernel
theorem dX8_mergeEasements_29 : decode cX8_mergeEasements 29 = .ok (.if_icmp .gt 65, 3) := by decide +kernel
theorem dX8_mergeEasements_32 : decode cX8_mergeEasements 32 = .ok (.aload_n 0, 1) := by decide +kernel
theorem dX8_mergeEasements_33 : decode cX8_mergeEasements 33 = .ok (.iload 4, 2) := by decide +kernel
theorem dX8_mergeEasements_35 : decode cX8_mergeEasements 35 = .ok (.iload 5, 2) := by decide +kernel
theorem dX8_mergeEasements_37 : decode cX8_mergeEasements 37 = .ok (.invokevirtual 100, 3) := by decide +kernel
theorem dX8_mergeEasements_40 : decode cX8_mergeEasements 40 = .ok (.iload_n 1, 1) := by decide +kernel
theorem dX8_mergeEasements_41 : decode cX8_mergeEasements 41 = .ok (.if_icmp .eq 15, 3) := by decide +kernel
theorem dX8_mergeEasements_44 : decode cX8_mergeEasements 44 = .ok (.aload_n 0, 1) := by decide +kernel
theorem dX8_mergeEasements_45 : decode cX8_mergeEasements 45 = .ok (.iload 4, 2) := by decide +kernel
theorem dX8_mergeEasements_47 : decode cX8_mergeEasements 47 = .ok (.iload 5, 2) := by decide +kernel
theorem dX8_mergeEasements_49 : decode cX8_mergeEasements 49 = .ok (.invokevirtual 100, 3) := by decide +kernel
theorem dX8_mergeEasements_52 : decode cX8_mergeEasements 52 = .ok (.iload_n 2, 1) := by decide +kernel
theorem dX8_mergeEasements_53 : decode cX8_mergeEasements 53 = .ok (.if_icmp .ne 7, 3) := by decide +kernel
theorem dX8_mergeEasements_56 : decode cX8_mergeEasements 56 = .ok (.iconst 1, 1) := by decide +kernel
theorem dX8_mergeEasements_57 : decode cX8_mergeEasements 57 = .ok (.goto 4, 3) := by decide +kernel
theorem dX8_mergeEasements_60 : decode cX8_mergeEasements 60 = .ok (.iconst 0, 1) := by decide +kernel
theorem dX8_mergeEasements_61 : decode cX8_mergeEasements 61 = .ok (.istore 6, 2) := by decide +kernel
theorem dX8_mergeEasements_63 : decode cX8_mergeEasements 63 = .ok (.aload_n 0, 1) := by decide +kernel
theorem dX8_mergeEasements_64 : decode cX8_mergeEasements 64 = .ok (.iload 4, 2) := by decide +kernel
theorem dX8_mergeEasements_66 : decode cX8_mergeEasements 66 = .ok (.iload 5, 2) := by decide +kernel
theorem dX8_mergeEasements_68 : decode cX8_mergeEasements 68 = .ok (.iload 6, 2) := by decide +kernel
theorem dX8_mergeEasements_70 : decode cX8_mergeEasements 70 = .ok (.ifCond .eq 7, 3) := by decide +kernel
theorem dX8_mergeEasements_73 : decode cX8_mergeEasements 73 = .ok (.iload_n 3, 1) := by decide +kernel
theorem dX8_mergeEasements_74 : decode cX8_mergeEasements 74 = .ok (.goto 11, 3) := by decide +kernel
theorem dX8_mergeEasements_77 : decode cX8_mergeEasements 77 = .ok (.aload_n 0, 1) := by decide +kernel
theorem dX8_mergeEasements_78 : decode cX8_mergeEasements 78 = .ok (.iload 4, 2) := by decide +kernel
theorem dX8_mergeEasements_80 : decode cX8_mergeEasements 80 = .ok (.iload 5, 2) := by decide +kernel
theorem dX8_mergeEasements_82 : decode cX8_mergeEasements 82 = .ok (.invokevirtual 100, 3) := by decide +kernel
theorem dX8_mergeEasements_85 : decode cX8_mergeEasements 85 = .ok (.invokevirtual 103, 3) := by decide +kernel
theorem dX8_mergeEasements_88 : decode cX8_mergeEasements 88 = .ok (.iinc 5 1, 3) := by decide +kernel
theorem dX8_mergeEasements_91 : decode cX8_mergeEasements 91 = .ok (.goto (-65), 3) := by decide +kernel
theorem dX8_mergeEasements_94 : decode cX8_mergeEasements 94 = .ok (.aload_n 0, 1) := by decide +kernel
theorem dX8_mergeEasements_95 : decode cX8_mergeEasements 95 = .ok (.iload 4, 2) := by decide +kernel
theorem dX8_mergeEasements_97 : decode cX8_mergeEasements 97 = .ok (.iconst 1, 1) := by decide +kernel
theorem dX8_mergeEasements_98 : decode cX8_mergeEasements 98 = .ok (.invokevirtual 100, 3) := by decide +kernel
theorem dX8_mergeEasements_101 : decode cX8_mergeEasements 101 = .ok (.aload_n 0, 1) := by decide +kernel
theorem dX8_mergeEasements_102 : decode cX8_mergeEasements 102 = .ok (.iload 4, 2) := by decide +kernel
theorem dX8_mergeEasements_104 : decode cX8_mergeEasements 104 = .ok (.iconst 2, 1) := by decide +kernel
theorem dX8_mergeEasements_105 : decode cX8_mergeEasements 105 = .ok (.invokevirtual 100, 3) := by decide +kernel
theorem dX8_mergeEasements_108 : decode cX8_mergeEasements 108 = .ok (.if_icmp .ne 7, 3) := by decide +kernel
theorem dX8_mergeEasements_111 : decode cX8_mergeEasements 111 = .ok (.iconst 1, 1) := by decide +kernel
theorem dX8_mergeEasements_112 : decode cX8_mergeEasements 112 = .ok (.goto 4, 3) := by decide +kernel
theorem dX8_mergeEasements_115 : decode cX8_mergeEasements 115 = .ok (.iconst 0, 1) := by decide +kernel
theorem dX8_mergeEasements_116 : decode cX8_mergeEasements 116 = .ok (.istore 5, 2) := by decide +kernel
theorem dX8_mergeEasements_118 : decode cX8_mergeEasements 118 = .ok (.iconst 0, 1) := by decide +kernel
theorem dX8_mergeEasements_119 : decode cX8_mergeEasements 119 = .ok (.istore 6, 2) := by decide +kernel
theorem dX8_mergeEasements_121 : decode cX8_mergeEasements 121 = .ok (.iconst 0, 1) := by decide +kernel
theorem dX8_mergeEasements_122 : decode cX8_mergeEasements 122 = .ok (.istore 7, 2) := by decide +kernel
theorem dX8_mergeEasements_124 : decode cX8_mergeEasements 124 = .ok (.iload 7, 2) := by decide +kernel
theorem dX8_mergeEasements_126 : decode cX8_mergeEasements 126 = .ok (.iload 4, 2) := by decide +kernel
theorem dX8_mergeEasements_128 : decode cX8_mergeEasements 128 = .ok (.if_icmp .ge 39, 3) := by decide +kernel
theorem dX8_mergeEasements_131 : decode cX8_mergeEasements 131 = .ok (.iload 6, 2) := by decide +kernel
theorem dX8_mergeEasements_133 : decode cX8_mergeEasements 133 = .ok (.aload_n 0, 1) := by decide +kernel
theorem dX8_mergeEasements_134 : decode cX8_mergeEasements 134 = .ok (.iload 7, 2) := by decide +kernel
theorem dX8_mergeEasements_136 : decode cX8_mergeEasements 136 = .ok (.invokevirtual 106, 3) := by decide +kernel
theorem dX8_mergeEasements_139 : decode cX8_mergeEasements 139 = .ok (.ifCond .eq 18, 3) := by decide +kernel
theorem dX8_mergeEasements_142 : decode cX8_mergeEasements 142 = .ok (.aload_n 0, 1) := by decide +kernel
theorem dX8_mergeEasements_143 : decode cX8_mergeEasements 143 = .ok (.iload 7, 2) := by decide +kernel
theorem dX8_mergeEasements_145 : decode cX8_mergeEasements 145 = .ok (.iload 4, 2) := by decide +kernel
theorem dX8_mergeEasements_147 : decode cX8_mergeEasements 147 = .ok (.invokevirtual 126, 3) := by decide +kernel
theorem dX8_mergeEasements_150 : decode cX8_mergeEasements 150 = .ok (.ifCond .eq 7, 3) := by decide +kernel
theorem dX8_mergeEasements_153 : decode cX8_mergeEasements 153 = .ok (.iconst 1, 1) := by decide +kernel
theorem dX8_mergeEasements_154 : decode cX8_mergeEasements 154 = .ok (.goto 4, 3) := by decide +kernel
theorem dX8_mergeEasements_157 : decode cX8_mergeEasements 157 = .ok (.iconst 0, 1) := by decide +kernel
theorem dX8_mergeEasements_158 : decode cX8_mergeEasements 158 = .ok (.ior, 1) := by decide +kernel
theorem dX8_mergeEasements_159 : decode cX8_mergeEasements 159 = .ok (.istore 6, 2) := by decide +kernel
theorem dX8_mergeEasements_161 : decode cX8_mergeEasements 161 = .ok (.iinc 7 1, 3) := by decide +kernel
theorem dX8_mergeEasements_164 : decode cX8_mergeEasements 164 = .ok (.goto (-40), 3) := by decide +kernel
theorem dX8_mergeEasements_167 : decode cX8_mergeEasements 167 = .ok (.aload_n 0, 1) := by decide +kernel
theorem dX8_mergeEasements_168 : decode cX8_mergeEasements 168 = .ok (.iload 4, 2) := by decide +kernel
theorem dX8_mergeEasements_170 : decode cX8_mergeEasements 170 = .ok (.iconst 1, 1) := by decide +kernel
theorem dX8_mergeEasements_171 : decode cX8_mergeEasements 171 = .ok (.invokevirtual 100, 3) := by decide +kernel
theorem dX8_mergeEasements_174 : decode cX8_mergeEasements 174 = .ok (.iload_n 3, 1) := by decide +kernel
theorem dX8_mergeEasements_175 : decode cX8_mergeEasements 175 = .ok (.if_icmp .eq 14, 3) := by decide +kernel
theorem dX8_mergeEasements_178 : decode cX8_mergeEasements 178 = .ok (.aload_n 0, 1) := by decide +kernel
theorem dX8_mergeEasements_179 : decode cX8_mergeEasements 179 = .ok (.iload 4, 2) := by decide +kernel
theorem dX8_mergeEasements_181 : decode cX8_mergeEasements 181 = .ok (.iconst 2, 1) := by decide +kernel
theorem dX8_mergeEasements_182 : decode cX8_mergeEasements 182 = .ok (.invokevirtual 100, 3) := by decide +kernel
theorem dX8_mergeEasements_185 : decode cX8_mergeEasements 185 = .ok (.iload_n 3, 1) := by decide +kernel
theorem dX8_mergeEasements_186 : decode cX8_mergeEasements 186 = .ok (.if_icmp .ne 7, 3) := by decide +kernel
theorem dX8_mergeEasements_189 : decode cX8_mergeEasements 189 = .ok (.iconst 1, 1) := by decide +kernel
theorem dX8_mergeEasements_190 : decode cX8_mergeEasements 190 = .ok (.goto 4, 3) := by decide +kernel
theorem dX8_mergeEasements_193 : decode cX8_mergeEasements 193 = .ok (.iconst 0, 1) := by decide +kernel
theorem dX8_mergeEasements_194 : decode cX8_mergeEasements 194 = .ok (.istore 7, 2) := by decide +kernel
theorem dX8_mergeEasements_196 : decode cX8_mergeEasements 196 = .ok (.aload_n 0, 1) := by decide +kernel
theorem dX8_mergeEasements_197 : decode cX8_mergeEasements 197 = .ok (.iload 4, 2) := by decide +kernel
theorem dX8_mergeEasements_199 : decode cX8_mergeEasements 199 = .ok (.iconst 4, 1) := by decide +kernel
theorem dX8_mergeEasements_200 : decode cX8_mergeEasements 200 = .ok (.iload 5, 2) := by decide +kernel
theorem dX8_mergeEasements_202 : decode cX8_mergeEasements 202 = .ok (.ifCond .ne 13, 3) := by decide +kernel
theorem dX8_mergeEasements_205 : decode cX8_mergeEasements 205 = .ok (.iload 7, 2) := by decide +kernel
theorem dX8_mergeEasements_207 : decode cX8_mergeEasements 207 = .ok (.ifCond .eq 17, 3) := by decide +kernel
theorem dX8_mergeEasements_210 : decode cX8_mergeEasements 210 = .ok (.iload 6, 2) := by decide +kernel
theorem dX8_mergeEasements_212 : decode cX8_mergeEasements 212 = .ok (.ifCond .eq 12, 3) := by decide +kernel
theorem dX8_mergeEasements_215 : decode cX8_mergeEasements 215 = .ok (.aload_n 0, 1) := by decide +kernel
theorem dX8_mergeEasements_216 : decode cX8_mergeEasements 216 = .ok (.getfield 9, 3) := by decide +kernel
theorem dX8_mergeEasements_219 : decode cX8_mergeEasements 219 = .ok (.iconst 0, 1) := by decide +kernel
theorem dX8_mergeEasements_220 : decode cX8_mergeEasements 220 = .ok (.iaload, 1) := by decide +kernel
theorem dX8_mergeEasements_221 : decode cX8_mergeEasements 221 = .ok (.goto 4, 3) := by decide +kernel
theorem dX8_mergeEasements_224 : decode cX8_mergeEasements 224 = .ok (.iconst (-1), 1) := by decide +kernel
theorem dX8_mergeEasements_225 : decode cX8_mergeEasements 225 = .ok (.invokevirtual 103, 3) := by decide +kernel
theorem dX8_mergeEasements_228 : decode cX8_mergeEasements 228 = .ok (.iinc 4 1, 3) := by decide +kernel
theorem dX8_mergeEasements_231 : decode cX8_mergeEasements 231 = .ok (.goto (-228), 3) := by decide +kernel
theorem dX8_mergeEasements_234 : decode cX8_mergeEasements 234 = .ok (.return_, 1) := by decide +kernel
set_option maxRecDepth 20000 in
theorem ggX8_doMerge_X8_holderOf : GoodIn wsX8_doMerge wsX8_holderOf := goodIn_ca (goodIn_r _ [5, 6, 7, 8, 9, 4, 10, 11, 12, 13, 14, 15, 16, 17, 18, 69, 70, 71, 72, 73, 74, 75, 76, 77, 78, 79, 80, 81, 82, 83] (by decide +kernel) (by decide +kernel)) (goodIn_sub (fun _ h => List.mem_cons_of_mem _ (List.mem_append_right _ h)) (by decide +kernel))
set_option maxRecDepth 20000 in
theorem gX8_doMerge_X8_holderOf : GoodIn wsX8_doMerge (wsV RX8 97 RX8 yX8_holderOf wsX8_holderOf) := goodIn_app (goodIn_of _ (by decide +kernel)) ggX8_doMerge_X8_holderOf
set_option maxRecDepth 20000 in
theorem ggX8_doMerge_X8_of : GoodIn wsX8_doMerge wsX8_of := goodIn_ca (goodIn_r _ [14, 6, 69, 70, 71, 72, 73, 74, 75, 76, 77, 78, 79, 80, 81, 82, 83] (by decide +kernel) (by decide +kernel)) (goodIn_sub (fun _ h => List.mem_cons_of_mem _ (List.mem_append_right _ h)) (by decide +kernel))
set_option maxRecDepth 20000 in
theorem gX8_doMerge_X8_of : GoodIn wsX8_doMerge (wsV RX8 56 RX8 yX8_of wsX8_of) := goodIn_app (goodIn_of _ (by decide +kernel)) ggX8_doMerge_X8_of
set_option maxRecDepth 20000 in
theorem ggX8_doMerge_X8_bit : GoodIn wsX8_doMerge wsX8_bit := goodIn_r _ [21] (by decide +kernel) (by decide +kernel)
set_option maxRecDepth 20000 in
theorem gX8_doMerge_X8_bit : GoodIn wsX8_doMerge (va_wsS RX8 64 yX8_bit wsX8_bit) := goodIn_app (goodIn_of _ (by decide +kernel)) ggX8_doMerge_X8_bit
set_option maxRecDepth 20000 in
theorem ggX8_doMerge_X8_end : GoodIn wsX8_doMerge wsX8_end := goodIn_ca (goodIn_r _ [25, 6, 11, 12, 13, 4, 14, 26, 27, 28, 29, 30, 31, 32, 19, 20, 21, 33, 34, 35, 36, 69, 70, 71, 72, 73, 74, 75, 76, 77, 78, 79, 80, 81, 82, 83] (by decide +kernel) (by decide +kernel)) (goodIn_sub (fun _ h => List.mem_cons_of_mem _ (List.mem_append_right _ h)) (by decide +kernel))
set_option maxRecDepth 20000 in
theorem gX8_doMerge_X8_end : GoodIn wsX8_doMerge (wsV RX8 112 RX8 yX8_end wsX8_end) := goodIn_app (goodIn_of _ (by decide +kernel)) ggX8_doMerge_X8_end
set_option maxRecDepth 20000 in
theorem ggX8_doMerge_X8_newParcel : GoodIn wsX8_doMerge wsX8_newParcel := goodIn_ca (goodIn_r _ [40, 6, 33, 34, 35, 4, 36, 69, 70, 71, 72, 73, 74, 75, 76, 77, 78, 79, 80, 81, 82, 83] (by decide +kernel) (by decide +kernel)) (goodIn_sub (fun _ h => List.mem_cons_of_mem _ (List.mem_append_right _ h)) (by decide +kernel))
set_option maxRecDepth 20000 in
theorem gX8_doMerge_X8_newParcel : GoodIn wsX8_doMerge (wsV RX8 93 RX8 yX8_newParcel wsX8_newParcel) := goodIn_app (goodIn_of _ (by decide +kernel)) ggX8_doMerge_X8_newParcel
set_option maxRecDepth 20000 in
theorem ggX8_doMerge_X8_setBorders : GoodIn wsX8_doMerge wsX8_setBorders := goodIn_ca (goodIn_r _ [44, 6, 26, 27, 4, 28, 29, 30, 31, 32, 11, 12, 13, 14, 19, 20, 21, 33, 34, 35, 36, 69, 70, 71, 72, 73, 74, 75, 76, 77, 78, 79, 80, 81, 82, 83] (by decide +kernel) (by decide +kernel)) (goodIn_sub (fun _ h => List.mem_cons_of_mem _ (List.mem_append_right _ h)) (by decide +kernel))
set_option maxRecDepth 20000 in
theorem gX8_doMerge_X8_setBorders : GoodIn wsX8_doMerge (wsV RX8 116 RX8 yX8_setBorders wsX8_setBorders) := goodIn_app (goodIn_of _ (by decide +kernel)) ggX8_doMerge_X8_setBorders
set_option maxRecDepth 20000 in
theorem ggX8_doMerge_X8_mergeEasements : GoodIn wsX8_doMerge wsX8_mergeEasements := goodIn_ca (goodIn_r _ [48, 6, 49, 50, 51, 4, 52, 53, 54, 55, 56, 57, 58, 59, 60, 61, 62, 63, 64, 69, 70, 71, 72, 73, 74, 75, 76, 77, 78, 79, 80, 81, 82, 83] (by decide +kernel) (by decide +kernel)) (goodIn_sub (fun _ h => List.mem_cons_of_mem _ (List.mem_append_right _ h)) (by decide +kernel))
set_option maxRecDepth 20000 in
theorem gX8_doMerge_X8_mergeEasements : GoodIn wsX8_doMerge (wsV RX8 129 RX8 yX8_mergeEasements wsX8_mergeEasements) := goodIn_app (goodIn_of _ (by decide +kernel)) ggX8_doMerge_X8_mergeEasements
set_option maxRecDepth 20000 in
theorem ggX8_doMerge_X8_moveLiens : GoodIn wsX8_doMerge wsX8_moveLiens := goodIn_ca (goodIn_r _ [68, 6, 69, 70, 71, 72, 73, 74, 75, 76, 77, 78, 79, 80, 81, 82, 83] (by decide +kernel) (by decide +kernel)) (goodIn_sub (fun _ h => List.mem_cons_of_mem _ (List.mem_append_right _ h)) (by decide +kernel))
set_option maxRecDepth 20000 in
theorem gX8_doMerge_X8_moveLiens : GoodIn wsX8_doMerge (wsV RX8 123 RX8 yX8_moveLiens wsX8_moveLiens) := goodIn_app (goodIn_of _ (by decide +kernel)) ggX8_doMerge_X8_moveLiens
theorem dX8_doMerge_0 : decode cX8_doMerge 0 = .ok (.aload_n 0, 1) := by decide +kernel
theorem dX8_doMerge_1 : decode cX8_doMerge 1 = .ok (.iload_n 1, 1) := by decide +kernel
theorem dX8_doMerge_2 : decode cX8_doMerge 2 = .ok (.invokevirtual 97, 3) := by decide +kernel
theorem dX8_doMerge_5 : decode cX8_doMerge 5 = .ok (.istore_n 3, 1) := by decide +kernel
theorem dX8_doMerge_6 : decode cX8_doMerge 6 = .ok (.aload_n 0, 1) := by decide +kernel
theorem dX8_doMerge_7 : decode cX8_doMerge 7 = .ok (.iload_n 1, 1) := by decide +kernel
theorem dX8_doMerge_8 : decode cX8_doMerge 8 = .ok (.iconst 3, 1) := by decide +kernel
theorem dX8_doMerge_9 : decode cX8_doMerge 9 = .ok (.invokevirtual 56, 3) := by decide +kernel
theorem dX8_doMerge_12 : decode cX8_doMerge 12 = .ok (.aload_n 0, 1) := by decide +kernel
theorem dX8_doMerge_13 : decode cX8_doMerge 13 = .ok (.iload_n 2, 1) := by decide +kernel
theorem dX8_doMerge_14 : decode cX8_doMerge 14 = .ok (.iconst 3, 1) := by decide +kernel
theorem dX8_doMerge_15 : decode cX8_doMerge 15 = .ok (.invokevirtual 56, 3) := by decide +kernel
theorem dX8_doMerge_18 : decode cX8_doMerge 18 = .ok (.ior, 1) := by decide +kernel
theorem dX8_doMerge_19 : decode cX8_doMerge 19 = .ok (.iload_n 1, 1) := by decide +kernel
theorem dX8_doMerge_20 : decode cX8_doMerge 20 = .ok (.invokestatic 64, 3) := by decide +kernel
theorem dX8_doMerge_23 : decode cX8_doMerge 23 = .ok (.iconst (-1), 1) := by decide +kernel
theorem dX8_doMerge_24 : decode cX8_doMerge 24 = .ok (.ixor, 1) := by decide +kernel
theorem dX8_doMerge_25 : decode cX8_doMerge 25 = .ok (.iand, 1) := by decide +kernel
theorem dX8_doMerge_26 : decode cX8_doMerge 26 = .ok (.iload_n 2, 1) := by decide +kernel
theorem dX8_doMerge_27 : decode cX8_doMerge 27 = .ok (.invokestatic 64, 3) := by decide +kernel
theorem dX8_doMerge_30 : decode cX8_doMerge 30 = .ok (.iconst (-1), 1) := by decide +kernel
theorem dX8_doMerge_31 : decode cX8_doMerge 31 = .ok (.ixor, 1) := by decide +kernel
theorem dX8_doMerge_32 : decode cX8_doMerge 32 = .ok (.iand, 1) := by decide +kernel
theorem dX8_doMerge_33 : decode cX8_doMerge 33 = .ok (.istore 4, 2) := by decide +kernel
theorem dX8_doMerge_35 : decode cX8_doMerge 35 = .ok (.aload_n 0, 1) := by decide +kernel
theorem dX8_doMerge_36 : decode cX8_doMerge 36 = .ok (.iload_n 1, 1) := by decide +kernel
theorem dX8_doMerge_37 : decode cX8_doMerge 37 = .ok (.invokevirtual 112, 3) := by decide +kernel
theorem dX8_doMerge_40 : decode cX8_doMerge 40 = .ok (.aload_n 0, 1) := by decide +kernel
theorem dX8_doMerge_41 : decode cX8_doMerge 41 = .ok (.iload_n 2, 1) := by decide +kernel
theorem dX8_doMerge_42 : decode cX8_doMerge 42 = .ok (.invokevirtual 112, 3) := by decide +kernel
theorem dX8_doMerge_45 : decode cX8_doMerge 45 = .ok (.aload_n 0, 1) := by decide +kernel
theorem dX8_doMerge_46 : decode cX8_doMerge 46 = .ok (.aload_n 0, 1) := by decide +kernel
theorem dX8_doMerge_47 : decode cX8_doMerge 47 = .ok (.iload_n 1, 1) := by decide +kernel
theorem dX8_doMerge_48 : decode cX8_doMerge 48 = .ok (.iconst 0, 1) := by decide +kernel
theorem dX8_doMerge_49 : decode cX8_doMerge 49 = .ok (.invokevirtual 56, 3) := by decide +kernel
theorem dX8_doMerge_52 : decode cX8_doMerge 52 = .ok (.aload_n 0, 1) := by decide +kernel
theorem dX8_doMerge_53 : decode cX8_doMerge 53 = .ok (.iload_n 2, 1) := by decide +kernel
theorem dX8_doMerge_54 : decode cX8_doMerge 54 = .ok (.iconst 0, 1) := by decide +kernel
theorem dX8_doMerge_55 : decode cX8_doMerge 55 = .ok (.invokevirtual 56, 3) := by decide +kernel
theorem dX8_doMerge_58 : decode cX8_doMerge 58 = .ok (.iadd, 1) := by decide +kernel
theorem dX8_doMerge_59 : decode cX8_doMerge 59 = .ok (.iload_n 3, 1) := by decide +kernel
theorem dX8_doMerge_60 : decode cX8_doMerge 60 = .ok (.iload_n 1, 1) := by decide +kernel
theorem dX8_doMerge_61 : decode cX8_doMerge 61 = .ok (.invokestatic 64, 3) := by decide +kernel
theorem dX8_doMerge_64 : decode cX8_doMerge 64 = .ok (.iload_n 2, 1) := by decide +kernel
theorem dX8_doMerge_65 : decode cX8_doMerge 65 = .ok (.invokestatic 64, 3) := by decide +kernel
theorem dX8_doMerge_68 : decode cX8_doMerge 68 = .ok (.ior, 1) := by decide +kernel
theorem dX8_doMerge_69 : decode cX8_doMerge 69 = .ok (.invokevirtual 93, 3) := by decide +kernel
theorem dX8_doMerge_72 : decode cX8_doMerge 72 = .ok (.istore 5, 2) := by decide +kernel
theorem dX8_doMerge_74 : decode cX8_doMerge 74 = .ok (.aload_n 0, 1) := by decide +kernel
theorem dX8_doMerge_75 : decode cX8_doMerge 75 = .ok (.iload 5, 2) := by decide +kernel
theorem dX8_doMerge_77 : decode cX8_doMerge 77 = .ok (.iload 4, 2) := by decide +kernel
theorem dX8_doMerge_79 : decode cX8_doMerge 79 = .ok (.invokevirtual 116, 3) := by decide +kernel
theorem dX8_doMerge_82 : decode cX8_doMerge 82 = .ok (.aload_n 0, 1) := by decide +kernel
theorem dX8_doMerge_83 : decode cX8_doMerge 83 = .ok (.iload_n 1, 1) := by decide +kernel
theorem dX8_doMerge_84 : decode cX8_doMerge 84 = .ok (.iload_n 2, 1) := by decide +kernel
theorem dX8_doMerge_85 : decode cX8_doMerge 85 = .ok (.iload 5, 2) := by decide +kernel
theorem dX8_doMerge_87 : decode cX8_doMerge 87 = .ok (.invokevirtual 129, 3) := by decide +kernel
theorem dX8_doMerge_90 : decode cX8_doMerge 90 = .ok (.aload_n 0, 1) := by decide +kernel
theorem dX8_doMerge_91 : decode cX8_doMerge 91 = .ok (.iload_n 1, 1) := by decide +kernel
theorem dX8_doMerge_92 : decode cX8_doMerge 92 = .ok (.invokestatic 64, 3) := by decide +kernel
theorem dX8_doMerge_95 : decode cX8_doMerge 95 = .ok (.iload_n 2, 1) := by decide +kernel
theorem dX8_doMerge_96 : decode cX8_doMerge 96 = .ok (.invokestatic 64, 3) := by decide +kernel
theorem dX8_doMerge_99 : decode cX8_doMerge 99 = .ok (.ior, 1) := by decide +kernel
theorem dX8_doMerge_100 : decode cX8_doMerge 100 = .ok (.iload 5, 2) := by decide +kernel
theorem dX8_doMerge_102 : decode cX8_doMerge 102 = .ok (.invokestatic 64, 3) := by decide +kernel
theorem dX8_doMerge_105 : decode cX8_doMerge 105 = .ok (.invokevirtual 123, 3) := by decide +kernel
theorem dX8_doMerge_108 : decode cX8_doMerge 108 = .ok (.iload 5, 2) := by decide +kernel
theorem dX8_doMerge_110 : decode cX8_doMerge 110 = .ok (.ireturn, 1) := by decide +kernel
theorem dX8_isRefused_0 : decode cX8_isRefused 0 = .ok (.aload_n 0, 1) := by decide +kernel
theorem dX8_isRefused_1 : decode cX8_isRefused 1 = .ok (.iload_n 1, 1) := by decide +kernel
theorem dX8_isRefused_2 : decode cX8_isRefused 2 = .ok (.ifCond .le 7, 3) := by decide +kernel
theorem dX8_isRefused_5 : decode cX8_isRefused 5 = .ok (.iload_n 1, 1) := by decide +kernel
theorem dX8_isRefused_6 : decode cX8_isRefused 6 = .ok (.goto 7, 3) := by decide +kernel
theorem dX8_isRefused_9 : decode cX8_isRefused 9 = .ok (.aload_n 0, 1) := by decide +kernel
theorem dX8_isRefused_10 : decode cX8_isRefused 10 = .ok (.getfield 132, 3) := by decide +kernel
theorem dX8_isRefused_13 : decode cX8_isRefused 13 = .ok (.putfield 132, 3) := by decide +kernel
theorem dX8_isRefused_16 : decode cX8_isRefused 16 = .ok (.iload_n 1, 1) := by decide +kernel
theorem dX8_isRefused_17 : decode cX8_isRefused 17 = .ok (.ifCond .le 7, 3) := by decide +kernel
theorem dX8_isRefused_20 : decode cX8_isRefused 20 = .ok (.iconst 1, 1) := by decide +kernel
theorem dX8_isRefused_21 : decode cX8_isRefused 21 = .ok (.goto 4, 3) := by decide +kernel
theorem dX8_isRefused_24 : decode cX8_isRefused 24 = .ok (.iconst 0, 1) := by decide +kernel
theorem dX8_isRefused_25 : decode cX8_isRefused 25 = .ok (.ireturn, 1) := by decide +kernel
set_option maxRecDepth 20000 in
theorem ggX8_split_X8_isParcel : GoodIn wsX8_split wsX8_isParcel := goodIn_ca (goodIn_r _ [6, 1, 7, 8, 5, 9, 107, 108, 109, 110, 111, 112, 113, 114, 115, 116, 117, 118, 119, 120, 121] (by decide +kernel) (by decide +kernel)) (goodIn_sub (fun _ h => List.mem_cons_of_mem _ (List.mem_append_right _ h)) (by decide +kernel))
set_option maxRecDepth 20000 in
theorem gX8_split_X8_isParcel : GoodIn wsX8_split (wsV RX8 52 RX8 yX8_isParcel wsX8_isParcel) := goodIn_app (goodIn_of _ (by decide +kernel)) ggX8_split_X8_isParcel
set_option maxRecDepth 20000 in
theorem ggX8_split_X8_fails : GoodIn wsX8_split wsX8_fails := goodIn_r _ [13, 14, 107, 108, 109, 110, 111, 112, 113, 114, 115, 116, 117, 118, 119, 120, 121] (by decide +kernel) (by decide +kernel)
set_option maxRecDepth 20000 in
theorem gX8_split_X8_fails : GoodIn wsX8_split (wsV RX8 85 RX8 yX8_fails wsX8_fails) := goodIn_app (goodIn_of _ (by decide +kernel)) ggX8_split_X8_fails
set_option maxRecDepth 20000 in
theorem ggX8_split_X8_whyNoSplit : GoodIn wsX8_split wsX8_whyNoSplit := goodIn_ca (goodIn_r _ [18, 1, 19, 20, 21, 5, 22, 2, 3, 4, 6, 7, 8, 9, 23, 24, 25, 26, 107, 108, 109, 110, 111, 112, 113, 114, 115, 116, 117, 118, 119, 120, 121] (by decide +kernel) (by decide +kernel)) (goodIn_sub (fun _ h => List.mem_cons_of_mem _ (List.mem_append_right _ h)) (by decide +kernel))
set_option maxRecDepth 20000 in
theorem gX8_split_X8_whyNoSplit : GoodIn wsX8_split (wsV RX8 135 RX8 yX8_whyNoSplit wsX8_whyNoSplit) := goodIn_app (goodIn_of _ (by decide +kernel)) ggX8_split_X8_whyNoSplit
set_option maxRecDepth 20000 in
theorem ggX8_split_X8_isRefused : GoodIn wsX8_split wsX8_isRefused := goodIn_r _ [30, 31, 107, 108, 109, 110, 111, 112, 113, 114, 115, 116, 117, 118, 119, 120, 121] (by decide +kernel) (by decide +kernel)
set_option maxRecDepth 20000 in
theorem gX8_split_X8_isRefused : GoodIn wsX8_split (wsV RX8 138 RX8 yX8_isRefused wsX8_isRefused) := goodIn_app (goodIn_of _ (by decide +kernel)) ggX8_split_X8_isRefused
set_option maxRecDepth 20000 in
theorem ggX8_split_X8_remember : GoodIn wsX8_split wsX8_remember := goodIn_ca (goodIn_r _ [35, 36, 37, 38, 39, 5, 40, 107, 108, 109, 110, 111, 112, 113, 114, 115, 116, 117, 118, 119, 120, 121] (by decide +kernel) (by decide +kernel)) (goodIn_sub (fun _ h => List.mem_cons_of_mem _ (List.mem_append_right _ h)) (by decide +kernel))
set_option maxRecDepth 20000 in
theorem gX8_split_X8_remember : GoodIn wsX8_split (wsV RX8 89 RX8 yX8_remember wsX8_remember) := goodIn_app (goodIn_of _ (by decide +kernel)) ggX8_split_X8_remember
set_option maxRecDepth 20000 in
theorem ggX8_split_X8_doSplit : GoodIn wsX8_split wsX8_doSplit := goodIn_ca (goodIn_r _ [44, 45, 46, 47, 5, 48, 1, 49, 50, 51, 52, 23, 24, 25, 26, 53, 54, 55, 56, 57, 58, 59, 60, 61, 62, 63, 64, 65, 66, 67, 68, 69, 70, 71, 72, 73, 74, 75, 76, 77, 78, 79, 80, 81, 82, 83, 84, 85, 86, 87, 88, 89, 90, 91, 92, 93, 94, 95, 96, 97, 98, 99, 100, 101, 102, 103, 104, 105, 106, 107, 108, 109, 110, 111, 112, 113, 114, 115, 116, 117, 118, 119, 120, 121] (by decide +kernel) (by decide +kernel)) (goodIn_sub (fun _ h => List.mem_cons_of_mem _ (List.mem_append_right _ h)) (by decide +kernel))
set_option maxRecDepth 20000 in
theorem gX8_split_X8_doSplit : GoodIn wsX8_split (wsV RX8 141 RX8 yX8_doSplit wsX8_doSplit) := goodIn_app (goodIn_of _ (by decide +kernel)) ggX8_split_X8_doSplit
theorem dX8_split_0 : decode cX8_split 0 = .ok (.aload_n 0, 1) := by decide +kernel
theorem dX8_split_1 : decode cX8_split 1 = .ok (.iconst 1, 1) := by decide +kernel
theorem dX8_split_2 : decode cX8_split 2 = .ok (.aload_n 0, 1) := by decide +kernel
theorem dX8_split_3 : decode cX8_split 3 = .ok (.iload_n 1, 1) := by decide +kernel
theorem dX8_split_4 : decode cX8_split 4 = .ok (.invokevirtual 52, 3) := by decide +kernel
theorem dX8_split_7 : decode cX8_split 7 = .ok (.ifCond .ne 7, 3) := by decide +kernel
theorem dX8_split_10 : decode cX8_split 10 = .ok (.iconst 1, 1) := by decide +kernel
theorem dX8_split_11 : decode cX8_split 11 = .ok (.goto 4, 3) := by decide +kernel
theorem dX8_split_14 : decode cX8_split 14 = .ok (.iconst 0, 1) := by decide +kernel
theorem dX8_split_15 : decode cX8_split 15 = .ok (.invokevirtual 85, 3) := by decide +kernel
theorem dX8_split_18 : decode cX8_split 18 = .ok (.ifCond .ne 22, 3) := by decide +kernel
theorem dX8_split_21 : decode cX8_split 21 = .ok (.aload_n 0, 1) := by decide +kernel
theorem dX8_split_22 : decode cX8_split 22 = .ok (.iconst 2, 1) := by decide +kernel
theorem dX8_split_23 : decode cX8_split 23 = .ok (.aload_n 0, 1) := by decide +kernel
theorem dX8_split_24 : decode cX8_split 24 = .ok (.aload_n 0, 1) := by decide +kernel
theorem dX8_split_25 : decode cX8_split 25 = .ok (.iload_n 1, 1) := by decide +kernel
theorem dX8_split_26 : decode cX8_split 26 = .ok (.iload_n 2, 1) := by decide +kernel
theorem dX8_split_27 : decode cX8_split 27 = .ok (.iload_n 3, 1) := by decide +kernel
theorem dX8_split_28 : decode cX8_split 28 = .ok (.invokevirtual 135, 3) := by decide +kernel
theorem dX8_split_31 : decode cX8_split 31 = .ok (.invokevirtual 138, 3) := by decide +kernel
theorem dX8_split_34 : decode cX8_split 34 = .ok (.invokevirtual 85, 3) := by decide +kernel
theorem dX8_split_37 : decode cX8_split 37 = .ok (.ifCond .eq 5, 3) := by decide +kernel
theorem dX8_split_40 : decode cX8_split 40 = .ok (.iconst 0, 1) := by decide +kernel
theorem dX8_split_41 : decode cX8_split 41 = .ok (.ireturn, 1) := by decide +kernel
theorem dX8_split_42 : decode cX8_split 42 = .ok (.aload_n 0, 1) := by decide +kernel
theorem dX8_split_43 : decode cX8_split 43 = .ok (.aload_n 0, 1) := by decide +kernel
theorem dX8_split_44 : decode cX8_split 44 = .ok (.getfield 9, 3) := by decide +kernel
theorem dX8_split_47 : decode cX8_split 47 = .ok (.invokevirtual 89, 3) := by decide +kernel
theorem dX8_split_50 : decode cX8_split 50 = .ok (.aload_n 0, 1) := by decide +kernel
theorem dX8_split_51 : decode cX8_split 51 = .ok (.iload_n 1, 1) := by decide +kernel
theorem dX8_split_52 : decode cX8_split 52 = .ok (.iload_n 2, 1) := by decide +kernel
theorem dX8_split_53 : decode cX8_split 53 = .ok (.iload_n 3, 1) := by decide +kernel
theorem dX8_split_54 : decode cX8_split 54 = .ok (.invokevirtual 141, 3) := by decide +kernel
theorem dX8_split_57 : decode cX8_split 57 = .ok (.ireturn, 1) := by decide +kernel
set_option maxRecDepth 20000 in
theorem ggX8_merge_X8_isParcel : GoodIn wsX8_merge wsX8_isParcel := goodIn_ca (goodIn_r _ [6, 1, 7, 8, 5, 9, 107, 108, 109, 110, 111, 112, 113, 114, 115, 116, 117, 118, 119, 120, 121] (by decide +kernel) (by decide +kernel)) (goodIn_sub (fun _ h => List.mem_cons_of_mem _ (List.mem_append_right _ h)) (by decide +kernel))
set_option maxRecDepth 20000 in
theorem gX8_merge_X8_isParcel : GoodIn wsX8_merge (wsV RX8 52 RX8 yX8_isParcel wsX8_isParcel) := goodIn_app (goodIn_of _ (by decide +kernel)) ggX8_merge_X8_isParcel
set_option maxRecDepth 20000 in
theorem ggX8_merge_X8_fails : GoodIn wsX8_merge wsX8_fails := goodIn_r _ [13, 14, 107, 108, 109, 110, 111, 112, 113, 114, 115, 116, 117, 118, 119, 120, 121] (by decide +kernel) (by decide +kernel)
set_option maxRecDepth 20000 in
theorem gX8_merge_X8_fails : GoodIn wsX8_merge (wsV RX8 85 RX8 yX8_fails wsX8_fails) := goodIn_app (goodIn_of _ (by decide +kernel)) ggX8_merge_X8_fails
set_option maxRecDepth 20000 in
theorem ggX8_merge_X8_whyNoMerge : GoodIn wsX8_merge wsX8_whyNoMerge := goodIn_ca (goodIn_r _ [18, 1, 19, 20, 21, 5, 22, 2, 3, 4, 6, 7, 8, 9, 23, 24, 25, 26, 27, 28, 29, 30, 31, 32, 33, 34, 35, 36, 37, 38, 39, 40, 41, 107, 108, 109, 110, 111, 112, 113, 114, 115, 116, 117, 118, 119, 120, 121] (by decide +kernel) (by decide +kernel)) (goodIn_sub (fun _ h => List.mem_cons_of_mem _ (List.mem_append_right _ h)) (by decide +kernel))
set_option maxRecDepth 20000 in
theorem gX8_merge_X8_whyNoMerge : GoodIn wsX8_merge (wsV RX8 144 RX8 yX8_whyNoMerge wsX8_whyNoMerge) := goodIn_app (goodIn_of _ (by decide +kernel)) ggX8_merge_X8_whyNoMerge
set_option maxRecDepth 20000 in
theorem ggX8_merge_X8_isRefused : GoodIn wsX8_merge wsX8_isRefused := goodIn_r _ [45, 46, 107, 108, 109, 110, 111, 112, 113, 114, 115, 116, 117, 118, 119, 120, 121] (by decide +kernel) (by decide +kernel)
set_option maxRecDepth 20000 in
theorem gX8_merge_X8_isRefused : GoodIn wsX8_merge (wsV RX8 138 RX8 yX8_isRefused wsX8_isRefused) := goodIn_app (goodIn_of _ (by decide +kernel)) ggX8_merge_X8_isRefused
set_option maxRecDepth 20000 in
theorem ggX8_merge_X8_remember : GoodIn wsX8_merge wsX8_remember := goodIn_ca (goodIn_r _ [50, 51, 52, 53, 54, 5, 55, 107, 108, 109, 110, 111, 112, 113, 114, 115, 116, 117, 118, 119, 120, 121] (by decide +kernel) (by decide +kernel)) (goodIn_sub (fun _ h => List.mem_cons_of_mem _ (List.mem_append_right _ h)) (by decide +kernel))
set_option maxRecDepth 20000 in
theorem gX8_merge_X8_remember : GoodIn wsX8_merge (wsV RX8 89 RX8 yX8_remember wsX8_remember) := goodIn_app (goodIn_of _ (by decide +kernel)) ggX8_merge_X8_remember
set_option maxRecDepth 20000 in
theorem ggX8_merge_X8_doMerge : GoodIn wsX8_merge wsX8_doMerge := goodIn_ca (goodIn_r _ [59, 30, 31, 32, 5, 33, 1, 34, 35, 36, 37, 23, 24, 25, 26, 38, 39, 40, 41, 60, 61, 62, 63, 64, 65, 66, 27, 28, 29, 67, 68, 69, 70, 71, 72, 73, 74, 75, 76, 77, 78, 79, 80, 81, 82, 83, 84, 85, 86, 87, 88, 89, 90, 91, 92, 93, 94, 95, 96, 97, 98, 99, 100, 101, 102, 103, 104, 105, 106, 107, 108, 109, 110, 111, 112, 113, 114, 115, 116, 117, 118, 119, 120, 121] (by decide +kernel) (by decide +kernel)) (goodIn_sub (fun _ h => List.mem_cons_of_mem _ (List.mem_append_right _ h)) (by decide +kernel))
set_option maxRecDepth 20000 in
theorem gX8_merge_X8_doMerge : GoodIn wsX8_merge (wsV RX8 147 RX8 yX8_doMerge wsX8_doMerge) := goodIn_app (goodIn_of _ (by decide +kernel)) ggX8_merge_X8_doMerge
theorem dX8_merge_0 : decode cX8_merge 0 = .ok (.aload_n 0, 1) := by decide +kernel
theorem dX8_merge_1 : decode cX8_merge 1 = .ok (.iconst 1, 1) := by decide +kernel
theorem dX8_merge_2 : decode cX8_merge 2 = .ok (.aload_n 0, 1) := by decide +kernel
theorem dX8_merge_3 : decode cX8_merge 3 = .ok (.iload_n 1, 1) := by decide +kernel
theorem dX8_merge_4 : decode cX8_merge 4 = .ok (.invokevirtual 52, 3) := by decide +kernel
theorem dX8_merge_7 : decode cX8_merge 7 = .ok (.ifCond .eq 11, 3) := by decide +kernel
theorem dX8_merge_10 : decode cX8_merge 10 = .ok (.aload_n 0, 1) := by decide +kernel
theorem dX8_merge_11 : decode cX8_merge 11 = .ok (.iload_n 2, 1) := by decide +kernel
theorem dX8_merge_12 : decode cX8_merge 12 = .ok (.invokevirtual 52, 3) := by decide +kernel
theorem dX8_merge_15 : decode cX8_merge 15 = .ok (.ifCond .ne 7, 3) := by decide +kernel
theorem dX8_merge_18 : decode cX8_merge 18 = .ok (.iconst 1, 1) := by decide +kernel
theorem dX8_merge_19 : decode cX8_merge 19 = .ok (.goto 4, 3) := by decide +kernel
theorem dX8_merge_22 : decode cX8_merge 22 = .ok (.iconst 0, 1) := by decide +kernel
theorem dX8_merge_23 : decode cX8_merge 23 = .ok (.invokevirtual 85, 3) := by decide +kernel
theorem dX8_merge_26 : decode cX8_merge 26 = .ok (.ifCond .ne 39, 3) := by decide +kernel
theorem dX8_merge_29 : decode cX8_merge 29 = .ok (.aload_n 0, 1) := by decide +kernel
theorem dX8_merge_30 : decode cX8_merge 30 = .ok (.iconst 2, 1) := by decide +kernel
theorem dX8_merge_31 : decode cX8_merge 31 = .ok (.iload_n 1, 1) := by decide +kernel
theorem dX8_merge_32 : decode cX8_merge 32 = .ok (.iload_n 2, 1) := by decide +kernel
theorem dX8_merge_33 : decode cX8_merge 33 = .ok (.if_icmp .ne 7, 3) := by decide +kernel
theorem dX8_merge_36 : decode cX8_merge 36 = .ok (.iconst 1, 1) := by decide +kernel
theorem dX8_merge_37 : decode cX8_merge 37 = .ok (.goto 4, 3) := by decide +kernel
theorem dX8_merge_40 : decode cX8_merge 40 = .ok (.iconst 0, 1) := by decide +kernel
theorem dX8_merge_41 : decode cX8_merge 41 = .ok (.invokevirtual 85, 3) := by decide +kernel
theorem dX8_merge_44 : decode cX8_merge 44 = .ok (.ifCond .ne 21, 3) := by decide +kernel
theorem dX8_merge_47 : decode cX8_merge 47 = .ok (.aload_n 0, 1) := by decide +kernel
theorem dX8_merge_48 : decode cX8_merge 48 = .ok (.iconst 3, 1) := by decide +kernel
theorem dX8_merge_49 : decode cX8_merge 49 = .ok (.aload_n 0, 1) := by decide +kernel
theorem dX8_merge_50 : decode cX8_merge 50 = .ok (.aload_n 0, 1) := by decide +kernel
theorem dX8_merge_51 : decode cX8_merge 51 = .ok (.iload_n 1, 1) := by decide +kernel
theorem dX8_merge_52 : decode cX8_merge 52 = .ok (.iload_n 2, 1) := by decide +kernel
theorem dX8_merge_53 : decode cX8_merge 53 = .ok (.invokevirtual 144, 3) := by decide +kernel
theorem dX8_merge_56 : decode cX8_merge 56 = .ok (.invokevirtual 138, 3) := by decide +kernel
theorem dX8_merge_59 : decode cX8_merge 59 = .ok (.invokevirtual 85, 3) := by decide +kernel
theorem dX8_merge_62 : decode cX8_merge 62 = .ok (.ifCond .eq 5, 3) := by decide +kernel
theorem dX8_merge_65 : decode cX8_merge 65 = .ok (.iconst 0, 1) := by decide +kernel
theorem dX8_merge_66 : decode cX8_merge 66 = .ok (.ireturn, 1) := by decide +kernel
theorem dX8_merge_67 : decode cX8_merge 67 = .ok (.aload_n 0, 1) := by decide +kernel
theorem dX8_merge_68 : decode cX8_merge 68 = .ok (.aload_n 0, 1) := by decide +kernel
theorem dX8_merge_69 : decode cX8_merge 69 = .ok (.getfield 9, 3) := by decide +kernel
theorem dX8_merge_72 : decode cX8_merge 72 = .ok (.invokevirtual 89, 3) := by decide +kernel
theorem dX8_merge_75 : decode cX8_merge 75 = .ok (.aload_n 0, 1) := by decide +kernel
theorem dX8_merge_76 : decode cX8_merge 76 = .ok (.iload_n 1, 1) := by decide +kernel
theorem dX8_merge_77 : decode cX8_merge 77 = .ok (.iload_n 2, 1) := by decide +kernel
theorem dX8_merge_78 : decode cX8_merge 78 = .ok (.invokevirtual 147, 3) := by decide +kernel
theorem dX8_merge_81 : decode cX8_merge 81 = .ok (.ireturn, 1) := by decide +kernel
set_option maxRecDepth 20000 in
theorem ggX8_liensOn_X8_lienOf : GoodIn wsX8_liensOn wsX8_lienOf := goodIn_ca (goodIn_r _ [6, 1, 13, 14, 15, 16, 17, 18, 19, 20, 21, 22, 23, 24, 25, 26, 27] (by decide +kernel) (by decide +kernel)) (goodIn_sub (fun _ h => List.mem_cons_of_mem _ (List.mem_append_right _ h)) (by decide +kernel))
set_option maxRecDepth 20000 in
theorem gX8_liensOn_X8_lienOf : GoodIn wsX8_liensOn (wsV RX8 150 RX8 yX8_lienOf wsX8_lienOf) := goodIn_app (goodIn_of _ (by decide +kernel)) ggX8_liensOn_X8_lienOf
set_option maxRecDepth 20000 in
theorem ggX8_liensOn_X8_has : GoodIn wsX8_liensOn wsX8_has := goodIn_r _ [9] (by decide +kernel) (by decide +kernel)
set_option maxRecDepth 20000 in
theorem gX8_liensOn_X8_has : GoodIn wsX8_liensOn (va_wsS RX8 68 yX8_has wsX8_has) := goodIn_app (goodIn_of _ (by decide +kernel)) ggX8_liensOn_X8_has
set_option maxRecDepth 20000 in
theorem ggX8_liensOn_X8_bit : GoodIn wsX8_liensOn wsX8_bit := goodIn_r _ [12] (by decide +kernel) (by decide +kernel)
set_option maxRecDepth 20000 in
theorem gX8_liensOn_X8_bit : GoodIn wsX8_liensOn (va_wsS RX8 64 yX8_bit wsX8_bit) := goodIn_app (goodIn_of _ (by decide +kernel)) ggX8_liensOn_X8_bit
theorem dX8_liensOn_0 : decode cX8_liensOn 0 = .ok (.iconst 0, 1) := by decide +kernel
theorem dX8_liensOn_1 : decode cX8_liensOn 1 = .ok (.istore_n 2, 1) := by decide +kernel
theorem dX8_liensOn_2 : decode cX8_liensOn 2 = .ok (.iconst 0, 1) := by decide +kernel
theorem dX8_liensOn_3 : decode cX8_liensOn 3 = .ok (.istore_n 3, 1) := by decide +kernel
theorem dX8_liensOn_4 : decode cX8_liensOn 4 = .ok (.iload_n 3, 1) := by decide +kernel
theorem dX8_liensOn_5 : decode cX8_liensOn 5 = .ok (.aload_n 0, 1) := by decide +kernel
theorem dX8_liensOn_6 : decode cX8_liensOn 6 = .ok (.getfield 9, 3) := by decide +kernel
theorem dX8_liensOn_9 : decode cX8_liensOn 9 = .ok (.iconst 5, 1) := by decide +kernel
theorem dX8_liensOn_10 : decode cX8_liensOn 10 = .ok (.iaload, 1) := by decide +kernel
theorem dX8_liensOn_11 : decode cX8_liensOn 11 = .ok (.if_icmp .ge 47, 3) := by decide +kernel
theorem dX8_liensOn_14 : decode cX8_liensOn 14 = .ok (.aload_n 0, 1) := by decide +kernel
theorem dX8_liensOn_15 : decode cX8_liensOn 15 = .ok (.getfield 9, 3) := by decide +kernel
theorem dX8_liensOn_18 : decode cX8_liensOn 18 = .ok (.sipush 601, 3) := by decide +kernel
theorem dX8_liensOn_21 : decode cX8_liensOn 21 = .ok (.iload_n 3, 1) := by decide +kernel
theorem dX8_liensOn_22 : decode cX8_liensOn 22 = .ok (.iadd, 1) := by decide +kernel
theorem dX8_liensOn_23 : decode cX8_liensOn 23 = .ok (.iaload, 1) := by decide +kernel
theorem dX8_liensOn_24 : decode cX8_liensOn 24 = .ok (.istore 4, 2) := by decide +kernel
theorem dX8_liensOn_26 : decode cX8_liensOn 26 = .ok (.iload_n 2, 1) := by decide +kernel
theorem dX8_liensOn_27 : decode cX8_liensOn 27 = .ok (.aload_n 0, 1) := by decide +kernel
theorem dX8_liensOn_28 : decode cX8_liensOn 28 = .ok (.iload 4, 2) := by decide +kernel
theorem dX8_liensOn_30 : decode cX8_liensOn 30 = .ok (.iconst 2, 1) := by decide +kernel
theorem dX8_liensOn_31 : decode cX8_liensOn 31 = .ok (.invokevirtual 150, 3) := by decide +kernel
theorem dX8_liensOn_34 : decode cX8_liensOn 34 = .ok (.iload_n 1, 1) := by decide +kernel
theorem dX8_liensOn_35 : decode cX8_liensOn 35 = .ok (.invokestatic 68, 3) := by decide +kernel
theorem dX8_liensOn_38 : decode cX8_liensOn 38 = .ok (.ifCond .eq 11, 3) := by decide +kernel
theorem dX8_liensOn_41 : decode cX8_liensOn 41 = .ok (.iload 4, 2) := by decide +kernel
theorem dX8_liensOn_43 : decode cX8_liensOn 43 = .ok (.invokestatic 64, 3) := by decide +kernel
theorem dX8_liensOn_46 : decode cX8_liensOn 46 = .ok (.goto 4, 3) := by decide +kernel
theorem dX8_liensOn_49 : decode cX8_liensOn 49 = .ok (.iconst 0, 1) := by decide +kernel
theorem dX8_liensOn_50 : decode cX8_liensOn 50 = .ok (.ior, 1) := by decide +kernel
theorem dX8_liensOn_51 : decode cX8_liensOn 51 = .ok (.istore_n 2, 1) := by decide +kernel
theorem dX8_liensOn_52 : decode cX8_liensOn 52 = .ok (.iinc 3 1, 3) := by decide +kernel
theorem dX8_liensOn_55 : decode cX8_liensOn 55 = .ok (.goto (-51), 3) := by decide +kernel
theorem dX8_liensOn_58 : decode cX8_liensOn 58 = .ok (.iload_n 2, 1) := by decide +kernel
theorem dX8_liensOn_59 : decode cX8_liensOn 59 = .ok (.ireturn, 1) := by decide +kernel
set_option maxRecDepth 20000 in
theorem ggX8_parcel_X8_isParcel : GoodIn wsX8_parcel wsX8_isParcel := goodIn_ca (goodIn_r _ [5, 6, 7, 8, 4, 9, 57, 58, 59, 60, 61, 62, 63, 64, 65, 66, 67, 68, 69, 70, 71] (by decide +kernel) (by decide +kernel)) (goodIn_sub (fun _ h => List.mem_cons_of_mem _ (List.mem_append_right _ h)) (by decide +kernel))
set_option maxRecDepth 20000 in
theorem gX8_parcel_X8_isParcel : GoodIn wsX8_parcel (wsV RX8 52 RX8 yX8_isParcel wsX8_isParcel) := goodIn_app (goodIn_of _ (by decide +kernel)) ggX8_parcel_X8_isParcel
set_option maxRecDepth 20000 in
theorem ggX8_parcel_X8_fails : GoodIn wsX8_parcel wsX8_fails := goodIn_r _ [13, 14, 57, 58, 59, 60, 61, 62, 63, 64, 65, 66, 67, 68, 69, 70, 71] (by decide +kernel) (by decide +kernel)
set_option maxRecDepth 20000 in
theorem gX8_parcel_X8_fails : GoodIn wsX8_parcel (wsV RX8 85 RX8 yX8_fails wsX8_fails) := goodIn_app (goodIn_of _ (by decide +kernel)) ggX8_parcel_X8_fails
set_option maxRecDepth 20000 in
theorem ggX8_parcel_X8_isBetween : GoodIn wsX8_parcel wsX8_isBetween := goodIn_r _ [9] (by decide +kernel) (by decide +kernel)
set_option maxRecDepth 20000 in
theorem gX8_parcel_X8_isBetween : GoodIn wsX8_parcel (va_wsS RX8 48 yX8_isBetween wsX8_isBetween) := goodIn_app (goodIn_of _ (by decide +kernel)) ggX8_parcel_X8_isBetween
set_option maxRecDepth 20000 in
theorem ggX8_parcel_X8_holderOf : GoodIn wsX8_parcel wsX8_holderOf := goodIn_ca (goodIn_r _ [18, 6, 19, 20, 21, 4, 22, 23, 24, 25, 26, 27, 28, 29, 30, 57, 58, 59, 60, 61, 62, 63, 64, 65, 66, 67, 68, 69, 70, 71] (by decide +kernel) (by decide +kernel)) (goodIn_sub (fun _ h => List.mem_cons_of_mem _ (List.mem_append_right _ h)) (by decide +kernel))
set_option maxRecDepth 20000 in
theorem gX8_parcel_X8_holderOf : GoodIn wsX8_parcel (wsV RX8 97 RX8 yX8_holderOf wsX8_holderOf) := goodIn_app (goodIn_of _ (by decide +kernel)) ggX8_parcel_X8_holderOf
set_option maxRecDepth 20000 in
theorem ggX8_parcel_X8_countDeeds : GoodIn wsX8_parcel wsX8_countDeeds := goodIn_ca (goodIn_r _ [34, 6, 27, 28, 29, 4, 30, 57, 58, 59, 60, 61, 62, 63, 64, 65, 66, 67, 68, 69, 70, 71] (by decide +kernel) (by decide +kernel)) (goodIn_sub (fun _ h => List.mem_cons_of_mem _ (List.mem_append_right _ h)) (by decide +kernel))
set_option maxRecDepth 20000 in
theorem gX8_parcel_X8_countDeeds : GoodIn wsX8_parcel (wsV RX8 153 RX8 yX8_countDeeds wsX8_countDeeds) := goodIn_app (goodIn_of _ (by decide +kernel)) ggX8_parcel_X8_countDeeds
set_option maxRecDepth 20000 in
theorem ggX8_parcel_X8_countGaps : GoodIn wsX8_parcel wsX8_countGaps := goodIn_ca (goodIn_r _ [38, 6, 27, 28, 29, 4, 30, 39, 40, 41, 42, 19, 20, 21, 22, 23, 24, 25, 26, 57, 58, 59, 60, 61, 62, 63, 64, 65, 66, 67, 68, 69, 70, 71] (by decide +kernel) (by decide +kernel)) (goodIn_sub (fun _ h => List.mem_cons_of_mem _ (List.mem_append_right _ h)) (by decide +kernel))
set_option maxRecDepth 20000 in
theorem gX8_parcel_X8_countGaps : GoodIn wsX8_parcel (wsV RX8 156 RX8 yX8_countGaps wsX8_countGaps) := goodIn_app (goodIn_of _ (by decide +kernel)) ggX8_parcel_X8_countGaps
set_option maxRecDepth 20000 in
theorem ggX8_parcel_X8_liensOn : GoodIn wsX8_parcel wsX8_liensOn := goodIn_ca (goodIn_r _ [46, 6, 47, 48, 49, 4, 50, 51, 52, 53, 54, 55, 56, 57, 58, 59, 60, 61, 62, 63, 64, 65, 66, 67, 68, 69, 70, 71] (by decide +kernel) (by decide +kernel)) (goodIn_sub (fun _ h => List.mem_cons_of_mem _ (List.mem_append_right _ h)) (by decide +kernel))
set_option maxRecDepth 20000 in
theorem gX8_parcel_X8_liensOn : GoodIn wsX8_parcel (wsV RX8 159 RX8 yX8_liensOn wsX8_liensOn) := goodIn_app (goodIn_of _ (by decide +kernel)) ggX8_parcel_X8_liensOn
set_option maxRecDepth 20000 in
theorem ggX8_parcel_X8_of : GoodIn wsX8_parcel wsX8_of := goodIn_ca (goodIn_r _ [26, 6, 57, 58, 59, 60, 61, 62, 63, 64, 65, 66, 67, 68, 69, 70, 71] (by decide +kernel) (by decide +kernel)) (goodIn_sub (fun _ h => List.mem_cons_of_mem _ (List.mem_append_right _ h)) (by decide +kernel))
set_option maxRecDepth 20000 in
theorem gX8_parcel_X8_of : GoodIn wsX8_parcel (wsV RX8 56 RX8 yX8_of wsX8_of) := goodIn_app (goodIn_of _ (by decide +kernel)) ggX8_parcel_X8_of
theorem dX8_parcel_0 : decode cX8_parcel 0 = .ok (.aload_n 0, 1) := by decide +kernel
theorem dX8_parcel_1 : decode cX8_parcel 1 = .ok (.iconst 1, 1) := by decide +kernel
theorem dX8_parcel_2 : decode cX8_parcel 2 = .ok (.aload_n 0, 1) := by decide +kernel
theorem dX8_parcel_3 : decode cX8_parcel 3 = .ok (.iload_n 1, 1) := by decide +kernel
theorem dX8_parcel_4 : decode cX8_parcel 4 = .ok (.invokevirtual 52, 3) := by decide +kernel
theorem dX8_parcel_7 : decode cX8_parcel 7 = .ok (.ifCond .ne 7, 3) := by decide +kernel
theorem dX8_parcel_10 : decode cX8_parcel 10 = .ok (.iconst 1, 1) := by decide +kernel
theorem dX8_parcel_11 : decode cX8_parcel 11 = .ok (.goto 4, 3) := by decide +kernel
theorem dX8_parcel_14 : decode cX8_parcel 14 = .ok (.iconst 0, 1) := by decide +kernel
theorem dX8_parcel_15 : decode cX8_parcel 15 = .ok (.invokevirtual 85, 3) := by decide +kernel
theorem dX8_parcel_18 : decode cX8_parcel 18 = .ok (.ifCond .ne 26, 3) := by decide +kernel
theorem dX8_parcel_21 : decode cX8_parcel 21 = .ok (.aload_n 0, 1) := by decide +kernel
theorem dX8_parcel_22 : decode cX8_parcel 22 = .ok (.iconst 2, 1) := by decide +kernel
theorem dX8_parcel_23 : decode cX8_parcel 23 = .ok (.iload_n 2, 1) := by decide +kernel
theorem dX8_parcel_24 : decode cX8_parcel 24 = .ok (.iconst 0, 1) := by decide +kernel
theorem dX8_parcel_25 : decode cX8_parcel 25 = .ok (.bipush 9, 2) := by decide +kernel
theorem dX8_parcel_27 : decode cX8_parcel 27 = .ok (.invokestatic 48, 3) := by decide +kernel
theorem dX8_parcel_30 : decode cX8_parcel 30 = .ok (.ifCond .ne 7, 3) := by decide +kernel
theorem dX8_parcel_33 : decode cX8_parcel 33 = .ok (.iconst 1, 1) := by decide +kernel
theorem dX8_parcel_34 : decode cX8_parcel 34 = .ok (.goto 4, 3) := by decide +kernel
theorem dX8_parcel_37 : decode cX8_parcel 37 = .ok (.iconst 0, 1) := by decide +kernel
theorem dX8_parcel_38 : decode cX8_parcel 38 = .ok (.invokevirtual 85, 3) := by decide +kernel
theorem dX8_parcel_41 : decode cX8_parcel 41 = .ok (.ifCond .eq 5, 3) := by decide +kernel
theorem dX8_parcel_44 : decode cX8_parcel 44 = .ok (.iconst 0, 1) := by decide +kernel
theorem dX8_parcel_45 : decode cX8_parcel 45 = .ok (.ireturn, 1) := by decide +kernel
theorem dX8_parcel_46 : decode cX8_parcel 46 = .ok (.iload_n 2, 1) := by decide +kernel
theorem dX8_parcel_47 : decode cX8_parcel 47 = .ok (.tableswitch 53 6 9 #[29, 35, 41, 47], 29) := by decide +kernel
theorem dX8_parcel_76 : decode cX8_parcel 76 = .ok (.aload_n 0, 1) := by decide +kernel
theorem dX8_parcel_77 : decode cX8_parcel 77 = .ok (.iload_n 1, 1) := by decide +kernel
theorem dX8_parcel_78 : decode cX8_parcel 78 = .ok (.invokevirtual 97, 3) := by decide +kernel
theorem dX8_parcel_81 : decode cX8_parcel 81 = .ok (.ireturn, 1) := by decide +kernel
theorem dX8_parcel_82 : decode cX8_parcel 82 = .ok (.aload_n 0, 1) := by decide +kernel
theorem dX8_parcel_83 : decode cX8_parcel 83 = .ok (.iload_n 1, 1) := by decide +kernel
theorem dX8_parcel_84 : decode cX8_parcel 84 = .ok (.invokevirtual 153, 3) := by decide +kernel
theorem dX8_parcel_87 : decode cX8_parcel 87 = .ok (.ireturn, 1) := by decide +kernel
theorem dX8_parcel_88 : decode cX8_parcel 88 = .ok (.aload_n 0, 1) := by decide +kernel
theorem dX8_parcel_89 : decode cX8_parcel 89 = .ok (.iload_n 1, 1) := by decide +kernel
theorem dX8_parcel_90 : decode cX8_parcel 90 = .ok (.invokevirtual 156, 3) := by decide +kernel
theorem dX8_parcel_93 : decode cX8_parcel 93 = .ok (.ireturn, 1) := by decide +kernel
theorem dX8_parcel_94 : decode cX8_parcel 94 = .ok (.aload_n 0, 1) := by decide +kernel
theorem dX8_parcel_95 : decode cX8_parcel 95 = .ok (.iload_n 1, 1) := by decide +kernel
theorem dX8_parcel_96 : decode cX8_parcel 96 = .ok (.invokevirtual 159, 3) := by decide +kernel
theorem dX8_parcel_99 : decode cX8_parcel 99 = .ok (.ireturn, 1) := by decide +kernel
theorem dX8_parcel_100 : decode cX8_parcel 100 = .ok (.aload_n 0, 1) := by decide +kernel
theorem dX8_parcel_101 : decode cX8_parcel 101 = .ok (.iload_n 1, 1) := by decide +kernel
theorem dX8_parcel_102 : decode cX8_parcel 102 = .ok (.iload_n 2, 1) := by decide +kernel
theorem dX8_parcel_103 : decode cX8_parcel 103 = .ok (.invokevirtual 56, 3) := by decide +kernel
theorem dX8_parcel_106 : decode cX8_parcel 106 = .ok (.ireturn, 1) := by decide +kernel
set_option maxRecDepth 20000 in
theorem ggX8_originsOf_X8_of : GoodIn wsX8_originsOf wsX8_of := goodIn_ca (goodIn_r _ [5, 6, 10, 11, 12, 13, 14, 15, 16, 17, 18, 19, 20, 21, 22, 23, 24] (by decide +kernel) (by decide +kernel)) (goodIn_sub (fun _ h => List.mem_cons_of_mem _ (List.mem_append_right _ h)) (by decide +kernel))
set_option maxRecDepth 20000 in
theorem gX8_originsOf_X8_of : GoodIn wsX8_originsOf (wsV RX8 56 RX8 yX8_of wsX8_of) := goodIn_app (goodIn_of _ (by decide +kernel)) ggX8_originsOf_X8_of
set_option maxRecDepth 20000 in
theorem ggX8_originsOf_X8_has : GoodIn wsX8_originsOf wsX8_has := goodIn_r _ [9] (by decide +kernel) (by decide +kernel)
set_option maxRecDepth 20000 in
theorem gX8_originsOf_X8_has : GoodIn wsX8_originsOf (va_wsS RX8 68 yX8_has wsX8_has) := goodIn_app (goodIn_of _ (by decide +kernel)) ggX8_originsOf_X8_has
theorem dX8_originsOf_0 : decode cX8_originsOf 0 = .ok (.aload_n 0, 1) := by decide +kernel
theorem dX8_originsOf_1 : decode cX8_originsOf 1 = .ok (.iload_n 1, 1) := by decide +kernel
theorem dX8_originsOf_2 : decode cX8_originsOf 2 = .ok (.iconst 4, 1) := by decide +kernel
theorem dX8_originsOf_3 : decode cX8_originsOf 3 = .ok (.invokevirtual 56, 3) := by decide +kernel
theorem dX8_originsOf_6 : decode cX8_originsOf 6 = .ok (.istore_n 2, 1) := by decide +kernel
theorem dX8_originsOf_7 : decode cX8_originsOf 7 = .ok (.iload_n 1, 1) := by decide +kernel
theorem dX8_originsOf_8 : decode cX8_originsOf 8 = .ok (.istore_n 3, 1) := by decide +kernel
theorem dX8_originsOf_9 : decode cX8_originsOf 9 = .ok (.iload_n 3, 1) := by decide +kernel
theorem dX8_originsOf_10 : decode cX8_originsOf 10 = .ok (.ifCond .lt 30, 3) := by decide +kernel
theorem dX8_originsOf_13 : decode cX8_originsOf 13 = .ok (.iload_n 2, 1) := by decide +kernel
theorem dX8_originsOf_14 : decode cX8_originsOf 14 = .ok (.iload_n 2, 1) := by decide +kernel
theorem dX8_originsOf_15 : decode cX8_originsOf 15 = .ok (.iload_n 3, 1) := by decide +kernel
theorem dX8_originsOf_16 : decode cX8_originsOf 16 = .ok (.invokestatic 68, 3) := by decide +kernel
theorem dX8_originsOf_19 : decode cX8_originsOf 19 = .ok (.ifCond .eq 12, 3) := by decide +kernel
theorem dX8_originsOf_22 : decode cX8_originsOf 22 = .ok (.aload_n 0, 1) := by decide +kernel
theorem dX8_originsOf_23 : decode cX8_originsOf 23 = .ok (.iload_n 3, 1) := by decide +kernel
theorem dX8_originsOf_24 : decode cX8_originsOf 24 = .ok (.iconst 4, 1) := by decide +kernel
theorem dX8_originsOf_25 : decode cX8_originsOf 25 = .ok (.invokevirtual 56, 3) := by decide +kernel
theorem dX8_originsOf_28 : decode cX8_originsOf 28 = .ok (.goto 4, 3) := by decide +kernel
theorem dX8_originsOf_31 : decode cX8_originsOf 31 = .ok (.iconst 0, 1) := by decide +kernel
theorem dX8_originsOf_32 : decode cX8_originsOf 32 = .ok (.ior, 1) := by decide +kernel
theorem dX8_originsOf_33 : decode cX8_originsOf 33 = .ok (.istore_n 2, 1) := by decide +kernel
theorem dX8_originsOf_34 : decode cX8_originsOf 34 = .ok (.iinc 3 (-1), 3) := by decide +kernel
theorem dX8_originsOf_37 : decode cX8_originsOf 37 = .ok (.goto (-28), 3) := by decide +kernel
theorem dX8_originsOf_40 : decode cX8_originsOf 40 = .ok (.iload_n 2, 1) := by decide +kernel
theorem dX8_originsOf_41 : decode cX8_originsOf 41 = .ok (.ireturn, 1) := by decide +kernel
set_option maxRecDepth 20000 in
theorem ggX8_origins_X8_isParcel : GoodIn wsX8_origins wsX8_isParcel := goodIn_ca (goodIn_r _ [5, 6, 7, 8, 4, 9, 26, 27, 28, 29, 30, 31, 32, 33, 34, 35, 36, 37, 38, 39, 40] (by decide +kernel) (by decide +kernel)) (goodIn_sub (fun _ h => List.mem_cons_of_mem _ (List.mem_append_right _ h)) (by decide +kernel))
set_option maxRecDepth 20000 in
theorem gX8_origins_X8_isParcel : GoodIn wsX8_origins (wsV RX8 52 RX8 yX8_isParcel wsX8_isParcel) := goodIn_app (goodIn_of _ (by decide +kernel)) ggX8_origins_X8_isParcel
set_option maxRecDepth 20000 in
theorem ggX8_origins_X8_fails : GoodIn wsX8_origins wsX8_fails := goodIn_r _ [13, 14, 26, 27, 28, 29, 30, 31, 32, 33, 34, 35, 36, 37, 38, 39, 40] (by decide +kernel) (by decide +kernel)
set_option maxRecDepth 20000 in
theorem gX8_origins_X8_fails : GoodIn wsX8_origins (wsV RX8 85 RX8 yX8_fails wsX8_fails) := goodIn_app (goodIn_of _ (by decide +kernel)) ggX8_origins_X8_fails
set_option maxRecDepth 20000 in
theorem ggX8_origins_X8_originsOf : GoodIn wsX8_origins wsX8_originsOf := goodIn_ca (goodIn_r _ [18, 19, 20, 21, 4, 22, 6, 23, 24, 25, 26, 27, 28, 29, 30, 31, 32, 33, 34, 35, 36, 37, 38, 39, 40] (by decide +kernel) (by decide +kernel)) (goodIn_sub (fun _ h => List.mem_cons_of_mem _ (List.mem_append_right _ h)) (by decide +kernel))
set_option maxRecDepth 20000 in
theorem gX8_origins_X8_originsOf : GoodIn wsX8_origins (wsV RX8 162 RX8 yX8_originsOf wsX8_originsOf) := goodIn_app (goodIn_of _ (by decide +kernel)) ggX8_origins_X8_originsOf
theorem dX8_origins_0 : decode cX8_origins 0 = .ok (.aload_n 0, 1) := by decide +kernel
theorem dX8_origins_1 : decode cX8_origins 1 = .ok (.iconst 1, 1) := by decide +kernel
theorem dX8_origins_2 : decode cX8_origins 2 = .ok (.aload_n 0, 1) := by decide +kernel
theorem dX8_origins_3 : decode cX8_origins 3 = .ok (.iload_n 1, 1) := by decide +kernel
theorem dX8_origins_4 : decode cX8_origins 4 = .ok (.invokevirtual 52, 3) := by decide +kernel
theorem dX8_origins_7 : decode cX8_origins 7 = .ok (.ifCond .ne 7, 3) := by decide +kernel
theorem dX8_origins_10 : decode cX8_origins 10 = .ok (.iconst 1, 1) := by decide +kernel
theorem dX8_origins_11 : decode cX8_origins 11 = .ok (.goto 4, 3) := by decide +kernel
theorem dX8_origins_14 : decode cX8_origins 14 = .ok (.iconst 0, 1) := by decide +kernel
theorem dX8_origins_15 : decode cX8_origins 15 = .ok (.invokevirtual 85, 3) := by decide +kernel
theorem dX8_origins_18 : decode cX8_origins 18 = .ok (.ifCond .eq 7, 3) := by decide +kernel
theorem dX8_origins_21 : decode cX8_origins 21 = .ok (.iconst 0, 1) := by decide +kernel
theorem dX8_origins_22 : decode cX8_origins 22 = .ok (.goto 8, 3) := by decide +kernel
theorem dX8_origins_25 : decode cX8_origins 25 = .ok (.aload_n 0, 1) := by decide +kernel
theorem dX8_origins_26 : decode cX8_origins 26 = .ok (.iload_n 1, 1) := by decide +kernel
theorem dX8_origins_27 : decode cX8_origins 27 = .ok (.invokevirtual 162, 3) := by decide +kernel
theorem dX8_origins_30 : decode cX8_origins 30 = .ok (.ireturn, 1) := by decide +kernel
set_option maxRecDepth 20000 in
theorem ggX8_remains_X8_isParcel : GoodIn wsX8_remains wsX8_isParcel := goodIn_ca (goodIn_r _ [6, 1, 7, 8, 5, 9, 33, 34, 35, 36, 37, 38, 39, 40, 41, 42, 43, 44, 45, 46, 47] (by decide +kernel) (by decide +kernel)) (goodIn_sub (fun _ h => List.mem_cons_of_mem _ (List.mem_append_right _ h)) (by decide +kernel))
set_option maxRecDepth 20000 in
theorem gX8_remains_X8_isParcel : GoodIn wsX8_remains (wsV RX8 52 RX8 yX8_isParcel wsX8_isParcel) := goodIn_app (goodIn_of _ (by decide +kernel)) ggX8_remains_X8_isParcel
set_option maxRecDepth 20000 in
theorem ggX8_remains_X8_fails : GoodIn wsX8_remains wsX8_fails := goodIn_r _ [13, 14, 33, 34, 35, 36, 37, 38, 39, 40, 41, 42, 43, 44, 45, 46, 47] (by decide +kernel) (by decide +kernel)
set_option maxRecDepth 20000 in
theorem gX8_remains_X8_fails : GoodIn wsX8_remains (wsV RX8 85 RX8 yX8_fails wsX8_fails) := goodIn_app (goodIn_of _ (by decide +kernel)) ggX8_remains_X8_fails
set_option maxRecDepth 20000 in
theorem ggX8_remains_X8_isPresent : GoodIn wsX8_remains wsX8_isPresent := goodIn_ca (goodIn_r _ [18, 2, 3, 4, 5, 6, 1, 7, 8, 9, 19, 20, 21, 22, 33, 34, 35, 36, 37, 38, 39, 40, 41, 42, 43, 44, 45, 46, 47] (by decide +kernel) (by decide +kernel)) (goodIn_sub (fun _ h => List.mem_cons_of_mem _ (List.mem_append_right _ h)) (by decide +kernel))
set_option maxRecDepth 20000 in
theorem gX8_remains_X8_isPresent : GoodIn wsX8_remains (wsV RX8 76 RX8 yX8_isPresent wsX8_isPresent) := goodIn_app (goodIn_of _ (by decide +kernel)) ggX8_remains_X8_isPresent
set_option maxRecDepth 20000 in
theorem ggX8_remains_X8_originsOf : GoodIn wsX8_remains wsX8_originsOf := goodIn_ca (goodIn_r _ [26, 19, 20, 21, 5, 22, 1, 27, 28, 29, 33, 34, 35, 36, 37, 38, 39, 40, 41, 42, 43, 44, 45, 46, 47] (by decide +kernel) (by decide +kernel)) (goodIn_sub (fun _ h => List.mem_cons_of_mem _ (List.mem_append_right _ h)) (by decide +kernel))
set_option maxRecDepth 20000 in
theorem gX8_remains_X8_originsOf : GoodIn wsX8_remains (wsV RX8 162 RX8 yX8_originsOf wsX8_originsOf) := goodIn_app (goodIn_of _ (by decide +kernel)) ggX8_remains_X8_originsOf
set_option maxRecDepth 20000 in
theorem ggX8_remains_X8_has : GoodIn wsX8_remains wsX8_has := goodIn_r _ [29] (by decide +kernel) (by decide +kernel)
set_option maxRecDepth 20000 in
theorem gX8_remains_X8_has : GoodIn wsX8_remains (va_wsS RX8 68 yX8_has wsX8_has) := goodIn_app (goodIn_of _ (by decide +kernel)) ggX8_remains_X8_has
set_option maxRecDepth 20000 in
theorem ggX8_remains_X8_bit : GoodIn wsX8_remains wsX8_bit := goodIn_r _ [32] (by decide +kernel) (by decide +kernel)
set_option maxRecDepth 20000 in
theorem gX8_remains_X8_bit : GoodIn wsX8_remains (va_wsS RX8 64 yX8_bit wsX8_bit) := goodIn_app (goodIn_of _ (by decide +kernel)) ggX8_remains_X8_bit
theorem dX8_remains_0 : decode cX8_remains 0 = .ok (.aload_n 0, 1) := by decide +kernel
theorem dX8_remains_1 : decode cX8_remains 1 = .ok (.iconst 1, 1) := by decide +kernel
theorem dX8_remains_2 : decode cX8_remains 2 = .ok (.aload_n 0, 1) := by decide +kernel
theorem dX8_remains_3 : decode cX8_remains 3 = .ok (.iload_n 1, 1) := by decide +kernel
theorem dX8_remains_4 : decode cX8_remains 4 = .ok (.invokevirtual 52, 3) := by decide +kernel
theorem dX8_remains_7 : decode cX8_remains 7 = .ok (.ifCond .ne 7, 3) := by decide +kernel
theorem dX8_remains_10 : decode cX8_remains 10 = .ok (.iconst 1, 1) := by decide +kernel
theorem dX8_remains_11 : decode cX8_remains 11 = .ok (.goto 4, 3) := by decide +kernel
theorem dX8_remains_14 : decode cX8_remains 14 = .ok (.iconst 0, 1) := by decide +kernel
theorem dX8_remains_15 : decode cX8_remains 15 = .ok (.invokevirtual 85, 3) := by decide +kernel
theorem dX8_remains_18 : decode cX8_remains 18 = .ok (.ifCond .eq 5, 3) := by decide +kernel
theorem dX8_remains_21 : decode cX8_remains 21 = .ok (.iconst 0, 1) := by decide +kernel
theorem dX8_remains_22 : decode cX8_remains 22 = .ok (.ireturn, 1) := by decide +kernel
theorem dX8_remains_23 : decode cX8_remains 23 = .ok (.iconst 0, 1) := by decide +kernel
theorem dX8_remains_24 : decode cX8_remains 24 = .ok (.istore_n 2, 1) := by decide +kernel
theorem dX8_remains_25 : decode cX8_remains 25 = .ok (.iconst 0, 1) := by decide +kernel
theorem dX8_remains_26 : decode cX8_remains 26 = .ok (.istore_n 3, 1) := by decide +kernel
theorem dX8_remains_27 : decode cX8_remains 27 = .ok (.iload_n 3, 1) := by decide +kernel
theorem dX8_remains_28 : decode cX8_remains 28 = .ok (.aload_n 0, 1) := by decide +kernel
theorem dX8_remains_29 : decode cX8_remains 29 = .ok (.getfield 9, 3) := by decide +kernel
theorem dX8_remains_32 : decode cX8_remains 32 = .ok (.iconst 1, 1) := by decide +kernel
theorem dX8_remains_33 : decode cX8_remains 33 = .ok (.iaload, 1) := by decide +kernel
theorem dX8_remains_34 : decode cX8_remains 34 = .ok (.if_icmp .ge 45, 3) := by decide +kernel
theorem dX8_remains_37 : decode cX8_remains 37 = .ok (.iload_n 2, 1) := by decide +kernel
theorem dX8_remains_38 : decode cX8_remains 38 = .ok (.aload_n 0, 1) := by decide +kernel
theorem dX8_remains_39 : decode cX8_remains 39 = .ok (.iload_n 3, 1) := by decide +kernel
theorem dX8_remains_40 : decode cX8_remains 40 = .ok (.invokevirtual 76, 3) := by decide +kernel
theorem dX8_remains_43 : decode cX8_remains 43 = .ok (.ifCond .eq 27, 3) := by decide +kernel
theorem dX8_remains_46 : decode cX8_remains 46 = .ok (.iload_n 3, 1) := by decide +kernel
theorem dX8_remains_47 : decode cX8_remains 47 = .ok (.iload_n 1, 1) := by decide +kernel
theorem dX8_remains_48 : decode cX8_remains 48 = .ok (.if_icmp .eq 15, 3) := by decide +kernel
theorem dX8_remains_51 : decode cX8_remains 51 = .ok (.aload_n 0, 1) := by decide +kernel
theorem dX8_remains_52 : decode cX8_remains 52 = .ok (.iload_n 3, 1) := by decide +kernel
theorem dX8_remains_53 : decode cX8_remains 53 = .ok (.invokevirtual 162, 3) := by decide +kernel
theorem dX8_remains_56 : decode cX8_remains 56 = .ok (.iload_n 1, 1) := by decide +kernel
theorem dX8_remains_57 : decode cX8_remains 57 = .ok (.invokestatic 68, 3) := by decide +kernel
theorem dX8_remains_60 : decode cX8_remains 60 = .ok (.ifCond .eq 10, 3) := by decide +kernel
theorem dX8_remains_63 : decode cX8_remains 63 = .ok (.iload_n 3, 1) := by decide +kernel
theorem dX8_remains_64 : decode cX8_remains 64 = .ok (.invokestatic 64, 3) := by decide +kernel
theorem dX8_remains_67 : decode cX8_remains 67 = .ok (.goto 4, 3) := by decide +kernel
theorem dX8_remains_70 : decode cX8_remains 70 = .ok (.iconst 0, 1) := by decide +kernel
theorem dX8_remains_71 : decode cX8_remains 71 = .ok (.ior, 1) := by decide +kernel
theorem dX8_remains_72 : decode cX8_remains 72 = .ok (.istore_n 2, 1) := by decide +kernel
theorem dX8_remains_73 : decode cX8_remains 73 = .ok (.iinc 3 1, 3) := by decide +kernel
theorem dX8_remains_76 : decode cX8_remains 76 = .ok (.goto (-49), 3) := by decide +kernel
theorem dX8_remains_79 : decode cX8_remains 79 = .ok (.iload_n 2, 1) := by decide +kernel
theorem dX8_remains_80 : decode cX8_remains 80 = .ok (.ireturn, 1) := by decide +kernel
set_option maxRecDepth 20000 in
theorem ggX8_borders_X8_isParcel : GoodIn wsX8_borders wsX8_isParcel := goodIn_ca (goodIn_r _ [6, 1, 7, 8, 5, 9, 29, 30, 31, 32, 33, 34, 35, 36, 37, 38, 39, 40, 41, 42, 43] (by decide +kernel) (by decide +kernel)) (goodIn_sub (fun _ h => List.mem_cons_of_mem _ (List.mem_append_right _ h)) (by decide +kernel))
set_option maxRecDepth 20000 in
theorem gX8_borders_X8_isParcel : GoodIn wsX8_borders (wsV RX8 52 RX8 yX8_isParcel wsX8_isParcel) := goodIn_app (goodIn_of _ (by decide +kernel)) ggX8_borders_X8_isParcel
set_option maxRecDepth 20000 in
theorem ggX8_borders_X8_fails : GoodIn wsX8_borders wsX8_fails := goodIn_r _ [13, 14, 29, 30, 31, 32, 33, 34, 35, 36, 37, 38, 39, 40, 41, 42, 43] (by decide +kernel) (by decide +kernel)
set_option maxRecDepth 20000 in
theorem gX8_borders_X8_fails : GoodIn wsX8_borders (wsV RX8 85 RX8 yX8_fails wsX8_fails) := goodIn_app (goodIn_of _ (by decide +kernel)) ggX8_borders_X8_fails
set_option maxRecDepth 20000 in
theorem ggX8_borders_X8_isPresent : GoodIn wsX8_borders wsX8_isPresent := goodIn_ca (goodIn_r _ [18, 2, 3, 4, 5, 6, 1, 7, 8, 9, 19, 20, 21, 22, 29, 30, 31, 32, 33, 34, 35, 36, 37, 38, 39, 40, 41, 42, 43] (by decide +kernel) (by decide +kernel)) (goodIn_sub (fun _ h => List.mem_cons_of_mem _ (List.mem_append_right _ h)) (by decide +kernel))
set_option maxRecDepth 20000 in
theorem gX8_borders_X8_isPresent : GoodIn wsX8_borders (wsV RX8 76 RX8 yX8_isPresent wsX8_isPresent) := goodIn_app (goodIn_of _ (by decide +kernel)) ggX8_borders_X8_isPresent
set_option maxRecDepth 20000 in
theorem ggX8_borders_X8_bit : GoodIn wsX8_borders wsX8_bit := goodIn_r _ [25] (by decide +kernel) (by decide +kernel)
set_option maxRecDepth 20000 in
theorem gX8_borders_X8_bit : GoodIn wsX8_borders (va_wsS RX8 64 yX8_bit wsX8_bit) := goodIn_app (goodIn_of _ (by decide +kernel)) ggX8_borders_X8_bit
set_option maxRecDepth 20000 in
theorem ggX8_borders_X8_has : GoodIn wsX8_borders wsX8_has := goodIn_r _ [28] (by decide +kernel) (by decide +kernel)
set_option maxRecDepth 20000 in
theorem gX8_borders_X8_has : GoodIn wsX8_borders (va_wsS RX8 68 yX8_has wsX8_has) := goodIn_app (goodIn_of _ (by decide +kernel)) ggX8_borders_X8_has
set_option maxRecDepth 20000 in
theorem ggX8_borders_X8_of : GoodIn wsX8_borders wsX8_of := goodIn_ca (goodIn_r _ [22, 1, 29, 30, 31, 32, 33, 34, 35, 36, 37, 38, 39, 40, 41, 42, 43] (by decide +kernel) (by decide +kernel)) (goodIn_sub (fun _ h => List.mem_cons_of_mem _ (List.mem_append_right _ h)) (by decide +kernel))
set_option maxRecDepth 20000 in
theorem gX8_borders_X8_of : GoodIn wsX8_borders (wsV RX8 56 RX8 yX8_of wsX8_of) := goodIn_app (goodIn_of _ (by decide +kernel)) ggX8_borders_X8_of
theorem dX8_borders_0 : decode cX8_borders 0 = .ok (.aload_n 0, 1) := by decide +kernel
theorem dX8_borders_1 : decode cX8_borders 1 = .ok (.iconst 1, 1) := by decide +kernel
theorem dX8_borders_2 : decode cX8_borders 2 = .ok (.aload_n 0, 1) := by decide +kernel
theorem dX8_borders_3 : decode cX8_borders 3 = .ok (.iload_n 1, 1) := by decide +kernel
theorem dX8_borders_4 : decode cX8_borders 4 = .ok (.invokevirtual 52, 3) := by decide +kernel
theorem dX8_borders_7 : decode cX8_borders 7 = .ok (.ifCond .eq 11, 3) := by decide +kernel
theorem dX8_borders_10 : decode cX8_borders 10 = .ok (.aload_n 0, 1) := by decide +kernel
theorem dX8_borders_11 : decode cX8_borders 11 = .ok (.iload_n 2, 1) := by decide +kernel
theorem dX8_borders_12 : decode cX8_borders 12 = .ok (.invokevirtual 52, 3) := by decide +kernel
theorem dX8_borders_15 : decode cX8_borders 15 = .ok (.ifCond .ne 7, 3) := by decide +kernel
theorem dX8_borders_18 : decode cX8_borders 18 = .ok (.iconst 1, 1) := by decide +kernel
theorem dX8_borders_19 : decode cX8_borders 19 = .ok (.goto 4, 3) := by decide +kernel
theorem dX8_borders_22 : decode cX8_borders 22 = .ok (.iconst 0, 1) := by decide +kernel
theorem dX8_borders_23 : decode cX8_borders 23 = .ok (.invokevirtual 85, 3) := by decide +kernel
theorem dX8_borders_26 : decode cX8_borders 26 = .ok (.ifCond .ne 32, 3) := by decide +kernel
theorem dX8_borders_29 : decode cX8_borders 29 = .ok (.aload_n 0, 1) := by decide +kernel
theorem dX8_borders_30 : decode cX8_borders 30 = .ok (.iconst 2, 1) := by decide +kernel
theorem dX8_borders_31 : decode cX8_borders 31 = .ok (.aload_n 0, 1) := by decide +kernel
theorem dX8_borders_32 : decode cX8_borders 32 = .ok (.iload_n 1, 1) := by decide +kernel
theorem dX8_borders_33 : decode cX8_borders 33 = .ok (.invokevirtual 76, 3) := by decide +kernel
theorem dX8_borders_36 : decode cX8_borders 36 = .ok (.ifCond .eq 11, 3) := by decide +kernel
theorem dX8_borders_39 : decode cX8_borders 39 = .ok (.aload_n 0, 1) := by decide +kernel
theorem dX8_borders_40 : decode cX8_borders 40 = .ok (.iload_n 2, 1) := by decide +kernel
theorem dX8_borders_41 : decode cX8_borders 41 = .ok (.invokevirtual 76, 3) := by decide +kernel
theorem dX8_borders_44 : decode cX8_borders 44 = .ok (.ifCond .ne 7, 3) := by decide +kernel
theorem dX8_borders_47 : decode cX8_borders 47 = .ok (.iconst 1, 1) := by decide +kernel
theorem dX8_borders_48 : decode cX8_borders 48 = .ok (.goto 4, 3) := by decide +kernel
theorem dX8_borders_51 : decode cX8_borders 51 = .ok (.iconst 0, 1) := by decide +kernel
theorem dX8_borders_52 : decode cX8_borders 52 = .ok (.invokevirtual 85, 3) := by decide +kernel
theorem dX8_borders_55 : decode cX8_borders 55 = .ok (.ifCond .eq 5, 3) := by decide +kernel
theorem dX8_borders_58 : decode cX8_borders 58 = .ok (.iconst 0, 1) := by decide +kernel
theorem dX8_borders_59 : decode cX8_borders 59 = .ok (.ireturn, 1) := by decide +kernel
theorem dX8_borders_60 : decode cX8_borders 60 = .ok (.iload_n 1, 1) := by decide +kernel
theorem dX8_borders_61 : decode cX8_borders 61 = .ok (.invokestatic 64, 3) := by decide +kernel
theorem dX8_borders_64 : decode cX8_borders 64 = .ok (.istore_n 3, 1) := by decide +kernel
theorem dX8_borders_65 : decode cX8_borders 65 = .ok (.iconst 0, 1) := by decide +kernel
theorem dX8_borders_66 : decode cX8_borders 66 = .ok (.istore 4, 2) := by decide +kernel
theorem dX8_borders_68 : decode cX8_borders 68 = .ok (.iconst 0, 1) := by decide +kernel
theorem dX8_borders_69 : decode cX8_borders 69 = .ok (.istore 5, 2) := by decide +kernel
theorem dX8_borders_71 : decode cX8_borders 71 = .ok (.iload_n 3, 1) := by decide +kernel
theorem dX8_borders_72 : decode cX8_borders 72 = .ok (.iload_n 2, 1) := by decide +kernel
theorem dX8_borders_73 : decode cX8_borders 73 = .ok (.invokestatic 68, 3) := by decide +kernel
theorem dX8_borders_76 : decode cX8_borders 76 = .ok (.ifCond .ne 62, 3) := by decide +kernel
theorem dX8_borders_79 : decode cX8_borders 79 = .ok (.iload_n 3, 1) := by decide +kernel
theorem dX8_borders_80 : decode cX8_borders 80 = .ok (.iload 4, 2) := by decide +kernel
theorem dX8_borders_82 : decode cX8_borders 82 = .ok (.if_icmp .eq 56, 3) := by decide +kernel
theorem dX8_borders_85 : decode cX8_borders 85 = .ok (.iload_n 3, 1) := by decide +kernel
theorem dX8_borders_86 : decode cX8_borders 86 = .ok (.istore 4, 2) := by decide +kernel
theorem dX8_borders_88 : decode cX8_borders 88 = .ok (.iconst 0, 1) := by decide +kernel
theorem dX8_borders_89 : decode cX8_borders 89 = .ok (.istore 6, 2) := by decide +kernel
theorem dX8_borders_91 : decode cX8_borders 91 = .ok (.iload 6, 2) := by decide +kernel
theorem dX8_borders_93 : decode cX8_borders 93 = .ok (.aload_n 0, 1) := by decide +kernel
theorem dX8_borders_94 : decode cX8_borders 94 = .ok (.getfield 9, 3) := by decide +kernel
theorem dX8_borders_97 : decode cX8_borders 97 = .ok (.iconst 1, 1) := by decide +kernel
theorem dX8_borders_98 : decode cX8_borders 98 = .ok (.iaload, 1) := by decide +kernel
theorem dX8_borders_99 : decode cX8_borders 99 = .ok (.if_icmp .ge 33, 3) := by decide +kernel
theorem dX8_borders_102 : decode cX8_borders 102 = .ok (.iload_n 3, 1) := by decide +kernel
theorem dX8_borders_103 : decode cX8_borders 103 = .ok (.iload 4, 2) := by decide +kernel
theorem dX8_borders_105 : decode cX8_borders 105 = .ok (.iload 6, 2) := by decide +kernel
theorem dX8_borders_107 : decode cX8_borders 107 = .ok (.invokestatic 68, 3) := by decide +kernel
theorem dX8_borders_110 : decode cX8_borders 110 = .ok (.ifCond .eq 13, 3) := by decide +kernel
theorem dX8_borders_113 : decode cX8_borders 113 = .ok (.aload_n 0, 1) := by decide +kernel
theorem dX8_borders_114 : decode cX8_borders 114 = .ok (.iload 6, 2) := by decide +kernel
theorem dX8_borders_116 : decode cX8_borders 116 = .ok (.iconst 3, 1) := by decide +kernel
theorem dX8_borders_117 : decode cX8_borders 117 = .ok (.invokevirtual 56, 3) := by decide +kernel
theorem dX8_borders_120 : decode cX8_borders 120 = .ok (.goto 4, 3) := by decide +kernel
theorem dX8_borders_123 : decode cX8_borders 123 = .ok (.iconst 0, 1) := by decide +kernel
theorem dX8_borders_124 : decode cX8_borders 124 = .ok (.ior, 1) := by decide +kernel
theorem dX8_borders_125 : decode cX8_borders 125 = .ok (.istore_n 3, 1) := by decide +kernel
theorem dX8_borders_126 : decode cX8_borders 126 = .ok (.iinc 6 1, 3) := by decide +kernel
theorem dX8_borders_129 : decode cX8_borders 129 = .ok (.goto (-38), 3) := by decide +kernel
theorem dX8_borders_132 : decode cX8_borders 132 = .ok (.iinc 5 1, 3) := by decide +kernel
theorem dX8_borders_135 : decode cX8_borders 135 = .ok (.goto (-64), 3) := by decide +kernel
theorem dX8_borders_138 : decode cX8_borders 138 = .ok (.aload_n 0, 1) := by decide +kernel
theorem dX8_borders_139 : decode cX8_borders 139 = .ok (.iconst 3, 1) := by decide +kernel
theorem dX8_borders_140 : decode cX8_borders 140 = .ok (.iload_n 3, 1) := by decide +kernel
theorem dX8_borders_141 : decode cX8_borders 141 = .ok (.iload_n 2, 1) := by decide +kernel
theorem dX8_borders_142 : decode cX8_borders 142 = .ok (.invokestatic 68, 3) := by decide +kernel
theorem dX8_borders_145 : decode cX8_borders 145 = .ok (.ifCond .ne 7, 3) := by decide +kernel
theorem dX8_borders_148 : decode cX8_borders 148 = .ok (.iconst 1, 1) := by decide +kernel
theorem dX8_borders_149 : decode cX8_borders 149 = .ok (.goto 4, 3) := by decide +kernel
theorem dX8_borders_152 : decode cX8_borders 152 = .ok (.iconst 0, 1) := by decide +kernel
theorem dX8_borders_153 : decode cX8_borders 153 = .ok (.invokevirtual 85, 3) := by decide +kernel
theorem dX8_borders_156 : decode cX8_borders 156 = .ok (.ifCond .eq 7, 3) := by decide +kernel
theorem dX8_borders_159 : decode cX8_borders 159 = .ok (.iconst 0, 1) := by decide +kernel
theorem dX8_borders_160 : decode cX8_borders 160 = .ok (.goto 5, 3) := by decide +kernel
theorem dX8_borders_163 : decode cX8_borders 163 = .ok (.iload 5, 2) := by decide +kernel
theorem dX8_borders_165 : decode cX8_borders 165 = .ok (.ireturn, 1) := by decide +kernel
set_option maxRecDepth 20000 in
theorem ggX8_partners_X8_isParcel : GoodIn wsX8_partners wsX8_isParcel := goodIn_ca (goodIn_r _ [6, 1, 7, 8, 5, 9, 45, 46, 47, 48, 49, 50, 51, 52, 53, 54, 55, 56, 57, 58, 59] (by decide +kernel) (by decide +kernel)) (goodIn_sub (fun _ h => List.mem_cons_of_mem _ (List.mem_append_right _ h)) (by decide +kernel))
set_option maxRecDepth 20000 in
theorem gX8_partners_X8_isParcel : GoodIn wsX8_partners (wsV RX8 52 RX8 yX8_isParcel wsX8_isParcel) := goodIn_app (goodIn_of _ (by decide +kernel)) ggX8_partners_X8_isParcel
set_option maxRecDepth 20000 in
theorem ggX8_partners_X8_fails : GoodIn wsX8_partners wsX8_fails := goodIn_r _ [13, 14, 45, 46, 47, 48, 49, 50, 51, 52, 53, 54, 55, 56, 57, 58, 59] (by decide +kernel) (by decide +kernel)
set_option maxRecDepth 20000 in
theorem gX8_partners_X8_fails : GoodIn wsX8_partners (wsV RX8 85 RX8 yX8_fails wsX8_fails) := goodIn_app (goodIn_of _ (by decide +kernel)) ggX8_partners_X8_fails
set_option maxRecDepth 20000 in
theorem ggX8_partners_X8_whyNoMerge : GoodIn wsX8_partners wsX8_whyNoMerge := goodIn_ca (goodIn_r _ [18, 1, 19, 20, 21, 5, 22, 2, 3, 4, 6, 7, 8, 9, 23, 24, 25, 26, 27, 28, 29, 30, 31, 32, 33, 34, 35, 36, 37, 38, 39, 40, 41, 45, 46, 47, 48, 49, 50, 51, 52, 53, 54, 55, 56, 57, 58, 59] (by decide +kernel) (by decide +kernel)) (goodIn_sub (fun _ h => List.mem_cons_of_mem _ (List.mem_append_right _ h)) (by decide +kernel))
set_option maxRecDepth 20000 in
theorem gX8_partners_X8_whyNoMerge : GoodIn wsX8_partners (wsV RX8 144 RX8 yX8_whyNoMerge wsX8_whyNoMerge) := goodIn_app (goodIn_of _ (by decide +kernel)) ggX8_partners_X8_whyNoMerge
set_option maxRecDepth 20000 in
theorem ggX8_partners_X8_bit : GoodIn wsX8_partners wsX8_bit := goodIn_r _ [44] (by decide +kernel) (by decide +kernel)
set_option maxRecDepth 20000 in
theorem gX8_partners_X8_bit : GoodIn wsX8_partners (va_wsS RX8 64 yX8_bit wsX8_bit) := goodIn_app (goodIn_of _ (by decide +kernel)) ggX8_partners_X8_bit
theorem dX8_partners_0 : decode cX8_partners 0 = .ok (.aload_n 0, 1) := by decide +kernel
theorem dX8_partners_1 : decode cX8_partners 1 = .ok (.iconst 1, 1) := by decide +kernel
theorem dX8_partners_2 : decode cX8_partners 2 = .ok (.aload_n 0, 1) := by decide +kernel
theorem dX8_partners_3 : decode cX8_partners 3 = .ok (.iload_n 1, 1) := by decide +kernel
theorem dX8_partners_4 : decode cX8_partners 4 = .ok (.invokevirtual 52, 3) := by decide +kernel
theorem dX8_partners_7 : decode cX8_partners 7 = .ok (.ifCond .ne 7, 3) := by decide +kernel
theorem dX8_partners_10 : decode cX8_partners 10 = .ok (.iconst 1, 1) := by decide +kernel
theorem dX8_partners_11 : decode cX8_partners 11 = .ok (.goto 4, 3) := by decide +kernel
theorem dX8_partners_14 : decode cX8_partners 14 = .ok (.iconst 0, 1) := by decide +kernel
theorem dX8_partners_15 : decode cX8_partners 15 = .ok (.invokevirtual 85, 3) := by decide +kernel
theorem dX8_partners_18 : decode cX8_partners 18 = .ok (.ifCond .eq 5, 3) := by decide +kernel
theorem dX8_partners_21 : decode cX8_partners 21 = .ok (.iconst 0, 1) := by decide +kernel
theorem dX8_partners_22 : decode cX8_partners 22 = .ok (.ireturn, 1) := by decide +kernel
theorem dX8_partners_23 : decode cX8_partners 23 = .ok (.iconst 0, 1) := by decide +kernel
theorem dX8_partners_24 : decode cX8_partners 24 = .ok (.istore_n 2, 1) := by decide +kernel
theorem dX8_partners_25 : decode cX8_partners 25 = .ok (.iconst 0, 1) := by decide +kernel
theorem dX8_partners_26 : decode cX8_partners 26 = .ok (.istore_n 3, 1) := by decide +kernel
theorem dX8_partners_27 : decode cX8_partners 27 = .ok (.iload_n 3, 1) := by decide +kernel
theorem dX8_partners_28 : decode cX8_partners 28 = .ok (.aload_n 0, 1) := by decide +kernel
theorem dX8_partners_29 : decode cX8_partners 29 = .ok (.getfield 9, 3) := by decide +kernel
theorem dX8_partners_32 : decode cX8_partners 32 = .ok (.iconst 1, 1) := by decide +kernel
theorem dX8_partners_33 : decode cX8_partners 33 = .ok (.iaload, 1) := by decide +kernel
theorem dX8_partners_34 : decode cX8_partners 34 = .ok (.if_icmp .ge 34, 3) := by decide +kernel
theorem dX8_partners_37 : decode cX8_partners 37 = .ok (.iload_n 2, 1) := by decide +kernel
theorem dX8_partners_38 : decode cX8_partners 38 = .ok (.iload_n 3, 1) := by decide +kernel
theorem dX8_partners_39 : decode cX8_partners 39 = .ok (.iload_n 1, 1) := by decide +kernel
theorem dX8_partners_40 : decode cX8_partners 40 = .ok (.if_icmp .eq 19, 3) := by decide +kernel
theorem dX8_partners_43 : decode cX8_partners 43 = .ok (.aload_n 0, 1) := by decide +kernel
theorem dX8_partners_44 : decode cX8_partners 44 = .ok (.iload_n 1, 1) := by decide +kernel
theorem dX8_partners_45 : decode cX8_partners 45 = .ok (.iload_n 3, 1) := by decide +kernel
theorem dX8_partners_46 : decode cX8_partners 46 = .ok (.invokevirtual 144, 3) := by decide +kernel
theorem dX8_partners_49 : decode cX8_partners 49 = .ok (.ifCond .ne 10, 3) := by decide +kernel
theorem dX8_partners_52 : decode cX8_partners 52 = .ok (.iload_n 3, 1) := by decide +kernel
theorem dX8_partners_53 : decode cX8_partners 53 = .ok (.invokestatic 64, 3) := by decide +kernel
theorem dX8_partners_56 : decode cX8_partners 56 = .ok (.goto 4, 3) := by decide +kernel
theorem dX8_partners_59 : decode cX8_partners 59 = .ok (.iconst 0, 1) := by decide +kernel
theorem dX8_partners_60 : decode cX8_partners 60 = .ok (.ior, 1) := by decide +kernel
theorem dX8_partners_61 : decode cX8_partners 61 = .ok (.istore_n 2, 1) := by decide +kernel
theorem dX8_partners_62 : decode cX8_partners 62 = .ok (.iinc 3 1, 3) := by decide +kernel
theorem dX8_partners_65 : decode cX8_partners 65 = .ok (.goto (-38), 3) := by decide +kernel
theorem dX8_partners_68 : decode cX8_partners 68 = .ok (.iload_n 2, 1) := by decide +kernel
theorem dX8_partners_69 : decode cX8_partners 69 = .ok (.ireturn, 1) := by decide +kernel
set_option maxRecDepth 20000 in
theorem ggX8_reason_X8_fails : GoodIn wsX8_reason wsX8_fails := goodIn_r _ [6, 7, 8, 9, 10, 11, 12, 13, 14, 15, 16, 17, 18, 19, 20, 21, 22] (by decide +kernel) (by decide +kernel)
set_option maxRecDepth 20000 in
theorem gX8_reason_X8_fails : GoodIn wsX8_reason (wsV RX8 85 RX8 yX8_fails wsX8_fails) := goodIn_app (goodIn_of _ (by decide +kernel)) ggX8_reason_X8_fails
theorem dX8_reason_0 : decode cX8_reason 0 = .ok (.aload_n 0, 1) := by decide +kernel
theorem dX8_reason_1 : decode cX8_reason 1 = .ok (.iconst 1, 1) := by decide +kernel
theorem dX8_reason_2 : decode cX8_reason 2 = .ok (.aload_n 0, 1) := by decide +kernel
theorem dX8_reason_3 : decode cX8_reason 3 = .ok (.getfield 132, 3) := by decide +kernel
theorem dX8_reason_6 : decode cX8_reason 6 = .ok (.ifCond .ne 7, 3) := by decide +kernel
theorem dX8_reason_9 : decode cX8_reason 9 = .ok (.iconst 1, 1) := by decide +kernel
theorem dX8_reason_10 : decode cX8_reason 10 = .ok (.goto 4, 3) := by decide +kernel
theorem dX8_reason_13 : decode cX8_reason 13 = .ok (.iconst 0, 1) := by decide +kernel
theorem dX8_reason_14 : decode cX8_reason 14 = .ok (.invokevirtual 85, 3) := by decide +kernel
theorem dX8_reason_17 : decode cX8_reason 17 = .ok (.ifCond .eq 7, 3) := by decide +kernel
theorem dX8_reason_20 : decode cX8_reason 20 = .ok (.iconst 0, 1) := by decide +kernel
theorem dX8_reason_21 : decode cX8_reason 21 = .ok (.goto 7, 3) := by decide +kernel
theorem dX8_reason_24 : decode cX8_reason 24 = .ok (.aload_n 0, 1) := by decide +kernel
theorem dX8_reason_25 : decode cX8_reason 25 = .ok (.getfield 132, 3) := by decide +kernel
theorem dX8_reason_28 : decode cX8_reason 28 = .ok (.ireturn, 1) := by decide +kernel
theorem dX8_deedAt_0 : decode cX8_deedAt 0 = .ok (.aload_n 0, 1) := by decide +kernel
theorem dX8_deedAt_1 : decode cX8_deedAt 1 = .ok (.getfield 9, 3) := by decide +kernel
theorem dX8_deedAt_4 : decode cX8_deedAt 4 = .ok (.sipush 151, 3) := by decide +kernel
theorem dX8_deedAt_7 : decode cX8_deedAt 7 = .ok (.iload_n 1, 1) := by decide +kernel
theorem dX8_deedAt_8 : decode cX8_deedAt 8 = .ok (.iconst 4, 1) := by decide +kernel
theorem dX8_deedAt_9 : decode cX8_deedAt 9 = .ok (.imul, 1) := by decide +kernel
theorem dX8_deedAt_10 : decode cX8_deedAt 10 = .ok (.iadd, 1) := by decide +kernel
theorem dX8_deedAt_11 : decode cX8_deedAt 11 = .ok (.iload_n 2, 1) := by decide +kernel
theorem dX8_deedAt_12 : decode cX8_deedAt 12 = .ok (.iadd, 1) := by decide +kernel
theorem dX8_deedAt_13 : decode cX8_deedAt 13 = .ok (.iaload, 1) := by decide +kernel
theorem dX8_deedAt_14 : decode cX8_deedAt 14 = .ok (.ireturn, 1) := by decide +kernel
set_option maxRecDepth 20000 in
theorem ggX8_countDeeds_X8_deedAt : GoodIn wsX8_countDeeds wsX8_deedAt := goodIn_ca (goodIn_r _ [6, 1, 7, 8, 9, 10, 11, 12, 13, 14, 15, 16, 17, 18, 19, 20, 21] (by decide +kernel) (by decide +kernel)) (goodIn_sub (fun _ h => List.mem_cons_of_mem _ (List.mem_append_right _ h)) (by decide +kernel))
set_option maxRecDepth 20000 in
theorem gX8_countDeeds_X8_deedAt : GoodIn wsX8_countDeeds (wsV RX8 165 RX8 yX8_deedAt wsX8_deedAt) := goodIn_app (goodIn_of _ (by decide +kernel)) ggX8_countDeeds_X8_deedAt
theorem dX8_countDeeds_0 : decode cX8_countDeeds 0 = .ok (.iconst 0, 1) := by decide +kernel
theorem dX8_countDeeds_1 : decode cX8_countDeeds 1 = .ok (.istore_n 2, 1) := by decide +kernel
theorem dX8_countDeeds_2 : decode cX8_countDeeds 2 = .ok (.iconst 0, 1) := by decide +kernel
theorem dX8_countDeeds_3 : decode cX8_countDeeds 3 = .ok (.istore_n 3, 1) := by decide +kernel
theorem dX8_countDeeds_4 : decode cX8_countDeeds 4 = .ok (.iload_n 3, 1) := by decide +kernel
theorem dX8_countDeeds_5 : decode cX8_countDeeds 5 = .ok (.aload_n 0, 1) := by decide +kernel
theorem dX8_countDeeds_6 : decode cX8_countDeeds 6 = .ok (.getfield 9, 3) := by decide +kernel
theorem dX8_countDeeds_9 : decode cX8_countDeeds 9 = .ok (.iconst 2, 1) := by decide +kernel
theorem dX8_countDeeds_10 : decode cX8_countDeeds 10 = .ok (.iaload, 1) := by decide +kernel
theorem dX8_countDeeds_11 : decode cX8_countDeeds 11 = .ok (.if_icmp .ge 27, 3) := by decide +kernel
theorem dX8_countDeeds_14 : decode cX8_countDeeds 14 = .ok (.iload_n 2, 1) := by decide +kernel
theorem dX8_countDeeds_15 : decode cX8_countDeeds 15 = .ok (.aload_n 0, 1) := by decide +kernel
theorem dX8_countDeeds_16 : decode cX8_countDeeds 16 = .ok (.iload_n 3, 1) := by decide +kernel
theorem dX8_countDeeds_17 : decode cX8_countDeeds 17 = .ok (.iconst 0, 1) := by decide +kernel
theorem dX8_countDeeds_18 : decode cX8_countDeeds 18 = .ok (.invokevirtual 165, 3) := by decide +kernel
theorem dX8_countDeeds_21 : decode cX8_countDeeds 21 = .ok (.iload_n 1, 1) := by decide +kernel
theorem dX8_countDeeds_22 : decode cX8_countDeeds 22 = .ok (.if_icmp .ne 7, 3) := by decide +kernel
theorem dX8_countDeeds_25 : decode cX8_countDeeds 25 = .ok (.iconst 1, 1) := by decide +kernel
theorem dX8_countDeeds_26 : decode cX8_countDeeds 26 = .ok (.goto 4, 3) := by decide +kernel
theorem dX8_countDeeds_29 : decode cX8_countDeeds 29 = .ok (.iconst 0, 1) := by decide +kernel
theorem dX8_countDeeds_30 : decode cX8_countDeeds 30 = .ok (.iadd, 1) := by decide +kernel
theorem dX8_countDeeds_31 : decode cX8_countDeeds 31 = .ok (.istore_n 2, 1) := by decide +kernel
theorem dX8_countDeeds_32 : decode cX8_countDeeds 32 = .ok (.iinc 3 1, 3) := by decide +kernel
theorem dX8_countDeeds_35 : decode cX8_countDeeds 35 = .ok (.goto (-31), 3) := by decide +kernel
theorem dX8_countDeeds_38 : decode cX8_countDeeds 38 = .ok (.iload_n 2, 1) := by decide +kernel
theorem dX8_countDeeds_39 : decode cX8_countDeeds 39 = .ok (.ireturn, 1) := by decide +kernel
set_option maxRecDepth 20000 in
theorem ggX8_holderAhead_X8_of : GoodIn wsX8_holderAhead wsX8_of := goodIn_ca (goodIn_r _ [5, 6, 11, 12, 13, 14, 15, 16, 17, 18, 19, 20, 21, 22, 23, 24, 25] (by decide +kernel) (by decide +kernel)) (goodIn_sub (fun _ h => List.mem_cons_of_mem _ (List.mem_append_right _ h)) (by decide +kernel))
set_option maxRecDepth 20000 in
theorem gX8_holderAhead_X8_of : GoodIn wsX8_holderAhead (wsV RX8 56 RX8 yX8_of wsX8_of) := goodIn_app (goodIn_of _ (by decide +kernel)) ggX8_holderAhead_X8_of
set_option maxRecDepth 20000 in
theorem ggX8_holderAhead_X8_deedAt : GoodIn wsX8_holderAhead wsX8_deedAt := goodIn_ca (goodIn_r _ [10, 6, 11, 12, 13, 14, 15, 16, 17, 18, 19, 20, 21, 22, 23, 24, 25] (by decide +kernel) (by decide +kernel)) (goodIn_sub (fun _ h => List.mem_cons_of_mem _ (List.mem_append_right _ h)) (by decide +kernel))
set_option maxRecDepth 20000 in
theorem gX8_holderAhead_X8_deedAt : GoodIn wsX8_holderAhead (wsV RX8 165 RX8 yX8_deedAt wsX8_deedAt) := goodIn_app (goodIn_of _ (by decide +kernel)) ggX8_holderAhead_X8_deedAt
theorem dX8_holderAhead_0 : decode cX8_holderAhead 0 = .ok (.aload_n 0, 1) := by decide +kernel
theorem dX8_holderAhead_1 : decode cX8_holderAhead 1 = .ok (.iload_n 1, 1) := by decide +kernel
theorem dX8_holderAhead_2 : decode cX8_holderAhead 2 = .ok (.iconst 5, 1) := by decide +kernel
theorem dX8_holderAhead_3 : decode cX8_holderAhead 3 = .ok (.invokevirtual 56, 3) := by decide +kernel
theorem dX8_holderAhead_6 : decode cX8_holderAhead 6 = .ok (.istore 4, 2) := by decide +kernel
theorem dX8_holderAhead_8 : decode cX8_holderAhead 8 = .ok (.iconst 0, 1) := by decide +kernel
theorem dX8_holderAhead_9 : decode cX8_holderAhead 9 = .ok (.istore 5, 2) := by decide +kernel
theorem dX8_holderAhead_11 : decode cX8_holderAhead 11 = .ok (.iload 5, 2) := by decide +kernel
theorem dX8_holderAhead_13 : decode cX8_holderAhead 13 = .ok (.iload_n 3, 1) := by decide +kernel
theorem dX8_holderAhead_14 : decode cX8_holderAhead 14 = .ok (.if_icmp .ge 69, 3) := by decide +kernel
theorem dX8_holderAhead_17 : decode cX8_holderAhead 17 = .ok (.aload_n 0, 1) := by decide +kernel
theorem dX8_holderAhead_18 : decode cX8_holderAhead 18 = .ok (.iload 5, 2) := by decide +kernel
theorem dX8_holderAhead_20 : decode cX8_holderAhead 20 = .ok (.iconst 0, 1) := by decide +kernel
theorem dX8_holderAhead_21 : decode cX8_holderAhead 21 = .ok (.invokevirtual 165, 3) := by decide +kernel
theorem dX8_holderAhead_24 : decode cX8_holderAhead 24 = .ok (.iload_n 1, 1) := by decide +kernel
theorem dX8_holderAhead_25 : decode cX8_holderAhead 25 = .ok (.if_icmp .ne 18, 3) := by decide +kernel
theorem dX8_holderAhead_28 : decode cX8_holderAhead 28 = .ok (.aload_n 0, 1) := by decide +kernel
theorem dX8_holderAhead_29 : decode cX8_holderAhead 29 = .ok (.iload 5, 2) := by decide +kernel
theorem dX8_holderAhead_31 : decode cX8_holderAhead 31 = .ok (.iconst 3, 1) := by decide +kernel
theorem dX8_holderAhead_32 : decode cX8_holderAhead 32 = .ok (.invokevirtual 165, 3) := by decide +kernel
theorem dX8_holderAhead_35 : decode cX8_holderAhead 35 = .ok (.iload_n 2, 1) := by decide +kernel
theorem dX8_holderAhead_36 : decode cX8_holderAhead 36 = .ok (.if_icmp .gt 7, 3) := by decide +kernel
theorem dX8_holderAhead_39 : decode cX8_holderAhead 39 = .ok (.iconst 1, 1) := by decide +kernel
theorem dX8_holderAhead_40 : decode cX8_holderAhead 40 = .ok (.goto 4, 3) := by decide +kernel
theorem dX8_holderAhead_43 : decode cX8_holderAhead 43 = .ok (.iconst 0, 1) := by decide +kernel
theorem dX8_holderAhead_44 : decode cX8_holderAhead 44 = .ok (.istore 6, 2) := by decide +kernel
theorem dX8_holderAhead_46 : decode cX8_holderAhead 46 = .ok (.iload 6, 2) := by decide +kernel
theorem dX8_holderAhead_48 : decode cX8_holderAhead 48 = .ok (.ifCond .eq 25, 3) := by decide +kernel
theorem dX8_holderAhead_51 : decode cX8_holderAhead 51 = .ok (.aload_n 0, 1) := by decide +kernel
theorem dX8_holderAhead_52 : decode cX8_holderAhead 52 = .ok (.iload 5, 2) := by decide +kernel
theorem dX8_holderAhead_54 : decode cX8_holderAhead 54 = .ok (.iconst 1, 1) := by decide +kernel
theorem dX8_holderAhead_55 : decode cX8_holderAhead 55 = .ok (.invokevirtual 165, 3) := by decide +kernel
theorem dX8_holderAhead_58 : decode cX8_holderAhead 58 = .ok (.iload 4, 2) := by decide +kernel
theorem dX8_holderAhead_60 : decode cX8_holderAhead 60 = .ok (.if_icmp .ne 13, 3) := by decide +kernel
theorem dX8_holderAhead_63 : decode cX8_holderAhead 63 = .ok (.aload_n 0, 1) := by decide +kernel
theorem dX8_holderAhead_64 : decode cX8_holderAhead 64 = .ok (.iload 5, 2) := by decide +kernel
theorem dX8_holderAhead_66 : decode cX8_holderAhead 66 = .ok (.iconst 2, 1) := by decide +kernel
theorem dX8_holderAhead_67 : decode cX8_holderAhead 67 = .ok (.invokevirtual 165, 3) := by decide +kernel
theorem dX8_holderAhead_70 : decode cX8_holderAhead 70 = .ok (.goto 5, 3) := by decide +kernel
theorem dX8_holderAhead_73 : decode cX8_holderAhead 73 = .ok (.iload 4, 2) := by decide +kernel
theorem dX8_holderAhead_75 : decode cX8_holderAhead 75 = .ok (.istore 4, 2) := by decide +kernel
theorem dX8_holderAhead_77 : decode cX8_holderAhead 77 = .ok (.iinc 5 1, 3) := by decide +kernel
theorem dX8_holderAhead_80 : decode cX8_holderAhead 80 = .ok (.goto (-69), 3) := by decide +kernel
theorem dX8_holderAhead_83 : decode cX8_holderAhead 83 = .ok (.iload 4, 2) := by decide +kernel
theorem dX8_holderAhead_85 : decode cX8_holderAhead 85 = .ok (.ireturn, 1) := by decide +kernel
set_option maxRecDepth 20000 in
theorem ggX8_holderOf_X8_holderAhead : GoodIn wsX8_holderOf wsX8_holderAhead := goodIn_ca (goodIn_r _ [6, 7, 8, 9, 5, 10, 1, 11, 12, 13, 14, 15, 16, 17, 18, 19, 20, 21, 22, 23, 24, 25, 26, 27, 28, 29] (by decide +kernel) (by decide +kernel)) (goodIn_sub (fun _ h => List.mem_cons_of_mem _ (List.mem_append_right _ h)) (by decide +kernel))
set_option maxRecDepth 20000 in
theorem gX8_holderOf_X8_holderAhead : GoodIn wsX8_holderOf (wsV RX8 168 RX8 yX8_holderAhead wsX8_holderAhead) := goodIn_app (goodIn_of _ (by decide +kernel)) ggX8_holderOf_X8_holderAhead
theorem dX8_holderOf_0 : decode cX8_holderOf 0 = .ok (.aload_n 0, 1) := by decide +kernel
theorem dX8_holderOf_1 : decode cX8_holderOf 1 = .ok (.iload_n 1, 1) := by decide +kernel
theorem dX8_holderOf_2 : decode cX8_holderOf 2 = .ok (.sipush 9999, 3) := by decide +kernel
theorem dX8_holderOf_5 : decode cX8_holderOf 5 = .ok (.aload_n 0, 1) := by decide +kernel
theorem dX8_holderOf_6 : decode cX8_holderOf 6 = .ok (.getfield 9, 3) := by decide +kernel
theorem dX8_holderOf_9 : decode cX8_holderOf 9 = .ok (.iconst 2, 1) := by decide +kernel
theorem dX8_holderOf_10 : decode cX8_holderOf 10 = .ok (.iaload, 1) := by decide +kernel
theorem dX8_holderOf_11 : decode cX8_holderOf 11 = .ok (.invokevirtual 168, 3) := by decide +kernel
theorem dX8_holderOf_14 : decode cX8_holderOf 14 = .ok (.ireturn, 1) := by decide +kernel
set_option maxRecDepth 20000 in
theorem ggX8_isGood_X8_deedAt : GoodIn wsX8_isGood wsX8_deedAt := goodIn_ca (goodIn_r _ [5, 6, 15, 16, 17, 18, 19, 20, 21, 22, 23, 24, 25, 26, 27, 28, 29] (by decide +kernel) (by decide +kernel)) (goodIn_sub (fun _ h => List.mem_cons_of_mem _ (List.mem_append_right _ h)) (by decide +kernel))
set_option maxRecDepth 20000 in
theorem gX8_isGood_X8_deedAt : GoodIn wsX8_isGood (wsV RX8 165 RX8 yX8_deedAt wsX8_deedAt) := goodIn_app (goodIn_of _ (by decide +kernel)) ggX8_isGood_X8_deedAt
set_option maxRecDepth 20000 in
theorem ggX8_isGood_X8_holderAhead : GoodIn wsX8_isGood wsX8_holderAhead := goodIn_ca (goodIn_r _ [10, 11, 12, 13, 4, 14, 6, 1, 2, 3, 5, 15, 16, 17, 18, 19, 20, 21, 22, 23, 24, 25, 26, 27, 28, 29] (by decide +kernel) (by decide +kernel)) (goodIn_sub (fun _ h => List.mem_cons_of_mem _ (List.mem_append_right _ h)) (by decide +kernel))
set_option maxRecDepth 20000 in
theorem gX8_isGood_X8_holderAhead : GoodIn wsX8_isGood (wsV RX8 168 RX8 yX8_holderAhead wsX8_holderAhead) := goodIn_app (goodIn_of _ (by decide +kernel)) ggX8_isGood_X8_holderAhead
theorem dX8_isGood_0 : decode cX8_isGood 0 = .ok (.aload_n 0, 1) := by decide +kernel
theorem dX8_isGood_1 : decode cX8_isGood 1 = .ok (.iload_n 1, 1) := by decide +kernel
theorem dX8_isGood_2 : decode cX8_isGood 2 = .ok (.iconst 1, 1) := by decide +kernel
theorem dX8_isGood_3 : decode cX8_isGood 3 = .ok (.invokevirtual 165, 3) := by decide +kernel
theorem dX8_isGood_6 : decode cX8_isGood 6 = .ok (.aload_n 0, 1) := by decide +kernel
theorem dX8_isGood_7 : decode cX8_isGood 7 = .ok (.aload_n 0, 1) := by decide +kernel
theorem dX8_isGood_8 : decode cX8_isGood 8 = .ok (.iload_n 1, 1) := by decide +kernel
theorem dX8_isGood_9 : decode cX8_isGood 9 = .ok (.iconst 0, 1) := by decide +kernel
theorem dX8_isGood_10 : decode cX8_isGood 10 = .ok (.invokevirtual 165, 3) := by decide +kernel
theorem dX8_isGood_13 : decode cX8_isGood 13 = .ok (.sipush 9999, 3) := by decide +kernel
theorem dX8_isGood_16 : decode cX8_isGood 16 = .ok (.iload_n 1, 1) := by decide +kernel
theorem dX8_isGood_17 : decode cX8_isGood 17 = .ok (.invokevirtual 168, 3) := by decide +kernel
theorem dX8_isGood_20 : decode cX8_isGood 20 = .ok (.if_icmp .ne 7, 3) := by decide +kernel
theorem dX8_isGood_23 : decode cX8_isGood 23 = .ok (.iconst 1, 1) := by decide +kernel
theorem dX8_isGood_24 : decode cX8_isGood 24 = .ok (.goto 4, 3) := by decide +kernel
theorem dX8_isGood_27 : decode cX8_isGood 27 = .ok (.iconst 0, 1) := by decide +kernel
theorem dX8_isGood_28 : decode cX8_isGood 28 = .ok (.ireturn, 1) := by decide +kernel
set_option maxRecDepth 20000 in
theorem ggX8_countGaps_X8_deedAt : GoodIn wsX8_countGaps wsX8_deedAt := goodIn_ca (goodIn_r _ [6, 1, 19, 20, 21, 22, 23, 24, 25, 26, 27, 28, 29, 30, 31, 32, 33] (by decide +kernel) (by decide +kernel)) (goodIn_sub (fun _ h => List.mem_cons_of_mem _ (List.mem_append_right _ h)) (by decide +kernel))
set_option maxRecDepth 20000 in
theorem gX8_countGaps_X8_deedAt : GoodIn wsX8_countGaps (wsV RX8 165 RX8 yX8_deedAt wsX8_deedAt) := goodIn_app (goodIn_of _ (by decide +kernel)) ggX8_countGaps_X8_deedAt
set_option maxRecDepth 20000 in
theorem ggX8_countGaps_X8_isGood : GoodIn wsX8_countGaps wsX8_isGood := goodIn_ca (goodIn_r _ [10, 2, 3, 4, 5, 6, 1, 11, 12, 13, 14, 15, 16, 17, 18, 19, 20, 21, 22, 23, 24, 25, 26, 27, 28, 29, 30, 31, 32, 33] (by decide +kernel) (by decide +kernel)) (goodIn_sub (fun _ h => List.mem_cons_of_mem _ (List.mem_append_right _ h)) (by decide +kernel))
set_option maxRecDepth 20000 in
theorem gX8_countGaps_X8_isGood : GoodIn wsX8_countGaps (wsV RX8 171 RX8 yX8_isGood wsX8_isGood) := goodIn_app (goodIn_of _ (by decide +kernel)) ggX8_countGaps_X8_isGood
theorem dX8_countGaps_0 : decode cX8_countGaps 0 = .ok (.iconst 0, 1) := by decide +kernel
theorem dX8_countGaps_1 : decode cX8_countGaps 1 = .ok (.istore_n 2, 1) := by decide +kernel
theorem dX8_countGaps_2 : decode cX8_countGaps 2 = .ok (.iconst 0, 1) := by decide +kernel
theorem dX8_countGaps_3 : decode cX8_countGaps 3 = .ok (.istore_n 3, 1) := by decide +kernel
theorem dX8_countGaps_4 : decode cX8_countGaps 4 = .ok (.iload_n 3, 1) := by decide +kernel
theorem dX8_countGaps_5 : decode cX8_countGaps 5 = .ok (.aload_n 0, 1) := by decide +kernel
theorem dX8_countGaps_6 : decode cX8_countGaps 6 = .ok (.getfield 9, 3) := by decide +kernel
theorem dX8_countGaps_9 : decode cX8_countGaps 9 = .ok (.iconst 2, 1) := by decide +kernel
theorem dX8_countGaps_10 : decode cX8_countGaps 10 = .ok (.iaload, 1) := by decide +kernel
theorem dX8_countGaps_11 : decode cX8_countGaps 11 = .ok (.if_icmp .ge 35, 3) := by decide +kernel
theorem dX8_countGaps_14 : decode cX8_countGaps 14 = .ok (.iload_n 2, 1) := by decide +kernel
theorem dX8_countGaps_15 : decode cX8_countGaps 15 = .ok (.aload_n 0, 1) := by decide +kernel
theorem dX8_countGaps_16 : decode cX8_countGaps 16 = .ok (.iload_n 3, 1) := by decide +kernel
theorem dX8_countGaps_17 : decode cX8_countGaps 17 = .ok (.iconst 0, 1) := by decide +kernel
theorem dX8_countGaps_18 : decode cX8_countGaps 18 = .ok (.invokevirtual 165, 3) := by decide +kernel
theorem dX8_countGaps_21 : decode cX8_countGaps 21 = .ok (.iload_n 1, 1) := by decide +kernel
theorem dX8_countGaps_22 : decode cX8_countGaps 22 = .ok (.if_icmp .ne 15, 3) := by decide +kernel
theorem dX8_countGaps_25 : decode cX8_countGaps 25 = .ok (.aload_n 0, 1) := by decide +kernel
theorem dX8_countGaps_26 : decode cX8_countGaps 26 = .ok (.iload_n 3, 1) := by decide +kernel
theorem dX8_countGaps_27 : decode cX8_countGaps 27 = .ok (.invokevirtual 171, 3) := by decide +kernel
theorem dX8_countGaps_30 : decode cX8_countGaps 30 = .ok (.ifCond .ne 7, 3) := by decide +kernel
theorem dX8_countGaps_33 : decode cX8_countGaps 33 = .ok (.iconst 1, 1) := by decide +kernel
theorem dX8_countGaps_34 : decode cX8_countGaps 34 = .ok (.goto 4, 3) := by decide +kernel
theorem dX8_countGaps_37 : decode cX8_countGaps 37 = .ok (.iconst 0, 1) := by decide +kernel
theorem dX8_countGaps_38 : decode cX8_countGaps 38 = .ok (.iadd, 1) := by decide +kernel
theorem dX8_countGaps_39 : decode cX8_countGaps 39 = .ok (.istore_n 2, 1) := by decide +kernel
theorem dX8_countGaps_40 : decode cX8_countGaps 40 = .ok (.iinc 3 1, 3) := by decide +kernel
theorem dX8_countGaps_43 : decode cX8_countGaps 43 = .ok (.goto (-39), 3) := by decide +kernel
theorem dX8_countGaps_46 : decode cX8_countGaps 46 = .ok (.iload_n 2, 1) := by decide +kernel
theorem dX8_countGaps_47 : decode cX8_countGaps 47 = .ok (.ireturn, 1) := by decide +kernel
set_option maxRecDepth 20000 in
theorem ggX8_doDeed_X8_deedAt : GoodIn wsX8_doDeed wsX8_deedAt := goodIn_ca (goodIn_r _ [6, 1, 19, 20, 21, 22, 23, 24, 25, 26, 27, 28, 29, 30, 31, 32, 33] (by decide +kernel) (by decide +kernel)) (goodIn_sub (fun _ h => List.mem_cons_of_mem _ (List.mem_append_right _ h)) (by decide +kernel))
set_option maxRecDepth 20000 in
theorem gX8_doDeed_X8_deedAt : GoodIn wsX8_doDeed (wsV RX8 165 RX8 yX8_deedAt wsX8_deedAt) := goodIn_app (goodIn_of _ (by decide +kernel)) ggX8_doDeed_X8_deedAt
set_option maxRecDepth 20000 in
theorem ggX8_doDeed_X8_isGood : GoodIn wsX8_doDeed wsX8_isGood := goodIn_ca (goodIn_r _ [10, 2, 3, 4, 5, 6, 1, 11, 12, 13, 14, 15, 16, 17, 18, 19, 20, 21, 22, 23, 24, 25, 26, 27, 28, 29, 30, 31, 32, 33] (by decide +kernel) (by decide +kernel)) (goodIn_sub (fun _ h => List.mem_cons_of_mem _ (List.mem_append_right _ h)) (by decide +kernel))
set_option maxRecDepth 20000 in
theorem gX8_doDeed_X8_isGood : GoodIn wsX8_doDeed (wsV RX8 171 RX8 yX8_isGood wsX8_isGood) := goodIn_app (goodIn_of _ (by decide +kernel)) ggX8_doDeed_X8_isGood
theorem dX8_doDeed_0 : decode cX8_doDeed 0 = .ok (.aload_n 0, 1) := by decide +kernel
theorem dX8_doDeed_1 : decode cX8_doDeed 1 = .ok (.getfield 9, 3) := by decide +kernel
theorem dX8_doDeed_4 : decode cX8_doDeed 4 = .ok (.iconst 2, 1) := by decide +kernel
theorem dX8_doDeed_5 : decode cX8_doDeed 5 = .ok (.iaload, 1) := by decide +kernel
theorem dX8_doDeed_6 : decode cX8_doDeed 6 = .ok (.istore 5, 2) := by decide +kernel
theorem dX8_doDeed_8 : decode cX8_doDeed 8 = .ok (.aload_n 0, 1) := by decide +kernel
theorem dX8_doDeed_9 : decode cX8_doDeed 9 = .ok (.getfield 9, 3) := by decide +kernel
theorem dX8_doDeed_12 : decode cX8_doDeed 12 = .ok (.iconst 2, 1) := by decide +kernel
theorem dX8_doDeed_13 : decode cX8_doDeed 13 = .ok (.iaload, 1) := by decide +kernel
theorem dX8_doDeed_14 : decode cX8_doDeed 14 = .ok (.iconst 1, 1) := by decide +kernel
theorem dX8_doDeed_15 : decode cX8_doDeed 15 = .ok (.isub, 1) := by decide +kernel
theorem dX8_doDeed_16 : decode cX8_doDeed 16 = .ok (.istore 6, 2) := by decide +kernel
theorem dX8_doDeed_18 : decode cX8_doDeed 18 = .ok (.iload 6, 2) := by decide +kernel
theorem dX8_doDeed_20 : decode cX8_doDeed 20 = .ok (.ifCond .lt 41, 3) := by decide +kernel
theorem dX8_doDeed_23 : decode cX8_doDeed 23 = .ok (.aload_n 0, 1) := by decide +kernel
theorem dX8_doDeed_24 : decode cX8_doDeed 24 = .ok (.iload 6, 2) := by decide +kernel
theorem dX8_doDeed_26 : decode cX8_doDeed 26 = .ok (.iconst 0, 1) := by decide +kernel
theorem dX8_doDeed_27 : decode cX8_doDeed 27 = .ok (.invokevirtual 165, 3) := by decide +kernel
theorem dX8_doDeed_30 : decode cX8_doDeed 30 = .ok (.iload_n 1, 1) := by decide +kernel
theorem dX8_doDeed_31 : decode cX8_doDeed 31 = .ok (.if_icmp .ne 20, 3) := by decide +kernel
theorem dX8_doDeed_34 : decode cX8_doDeed 34 = .ok (.aload_n 0, 1) := by decide +kernel
theorem dX8_doDeed_35 : decode cX8_doDeed 35 = .ok (.iload 6, 2) := by decide +kernel
theorem dX8_doDeed_37 : decode cX8_doDeed 37 = .ok (.iconst 3, 1) := by decide +kernel
theorem dX8_doDeed_38 : decode cX8_doDeed 38 = .ok (.invokevirtual 165, 3) := by decide +kernel
theorem dX8_doDeed_41 : decode cX8_doDeed 41 = .ok (.iload 4, 2) := by decide +kernel
theorem dX8_doDeed_43 : decode cX8_doDeed 43 = .ok (.if_icmp .le 8, 3) := by decide +kernel
theorem dX8_doDeed_46 : decode cX8_doDeed 46 = .ok (.iload 6, 2) := by decide +kernel
theorem dX8_doDeed_48 : decode cX8_doDeed 48 = .ok (.goto 5, 3) := by decide +kernel
theorem dX8_doDeed_51 : decode cX8_doDeed 51 = .ok (.iload 5, 2) := by decide +kernel
theorem dX8_doDeed_53 : decode cX8_doDeed 53 = .ok (.istore 5, 2) := by decide +kernel
theorem dX8_doDeed_55 : decode cX8_doDeed 55 = .ok (.iinc 6 (-1), 3) := by decide +kernel
theorem dX8_doDeed_58 : decode cX8_doDeed 58 = .ok (.goto (-40), 3) := by decide +kernel
theorem dX8_doDeed_61 : decode cX8_doDeed 61 = .ok (.sipush 151, 3) := by decide +kernel
theorem dX8_doDeed_64 : decode cX8_doDeed 64 = .ok (.aload_n 0, 1) := by decide +kernel
theorem dX8_doDeed_65 : decode cX8_doDeed 65 = .ok (.getfield 9, 3) := by decide +kernel
theorem dX8_doDeed_68 : decode cX8_doDeed 68 = .ok (.iconst 2, 1) := by decide +kernel
theorem dX8_doDeed_69 : decode cX8_doDeed 69 = .ok (.iaload, 1) := by decide +kernel
theorem dX8_doDeed_70 : decode cX8_doDeed 70 = .ok (.iconst 1, 1) := by decide +kernel
theorem dX8_doDeed_71 : decode cX8_doDeed 71 = .ok (.iadd, 1) := by decide +kernel
theorem dX8_doDeed_72 : decode cX8_doDeed 72 = .ok (.iconst 4, 1) := by decide +kernel
theorem dX8_doDeed_73 : decode cX8_doDeed 73 = .ok (.imul, 1) := by decide +kernel
theorem dX8_doDeed_74 : decode cX8_doDeed 74 = .ok (.iadd, 1) := by decide +kernel
theorem dX8_doDeed_75 : decode cX8_doDeed 75 = .ok (.iconst 1, 1) := by decide +kernel
theorem dX8_doDeed_76 : decode cX8_doDeed 76 = .ok (.isub, 1) := by decide +kernel
theorem dX8_doDeed_77 : decode cX8_doDeed 77 = .ok (.istore 6, 2) := by decide +kernel
theorem dX8_doDeed_79 : decode cX8_doDeed 79 = .ok (.iload 6, 2) := by decide +kernel
theorem dX8_doDeed_81 : decode cX8_doDeed 81 = .ok (.sipush 151, 3) := by decide +kernel
theorem dX8_doDeed_84 : decode cX8_doDeed 84 = .ok (.iload 5, 2) := by decide +kernel
theorem dX8_doDeed_86 : decode cX8_doDeed 86 = .ok (.iconst 1, 1) := by decide +kernel
theorem dX8_doDeed_87 : decode cX8_doDeed 87 = .ok (.iadd, 1) := by decide +kernel
theorem dX8_doDeed_88 : decode cX8_doDeed 88 = .ok (.iconst 4, 1) := by decide +kernel
theorem dX8_doDeed_89 : decode cX8_doDeed 89 = .ok (.imul, 1) := by decide +kernel
theorem dX8_doDeed_90 : decode cX8_doDeed 90 = .ok (.iadd, 1) := by decide +kernel
theorem dX8_doDeed_91 : decode cX8_doDeed 91 = .ok (.if_icmp .lt 25, 3) := by decide +kernel
theorem dX8_doDeed_94 : decode cX8_doDeed 94 = .ok (.aload_n 0, 1) := by decide +kernel
theorem dX8_doDeed_95 : decode cX8_doDeed 95 = .ok (.getfield 9, 3) := by decide +kernel
theorem dX8_doDeed_98 : decode cX8_doDeed 98 = .ok (.iload 6, 2) := by decide +kernel
theorem dX8_doDeed_100 : decode cX8_doDeed 100 = .ok (.aload_n 0, 1) := by decide +kernel
theorem dX8_doDeed_101 : decode cX8_doDeed 101 = .ok (.getfield 9, 3) := by decide +kernel
theorem dX8_doDeed_104 : decode cX8_doDeed 104 = .ok (.iload 6, 2) := by decide +kernel
theorem dX8_doDeed_106 : decode cX8_doDeed 106 = .ok (.iconst 4, 1) := by decide +kernel
theorem dX8_doDeed_107 : decode cX8_doDeed 107 = .ok (.isub, 1) := by decide +kernel
theorem dX8_doDeed_108 : decode cX8_doDeed 108 = .ok (.iaload, 1) := by decide +kernel
theorem dX8_doDeed_109 : decode cX8_doDeed 109 = .ok (.iastore, 1) := by decide +kernel
theorem dX8_doDeed_110 : decode cX8_doDeed 110 = .ok (.iinc 6 (-1), 3) := by decide +kernel
theorem dX8_doDeed_113 : decode cX8_doDeed 113 = .ok (.goto (-34), 3) := by decide +kernel
theorem dX8_doDeed_116 : decode cX8_doDeed 116 = .ok (.sipush 151, 3) := by decide +kernel
theorem dX8_doDeed_119 : decode cX8_doDeed 119 = .ok (.iload 5, 2) := by decide +kernel
theorem dX8_doDeed_121 : decode cX8_doDeed 121 = .ok (.iconst 4, 1) := by decide +kernel
theorem dX8_doDeed_122 : decode cX8_doDeed 122 = .ok (.imul, 1) := by decide +kernel
theorem dX8_doDeed_123 : decode cX8_doDeed 123 = .ok (.iadd, 1) := by decide +kernel
theorem dX8_doDeed_124 : decode cX8_doDeed 124 = .ok (.istore 6, 2) := by decide +kernel
theorem dX8_doDeed_126 : decode cX8_doDeed 126 = .ok (.aload_n 0, 1) := by decide +kernel
theorem dX8_doDeed_127 : decode cX8_doDeed 127 = .ok (.getfield 9, 3) := by decide +kernel
theorem dX8_doDeed_130 : decode cX8_doDeed 130 = .ok (.iload 6, 2) := by decide +kernel
theorem dX8_doDeed_132 : decode cX8_doDeed 132 = .ok (.iconst 0, 1) := by decide +kernel
theorem dX8_doDeed_133 : decode cX8_doDeed 133 = .ok (.iadd, 1) := by decide +kernel
theorem dX8_doDeed_134 : decode cX8_doDeed 134 = .ok (.iload_n 1, 1) := by decide +kernel
theorem dX8_doDeed_135 : decode cX8_doDeed 135 = .ok (.iastore, 1) := by decide +kernel
theorem dX8_doDeed_136 : decode cX8_doDeed 136 = .ok (.aload_n 0, 1) := by decide +kernel
theorem dX8_doDeed_137 : decode cX8_doDeed 137 = .ok (.getfield 9, 3) := by decide +kernel
theorem dX8_doDeed_140 : decode cX8_doDeed 140 = .ok (.iload 6, 2) := by decide +kernel
theorem dX8_doDeed_142 : decode cX8_doDeed 142 = .ok (.iconst 1, 1) := by decide +kernel
theorem dX8_doDeed_143 : decode cX8_doDeed 143 = .ok (.iadd, 1) := by decide +kernel
theorem dX8_doDeed_144 : decode cX8_doDeed 144 = .ok (.iload_n 2, 1) := by decide +kernel
theorem dX8_doDeed_145 : decode cX8_doDeed 145 = .ok (.iastore, 1) := by decide +kernel
theorem dX8_doDeed_146 : decode cX8_doDeed 146 = .ok (.aload_n 0, 1) := by decide +kernel
theorem dX8_doDeed_147 : decode cX8_doDeed 147 = .ok (.getfield 9, 3) := by decide +kernel
theorem dX8_doDeed_150 : decode cX8_doDeed 150 = .ok (.iload 6, 2) := by decide +kernel
theorem dX8_doDeed_152 : decode cX8_doDeed 152 = .ok (.iconst 2, 1) := by decide +kernel
theorem dX8_doDeed_153 : decode cX8_doDeed 153 = .ok (.iadd, 1) := by decide +kernel
theorem dX8_doDeed_154 : decode cX8_doDeed 154 = .ok (.iload_n 3, 1) := by decide +kernel
theorem dX8_doDeed_155 : decode cX8_doDeed 155 = .ok (.iastore, 1) := by decide +kernel
theorem dX8_doDeed_156 : decode cX8_doDeed 156 = .ok (.aload_n 0, 1) := by decide +kernel
theorem dX8_doDeed_157 : decode cX8_doDeed 157 = .ok (.getfield 9, 3) := by decide +kernel
theorem dX8_doDeed_160 : decode cX8_doDeed 160 = .ok (.iload 6, 2) := by decide +kernel
theorem dX8_doDeed_162 : decode cX8_doDeed 162 = .ok (.iconst 3, 1) := by decide +kernel
theorem dX8_doDeed_163 : decode cX8_doDeed 163 = .ok (.iadd, 1) := by decide +kernel
theorem dX8_doDeed_164 : decode cX8_doDeed 164 = .ok (.iload 4, 2) := by decide +kernel
theorem dX8_doDeed_166 : decode cX8_doDeed 166 = .ok (.iastore, 1) := by decide +kernel
theorem dX8_doDeed_167 : decode cX8_doDeed 167 = .ok (.aload_n 0, 1) := by decide +kernel
theorem dX8_doDeed_168 : decode cX8_doDeed 168 = .ok (.getfield 9, 3) := by decide +kernel
theorem dX8_doDeed_171 : decode cX8_doDeed 171 = .ok (.iconst 2, 1) := by decide +kernel
theorem dX8_doDeed_172 : decode cX8_doDeed 172 = .ok (.dup2, 1) := by decide +kernel
theorem dX8_doDeed_173 : decode cX8_doDeed 173 = .ok (.iaload, 1) := by decide +kernel
theorem dX8_doDeed_174 : decode cX8_doDeed 174 = .ok (.iconst 1, 1) := by decide +kernel
theorem dX8_doDeed_175 : decode cX8_doDeed 175 = .ok (.iadd, 1) := by decide +kernel
theorem dX8_doDeed_176 : decode cX8_doDeed 176 = .ok (.iastore, 1) := by decide +kernel
theorem dX8_doDeed_177 : decode cX8_doDeed 177 = .ok (.aload_n 0, 1) := by decide +kernel
theorem dX8_doDeed_178 : decode cX8_doDeed 178 = .ok (.iload 5, 2) := by decide +kernel
theorem dX8_doDeed_180 : decode cX8_doDeed 180 = .ok (.invokevirtual 171, 3) := by decide +kernel
theorem dX8_doDeed_183 : decode cX8_doDeed 183 = .ok (.ireturn, 1) := by decide +kernel
set_option maxRecDepth 20000 in
theorem ggX8_takesNoDeed_X8_isPresent : GoodIn wsX8_takesNoDeed wsX8_isPresent := goodIn_ca (goodIn_r _ [6, 7, 8, 9, 5, 10, 1, 11, 12, 13, 14, 15, 16, 17, 18, 19, 20, 21, 22, 23, 24, 25, 26, 27, 28, 29, 30, 31, 32] (by decide +kernel) (by decide +kernel)) (goodIn_sub (fun _ h => List.mem_cons_of_mem _ (List.mem_append_right _ h)) (by decide +kernel))
set_option maxRecDepth 20000 in
theorem gX8_takesNoDeed_X8_isPresent : GoodIn wsX8_takesNoDeed (wsV RX8 76 RX8 yX8_isPresent wsX8_isPresent) := goodIn_app (goodIn_of _ (by decide +kernel)) ggX8_takesNoDeed_X8_isPresent
theorem dX8_takesNoDeed_0 : decode cX8_takesNoDeed 0 = .ok (.aload_n 0, 1) := by decide +kernel
theorem dX8_takesNoDeed_1 : decode cX8_takesNoDeed 1 = .ok (.iload_n 1, 1) := by decide +kernel
theorem dX8_takesNoDeed_2 : decode cX8_takesNoDeed 2 = .ok (.invokevirtual 76, 3) := by decide +kernel
theorem dX8_takesNoDeed_5 : decode cX8_takesNoDeed 5 = .ok (.ifCond .eq 14, 3) := by decide +kernel
theorem dX8_takesNoDeed_8 : decode cX8_takesNoDeed 8 = .ok (.aload_n 0, 1) := by decide +kernel
theorem dX8_takesNoDeed_9 : decode cX8_takesNoDeed 9 = .ok (.getfield 9, 3) := by decide +kernel
theorem dX8_takesNoDeed_12 : decode cX8_takesNoDeed 12 = .ok (.iconst 2, 1) := by decide +kernel
theorem dX8_takesNoDeed_13 : decode cX8_takesNoDeed 13 = .ok (.iaload, 1) := by decide +kernel
theorem dX8_takesNoDeed_14 : decode cX8_takesNoDeed 14 = .ok (.bipush 60, 2) := by decide +kernel
theorem dX8_takesNoDeed_16 : decode cX8_takesNoDeed 16 = .ok (.if_icmp .ne 7, 3) := by decide +kernel
theorem dX8_takesNoDeed_19 : decode cX8_takesNoDeed 19 = .ok (.iconst 1, 1) := by decide +kernel
theorem dX8_takesNoDeed_20 : decode cX8_takesNoDeed 20 = .ok (.goto 4, 3) := by decide +kernel
theorem dX8_takesNoDeed_23 : decode cX8_takesNoDeed 23 = .ok (.iconst 0, 1) := by decide +kernel
theorem dX8_takesNoDeed_24 : decode cX8_takesNoDeed 24 = .ok (.ireturn, 1) := by decide +kernel
set_option maxRecDepth 20000 in
theorem ggX8_deed_X8_isParcel : GoodIn wsX8_deed wsX8_isParcel := goodIn_ca (goodIn_r _ [6, 1, 7, 8, 5, 9, 55, 56, 57, 58, 59, 60, 61, 62, 63, 64, 65, 66, 67, 68, 69] (by decide +kernel) (by decide +kernel)) (goodIn_sub (fun _ h => List.mem_cons_of_mem _ (List.mem_append_right _ h)) (by decide +kernel))
set_option maxRecDepth 20000 in
theorem gX8_deed_X8_isParcel : GoodIn wsX8_deed (wsV RX8 52 RX8 yX8_isParcel wsX8_isParcel) := goodIn_app (goodIn_of _ (by decide +kernel)) ggX8_deed_X8_isParcel
set_option maxRecDepth 20000 in
theorem ggX8_deed_X8_fails : GoodIn wsX8_deed wsX8_fails := goodIn_r _ [13, 14, 55, 56, 57, 58, 59, 60, 61, 62, 63, 64, 65, 66, 67, 68, 69] (by decide +kernel) (by decide +kernel)
set_option maxRecDepth 20000 in
theorem gX8_deed_X8_fails : GoodIn wsX8_deed (wsV RX8 85 RX8 yX8_fails wsX8_fails) := goodIn_app (goodIn_of _ (by decide +kernel)) ggX8_deed_X8_fails
set_option maxRecDepth 20000 in
theorem ggX8_deed_X8_isPerson : GoodIn wsX8_deed wsX8_isPerson := goodIn_r _ [17, 7, 8, 5, 9] (by decide +kernel) (by decide +kernel)
set_option maxRecDepth 20000 in
theorem gX8_deed_X8_isPerson : GoodIn wsX8_deed (va_wsS RX8 82 yX8_isPerson wsX8_isPerson) := goodIn_app (goodIn_of _ (by decide +kernel)) ggX8_deed_X8_isPerson
set_option maxRecDepth 20000 in
theorem ggX8_deed_X8_of : GoodIn wsX8_deed wsX8_of := goodIn_ca (goodIn_r _ [21, 1, 55, 56, 57, 58, 59, 60, 61, 62, 63, 64, 65, 66, 67, 68, 69] (by decide +kernel) (by decide +kernel)) (goodIn_sub (fun _ h => List.mem_cons_of_mem _ (List.mem_append_right _ h)) (by decide +kernel))
set_option maxRecDepth 20000 in
theorem gX8_deed_X8_of : GoodIn wsX8_deed (wsV RX8 56 RX8 yX8_of wsX8_of) := goodIn_app (goodIn_of _ (by decide +kernel)) ggX8_deed_X8_of
set_option maxRecDepth 20000 in
theorem ggX8_deed_X8_isBetween : GoodIn wsX8_deed wsX8_isBetween := goodIn_r _ [9] (by decide +kernel) (by decide +kernel)
set_option maxRecDepth 20000 in
theorem gX8_deed_X8_isBetween : GoodIn wsX8_deed (va_wsS RX8 48 yX8_isBetween wsX8_isBetween) := goodIn_app (goodIn_of _ (by decide +kernel)) ggX8_deed_X8_isBetween
set_option maxRecDepth 20000 in
theorem ggX8_deed_X8_takesNoDeed : GoodIn wsX8_deed wsX8_takesNoDeed := goodIn_ca (goodIn_r _ [25, 1, 26, 27, 28, 5, 29, 2, 3, 4, 6, 7, 8, 9, 18, 19, 20, 21, 55, 56, 57, 58, 59, 60, 61, 62, 63, 64, 65, 66, 67, 68, 69] (by decide +kernel) (by decide +kernel)) (goodIn_sub (fun _ h => List.mem_cons_of_mem _ (List.mem_append_right _ h)) (by decide +kernel))
set_option maxRecDepth 20000 in
theorem gX8_deed_X8_takesNoDeed : GoodIn wsX8_deed (wsV RX8 174 RX8 yX8_takesNoDeed wsX8_takesNoDeed) := goodIn_app (goodIn_of _ (by decide +kernel)) ggX8_deed_X8_takesNoDeed
set_option maxRecDepth 20000 in
theorem ggX8_deed_X8_remember : GoodIn wsX8_deed wsX8_remember := goodIn_ca (goodIn_r _ [33, 34, 35, 36, 37, 5, 38, 55, 56, 57, 58, 59, 60, 61, 62, 63, 64, 65, 66, 67, 68, 69] (by decide +kernel) (by decide +kernel)) (goodIn_sub (fun _ h => List.mem_cons_of_mem _ (List.mem_append_right _ h)) (by decide +kernel))
set_option maxRecDepth 20000 in
theorem gX8_deed_X8_remember : GoodIn wsX8_deed (wsV RX8 89 RX8 yX8_remember wsX8_remember) := goodIn_app (goodIn_of _ (by decide +kernel)) ggX8_deed_X8_remember
set_option maxRecDepth 20000 in
theorem ggX8_deed_X8_doDeed : GoodIn wsX8_deed wsX8_doDeed := goodIn_ca (goodIn_r _ [42, 1, 43, 44, 45, 5, 46, 47, 48, 49, 50, 51, 52, 53, 54, 18, 19, 20, 21, 55, 56, 57, 58, 59, 60, 61, 62, 63, 64, 65, 66, 67, 68, 69] (by decide +kernel) (by decide +kernel)) (goodIn_sub (fun _ h => List.mem_cons_of_mem _ (List.mem_append_right _ h)) (by decide +kernel))
set_option maxRecDepth 20000 in
theorem gX8_deed_X8_doDeed : GoodIn wsX8_deed (wsV RX8 177 RX8 yX8_doDeed wsX8_doDeed) := goodIn_app (goodIn_of _ (by decide +kernel)) ggX8_deed_X8_doDeed
theorem dX8_deed_0 : decode cX8_deed 0 = .ok (.aload_n 0, 1) := by decide +kernel
theorem dX8_deed_1 : decode cX8_deed 1 = .ok (.iconst 1, 1) := by decide +kernel
theorem dX8_deed_2 : decode cX8_deed 2 = .ok (.aload_n 0, 1) := by decide +kernel
theorem dX8_deed_3 : decode cX8_deed 3 = .ok (.iload_n 1, 1) := by decide +kernel
theorem dX8_deed_4 : decode cX8_deed 4 = .ok (.invokevirtual 52, 3) := by decide +kernel
theorem dX8_deed_7 : decode cX8_deed 7 = .ok (.ifCond .ne 7, 3) := by decide +kernel
theorem dX8_deed_10 : decode cX8_deed 10 = .ok (.iconst 1, 1) := by decide +kernel
theorem dX8_deed_11 : decode cX8_deed 11 = .ok (.goto 4, 3) := by decide +kernel
theorem dX8_deed_14 : decode cX8_deed 14 = .ok (.iconst 0, 1) := by decide +kernel
theorem dX8_deed_15 : decode cX8_deed 15 = .ok (.invokevirtual 85, 3) := by decide +kernel
theorem dX8_deed_18 : decode cX8_deed 18 = .ok (.ifCond .ne 63, 3) := by decide +kernel
theorem dX8_deed_21 : decode cX8_deed 21 = .ok (.aload_n 0, 1) := by decide +kernel
theorem dX8_deed_22 : decode cX8_deed 22 = .ok (.iconst 2, 1) := by decide +kernel
theorem dX8_deed_23 : decode cX8_deed 23 = .ok (.iload_n 2, 1) := by decide +kernel
theorem dX8_deed_24 : decode cX8_deed 24 = .ok (.invokestatic 82, 3) := by decide +kernel
theorem dX8_deed_27 : decode cX8_deed 27 = .ok (.ifCond .eq 30, 3) := by decide +kernel
theorem dX8_deed_30 : decode cX8_deed 30 = .ok (.iload_n 3, 1) := by decide +kernel
theorem dX8_deed_31 : decode cX8_deed 31 = .ok (.invokestatic 82, 3) := by decide +kernel
theorem dX8_deed_34 : decode cX8_deed 34 = .ok (.ifCond .eq 23, 3) := by decide +kernel
theorem dX8_deed_37 : decode cX8_deed 37 = .ok (.iload 4, 2) := by decide +kernel
theorem dX8_deed_39 : decode cX8_deed 39 = .ok (.aload_n 0, 1) := by decide +kernel
theorem dX8_deed_40 : decode cX8_deed 40 = .ok (.iload_n 1, 1) := by decide +kernel
theorem dX8_deed_41 : decode cX8_deed 41 = .ok (.iconst 1, 1) := by decide +kernel
theorem dX8_deed_42 : decode cX8_deed 42 = .ok (.invokevirtual 56, 3) := by decide +kernel
theorem dX8_deed_45 : decode cX8_deed 45 = .ok (.aload_n 0, 1) := by decide +kernel
theorem dX8_deed_46 : decode cX8_deed 46 = .ok (.getfield 9, 3) := by decide +kernel
theorem dX8_deed_49 : decode cX8_deed 49 = .ok (.iconst 0, 1) := by decide +kernel
theorem dX8_deed_50 : decode cX8_deed 50 = .ok (.iaload, 1) := by decide +kernel
theorem dX8_deed_51 : decode cX8_deed 51 = .ok (.invokestatic 48, 3) := by decide +kernel
theorem dX8_deed_54 : decode cX8_deed 54 = .ok (.ifCond .ne 7, 3) := by decide +kernel
theorem dX8_deed_57 : decode cX8_deed 57 = .ok (.iconst 1, 1) := by decide +kernel
theorem dX8_deed_58 : decode cX8_deed 58 = .ok (.goto 4, 3) := by decide +kernel
theorem dX8_deed_61 : decode cX8_deed 61 = .ok (.iconst 0, 1) := by decide +kernel
theorem dX8_deed_62 : decode cX8_deed 62 = .ok (.invokevirtual 85, 3) := by decide +kernel
theorem dX8_deed_65 : decode cX8_deed 65 = .ok (.ifCond .ne 16, 3) := by decide +kernel
theorem dX8_deed_68 : decode cX8_deed 68 = .ok (.aload_n 0, 1) := by decide +kernel
theorem dX8_deed_69 : decode cX8_deed 69 = .ok (.iconst 3, 1) := by decide +kernel
theorem dX8_deed_70 : decode cX8_deed 70 = .ok (.aload_n 0, 1) := by decide +kernel
theorem dX8_deed_71 : decode cX8_deed 71 = .ok (.iload_n 1, 1) := by decide +kernel
theorem dX8_deed_72 : decode cX8_deed 72 = .ok (.invokevirtual 174, 3) := by decide +kernel
theorem dX8_deed_75 : decode cX8_deed 75 = .ok (.invokevirtual 85, 3) := by decide +kernel
theorem dX8_deed_78 : decode cX8_deed 78 = .ok (.ifCond .eq 5, 3) := by decide +kernel
theorem dX8_deed_81 : decode cX8_deed 81 = .ok (.iconst 0, 1) := by decide +kernel
theorem dX8_deed_82 : decode cX8_deed 82 = .ok (.ireturn, 1) := by decide +kernel
theorem dX8_deed_83 : decode cX8_deed 83 = .ok (.aload_n 0, 1) := by decide +kernel
theorem dX8_deed_84 : decode cX8_deed 84 = .ok (.aload_n 0, 1) := by decide +kernel
theorem dX8_deed_85 : decode cX8_deed 85 = .ok (.getfield 9, 3) := by decide +kernel
theorem dX8_deed_88 : decode cX8_deed 88 = .ok (.invokevirtual 89, 3) := by decide +kernel
theorem dX8_deed_91 : decode cX8_deed 91 = .ok (.aload_n 0, 1) := by decide +kernel
theorem dX8_deed_92 : decode cX8_deed 92 = .ok (.iload_n 1, 1) := by decide +kernel
theorem dX8_deed_93 : decode cX8_deed 93 = .ok (.iload_n 2, 1) := by decide +kernel
theorem dX8_deed_94 : decode cX8_deed 94 = .ok (.iload_n 3, 1) := by decide +kernel
theorem dX8_deed_95 : decode cX8_deed 95 = .ok (.iload 4, 2) := by decide +kernel
theorem dX8_deed_97 : decode cX8_deed 97 = .ok (.invokevirtual 177, 3) := by decide +kernel
theorem dX8_deed_100 : decode cX8_deed 100 = .ok (.ifCond .eq 7, 3) := by decide +kernel
theorem dX8_deed_103 : decode cX8_deed 103 = .ok (.iconst 1, 1) := by decide +kernel
theorem dX8_deed_104 : decode cX8_deed 104 = .ok (.goto 4, 3) := by decide +kernel
theorem dX8_deed_107 : decode cX8_deed 107 = .ok (.iconst 0, 1) := by decide +kernel
theorem dX8_deed_108 : decode cX8_deed 108 = .ok (.ireturn, 1) := by decide +kernel
set_option maxRecDepth 20000 in
theorem ggX8_placeOf_X8_deedAt : GoodIn wsX8_placeOf wsX8_deedAt := goodIn_ca (goodIn_r _ [6, 1, 7, 8, 9, 10, 11, 12, 13, 14, 15, 16, 17, 18, 19, 20, 21] (by decide +kernel) (by decide +kernel)) (goodIn_sub (fun _ h => List.mem_cons_of_mem _ (List.mem_append_right _ h)) (by decide +kernel))
set_option maxRecDepth 20000 in
theorem gX8_placeOf_X8_deedAt : GoodIn wsX8_placeOf (wsV RX8 165 RX8 yX8_deedAt wsX8_deedAt) := goodIn_app (goodIn_of _ (by decide +kernel)) ggX8_placeOf_X8_deedAt
theorem dX8_placeOf_0 : decode cX8_placeOf 0 = .ok (.iload_n 2, 1) := by decide +kernel
theorem dX8_placeOf_1 : decode cX8_placeOf 1 = .ok (.istore_n 3, 1) := by decide +kernel
theorem dX8_placeOf_2 : decode cX8_placeOf 2 = .ok (.iconst 0, 1) := by decide +kernel
theorem dX8_placeOf_3 : decode cX8_placeOf 3 = .ok (.istore 4, 2) := by decide +kernel
theorem dX8_placeOf_5 : decode cX8_placeOf 5 = .ok (.iload 4, 2) := by decide +kernel
theorem dX8_placeOf_7 : decode cX8_placeOf 7 = .ok (.aload_n 0, 1) := by decide +kernel
theorem dX8_placeOf_8 : decode cX8_placeOf 8 = .ok (.getfield 9, 3) := by decide +kernel
theorem dX8_placeOf_11 : decode cX8_placeOf 11 = .ok (.iconst 2, 1) := by decide +kernel
theorem dX8_placeOf_12 : decode cX8_placeOf 12 = .ok (.iaload, 1) := by decide +kernel
theorem dX8_placeOf_13 : decode cX8_placeOf 13 = .ok (.if_icmp .ge 30, 3) := by decide +kernel
theorem dX8_placeOf_16 : decode cX8_placeOf 16 = .ok (.aload_n 0, 1) := by decide +kernel
theorem dX8_placeOf_17 : decode cX8_placeOf 17 = .ok (.iload 4, 2) := by decide +kernel
theorem dX8_placeOf_19 : decode cX8_placeOf 19 = .ok (.iconst 0, 1) := by decide +kernel
theorem dX8_placeOf_20 : decode cX8_placeOf 20 = .ok (.invokevirtual 165, 3) := by decide +kernel
theorem dX8_placeOf_23 : decode cX8_placeOf 23 = .ok (.iload_n 1, 1) := by decide +kernel
theorem dX8_placeOf_24 : decode cX8_placeOf 24 = .ok (.if_icmp .ne 13, 3) := by decide +kernel
theorem dX8_placeOf_27 : decode cX8_placeOf 27 = .ok (.iload_n 3, 1) := by decide +kernel
theorem dX8_placeOf_28 : decode cX8_placeOf 28 = .ok (.ifCond .ne 6, 3) := by decide +kernel
theorem dX8_placeOf_31 : decode cX8_placeOf 31 = .ok (.iload 4, 2) := by decide +kernel
theorem dX8_placeOf_33 : decode cX8_placeOf 33 = .ok (.ireturn, 1) := by decide +kernel
theorem dX8_placeOf_34 : decode cX8_placeOf 34 = .ok (.iinc 3 (-1), 3) := by decide +kernel
theorem dX8_placeOf_37 : decode cX8_placeOf 37 = .ok (.iinc 4 1, 3) := by decide +kernel
theorem dX8_placeOf_40 : decode cX8_placeOf 40 = .ok (.goto (-35), 3) := by decide +kernel
theorem dX8_placeOf_43 : decode cX8_placeOf 43 = .ok (.iconst (-1), 1) := by decide +kernel
theorem dX8_placeOf_44 : decode cX8_placeOf 44 = .ok (.ireturn, 1) := by decide +kernel
set_option maxRecDepth 20000 in
theorem ggX8_deedOf_X8_isParcel : GoodIn wsX8_deedOf wsX8_isParcel := goodIn_ca (goodIn_r _ [5, 6, 7, 8, 4, 9, 39, 40, 41, 42, 43, 44, 45, 46, 47, 48, 49, 50, 51, 52, 53] (by decide +kernel) (by decide +kernel)) (goodIn_sub (fun _ h => List.mem_cons_of_mem _ (List.mem_append_right _ h)) (by decide +kernel))
set_option maxRecDepth 20000 in
theorem gX8_deedOf_X8_isParcel : GoodIn wsX8_deedOf (wsV RX8 52 RX8 yX8_isParcel wsX8_isParcel) := goodIn_app (goodIn_of _ (by decide +kernel)) ggX8_deedOf_X8_isParcel
set_option maxRecDepth 20000 in
theorem ggX8_deedOf_X8_countDeeds : GoodIn wsX8_deedOf wsX8_countDeeds := goodIn_ca (goodIn_r _ [13, 6, 14, 15, 16, 4, 17, 39, 40, 41, 42, 43, 44, 45, 46, 47, 48, 49, 50, 51, 52, 53] (by decide +kernel) (by decide +kernel)) (goodIn_sub (fun _ h => List.mem_cons_of_mem _ (List.mem_append_right _ h)) (by decide +kernel))
set_option maxRecDepth 20000 in
theorem gX8_deedOf_X8_countDeeds : GoodIn wsX8_deedOf (wsV RX8 153 RX8 yX8_countDeeds wsX8_countDeeds) := goodIn_app (goodIn_of _ (by decide +kernel)) ggX8_deedOf_X8_countDeeds
set_option maxRecDepth 20000 in
theorem ggX8_deedOf_X8_isBetween : GoodIn wsX8_deedOf wsX8_isBetween := goodIn_r _ [9] (by decide +kernel) (by decide +kernel)
set_option maxRecDepth 20000 in
theorem gX8_deedOf_X8_isBetween : GoodIn wsX8_deedOf (va_wsS RX8 48 yX8_isBetween wsX8_isBetween) := goodIn_app (goodIn_of _ (by decide +kernel)) ggX8_deedOf_X8_isBetween
set_option maxRecDepth 20000 in
theorem ggX8_deedOf_X8_fails : GoodIn wsX8_deedOf wsX8_fails := goodIn_r _ [21, 22, 39, 40, 41, 42, 43, 44, 45, 46, 47, 48, 49, 50, 51, 52, 53] (by decide +kernel) (by decide +kernel)
set_option maxRecDepth 20000 in
theorem gX8_deedOf_X8_fails : GoodIn wsX8_deedOf (wsV RX8 85 RX8 yX8_fails wsX8_fails) := goodIn_app (goodIn_of _ (by decide +kernel)) ggX8_deedOf_X8_fails
set_option maxRecDepth 20000 in
theorem ggX8_deedOf_X8_placeOf : GoodIn wsX8_deedOf wsX8_placeOf := goodIn_ca (goodIn_r _ [26, 6, 14, 15, 16, 4, 17, 39, 40, 41, 42, 43, 44, 45, 46, 47, 48, 49, 50, 51, 52, 53] (by decide +kernel) (by decide +kernel)) (goodIn_sub (fun _ h => List.mem_cons_of_mem _ (List.mem_append_right _ h)) (by decide +kernel))
set_option maxRecDepth 20000 in
theorem gX8_deedOf_X8_placeOf : GoodIn wsX8_deedOf (wsV RX8 181 RX8 yX8_placeOf wsX8_placeOf) := goodIn_app (goodIn_of _ (by decide +kernel)) ggX8_deedOf_X8_placeOf
set_option maxRecDepth 20000 in
theorem ggX8_deedOf_X8_isGood : GoodIn wsX8_deedOf wsX8_isGood := goodIn_ca (goodIn_r _ [30, 14, 15, 16, 4, 17, 6, 31, 32, 33, 34, 35, 36, 37, 38, 39, 40, 41, 42, 43, 44, 45, 46, 47, 48, 49, 50, 51, 52, 53] (by decide +kernel) (by decide +kernel)) (goodIn_sub (fun _ h => List.mem_cons_of_mem _ (List.mem_append_right _ h)) (by decide +kernel))
set_option maxRecDepth 20000 in
theorem gX8_deedOf_X8_isGood : GoodIn wsX8_deedOf (wsV RX8 171 RX8 yX8_isGood wsX8_isGood) := goodIn_app (goodIn_of _ (by decide +kernel)) ggX8_deedOf_X8_isGood
set_option maxRecDepth 20000 in
theorem ggX8_deedOf_X8_deedAt : GoodIn wsX8_deedOf wsX8_deedAt := goodIn_ca (goodIn_r _ [17, 6, 39, 40, 41, 42, 43, 44, 45, 46, 47, 48, 49, 50, 51, 52, 53] (by decide +kernel) (by decide +kernel)) (goodIn_sub (fun _ h => List.mem_cons_of_mem _ (List.mem_append_right _ h)) (by decide +kernel))
set_option maxRecDepth 20000 in
theorem gX8_deedOf_X8_deedAt : GoodIn wsX8_deedOf (wsV RX8 165 RX8 yX8_deedAt wsX8_deedAt) := goodIn_app (goodIn_of _ (by decide +kernel)) ggX8_deedOf_X8_deedAt
theorem dX8_deedOf_0 : decode cX8_deedOf 0 = .ok (.aload_n 0, 1) := by decide +kernel
theorem dX8_deedOf_1 : decode cX8_deedOf 1 = .ok (.iconst 1, 1) := by decide +kernel
theorem dX8_deedOf_2 : decode cX8_deedOf 2 = .ok (.aload_n 0, 1) := by decide +kernel
theorem dX8_deedOf_3 : decode cX8_deedOf 3 = .ok (.iload_n 1, 1) := by decide +kernel
theorem dX8_deedOf_4 : decode cX8_deedOf 4 = .ok (.invokevirtual 52, 3) := by decide +kernel
theorem dX8_deedOf_7 : decode cX8_deedOf 7 = .ok (.ifCond .eq 18, 3) := by decide +kernel
theorem dX8_deedOf_10 : decode cX8_deedOf 10 = .ok (.iload_n 2, 1) := by decide +kernel
theorem dX8_deedOf_11 : decode cX8_deedOf 11 = .ok (.iconst 0, 1) := by decide +kernel
theorem dX8_deedOf_12 : decode cX8_deedOf 12 = .ok (.aload_n 0, 1) := by decide +kernel
theorem dX8_deedOf_13 : decode cX8_deedOf 13 = .ok (.iload_n 1, 1) := by decide +kernel
theorem dX8_deedOf_14 : decode cX8_deedOf 14 = .ok (.invokevirtual 153, 3) := by decide +kernel
theorem dX8_deedOf_17 : decode cX8_deedOf 17 = .ok (.iconst 1, 1) := by decide +kernel
theorem dX8_deedOf_18 : decode cX8_deedOf 18 = .ok (.isub, 1) := by decide +kernel
theorem dX8_deedOf_19 : decode cX8_deedOf 19 = .ok (.invokestatic 48, 3) := by decide +kernel
theorem dX8_deedOf_22 : decode cX8_deedOf 22 = .ok (.ifCond .ne 7, 3) := by decide +kernel
theorem dX8_deedOf_25 : decode cX8_deedOf 25 = .ok (.iconst 1, 1) := by decide +kernel
theorem dX8_deedOf_26 : decode cX8_deedOf 26 = .ok (.goto 4, 3) := by decide +kernel
theorem dX8_deedOf_29 : decode cX8_deedOf 29 = .ok (.iconst 0, 1) := by decide +kernel
theorem dX8_deedOf_30 : decode cX8_deedOf 30 = .ok (.invokevirtual 85, 3) := by decide +kernel
theorem dX8_deedOf_33 : decode cX8_deedOf 33 = .ok (.ifCond .ne 25, 3) := by decide +kernel
theorem dX8_deedOf_36 : decode cX8_deedOf 36 = .ok (.aload_n 0, 1) := by decide +kernel
theorem dX8_deedOf_37 : decode cX8_deedOf 37 = .ok (.iconst 2, 1) := by decide +kernel
theorem dX8_deedOf_38 : decode cX8_deedOf 38 = .ok (.iload_n 3, 1) := by decide +kernel
theorem dX8_deedOf_39 : decode cX8_deedOf 39 = .ok (.iconst 0, 1) := by decide +kernel
theorem dX8_deedOf_40 : decode cX8_deedOf 40 = .ok (.iconst 3, 1) := by decide +kernel
theorem dX8_deedOf_41 : decode cX8_deedOf 41 = .ok (.invokestatic 48, 3) := by decide +kernel
theorem dX8_deedOf_44 : decode cX8_deedOf 44 = .ok (.ifCond .ne 7, 3) := by decide +kernel
theorem dX8_deedOf_47 : decode cX8_deedOf 47 = .ok (.iconst 1, 1) := by decide +kernel
theorem dX8_deedOf_48 : decode cX8_deedOf 48 = .ok (.goto 4, 3) := by decide +kernel
theorem dX8_deedOf_51 : decode cX8_deedOf 51 = .ok (.iconst 0, 1) := by decide +kernel
theorem dX8_deedOf_52 : decode cX8_deedOf 52 = .ok (.invokevirtual 85, 3) := by decide +kernel
theorem dX8_deedOf_55 : decode cX8_deedOf 55 = .ok (.ifCond .eq 5, 3) := by decide +kernel
theorem dX8_deedOf_58 : decode cX8_deedOf 58 = .ok (.iconst 0, 1) := by decide +kernel
theorem dX8_deedOf_59 : decode cX8_deedOf 59 = .ok (.ireturn, 1) := by decide +kernel
theorem dX8_deedOf_60 : decode cX8_deedOf 60 = .ok (.aload_n 0, 1) := by decide +kernel
theorem dX8_deedOf_61 : decode cX8_deedOf 61 = .ok (.iload_n 1, 1) := by decide +kernel
theorem dX8_deedOf_62 : decode cX8_deedOf 62 = .ok (.iload_n 2, 1) := by decide +kernel
theorem dX8_deedOf_63 : decode cX8_deedOf 63 = .ok (.invokevirtual 181, 3) := by decide +kernel
theorem dX8_deedOf_66 : decode cX8_deedOf 66 = .ok (.istore 4, 2) := by decide +kernel
theorem dX8_deedOf_68 : decode cX8_deedOf 68 = .ok (.iload_n 3, 1) := by decide +kernel
theorem dX8_deedOf_69 : decode cX8_deedOf 69 = .ok (.iconst 3, 1) := by decide +kernel
theorem dX8_deedOf_70 : decode cX8_deedOf 70 = .ok (.if_icmp .ne 20, 3) := by decide +kernel
theorem dX8_deedOf_73 : decode cX8_deedOf 73 = .ok (.aload_n 0, 1) := by decide +kernel
theorem dX8_deedOf_74 : decode cX8_deedOf 74 = .ok (.iload 4, 2) := by decide +kernel
theorem dX8_deedOf_76 : decode cX8_deedOf 76 = .ok (.invokevirtual 171, 3) := by decide +kernel
theorem dX8_deedOf_79 : decode cX8_deedOf 79 = .ok (.ifCond .eq 7, 3) := by decide +kernel
theorem dX8_deedOf_82 : decode cX8_deedOf 82 = .ok (.iconst 1, 1) := by decide +kernel
theorem dX8_deedOf_83 : decode cX8_deedOf 83 = .ok (.goto 16, 3) := by decide +kernel
theorem dX8_deedOf_86 : decode cX8_deedOf 86 = .ok (.iconst 0, 1) := by decide +kernel
theorem dX8_deedOf_87 : decode cX8_deedOf 87 = .ok (.goto 12, 3) := by decide +kernel
theorem dX8_deedOf_90 : decode cX8_deedOf 90 = .ok (.aload_n 0, 1) := by decide +kernel
theorem dX8_deedOf_91 : decode cX8_deedOf 91 = .ok (.iload 4, 2) := by decide +kernel
theorem dX8_deedOf_93 : decode cX8_deedOf 93 = .ok (.iload_n 3, 1) := by decide +kernel
theorem dX8_deedOf_94 : decode cX8_deedOf 94 = .ok (.iconst 1, 1) := by decide +kernel
theorem dX8_deedOf_95 : decode cX8_deedOf 95 = .ok (.iadd, 1) := by decide +kernel
theorem dX8_deedOf_96 : decode cX8_deedOf 96 = .ok (.invokevirtual 165, 3) := by decide +kernel
theorem dX8_deedOf_99 : decode cX8_deedOf 99 = .ok (.ireturn, 1) := by decide +kernel
set_option maxRecDepth 20000 in
theorem ggX8_holder_X8_isParcel : GoodIn wsX8_holder wsX8_isParcel := goodIn_ca (goodIn_r _ [6, 1, 7, 8, 5, 9, 27, 28, 29, 30, 31, 32, 33, 34, 35, 36, 37, 38, 39, 40, 41] (by decide +kernel) (by decide +kernel)) (goodIn_sub (fun _ h => List.mem_cons_of_mem _ (List.mem_append_right _ h)) (by decide +kernel))
set_option maxRecDepth 20000 in
theorem gX8_holder_X8_isParcel : GoodIn wsX8_holder (wsV RX8 52 RX8 yX8_isParcel wsX8_isParcel) := goodIn_app (goodIn_of _ (by decide +kernel)) ggX8_holder_X8_isParcel
set_option maxRecDepth 20000 in
theorem ggX8_holder_X8_fails : GoodIn wsX8_holder wsX8_fails := goodIn_r _ [13, 14, 27, 28, 29, 30, 31, 32, 33, 34, 35, 36, 37, 38, 39, 40, 41] (by decide +kernel) (by decide +kernel)
set_option maxRecDepth 20000 in
theorem gX8_holder_X8_fails : GoodIn wsX8_holder (wsV RX8 85 RX8 yX8_fails wsX8_fails) := goodIn_app (goodIn_of _ (by decide +kernel)) ggX8_holder_X8_fails
set_option maxRecDepth 20000 in
theorem ggX8_holder_X8_of : GoodIn wsX8_holder wsX8_of := goodIn_ca (goodIn_r _ [18, 1, 27, 28, 29, 30, 31, 32, 33, 34, 35, 36, 37, 38, 39, 40, 41] (by decide +kernel) (by decide +kernel)) (goodIn_sub (fun _ h => List.mem_cons_of_mem _ (List.mem_append_right _ h)) (by decide +kernel))
set_option maxRecDepth 20000 in
theorem gX8_holder_X8_of : GoodIn wsX8_holder (wsV RX8 56 RX8 yX8_of wsX8_of) := goodIn_app (goodIn_of _ (by decide +kernel)) ggX8_holder_X8_of
set_option maxRecDepth 20000 in
theorem ggX8_holder_X8_holderAhead : GoodIn wsX8_holder wsX8_holderAhead := goodIn_ca (goodIn_r _ [22, 15, 16, 17, 5, 18, 1, 23, 24, 25, 26, 27, 28, 29, 30, 31, 32, 33, 34, 35, 36, 37, 38, 39, 40, 41] (by decide +kernel) (by decide +kernel)) (goodIn_sub (fun _ h => List.mem_cons_of_mem _ (List.mem_append_right _ h)) (by decide +kernel))
set_option maxRecDepth 20000 in
theorem gX8_holder_X8_holderAhead : GoodIn wsX8_holder (wsV RX8 168 RX8 yX8_holderAhead wsX8_holderAhead) := goodIn_app (goodIn_of _ (by decide +kernel)) ggX8_holder_X8_holderAhead
theorem dX8_holder_0 : decode cX8_holder 0 = .ok (.aload_n 0, 1) := by decide +kernel
theorem dX8_holder_1 : decode cX8_holder 1 = .ok (.iconst 1, 1) := by decide +kernel
theorem dX8_holder_2 : decode cX8_holder 2 = .ok (.aload_n 0, 1) := by decide +kernel
theorem dX8_holder_3 : decode cX8_holder 3 = .ok (.iload_n 1, 1) := by decide +kernel
theorem dX8_holder_4 : decode cX8_holder 4 = .ok (.invokevirtual 52, 3) := by decide +kernel
theorem dX8_holder_7 : decode cX8_holder 7 = .ok (.ifCond .ne 7, 3) := by decide +kernel
theorem dX8_holder_10 : decode cX8_holder 10 = .ok (.iconst 1, 1) := by decide +kernel
theorem dX8_holder_11 : decode cX8_holder 11 = .ok (.goto 4, 3) := by decide +kernel
theorem dX8_holder_14 : decode cX8_holder 14 = .ok (.iconst 0, 1) := by decide +kernel
theorem dX8_holder_15 : decode cX8_holder 15 = .ok (.invokevirtual 85, 3) := by decide +kernel
theorem dX8_holder_18 : decode cX8_holder 18 = .ok (.ifCond .eq 5, 3) := by decide +kernel
theorem dX8_holder_21 : decode cX8_holder 21 = .ok (.iconst 0, 1) := by decide +kernel
theorem dX8_holder_22 : decode cX8_holder 22 = .ok (.ireturn, 1) := by decide +kernel
theorem dX8_holder_23 : decode cX8_holder 23 = .ok (.aload_n 0, 1) := by decide +kernel
theorem dX8_holder_24 : decode cX8_holder 24 = .ok (.iload_n 1, 1) := by decide +kernel
theorem dX8_holder_25 : decode cX8_holder 25 = .ok (.iconst 2, 1) := by decide +kernel
theorem dX8_holder_26 : decode cX8_holder 26 = .ok (.invokevirtual 56, 3) := by decide +kernel
theorem dX8_holder_29 : decode cX8_holder 29 = .ok (.ifCond .lt 21, 3) := by decide +kernel
theorem dX8_holder_32 : decode cX8_holder 32 = .ok (.iload_n 2, 1) := by decide +kernel
theorem dX8_holder_33 : decode cX8_holder 33 = .ok (.aload_n 0, 1) := by decide +kernel
theorem dX8_holder_34 : decode cX8_holder 34 = .ok (.iload_n 1, 1) := by decide +kernel
theorem dX8_holder_35 : decode cX8_holder 35 = .ok (.iconst 2, 1) := by decide +kernel
theorem dX8_holder_36 : decode cX8_holder 36 = .ok (.invokevirtual 56, 3) := by decide +kernel
theorem dX8_holder_39 : decode cX8_holder 39 = .ok (.if_icmp .lt 7, 3) := by decide +kernel
theorem dX8_holder_42 : decode cX8_holder 42 = .ok (.iconst 1, 1) := by decide +kernel
theorem dX8_holder_43 : decode cX8_holder 43 = .ok (.goto 22, 3) := by decide +kernel
theorem dX8_holder_46 : decode cX8_holder 46 = .ok (.iconst 0, 1) := by decide +kernel
theorem dX8_holder_47 : decode cX8_holder 47 = .ok (.goto 18, 3) := by decide +kernel
theorem dX8_holder_50 : decode cX8_holder 50 = .ok (.iload_n 2, 1) := by decide +kernel
theorem dX8_holder_51 : decode cX8_holder 51 = .ok (.aload_n 0, 1) := by decide +kernel
theorem dX8_holder_52 : decode cX8_holder 52 = .ok (.getfield 9, 3) := by decide +kernel
theorem dX8_holder_55 : decode cX8_holder 55 = .ok (.iconst 0, 1) := by decide +kernel
theorem dX8_holder_56 : decode cX8_holder 56 = .ok (.iaload, 1) := by decide +kernel
theorem dX8_holder_57 : decode cX8_holder 57 = .ok (.if_icmp .le 7, 3) := by decide +kernel
theorem dX8_holder_60 : decode cX8_holder 60 = .ok (.iconst 1, 1) := by decide +kernel
theorem dX8_holder_61 : decode cX8_holder 61 = .ok (.goto 4, 3) := by decide +kernel
theorem dX8_holder_64 : decode cX8_holder 64 = .ok (.iconst 0, 1) := by decide +kernel
theorem dX8_holder_65 : decode cX8_holder 65 = .ok (.istore_n 3, 1) := by decide +kernel
theorem dX8_holder_66 : decode cX8_holder 66 = .ok (.aload_n 0, 1) := by decide +kernel
theorem dX8_holder_67 : decode cX8_holder 67 = .ok (.iconst 2, 1) := by decide +kernel
theorem dX8_holder_68 : decode cX8_holder 68 = .ok (.iload_n 2, 1) := by decide +kernel
theorem dX8_holder_69 : decode cX8_holder 69 = .ok (.aload_n 0, 1) := by decide +kernel
theorem dX8_holder_70 : decode cX8_holder 70 = .ok (.iload_n 1, 1) := by decide +kernel
theorem dX8_holder_71 : decode cX8_holder 71 = .ok (.iconst 1, 1) := by decide +kernel
theorem dX8_holder_72 : decode cX8_holder 72 = .ok (.invokevirtual 56, 3) := by decide +kernel
theorem dX8_holder_75 : decode cX8_holder 75 = .ok (.if_icmp .lt 7, 3) := by decide +kernel
theorem dX8_holder_78 : decode cX8_holder 78 = .ok (.iload_n 3, 1) := by decide +kernel
theorem dX8_holder_79 : decode cX8_holder 79 = .ok (.ifCond .eq 7, 3) := by decide +kernel
theorem dX8_holder_82 : decode cX8_holder 82 = .ok (.iconst 1, 1) := by decide +kernel
theorem dX8_holder_83 : decode cX8_holder 83 = .ok (.goto 4, 3) := by decide +kernel
theorem dX8_holder_86 : decode cX8_holder 86 = .ok (.iconst 0, 1) := by decide +kernel
theorem dX8_holder_87 : decode cX8_holder 87 = .ok (.invokevirtual 85, 3) := by decide +kernel
theorem dX8_holder_90 : decode cX8_holder 90 = .ok (.ifCond .eq 5, 3) := by decide +kernel
theorem dX8_holder_93 : decode cX8_holder 93 = .ok (.iconst 0, 1) := by decide +kernel
theorem dX8_holder_94 : decode cX8_holder 94 = .ok (.ireturn, 1) := by decide +kernel
theorem dX8_holder_95 : decode cX8_holder 95 = .ok (.aload_n 0, 1) := by decide +kernel
theorem dX8_holder_96 : decode cX8_holder 96 = .ok (.iload_n 1, 1) := by decide +kernel
theorem dX8_holder_97 : decode cX8_holder 97 = .ok (.iload_n 2, 1) := by decide +kernel
theorem dX8_holder_98 : decode cX8_holder 98 = .ok (.aload_n 0, 1) := by decide +kernel
theorem dX8_holder_99 : decode cX8_holder 99 = .ok (.getfield 9, 3) := by decide +kernel
theorem dX8_holder_102 : decode cX8_holder 102 = .ok (.iconst 2, 1) := by decide +kernel
theorem dX8_holder_103 : decode cX8_holder 103 = .ok (.iaload, 1) := by decide +kernel
theorem dX8_holder_104 : decode cX8_holder 104 = .ok (.invokevirtual 168, 3) := by decide +kernel
theorem dX8_holder_107 : decode cX8_holder 107 = .ok (.ireturn, 1) := by decide +kernel
set_option maxRecDepth 20000 in
theorem ggX8_holdingsOf_X8_isPresent : GoodIn wsX8_holdingsOf wsX8_isPresent := goodIn_ca (goodIn_r _ [6, 7, 8, 9, 5, 10, 1, 11, 12, 13, 14, 15, 16, 17, 33, 34, 35, 36, 37, 38, 39, 40, 41, 42, 43, 44, 45, 46, 47] (by decide +kernel) (by decide +kernel)) (goodIn_sub (fun _ h => List.mem_cons_of_mem _ (List.mem_append_right _ h)) (by decide +kernel))
set_option maxRecDepth 20000 in
theorem gX8_holdingsOf_X8_isPresent : GoodIn wsX8_holdingsOf (wsV RX8 76 RX8 yX8_isPresent wsX8_isPresent) := goodIn_app (goodIn_of _ (by decide +kernel)) ggX8_holdingsOf_X8_isPresent
set_option maxRecDepth 20000 in
theorem ggX8_holdingsOf_X8_holderOf : GoodIn wsX8_holdingsOf wsX8_holderOf := goodIn_ca (goodIn_r _ [21, 1, 22, 23, 24, 5, 25, 14, 15, 16, 17, 26, 27, 28, 29, 33, 34, 35, 36, 37, 38, 39, 40, 41, 42, 43, 44, 45, 46, 47] (by decide +kernel) (by decide +kernel)) (goodIn_sub (fun _ h => List.mem_cons_of_mem _ (List.mem_append_right _ h)) (by decide +kernel))
set_option maxRecDepth 20000 in
theorem gX8_holdingsOf_X8_holderOf : GoodIn wsX8_holdingsOf (wsV RX8 97 RX8 yX8_holderOf wsX8_holderOf) := goodIn_app (goodIn_of _ (by decide +kernel)) ggX8_holdingsOf_X8_holderOf
set_option maxRecDepth 20000 in
theorem ggX8_holdingsOf_X8_bit : GoodIn wsX8_holdingsOf wsX8_bit := goodIn_r _ [32] (by decide +kernel) (by decide +kernel)
set_option maxRecDepth 20000 in
theorem gX8_holdingsOf_X8_bit : GoodIn wsX8_holdingsOf (va_wsS RX8 64 yX8_bit wsX8_bit) := goodIn_app (goodIn_of _ (by decide +kernel)) ggX8_holdingsOf_X8_bit
theorem dX8_holdingsOf_0 : decode cX8_holdingsOf 0 = .ok (.iconst 0, 1) := by decide +kernel
theorem dX8_holdingsOf_1 : decode cX8_holdingsOf 1 = .ok (.istore_n 2, 1) := by decide +kernel
theorem dX8_holdingsOf_2 : decode cX8_holdingsOf 2 = .ok (.iconst 0, 1) := by decide +kernel
theorem dX8_holdingsOf_3 : decode cX8_holdingsOf 3 = .ok (.istore_n 3, 1) := by decide +kernel
theorem dX8_holdingsOf_4 : decode cX8_holdingsOf 4 = .ok (.iload_n 3, 1) := by decide +kernel
theorem dX8_holdingsOf_5 : decode cX8_holdingsOf 5 = .ok (.aload_n 0, 1) := by decide +kernel
theorem dX8_holdingsOf_6 : decode cX8_holdingsOf 6 = .ok (.getfield 9, 3) := by decide +kernel
theorem dX8_holdingsOf_9 : decode cX8_holdingsOf 9 = .ok (.iconst 1, 1) := by decide +kernel
theorem dX8_holdingsOf_10 : decode cX8_holdingsOf 10 = .ok (.iaload, 1) := by decide +kernel
theorem dX8_holdingsOf_11 : decode cX8_holdingsOf 11 = .ok (.if_icmp .ge 37, 3) := by decide +kernel
theorem dX8_holdingsOf_14 : decode cX8_holdingsOf 14 = .ok (.iload_n 2, 1) := by decide +kernel
theorem dX8_holdingsOf_15 : decode cX8_holdingsOf 15 = .ok (.aload_n 0, 1) := by decide +kernel
theorem dX8_holdingsOf_16 : decode cX8_holdingsOf 16 = .ok (.iload_n 3, 1) := by decide +kernel
theorem dX8_holdingsOf_17 : decode cX8_holdingsOf 17 = .ok (.invokevirtual 76, 3) := by decide +kernel
theorem dX8_holdingsOf_20 : decode cX8_holdingsOf 20 = .ok (.ifCond .eq 19, 3) := by decide +kernel
theorem dX8_holdingsOf_23 : decode cX8_holdingsOf 23 = .ok (.aload_n 0, 1) := by decide +kernel
theorem dX8_holdingsOf_24 : decode cX8_holdingsOf 24 = .ok (.iload_n 3, 1) := by decide +kernel
theorem dX8_holdingsOf_25 : decode cX8_holdingsOf 25 = .ok (.invokevirtual 97, 3) := by decide +kernel
theorem dX8_holdingsOf_28 : decode cX8_holdingsOf 28 = .ok (.iload_n 1, 1) := by decide +kernel
theorem dX8_holdingsOf_29 : decode cX8_holdingsOf 29 = .ok (.if_icmp .ne 10, 3) := by decide +kernel
theorem dX8_holdingsOf_32 : decode cX8_holdingsOf 32 = .ok (.iload_n 3, 1) := by decide +kernel
theorem dX8_holdingsOf_33 : decode cX8_holdingsOf 33 = .ok (.invokestatic 64, 3) := by decide +kernel
theorem dX8_holdingsOf_36 : decode cX8_holdingsOf 36 = .ok (.goto 4, 3) := by decide +kernel
theorem dX8_holdingsOf_39 : decode cX8_holdingsOf 39 = .ok (.iconst 0, 1) := by decide +kernel
theorem dX8_holdingsOf_40 : decode cX8_holdingsOf 40 = .ok (.ior, 1) := by decide +kernel
theorem dX8_holdingsOf_41 : decode cX8_holdingsOf 41 = .ok (.istore_n 2, 1) := by decide +kernel
theorem dX8_holdingsOf_42 : decode cX8_holdingsOf 42 = .ok (.iinc 3 1, 3) := by decide +kernel
theorem dX8_holdingsOf_45 : decode cX8_holdingsOf 45 = .ok (.goto (-41), 3) := by decide +kernel
theorem dX8_holdingsOf_48 : decode cX8_holdingsOf 48 = .ok (.iload_n 2, 1) := by decide +kernel
theorem dX8_holdingsOf_49 : decode cX8_holdingsOf 49 = .ok (.ireturn, 1) := by decide +kernel
set_option maxRecDepth 20000 in
theorem ggX8_holdings_X8_isPerson : GoodIn wsX8_holdings wsX8_isPerson := goodIn_r _ [4, 5, 6, 3, 7] (by decide +kernel) (by decide +kernel)
set_option maxRecDepth 20000 in
theorem gX8_holdings_X8_isPerson : GoodIn wsX8_holdings (va_wsS RX8 82 yX8_isPerson wsX8_isPerson) := goodIn_app (goodIn_of _ (by decide +kernel)) ggX8_holdings_X8_isPerson
set_option maxRecDepth 20000 in
theorem ggX8_holdings_X8_fails : GoodIn wsX8_holdings wsX8_fails := goodIn_r _ [11, 12, 45, 46, 47, 48, 49, 50, 51, 52, 53, 54, 55, 56, 57, 58, 59] (by decide +kernel) (by decide +kernel)
set_option maxRecDepth 20000 in
theorem gX8_holdings_X8_fails : GoodIn wsX8_holdings (wsV RX8 85 RX8 yX8_fails wsX8_fails) := goodIn_app (goodIn_of _ (by decide +kernel)) ggX8_holdings_X8_fails
set_option maxRecDepth 20000 in
theorem ggX8_holdings_X8_holdingsOf : GoodIn wsX8_holdings wsX8_holdingsOf := goodIn_ca (goodIn_r _ [16, 17, 18, 19, 20, 3, 21, 22, 23, 24, 25, 5, 6, 7, 26, 27, 28, 29, 30, 31, 32, 33, 34, 35, 36, 37, 38, 39, 40, 41, 42, 43, 44, 45, 46, 47, 48, 49, 50, 51, 52, 53, 54, 55, 56, 57, 58, 59] (by decide +kernel) (by decide +kernel)) (goodIn_sub (fun _ h => List.mem_cons_of_mem _ (List.mem_append_right _ h)) (by decide +kernel))
set_option maxRecDepth 20000 in
theorem gX8_holdings_X8_holdingsOf : GoodIn wsX8_holdings (wsV RX8 184 RX8 yX8_holdingsOf wsX8_holdingsOf) := goodIn_app (goodIn_of _ (by decide +kernel)) ggX8_holdings_X8_holdingsOf
theorem dX8_holdings_0 : decode cX8_holdings 0 = .ok (.aload_n 0, 1) := by decide +kernel
theorem dX8_holdings_1 : decode cX8_holdings 1 = .ok (.iconst 1, 1) := by decide +kernel
theorem dX8_holdings_2 : decode cX8_holdings 2 = .ok (.iload_n 1, 1) := by decide +kernel
theorem dX8_holdings_3 : decode cX8_holdings 3 = .ok (.invokestatic 82, 3) := by decide +kernel
theorem dX8_holdings_6 : decode cX8_holdings 6 = .ok (.ifCond .ne 7, 3) := by decide +kernel
theorem dX8_holdings_9 : decode cX8_holdings 9 = .ok (.iconst 1, 1) := by decide +kernel
theorem dX8_holdings_10 : decode cX8_holdings 10 = .ok (.goto 4, 3) := by decide +kernel
theorem dX8_holdings_13 : decode cX8_holdings 13 = .ok (.iconst 0, 1) := by decide +kernel
theorem dX8_holdings_14 : decode cX8_holdings 14 = .ok (.invokevirtual 85, 3) := by decide +kernel
theorem dX8_holdings_17 : decode cX8_holdings 17 = .ok (.ifCond .eq 7, 3) := by decide +kernel
theorem dX8_holdings_20 : decode cX8_holdings 20 = .ok (.iconst 0, 1) := by decide +kernel
theorem dX8_holdings_21 : decode cX8_holdings 21 = .ok (.goto 8, 3) := by decide +kernel
theorem dX8_holdings_24 : decode cX8_holdings 24 = .ok (.aload_n 0, 1) := by decide +kernel
theorem dX8_holdings_25 : decode cX8_holdings 25 = .ok (.iload_n 1, 1) := by decide +kernel
theorem dX8_holdings_26 : decode cX8_holdings 26 = .ok (.invokevirtual 184, 3) := by decide +kernel
theorem dX8_holdings_29 : decode cX8_holdings 29 = .ok (.ireturn, 1) := by decide +kernel
set_option maxRecDepth 20000 in
theorem ggX8_holders_X8_isParcel : GoodIn wsX8_holders wsX8_isParcel := goodIn_ca (goodIn_r _ [6, 1, 7, 8, 5, 9, 34, 35, 36, 37, 38, 39, 40, 41, 42, 43, 44, 45, 46, 47, 48] (by decide +kernel) (by decide +kernel)) (goodIn_sub (fun _ h => List.mem_cons_of_mem _ (List.mem_append_right _ h)) (by decide +kernel))
set_option maxRecDepth 20000 in
theorem gX8_holders_X8_isParcel : GoodIn wsX8_holders (wsV RX8 52 RX8 yX8_isParcel wsX8_isParcel) := goodIn_app (goodIn_of _ (by decide +kernel)) ggX8_holders_X8_isParcel
set_option maxRecDepth 20000 in
theorem ggX8_holders_X8_fails : GoodIn wsX8_holders wsX8_fails := goodIn_r _ [13, 14, 34, 35, 36, 37, 38, 39, 40, 41, 42, 43, 44, 45, 46, 47, 48] (by decide +kernel) (by decide +kernel)
set_option maxRecDepth 20000 in
theorem gX8_holders_X8_fails : GoodIn wsX8_holders (wsV RX8 85 RX8 yX8_fails wsX8_fails) := goodIn_app (goodIn_of _ (by decide +kernel)) ggX8_holders_X8_fails
set_option maxRecDepth 20000 in
theorem ggX8_holders_X8_of : GoodIn wsX8_holders wsX8_of := goodIn_ca (goodIn_r _ [18, 1, 34, 35, 36, 37, 38, 39, 40, 41, 42, 43, 44, 45, 46, 47, 48] (by decide +kernel) (by decide +kernel)) (goodIn_sub (fun _ h => List.mem_cons_of_mem _ (List.mem_append_right _ h)) (by decide +kernel))
set_option maxRecDepth 20000 in
theorem gX8_holders_X8_of : GoodIn wsX8_holders (wsV RX8 56 RX8 yX8_of wsX8_of) := goodIn_app (goodIn_of _ (by decide +kernel)) ggX8_holders_X8_of
set_option maxRecDepth 20000 in
theorem ggX8_holders_X8_bit : GoodIn wsX8_holders wsX8_bit := goodIn_r _ [21] (by decide +kernel) (by decide +kernel)
set_option maxRecDepth 20000 in
theorem gX8_holders_X8_bit : GoodIn wsX8_holders (va_wsS RX8 64 yX8_bit wsX8_bit) := goodIn_app (goodIn_of _ (by decide +kernel)) ggX8_holders_X8_bit
set_option maxRecDepth 20000 in
theorem ggX8_holders_X8_deedAt : GoodIn wsX8_holders wsX8_deedAt := goodIn_ca (goodIn_r _ [25, 1, 34, 35, 36, 37, 38, 39, 40, 41, 42, 43, 44, 45, 46, 47, 48] (by decide +kernel) (by decide +kernel)) (goodIn_sub (fun _ h => List.mem_cons_of_mem _ (List.mem_append_right _ h)) (by decide +kernel))
set_option maxRecDepth 20000 in
theorem gX8_holders_X8_deedAt : GoodIn wsX8_holders (wsV RX8 165 RX8 yX8_deedAt wsX8_deedAt) := goodIn_app (goodIn_of _ (by decide +kernel)) ggX8_holders_X8_deedAt
set_option maxRecDepth 20000 in
theorem ggX8_holders_X8_isGood : GoodIn wsX8_holders wsX8_isGood := goodIn_ca (goodIn_r _ [29, 22, 23, 24, 5, 25, 1, 30, 31, 32, 33, 15, 16, 17, 18, 34, 35, 36, 37, 38, 39, 40, 41, 42, 43, 44, 45, 46, 47, 48] (by decide +kernel) (by decide +kernel)) (goodIn_sub (fun _ h => List.mem_cons_of_mem _ (List.mem_append_right _ h)) (by decide +kernel))
set_option maxRecDepth 20000 in
theorem gX8_holders_X8_isGood : GoodIn wsX8_holders (wsV RX8 171 RX8 yX8_isGood wsX8_isGood) := goodIn_app (goodIn_of _ (by decide +kernel)) ggX8_holders_X8_isGood
theorem dX8_holders_0 : decode cX8_holders 0 = .ok (.aload_n 0, 1) := by decide +kernel
theorem dX8_holders_1 : decode cX8_holders 1 = .ok (.iconst 1, 1) := by decide +kernel
theorem dX8_holders_2 : decode cX8_holders 2 = .ok (.aload_n 0, 1) := by decide +kernel
theorem dX8_holders_3 : decode cX8_holders 3 = .ok (.iload_n 1, 1) := by decide +kernel
theorem dX8_holders_4 : decode cX8_holders 4 = .ok (.invokevirtual 52, 3) := by decide +kernel
theorem dX8_holders_7 : decode cX8_holders 7 = .ok (.ifCond .ne 7, 3) := by decide +kernel
theorem dX8_holders_10 : decode cX8_holders 10 = .ok (.iconst 1, 1) := by decide +kernel
theorem dX8_holders_11 : decode cX8_holders 11 = .ok (.goto 4, 3) := by decide +kernel
theorem dX8_holders_14 : decode cX8_holders 14 = .ok (.iconst 0, 1) := by decide +kernel
theorem dX8_holders_15 : decode cX8_holders 15 = .ok (.invokevirtual 85, 3) := by decide +kernel
theorem dX8_holders_18 : decode cX8_holders 18 = .ok (.ifCond .eq 5, 3) := by decide +kernel
theorem dX8_holders_21 : decode cX8_holders 21 = .ok (.iconst 0, 1) := by decide +kernel
theorem dX8_holders_22 : decode cX8_holders 22 = .ok (.ireturn, 1) := by decide +kernel
theorem dX8_holders_23 : decode cX8_holders 23 = .ok (.aload_n 0, 1) := by decide +kernel
theorem dX8_holders_24 : decode cX8_holders 24 = .ok (.iload_n 1, 1) := by decide +kernel
theorem dX8_holders_25 : decode cX8_holders 25 = .ok (.iconst 5, 1) := by decide +kernel
theorem dX8_holders_26 : decode cX8_holders 26 = .ok (.invokevirtual 56, 3) := by decide +kernel
theorem dX8_holders_29 : decode cX8_holders 29 = .ok (.invokestatic 64, 3) := by decide +kernel
theorem dX8_holders_32 : decode cX8_holders 32 = .ok (.istore_n 2, 1) := by decide +kernel
theorem dX8_holders_33 : decode cX8_holders 33 = .ok (.iconst 0, 1) := by decide +kernel
theorem dX8_holders_34 : decode cX8_holders 34 = .ok (.istore_n 3, 1) := by decide +kernel
theorem dX8_holders_35 : decode cX8_holders 35 = .ok (.iload_n 3, 1) := by decide +kernel
theorem dX8_holders_36 : decode cX8_holders 36 = .ok (.aload_n 0, 1) := by decide +kernel
theorem dX8_holders_37 : decode cX8_holders 37 = .ok (.getfield 9, 3) := by decide +kernel
theorem dX8_holders_40 : decode cX8_holders 40 = .ok (.iconst 2, 1) := by decide +kernel
theorem dX8_holders_41 : decode cX8_holders 41 = .ok (.iaload, 1) := by decide +kernel
theorem dX8_holders_42 : decode cX8_holders 42 = .ok (.if_icmp .ge 43, 3) := by decide +kernel
theorem dX8_holders_45 : decode cX8_holders 45 = .ok (.iload_n 2, 1) := by decide +kernel
theorem dX8_holders_46 : decode cX8_holders 46 = .ok (.aload_n 0, 1) := by decide +kernel
theorem dX8_holders_47 : decode cX8_holders 47 = .ok (.iload_n 3, 1) := by decide +kernel
theorem dX8_holders_48 : decode cX8_holders 48 = .ok (.iconst 0, 1) := by decide +kernel
theorem dX8_holders_49 : decode cX8_holders 49 = .ok (.invokevirtual 165, 3) := by decide +kernel
theorem dX8_holders_52 : decode cX8_holders 52 = .ok (.iload_n 1, 1) := by decide +kernel
theorem dX8_holders_53 : decode cX8_holders 53 = .ok (.if_icmp .ne 23, 3) := by decide +kernel
theorem dX8_holders_56 : decode cX8_holders 56 = .ok (.aload_n 0, 1) := by decide +kernel
theorem dX8_holders_57 : decode cX8_holders 57 = .ok (.iload_n 3, 1) := by decide +kernel
theorem dX8_holders_58 : decode cX8_holders 58 = .ok (.invokevirtual 171, 3) := by decide +kernel
theorem dX8_holders_61 : decode cX8_holders 61 = .ok (.ifCond .eq 15, 3) := by decide +kernel
theorem dX8_holders_64 : decode cX8_holders 64 = .ok (.aload_n 0, 1) := by decide +kernel
theorem dX8_holders_65 : decode cX8_holders 65 = .ok (.iload_n 3, 1) := by decide +kernel
theorem dX8_holders_66 : decode cX8_holders 66 = .ok (.iconst 2, 1) := by decide +kernel
theorem dX8_holders_67 : decode cX8_holders 67 = .ok (.invokevirtual 165, 3) := by decide +kernel
theorem dX8_holders_70 : decode cX8_holders 70 = .ok (.invokestatic 64, 3) := by decide +kernel
theorem dX8_holders_73 : decode cX8_holders 73 = .ok (.goto 4, 3) := by decide +kernel
theorem dX8_holders_76 : decode cX8_holders 76 = .ok (.iconst 0, 1) := by decide +kernel
theorem dX8_holders_77 : decode cX8_holders 77 = .ok (.ior, 1) := by decide +kernel
theorem dX8_holders_78 : decode cX8_holders 78 = .ok (.istore_n 2, 1) := by decide +kernel
theorem dX8_holders_79 : decode cX8_holders 79 = .ok (.iinc 3 1, 3) := by decide +kernel
theorem dX8_holders_82 : decode cX8_holders 82 = .ok (.goto (-47), 3) := by decide +kernel
theorem dX8_holders_85 : decode cX8_holders 85 = .ok (.iload_n 2, 1) := by decide +kernel
theorem dX8_holders_86 : decode cX8_holders 86 = .ok (.ireturn, 1) := by decide +kernel
set_option maxRecDepth 20000 in
theorem ggX8_needless_X8_isParcel : GoodIn wsX8_needless wsX8_isParcel := goodIn_ca (goodIn_r _ [7, 2, 8, 9, 6, 10, 36, 37, 38, 39, 40, 41, 42, 43, 44, 45, 46, 47, 48, 49, 50] (by decide +kernel) (by decide +kernel)) (goodIn_sub (fun _ h => List.mem_cons_of_mem _ (List.mem_append_right _ h)) (by decide +kernel))
set_option maxRecDepth 20000 in
theorem gX8_needless_X8_isParcel : GoodIn wsX8_needless (wsV RX8 52 RX8 yX8_isParcel wsX8_isParcel) := goodIn_app (goodIn_of _ (by decide +kernel)) ggX8_needless_X8_isParcel
set_option maxRecDepth 20000 in
theorem ggX8_needless_X8_fails : GoodIn wsX8_needless wsX8_fails := goodIn_r _ [14, 15, 36, 37, 38, 39, 40, 41, 42, 43, 44, 45, 46, 47, 48, 49, 50] (by decide +kernel) (by decide +kernel)
set_option maxRecDepth 20000 in
theorem gX8_needless_X8_fails : GoodIn wsX8_needless (wsV RX8 85 RX8 yX8_fails wsX8_fails) := goodIn_app (goodIn_of _ (by decide +kernel)) ggX8_needless_X8_fails
set_option maxRecDepth 20000 in
theorem ggX8_needless_X8_of : GoodIn wsX8_needless wsX8_of := goodIn_ca (goodIn_r _ [19, 2, 36, 37, 38, 39, 40, 41, 42, 43, 44, 45, 46, 47, 48, 49, 50] (by decide +kernel) (by decide +kernel)) (goodIn_sub (fun _ h => List.mem_cons_of_mem _ (List.mem_append_right _ h)) (by decide +kernel))
set_option maxRecDepth 20000 in
theorem gX8_needless_X8_of : GoodIn wsX8_needless (wsV RX8 56 RX8 yX8_of wsX8_of) := goodIn_app (goodIn_of _ (by decide +kernel)) ggX8_needless_X8_of
set_option maxRecDepth 20000 in
theorem ggX8_needless_X8_deedAt : GoodIn wsX8_needless wsX8_deedAt := goodIn_ca (goodIn_r _ [23, 2, 36, 37, 38, 39, 40, 41, 42, 43, 44, 45, 46, 47, 48, 49, 50] (by decide +kernel) (by decide +kernel)) (goodIn_sub (fun _ h => List.mem_cons_of_mem _ (List.mem_append_right _ h)) (by decide +kernel))
set_option maxRecDepth 20000 in
theorem gX8_needless_X8_deedAt : GoodIn wsX8_needless (wsV RX8 165 RX8 yX8_deedAt wsX8_deedAt) := goodIn_app (goodIn_of _ (by decide +kernel)) ggX8_needless_X8_deedAt
set_option maxRecDepth 20000 in
theorem ggX8_needless_X8_countDeeds : GoodIn wsX8_needless wsX8_countDeeds := goodIn_ca (goodIn_r _ [27, 2, 20, 21, 22, 6, 23, 36, 37, 38, 39, 40, 41, 42, 43, 44, 45, 46, 47, 48, 49, 50] (by decide +kernel) (by decide +kernel)) (goodIn_sub (fun _ h => List.mem_cons_of_mem _ (List.mem_append_right _ h)) (by decide +kernel))
set_option maxRecDepth 20000 in
theorem gX8_needless_X8_countDeeds : GoodIn wsX8_needless (wsV RX8 153 RX8 yX8_countDeeds wsX8_countDeeds) := goodIn_app (goodIn_of _ (by decide +kernel)) ggX8_needless_X8_countDeeds
set_option maxRecDepth 20000 in
theorem ggX8_needless_X8_holderOf : GoodIn wsX8_needless wsX8_holderOf := goodIn_ca (goodIn_r _ [31, 2, 32, 33, 34, 6, 35, 16, 17, 18, 19, 20, 21, 22, 23, 36, 37, 38, 39, 40, 41, 42, 43, 44, 45, 46, 47, 48, 49, 50] (by decide +kernel) (by decide +kernel)) (goodIn_sub (fun _ h => List.mem_cons_of_mem _ (List.mem_append_right _ h)) (by decide +kernel))
set_option maxRecDepth 20000 in
theorem gX8_needless_X8_holderOf : GoodIn wsX8_needless (wsV RX8 97 RX8 yX8_holderOf wsX8_holderOf) := goodIn_app (goodIn_of _ (by decide +kernel)) ggX8_needless_X8_holderOf
theorem dX8_needless_0 : decode cX8_needless 0 = .ok (.aload_n 0, 1) := by decide +kernel
theorem dX8_needless_1 : decode cX8_needless 1 = .ok (.iconst 1, 1) := by decide +kernel
theorem dX8_needless_2 : decode cX8_needless 2 = .ok (.aload_n 0, 1) := by decide +kernel
theorem dX8_needless_3 : decode cX8_needless 3 = .ok (.iload_n 1, 1) := by decide +kernel
theorem dX8_needless_4 : decode cX8_needless 4 = .ok (.invokevirtual 52, 3) := by decide +kernel
theorem dX8_needless_7 : decode cX8_needless 7 = .ok (.ifCond .ne 7, 3) := by decide +kernel
theorem dX8_needless_10 : decode cX8_needless 10 = .ok (.iconst 1, 1) := by decide +kernel
theorem dX8_needless_11 : decode cX8_needless 11 = .ok (.goto 4, 3) := by decide +kernel
theorem dX8_needless_14 : decode cX8_needless 14 = .ok (.iconst 0, 1) := by decide +kernel
theorem dX8_needless_15 : decode cX8_needless 15 = .ok (.invokevirtual 85, 3) := by decide +kernel
theorem dX8_needless_18 : decode cX8_needless 18 = .ok (.ifCond .eq 5, 3) := by decide +kernel
theorem dX8_needless_21 : decode cX8_needless 21 = .ok (.iconst 0, 1) := by decide +kernel
theorem dX8_needless_22 : decode cX8_needless 22 = .ok (.ireturn, 1) := by decide +kernel
theorem dX8_needless_23 : decode cX8_needless 23 = .ok (.iconst 0, 1) := by decide +kernel
theorem dX8_needless_24 : decode cX8_needless 24 = .ok (.istore_n 2, 1) := by decide +kernel
theorem dX8_needless_25 : decode cX8_needless 25 = .ok (.iload_n 2, 1) := by decide +kernel
theorem dX8_needless_26 : decode cX8_needless 26 = .ok (.bipush 10, 2) := by decide +kernel
theorem dX8_needless_28 : decode cX8_needless 28 = .ok (.if_icmp .ge 30, 3) := by decide +kernel
theorem dX8_needless_31 : decode cX8_needless 31 = .ok (.aload_n 0, 1) := by decide +kernel
theorem dX8_needless_32 : decode cX8_needless 32 = .ok (.getfield 28, 3) := by decide +kernel
theorem dX8_needless_35 : decode cX8_needless 35 = .ok (.iload_n 2, 1) := by decide +kernel
theorem dX8_needless_36 : decode cX8_needless 36 = .ok (.iload_n 2, 1) := by decide +kernel
theorem dX8_needless_37 : decode cX8_needless 37 = .ok (.aload_n 0, 1) := by decide +kernel
theorem dX8_needless_38 : decode cX8_needless 38 = .ok (.iload_n 1, 1) := by decide +kernel
theorem dX8_needless_39 : decode cX8_needless 39 = .ok (.iconst 5, 1) := by decide +kernel
theorem dX8_needless_40 : decode cX8_needless 40 = .ok (.invokevirtual 56, 3) := by decide +kernel
theorem dX8_needless_43 : decode cX8_needless 43 = .ok (.if_icmp .ne 7, 3) := by decide +kernel
theorem dX8_needless_46 : decode cX8_needless 46 = .ok (.iconst 0, 1) := by decide +kernel
theorem dX8_needless_47 : decode cX8_needless 47 = .ok (.goto 4, 3) := by decide +kernel
theorem dX8_needless_50 : decode cX8_needless 50 = .ok (.iconst (-1), 1) := by decide +kernel
theorem dX8_needless_51 : decode cX8_needless 51 = .ok (.iastore, 1) := by decide +kernel
theorem dX8_needless_52 : decode cX8_needless 52 = .ok (.iinc 2 1, 3) := by decide +kernel
theorem dX8_needless_55 : decode cX8_needless 55 = .ok (.goto (-30), 3) := by decide +kernel
theorem dX8_needless_58 : decode cX8_needless 58 = .ok (.iconst 0, 1) := by decide +kernel
theorem dX8_needless_59 : decode cX8_needless 59 = .ok (.istore_n 2, 1) := by decide +kernel
theorem dX8_needless_60 : decode cX8_needless 60 = .ok (.iload_n 2, 1) := by decide +kernel
theorem dX8_needless_61 : decode cX8_needless 61 = .ok (.aload_n 0, 1) := by decide +kernel
theorem dX8_needless_62 : decode cX8_needless 62 = .ok (.getfield 9, 3) := by decide +kernel
theorem dX8_needless_65 : decode cX8_needless 65 = .ok (.iconst 2, 1) := by decide +kernel
theorem dX8_needless_66 : decode cX8_needless 66 = .ok (.iaload, 1) := by decide +kernel
theorem dX8_needless_67 : decode cX8_needless 67 = .ok (.if_icmp .ge 86, 3) := by decide +kernel
theorem dX8_needless_70 : decode cX8_needless 70 = .ok (.aload_n 0, 1) := by decide +kernel
theorem dX8_needless_71 : decode cX8_needless 71 = .ok (.getfield 28, 3) := by decide +kernel
theorem dX8_needless_74 : decode cX8_needless 74 = .ok (.aload_n 0, 1) := by decide +kernel
theorem dX8_needless_75 : decode cX8_needless 75 = .ok (.iload_n 2, 1) := by decide +kernel
theorem dX8_needless_76 : decode cX8_needless 76 = .ok (.iconst 1, 1) := by decide +kernel
theorem dX8_needless_77 : decode cX8_needless 77 = .ok (.invokevirtual 165, 3) := by decide +kernel
theorem dX8_needless_80 : decode cX8_needless 80 = .ok (.iaload, 1) := by decide +kernel
theorem dX8_needless_81 : decode cX8_needless 81 = .ok (.iconst 1, 1) := by decide +kernel
theorem dX8_needless_82 : decode cX8_needless 82 = .ok (.iadd, 1) := by decide +kernel
theorem dX8_needless_83 : decode cX8_needless 83 = .ok (.istore_n 3, 1) := by decide +kernel
theorem dX8_needless_84 : decode cX8_needless 84 = .ok (.aload_n 0, 1) := by decide +kernel
theorem dX8_needless_85 : decode cX8_needless 85 = .ok (.iload_n 2, 1) := by decide +kernel
theorem dX8_needless_86 : decode cX8_needless 86 = .ok (.iconst 2, 1) := by decide +kernel
theorem dX8_needless_87 : decode cX8_needless 87 = .ok (.invokevirtual 165, 3) := by decide +kernel
theorem dX8_needless_90 : decode cX8_needless 90 = .ok (.istore 4, 2) := by decide +kernel
theorem dX8_needless_92 : decode cX8_needless 92 = .ok (.aload_n 0, 1) := by decide +kernel
theorem dX8_needless_93 : decode cX8_needless 93 = .ok (.iload_n 2, 1) := by decide +kernel
theorem dX8_needless_94 : decode cX8_needless 94 = .ok (.iconst 0, 1) := by decide +kernel
theorem dX8_needless_95 : decode cX8_needless 95 = .ok (.invokevirtual 165, 3) := by decide +kernel
theorem dX8_needless_98 : decode cX8_needless 98 = .ok (.iload_n 1, 1) := by decide +kernel
theorem dX8_needless_99 : decode cX8_needless 99 = .ok (.if_icmp .ne 22, 3) := by decide +kernel
theorem dX8_needless_102 : decode cX8_needless 102 = .ok (.iload_n 3, 1) := by decide +kernel
theorem dX8_needless_103 : decode cX8_needless 103 = .ok (.ifCond .le 18, 3) := by decide +kernel
theorem dX8_needless_106 : decode cX8_needless 106 = .ok (.iload_n 3, 1) := by decide +kernel
theorem dX8_needless_107 : decode cX8_needless 107 = .ok (.aload_n 0, 1) := by decide +kernel
theorem dX8_needless_108 : decode cX8_needless 108 = .ok (.getfield 28, 3) := by decide +kernel
theorem dX8_needless_111 : decode cX8_needless 111 = .ok (.iload 4, 2) := by decide +kernel
theorem dX8_needless_113 : decode cX8_needless 113 = .ok (.iaload, 1) := by decide +kernel
theorem dX8_needless_114 : decode cX8_needless 114 = .ok (.if_icmp .le 7, 3) := by decide +kernel
theorem dX8_needless_117 : decode cX8_needless 117 = .ok (.iconst 1, 1) := by decide +kernel
theorem dX8_needless_118 : decode cX8_needless 118 = .ok (.goto 4, 3) := by decide +kernel
theorem dX8_needless_121 : decode cX8_needless 121 = .ok (.iconst 0, 1) := by decide +kernel
theorem dX8_needless_122 : decode cX8_needless 122 = .ok (.istore 5, 2) := by decide +kernel
theorem dX8_needless_124 : decode cX8_needless 124 = .ok (.aload_n 0, 1) := by decide +kernel
theorem dX8_needless_125 : decode cX8_needless 125 = .ok (.getfield 28, 3) := by decide +kernel
theorem dX8_needless_128 : decode cX8_needless 128 = .ok (.iload 4, 2) := by decide +kernel
theorem dX8_needless_130 : decode cX8_needless 130 = .ok (.iload 5, 2) := by decide +kernel
theorem dX8_needless_132 : decode cX8_needless 132 = .ok (.ifCond .eq 7, 3) := by decide +kernel
theorem dX8_needless_135 : decode cX8_needless 135 = .ok (.iload_n 3, 1) := by decide +kernel
theorem dX8_needless_136 : decode cX8_needless 136 = .ok (.goto 10, 3) := by decide +kernel
theorem dX8_needless_139 : decode cX8_needless 139 = .ok (.aload_n 0, 1) := by decide +kernel
theorem dX8_needless_140 : decode cX8_needless 140 = .ok (.getfield 28, 3) := by decide +kernel
theorem dX8_needless_143 : decode cX8_needless 143 = .ok (.iload 4, 2) := by decide +kernel
theorem dX8_needless_145 : decode cX8_needless 145 = .ok (.iaload, 1) := by decide +kernel
theorem dX8_needless_146 : decode cX8_needless 146 = .ok (.iastore, 1) := by decide +kernel
theorem dX8_needless_147 : decode cX8_needless 147 = .ok (.iinc 2 1, 3) := by decide +kernel
theorem dX8_needless_150 : decode cX8_needless 150 = .ok (.goto (-90), 3) := by decide +kernel
theorem dX8_needless_153 : decode cX8_needless 153 = .ok (.aload_n 0, 1) := by decide +kernel
theorem dX8_needless_154 : decode cX8_needless 154 = .ok (.iload_n 1, 1) := by decide +kernel
theorem dX8_needless_155 : decode cX8_needless 155 = .ok (.invokevirtual 153, 3) := by decide +kernel
theorem dX8_needless_158 : decode cX8_needless 158 = .ok (.aload_n 0, 1) := by decide +kernel
theorem dX8_needless_159 : decode cX8_needless 159 = .ok (.getfield 28, 3) := by decide +kernel
theorem dX8_needless_162 : decode cX8_needless 162 = .ok (.aload_n 0, 1) := by decide +kernel
theorem dX8_needless_163 : decode cX8_needless 163 = .ok (.iload_n 1, 1) := by decide +kernel
theorem dX8_needless_164 : decode cX8_needless 164 = .ok (.invokevirtual 97, 3) := by decide +kernel
theorem dX8_needless_167 : decode cX8_needless 167 = .ok (.iaload, 1) := by decide +kernel
theorem dX8_needless_168 : decode cX8_needless 168 = .ok (.isub, 1) := by decide +kernel
theorem dX8_needless_169 : decode cX8_needless 169 = .ok (.ireturn, 1) := by decide +kernel
set_option maxRecDepth 20000 in
theorem ggX8_isKind_X8_isBetween : GoodIn wsX8_isKind wsX8_isBetween := goodIn_r _ [4] (by decide +kernel) (by decide +kernel)
set_option maxRecDepth 20000 in
theorem gX8_isKind_X8_isBetween : GoodIn wsX8_isKind (va_wsS RX8 48 yX8_isBetween wsX8_isBetween) := goodIn_app (goodIn_of _ (by decide +kernel)) ggX8_isKind_X8_isBetween
theorem dX8_isKind_0 : decode cX8_isKind 0 = .ok (.iload_n 0, 1) := by decide +kernel
theorem dX8_isKind_1 : decode cX8_isKind 1 = .ok (.iconst 0, 1) := by decide +kernel
theorem dX8_isKind_2 : decode cX8_isKind 2 = .ok (.iconst 3, 1) := by decide +kernel
theorem dX8_isKind_3 : decode cX8_isKind 3 = .ok (.invokestatic 48, 3) := by decide +kernel
theorem dX8_isKind_6 : decode cX8_isKind 6 = .ok (.ireturn, 1) := by decide +kernel
set_option maxRecDepth 20000 in
theorem ggX8_takesNoEasement_X8_isPresent : GoodIn wsX8_takesNoEasement wsX8_isPresent := goodIn_ca (goodIn_r _ [6, 7, 8, 9, 5, 10, 1, 11, 12, 13, 14, 15, 16, 17, 18, 19, 20, 21, 22, 23, 24, 25, 26, 27, 28, 29, 30, 31, 32] (by decide +kernel) (by decide +kernel)) (goodIn_sub (fun _ h => List.mem_cons_of_mem _ (List.mem_append_right _ h)) (by decide +kernel))
set_option maxRecDepth 20000 in
theorem gX8_takesNoEasement_X8_isPresent : GoodIn wsX8_takesNoEasement (wsV RX8 76 RX8 yX8_isPresent wsX8_isPresent) := goodIn_app (goodIn_of _ (by decide +kernel)) ggX8_takesNoEasement_X8_isPresent
theorem dX8_takesNoEasement_0 : decode cX8_takesNoEasement 0 = .ok (.aload_n 0, 1) := by decide +kernel
theorem dX8_takesNoEasement_1 : decode cX8_takesNoEasement 1 = .ok (.iload_n 1, 1) := by decide +kernel
theorem dX8_takesNoEasement_2 : decode cX8_takesNoEasement 2 = .ok (.invokevirtual 76, 3) := by decide +kernel
theorem dX8_takesNoEasement_5 : decode cX8_takesNoEasement 5 = .ok (.ifCond .eq 22, 3) := by decide +kernel
theorem dX8_takesNoEasement_8 : decode cX8_takesNoEasement 8 = .ok (.aload_n 0, 1) := by decide +kernel
theorem dX8_takesNoEasement_9 : decode cX8_takesNoEasement 9 = .ok (.iload_n 2, 1) := by decide +kernel
theorem dX8_takesNoEasement_10 : decode cX8_takesNoEasement 10 = .ok (.invokevirtual 76, 3) := by decide +kernel
theorem dX8_takesNoEasement_13 : decode cX8_takesNoEasement 13 = .ok (.ifCond .eq 14, 3) := by decide +kernel
theorem dX8_takesNoEasement_16 : decode cX8_takesNoEasement 16 = .ok (.aload_n 0, 1) := by decide +kernel
theorem dX8_takesNoEasement_17 : decode cX8_takesNoEasement 17 = .ok (.getfield 9, 3) := by decide +kernel
theorem dX8_takesNoEasement_20 : decode cX8_takesNoEasement 20 = .ok (.iconst 3, 1) := by decide +kernel
theorem dX8_takesNoEasement_21 : decode cX8_takesNoEasement 21 = .ok (.iaload, 1) := by decide +kernel
theorem dX8_takesNoEasement_22 : decode cX8_takesNoEasement 22 = .ok (.bipush 30, 2) := by decide +kernel
theorem dX8_takesNoEasement_24 : decode cX8_takesNoEasement 24 = .ok (.if_icmp .ne 7, 3) := by decide +kernel
theorem dX8_takesNoEasement_27 : decode cX8_takesNoEasement 27 = .ok (.iconst 1, 1) := by decide +kernel
theorem dX8_takesNoEasement_28 : decode cX8_takesNoEasement 28 = .ok (.goto 4, 3) := by decide +kernel
theorem dX8_takesNoEasement_31 : decode cX8_takesNoEasement 31 = .ok (.iconst 0, 1) := by decide +kernel
theorem dX8_takesNoEasement_32 : decode cX8_takesNoEasement 32 = .ok (.ireturn, 1) := by decide +kernel
set_option maxRecDepth 20000 in
theorem ggX8_addEasement_X8_isParcel : GoodIn wsX8_addEasement wsX8_isParcel := goodIn_ca (goodIn_r _ [6, 1, 7, 8, 5, 9, 47, 48, 49, 50, 51, 52, 53, 54, 55, 56, 57, 58, 59, 60, 61] (by decide +kernel) (by decide +kernel)) (goodIn_sub (fun _ h => List.mem_cons_of_mem _ (List.mem_append_right _ h)) (by decide +kernel))
set_option maxRecDepth 20000 in
theorem gX8_addEasement_X8_isParcel : GoodIn wsX8_addEasement (wsV RX8 52 RX8 yX8_isParcel wsX8_isParcel) := goodIn_app (goodIn_of _ (by decide +kernel)) ggX8_addEasement_X8_isParcel
set_option maxRecDepth 20000 in
theorem ggX8_addEasement_X8_fails : GoodIn wsX8_addEasement wsX8_fails := goodIn_r _ [13, 14, 47, 48, 49, 50, 51, 52, 53, 54, 55, 56, 57, 58, 59, 60, 61] (by decide +kernel) (by decide +kernel)
set_option maxRecDepth 20000 in
theorem gX8_addEasement_X8_fails : GoodIn wsX8_addEasement (wsV RX8 85 RX8 yX8_fails wsX8_fails) := goodIn_app (goodIn_of _ (by decide +kernel)) ggX8_addEasement_X8_fails
set_option maxRecDepth 20000 in
theorem ggX8_addEasement_X8_isKind : GoodIn wsX8_addEasement wsX8_isKind := goodIn_r _ [17, 7, 8, 5, 9] (by decide +kernel) (by decide +kernel)
set_option maxRecDepth 20000 in
theorem gX8_addEasement_X8_isKind : GoodIn wsX8_addEasement (va_wsS RX8 187 yX8_isKind wsX8_isKind) := goodIn_app (goodIn_of _ (by decide +kernel)) ggX8_addEasement_X8_isKind
set_option maxRecDepth 20000 in
theorem ggX8_addEasement_X8_takesNoEasement : GoodIn wsX8_addEasement wsX8_takesNoEasement := goodIn_ca (goodIn_r _ [21, 1, 22, 23, 24, 5, 25, 2, 3, 4, 6, 7, 8, 9, 26, 27, 28, 29, 47, 48, 49, 50, 51, 52, 53, 54, 55, 56, 57, 58, 59, 60, 61] (by decide +kernel) (by decide +kernel)) (goodIn_sub (fun _ h => List.mem_cons_of_mem _ (List.mem_append_right _ h)) (by decide +kernel))
set_option maxRecDepth 20000 in
theorem gX8_addEasement_X8_takesNoEasement : GoodIn wsX8_addEasement (wsV RX8 190 RX8 yX8_takesNoEasement wsX8_takesNoEasement) := goodIn_app (goodIn_of _ (by decide +kernel)) ggX8_addEasement_X8_takesNoEasement
set_option maxRecDepth 20000 in
theorem ggX8_addEasement_X8_remember : GoodIn wsX8_addEasement wsX8_remember := goodIn_ca (goodIn_r _ [33, 34, 35, 36, 37, 5, 38, 47, 48, 49, 50, 51, 52, 53, 54, 55, 56, 57, 58, 59, 60, 61] (by decide +kernel) (by decide +kernel)) (goodIn_sub (fun _ h => List.mem_cons_of_mem _ (List.mem_append_right _ h)) (by decide +kernel))
set_option maxRecDepth 20000 in
theorem gX8_addEasement_X8_remember : GoodIn wsX8_addEasement (wsV RX8 89 RX8 yX8_remember wsX8_remember) := goodIn_app (goodIn_of _ (by decide +kernel)) ggX8_addEasement_X8_remember
set_option maxRecDepth 20000 in
theorem ggX8_addEasement_X8_newEasement : GoodIn wsX8_addEasement wsX8_newEasement := goodIn_ca (goodIn_r _ [42, 1, 43, 44, 45, 5, 46, 47, 48, 49, 50, 51, 52, 53, 54, 55, 56, 57, 58, 59, 60, 61] (by decide +kernel) (by decide +kernel)) (goodIn_sub (fun _ h => List.mem_cons_of_mem _ (List.mem_append_right _ h)) (by decide +kernel))
set_option maxRecDepth 20000 in
theorem gX8_addEasement_X8_newEasement : GoodIn wsX8_addEasement (wsV RX8 109 RX8 yX8_newEasement wsX8_newEasement) := goodIn_app (goodIn_of _ (by decide +kernel)) ggX8_addEasement_X8_newEasement
theorem dX8_addEasement_0 : decode cX8_addEasement 0 = .ok (.aload_n 0, 1) := by decide +kernel
theorem dX8_addEasement_1 : decode cX8_addEasement 1 = .ok (.iconst 1, 1) := by decide +kernel
theorem dX8_addEasement_2 : decode cX8_addEasement 2 = .ok (.aload_n 0, 1) := by decide +kernel
theorem dX8_addEasement_3 : decode cX8_addEasement 3 = .ok (.iload_n 2, 1) := by decide +kernel
theorem dX8_addEasement_4 : decode cX8_addEasement 4 = .ok (.invokevirtual 52, 3) := by decide +kernel
theorem dX8_addEasement_7 : decode cX8_addEasement 7 = .ok (.ifCond .eq 11, 3) := by decide +kernel
theorem dX8_addEasement_10 : decode cX8_addEasement 10 = .ok (.aload_n 0, 1) := by decide +kernel
theorem dX8_addEasement_11 : decode cX8_addEasement 11 = .ok (.iload_n 3, 1) := by decide +kernel
theorem dX8_addEasement_12 : decode cX8_addEasement 12 = .ok (.invokevirtual 52, 3) := by decide +kernel
theorem dX8_addEasement_15 : decode cX8_addEasement 15 = .ok (.ifCond .ne 7, 3) := by decide +kernel
theorem dX8_addEasement_18 : decode cX8_addEasement 18 = .ok (.iconst 1, 1) := by decide +kernel
theorem dX8_addEasement_19 : decode cX8_addEasement 19 = .ok (.goto 4, 3) := by decide +kernel
theorem dX8_addEasement_22 : decode cX8_addEasement 22 = .ok (.iconst 0, 1) := by decide +kernel
theorem dX8_addEasement_23 : decode cX8_addEasement 23 = .ok (.invokevirtual 85, 3) := by decide +kernel
theorem dX8_addEasement_26 : decode cX8_addEasement 26 = .ok (.ifCond .ne 42, 3) := by decide +kernel
theorem dX8_addEasement_29 : decode cX8_addEasement 29 = .ok (.aload_n 0, 1) := by decide +kernel
theorem dX8_addEasement_30 : decode cX8_addEasement 30 = .ok (.iconst 2, 1) := by decide +kernel
theorem dX8_addEasement_31 : decode cX8_addEasement 31 = .ok (.iload_n 1, 1) := by decide +kernel
theorem dX8_addEasement_32 : decode cX8_addEasement 32 = .ok (.invokestatic 187, 3) := by decide +kernel
theorem dX8_addEasement_35 : decode cX8_addEasement 35 = .ok (.ifCond .eq 8, 3) := by decide +kernel
theorem dX8_addEasement_38 : decode cX8_addEasement 38 = .ok (.iload_n 2, 1) := by decide +kernel
theorem dX8_addEasement_39 : decode cX8_addEasement 39 = .ok (.iload_n 3, 1) := by decide +kernel
theorem dX8_addEasement_40 : decode cX8_addEasement 40 = .ok (.if_icmp .ne 7, 3) := by decide +kernel
theorem dX8_addEasement_43 : decode cX8_addEasement 43 = .ok (.iconst 1, 1) := by decide +kernel
theorem dX8_addEasement_44 : decode cX8_addEasement 44 = .ok (.goto 4, 3) := by decide +kernel
theorem dX8_addEasement_47 : decode cX8_addEasement 47 = .ok (.iconst 0, 1) := by decide +kernel
theorem dX8_addEasement_48 : decode cX8_addEasement 48 = .ok (.invokevirtual 85, 3) := by decide +kernel
theorem dX8_addEasement_51 : decode cX8_addEasement 51 = .ok (.ifCond .ne 17, 3) := by decide +kernel
theorem dX8_addEasement_54 : decode cX8_addEasement 54 = .ok (.aload_n 0, 1) := by decide +kernel
theorem dX8_addEasement_55 : decode cX8_addEasement 55 = .ok (.iconst 3, 1) := by decide +kernel
theorem dX8_addEasement_56 : decode cX8_addEasement 56 = .ok (.aload_n 0, 1) := by decide +kernel
theorem dX8_addEasement_57 : decode cX8_addEasement 57 = .ok (.iload_n 2, 1) := by decide +kernel
theorem dX8_addEasement_58 : decode cX8_addEasement 58 = .ok (.iload_n 3, 1) := by decide +kernel
theorem dX8_addEasement_59 : decode cX8_addEasement 59 = .ok (.invokevirtual 190, 3) := by decide +kernel
theorem dX8_addEasement_62 : decode cX8_addEasement 62 = .ok (.invokevirtual 85, 3) := by decide +kernel
theorem dX8_addEasement_65 : decode cX8_addEasement 65 = .ok (.ifCond .eq 5, 3) := by decide +kernel
theorem dX8_addEasement_68 : decode cX8_addEasement 68 = .ok (.iconst 0, 1) := by decide +kernel
theorem dX8_addEasement_69 : decode cX8_addEasement 69 = .ok (.ireturn, 1) := by decide +kernel
theorem dX8_addEasement_70 : decode cX8_addEasement 70 = .ok (.aload_n 0, 1) := by decide +kernel
theorem dX8_addEasement_71 : decode cX8_addEasement 71 = .ok (.aload_n 0, 1) := by decide +kernel
theorem dX8_addEasement_72 : decode cX8_addEasement 72 = .ok (.getfield 9, 3) := by decide +kernel
theorem dX8_addEasement_75 : decode cX8_addEasement 75 = .ok (.invokevirtual 89, 3) := by decide +kernel
theorem dX8_addEasement_78 : decode cX8_addEasement 78 = .ok (.aload_n 0, 1) := by decide +kernel
theorem dX8_addEasement_79 : decode cX8_addEasement 79 = .ok (.iload_n 1, 1) := by decide +kernel
theorem dX8_addEasement_80 : decode cX8_addEasement 80 = .ok (.iload_n 2, 1) := by decide +kernel
theorem dX8_addEasement_81 : decode cX8_addEasement 81 = .ok (.iload_n 3, 1) := by decide +kernel
theorem dX8_addEasement_82 : decode cX8_addEasement 82 = .ok (.invokevirtual 109, 3) := by decide +kernel
theorem dX8_addEasement_85 : decode cX8_addEasement 85 = .ok (.ireturn, 1) := by decide +kernel
set_option maxRecDepth 20000 in
theorem ggX8_isEasement_X8_isBetween : GoodIn wsX8_isEasement wsX8_isBetween := goodIn_r _ [5] (by decide +kernel) (by decide +kernel)
set_option maxRecDepth 20000 in
theorem gX8_isEasement_X8_isBetween : GoodIn wsX8_isEasement (va_wsS RX8 48 yX8_isBetween wsX8_isBetween) := goodIn_app (goodIn_of _ (by decide +kernel)) ggX8_isEasement_X8_isBetween
theorem dX8_isEasement_0 : decode cX8_isEasement 0 = .ok (.iload_n 1, 1) := by decide +kernel
theorem dX8_isEasement_1 : decode cX8_isEasement 1 = .ok (.iconst 0, 1) := by decide +kernel
theorem dX8_isEasement_2 : decode cX8_isEasement 2 = .ok (.aload_n 0, 1) := by decide +kernel
theorem dX8_isEasement_3 : decode cX8_isEasement 3 = .ok (.getfield 9, 3) := by decide +kernel
theorem dX8_isEasement_6 : decode cX8_isEasement 6 = .ok (.iconst 3, 1) := by decide +kernel
theorem dX8_isEasement_7 : decode cX8_isEasement 7 = .ok (.iaload, 1) := by decide +kernel
theorem dX8_isEasement_8 : decode cX8_isEasement 8 = .ok (.iconst 1, 1) := by decide +kernel
theorem dX8_isEasement_9 : decode cX8_isEasement 9 = .ok (.isub, 1) := by decide +kernel
theorem dX8_isEasement_10 : decode cX8_isEasement 10 = .ok (.invokestatic 48, 3) := by decide +kernel
theorem dX8_isEasement_13 : decode cX8_isEasement 13 = .ok (.ireturn, 1) := by decide +kernel
set_option maxRecDepth 20000 in
theorem ggX8_countEasements_X8_lasts : GoodIn wsX8_countEasements wsX8_lasts := goodIn_ca (goodIn_r _ [6, 7, 8, 9, 5, 10, 1, 11, 12, 13, 14, 15, 16, 17, 18, 19, 20, 21, 22, 23, 24, 25] (by decide +kernel) (by decide +kernel)) (goodIn_sub (fun _ h => List.mem_cons_of_mem _ (List.mem_append_right _ h)) (by decide +kernel))
set_option maxRecDepth 20000 in
theorem gX8_countEasements_X8_lasts : GoodIn wsX8_countEasements (wsV RX8 106 RX8 yX8_lasts wsX8_lasts) := goodIn_app (goodIn_of _ (by decide +kernel)) ggX8_countEasements_X8_lasts
theorem dX8_countEasements_0 : decode cX8_countEasements 0 = .ok (.iconst 0, 1) := by decide +kernel
theorem dX8_countEasements_1 : decode cX8_countEasements 1 = .ok (.istore_n 1, 1) := by decide +kernel
theorem dX8_countEasements_2 : decode cX8_countEasements 2 = .ok (.iconst 0, 1) := by decide +kernel
theorem dX8_countEasements_3 : decode cX8_countEasements 3 = .ok (.istore_n 2, 1) := by decide +kernel
theorem dX8_countEasements_4 : decode cX8_countEasements 4 = .ok (.iload_n 2, 1) := by decide +kernel
theorem dX8_countEasements_5 : decode cX8_countEasements 5 = .ok (.aload_n 0, 1) := by decide +kernel
theorem dX8_countEasements_6 : decode cX8_countEasements 6 = .ok (.getfield 9, 3) := by decide +kernel
theorem dX8_countEasements_9 : decode cX8_countEasements 9 = .ok (.iconst 3, 1) := by decide +kernel
theorem dX8_countEasements_10 : decode cX8_countEasements 10 = .ok (.iaload, 1) := by decide +kernel
theorem dX8_countEasements_11 : decode cX8_countEasements 11 = .ok (.if_icmp .ge 25, 3) := by decide +kernel
theorem dX8_countEasements_14 : decode cX8_countEasements 14 = .ok (.iload_n 1, 1) := by decide +kernel
theorem dX8_countEasements_15 : decode cX8_countEasements 15 = .ok (.aload_n 0, 1) := by decide +kernel
theorem dX8_countEasements_16 : decode cX8_countEasements 16 = .ok (.iload_n 2, 1) := by decide +kernel
theorem dX8_countEasements_17 : decode cX8_countEasements 17 = .ok (.invokevirtual 106, 3) := by decide +kernel
theorem dX8_countEasements_20 : decode cX8_countEasements 20 = .ok (.ifCond .eq 7, 3) := by decide +kernel
theorem dX8_countEasements_23 : decode cX8_countEasements 23 = .ok (.iconst 1, 1) := by decide +kernel
theorem dX8_countEasements_24 : decode cX8_countEasements 24 = .ok (.goto 4, 3) := by decide +kernel
theorem dX8_countEasements_27 : decode cX8_countEasements 27 = .ok (.iconst 0, 1) := by decide +kernel
theorem dX8_countEasements_28 : decode cX8_countEasements 28 = .ok (.iadd, 1) := by decide +kernel
theorem dX8_countEasements_29 : decode cX8_countEasements 29 = .ok (.istore_n 1, 1) := by decide +kernel
theorem dX8_countEasements_30 : decode cX8_countEasements 30 = .ok (.iinc 2 1, 3) := by decide +kernel
theorem dX8_countEasements_33 : decode cX8_countEasements 33 = .ok (.goto (-29), 3) := by decide +kernel
theorem dX8_countEasements_36 : decode cX8_countEasements 36 = .ok (.iload_n 1, 1) := by decide +kernel
theorem dX8_countEasements_37 : decode cX8_countEasements 37 = .ok (.ireturn, 1) := by decide +kernel
set_option maxRecDepth 20000 in
theorem ggX8_endEasement_X8_isEasement : GoodIn wsX8_endEasement wsX8_isEasement := goodIn_ca (goodIn_r _ [6, 1, 7, 8, 5, 9, 40, 41, 42, 43, 44, 45, 46, 47, 48, 49, 50, 51, 52, 53, 54] (by decide +kernel) (by decide +kernel)) (goodIn_sub (fun _ h => List.mem_cons_of_mem _ (List.mem_append_right _ h)) (by decide +kernel))
set_option maxRecDepth 20000 in
theorem gX8_endEasement_X8_isEasement : GoodIn wsX8_endEasement (wsV RX8 193 RX8 yX8_isEasement wsX8_isEasement) := goodIn_app (goodIn_of _ (by decide +kernel)) ggX8_endEasement_X8_isEasement
set_option maxRecDepth 20000 in
theorem ggX8_endEasement_X8_fails : GoodIn wsX8_endEasement wsX8_fails := goodIn_r _ [13, 14, 40, 41, 42, 43, 44, 45, 46, 47, 48, 49, 50, 51, 52, 53, 54] (by decide +kernel) (by decide +kernel)
set_option maxRecDepth 20000 in
theorem gX8_endEasement_X8_fails : GoodIn wsX8_endEasement (wsV RX8 85 RX8 yX8_fails wsX8_fails) := goodIn_app (goodIn_of _ (by decide +kernel)) ggX8_endEasement_X8_fails
set_option maxRecDepth 20000 in
theorem ggX8_endEasement_X8_lasts : GoodIn wsX8_endEasement wsX8_lasts := goodIn_ca (goodIn_r _ [18, 19, 20, 21, 5, 22, 1, 40, 41, 42, 43, 44, 45, 46, 47, 48, 49, 50, 51, 52, 53, 54] (by decide +kernel) (by decide +kernel)) (goodIn_sub (fun _ h => List.mem_cons_of_mem _ (List.mem_append_right _ h)) (by decide +kernel))
set_option maxRecDepth 20000 in
theorem gX8_endEasement_X8_lasts : GoodIn wsX8_endEasement (wsV RX8 106 RX8 yX8_lasts wsX8_lasts) := goodIn_app (goodIn_of _ (by decide +kernel)) ggX8_endEasement_X8_lasts
set_option maxRecDepth 20000 in
theorem ggX8_endEasement_X8_remember : GoodIn wsX8_endEasement wsX8_remember := goodIn_ca (goodIn_r _ [26, 27, 28, 29, 30, 5, 31, 40, 41, 42, 43, 44, 45, 46, 47, 48, 49, 50, 51, 52, 53, 54] (by decide +kernel) (by decide +kernel)) (goodIn_sub (fun _ h => List.mem_cons_of_mem _ (List.mem_append_right _ h)) (by decide +kernel))
set_option maxRecDepth 20000 in
theorem gX8_endEasement_X8_remember : GoodIn wsX8_endEasement (wsV RX8 89 RX8 yX8_remember wsX8_remember) := goodIn_app (goodIn_of _ (by decide +kernel)) ggX8_endEasement_X8_remember
set_option maxRecDepth 20000 in
theorem ggX8_endEasement_X8_setEasement : GoodIn wsX8_endEasement wsX8_setEasement := goodIn_ca (goodIn_r _ [35, 1, 40, 41, 42, 43, 44, 45, 46, 47, 48, 49, 50, 51, 52, 53, 54] (by decide +kernel) (by decide +kernel)) (goodIn_sub (fun _ h => List.mem_cons_of_mem _ (List.mem_append_right _ h)) (by decide +kernel))
set_option maxRecDepth 20000 in
theorem gX8_endEasement_X8_setEasement : GoodIn wsX8_endEasement (wsV RX8 103 RX8 yX8_setEasement wsX8_setEasement) := goodIn_app (goodIn_of _ (by decide +kernel)) ggX8_endEasement_X8_setEasement
set_option maxRecDepth 20000 in
theorem ggX8_endEasement_X8_countEasements : GoodIn wsX8_endEasement wsX8_countEasements := goodIn_ca (goodIn_r _ [39, 1, 15, 16, 17, 5, 18, 19, 20, 21, 22, 40, 41, 42, 43, 44, 45, 46, 47, 48, 49, 50, 51, 52, 53, 54] (by decide +kernel) (by decide +kernel)) (goodIn_sub (fun _ h => List.mem_cons_of_mem _ (List.mem_append_right _ h)) (by decide +kernel))
set_option maxRecDepth 20000 in
theorem gX8_endEasement_X8_countEasements : GoodIn wsX8_endEasement (wsV RX8 196 RX8 yX8_countEasements wsX8_countEasements) := goodIn_app (goodIn_of _ (by decide +kernel)) ggX8_endEasement_X8_countEasements
theorem dX8_endEasement_0 : decode cX8_endEasement 0 = .ok (.aload_n 0, 1) := by decide +kernel
theorem dX8_endEasement_1 : decode cX8_endEasement 1 = .ok (.iconst 1, 1) := by decide +kernel
theorem dX8_endEasement_2 : decode cX8_endEasement 2 = .ok (.aload_n 0, 1) := by decide +kernel
theorem dX8_endEasement_3 : decode cX8_endEasement 3 = .ok (.iload_n 1, 1) := by decide +kernel
theorem dX8_endEasement_4 : decode cX8_endEasement 4 = .ok (.invokevirtual 193, 3) := by decide +kernel
theorem dX8_endEasement_7 : decode cX8_endEasement 7 = .ok (.ifCond .ne 7, 3) := by decide +kernel
theorem dX8_endEasement_10 : decode cX8_endEasement 10 = .ok (.iconst 1, 1) := by decide +kernel
theorem dX8_endEasement_11 : decode cX8_endEasement 11 = .ok (.goto 4, 3) := by decide +kernel
theorem dX8_endEasement_14 : decode cX8_endEasement 14 = .ok (.iconst 0, 1) := by decide +kernel
theorem dX8_endEasement_15 : decode cX8_endEasement 15 = .ok (.invokevirtual 85, 3) := by decide +kernel
theorem dX8_endEasement_18 : decode cX8_endEasement 18 = .ok (.ifCond .ne 24, 3) := by decide +kernel
theorem dX8_endEasement_21 : decode cX8_endEasement 21 = .ok (.aload_n 0, 1) := by decide +kernel
theorem dX8_endEasement_22 : decode cX8_endEasement 22 = .ok (.iconst 2, 1) := by decide +kernel
theorem dX8_endEasement_23 : decode cX8_endEasement 23 = .ok (.aload_n 0, 1) := by decide +kernel
theorem dX8_endEasement_24 : decode cX8_endEasement 24 = .ok (.iload_n 1, 1) := by decide +kernel
theorem dX8_endEasement_25 : decode cX8_endEasement 25 = .ok (.invokevirtual 106, 3) := by decide +kernel
theorem dX8_endEasement_28 : decode cX8_endEasement 28 = .ok (.ifCond .ne 7, 3) := by decide +kernel
theorem dX8_endEasement_31 : decode cX8_endEasement 31 = .ok (.iconst 1, 1) := by decide +kernel
theorem dX8_endEasement_32 : decode cX8_endEasement 32 = .ok (.goto 4, 3) := by decide +kernel
theorem dX8_endEasement_35 : decode cX8_endEasement 35 = .ok (.iconst 0, 1) := by decide +kernel
theorem dX8_endEasement_36 : decode cX8_endEasement 36 = .ok (.invokevirtual 85, 3) := by decide +kernel
theorem dX8_endEasement_39 : decode cX8_endEasement 39 = .ok (.ifCond .eq 5, 3) := by decide +kernel
theorem dX8_endEasement_42 : decode cX8_endEasement 42 = .ok (.iconst 0, 1) := by decide +kernel
theorem dX8_endEasement_43 : decode cX8_endEasement 43 = .ok (.ireturn, 1) := by decide +kernel
theorem dX8_endEasement_44 : decode cX8_endEasement 44 = .ok (.aload_n 0, 1) := by decide +kernel
theorem dX8_endEasement_45 : decode cX8_endEasement 45 = .ok (.aload_n 0, 1) := by decide +kernel
theorem dX8_endEasement_46 : decode cX8_endEasement 46 = .ok (.getfield 9, 3) := by decide +kernel
theorem dX8_endEasement_49 : decode cX8_endEasement 49 = .ok (.invokevirtual 89, 3) := by decide +kernel
theorem dX8_endEasement_52 : decode cX8_endEasement 52 = .ok (.aload_n 0, 1) := by decide +kernel
theorem dX8_endEasement_53 : decode cX8_endEasement 53 = .ok (.iload_n 1, 1) := by decide +kernel
theorem dX8_endEasement_54 : decode cX8_endEasement 54 = .ok (.iconst 4, 1) := by decide +kernel
theorem dX8_endEasement_55 : decode cX8_endEasement 55 = .ok (.aload_n 0, 1) := by decide +kernel
theorem dX8_endEasement_56 : decode cX8_endEasement 56 = .ok (.getfield 9, 3) := by decide +kernel
theorem dX8_endEasement_59 : decode cX8_endEasement 59 = .ok (.iconst 0, 1) := by decide +kernel
theorem dX8_endEasement_60 : decode cX8_endEasement 60 = .ok (.iaload, 1) := by decide +kernel
theorem dX8_endEasement_61 : decode cX8_endEasement 61 = .ok (.invokevirtual 103, 3) := by decide +kernel
theorem dX8_endEasement_64 : decode cX8_endEasement 64 = .ok (.aload_n 0, 1) := by decide +kernel
theorem dX8_endEasement_65 : decode cX8_endEasement 65 = .ok (.invokevirtual 196, 3) := by decide +kernel
theorem dX8_endEasement_68 : decode cX8_endEasement 68 = .ok (.ireturn, 1) := by decide +kernel
set_option maxRecDepth 20000 in
theorem ggX8_easement_X8_isEasement : GoodIn wsX8_easement wsX8_isEasement := goodIn_ca (goodIn_r _ [5, 6, 7, 8, 4, 9, 19, 20, 21, 22, 23, 24, 25, 26, 27, 28, 29, 30, 31, 32, 33] (by decide +kernel) (by decide +kernel)) (goodIn_sub (fun _ h => List.mem_cons_of_mem _ (List.mem_append_right _ h)) (by decide +kernel))
set_option maxRecDepth 20000 in
theorem gX8_easement_X8_isEasement : GoodIn wsX8_easement (wsV RX8 193 RX8 yX8_isEasement wsX8_isEasement) := goodIn_app (goodIn_of _ (by decide +kernel)) ggX8_easement_X8_isEasement
set_option maxRecDepth 20000 in
theorem ggX8_easement_X8_fails : GoodIn wsX8_easement wsX8_fails := goodIn_r _ [13, 14, 19, 20, 21, 22, 23, 24, 25, 26, 27, 28, 29, 30, 31, 32, 33] (by decide +kernel) (by decide +kernel)
set_option maxRecDepth 20000 in
theorem gX8_easement_X8_fails : GoodIn wsX8_easement (wsV RX8 85 RX8 yX8_fails wsX8_fails) := goodIn_app (goodIn_of _ (by decide +kernel)) ggX8_easement_X8_fails
set_option maxRecDepth 20000 in
theorem ggX8_easement_X8_isBetween : GoodIn wsX8_easement wsX8_isBetween := goodIn_r _ [9] (by decide +kernel) (by decide +kernel)
set_option maxRecDepth 20000 in
theorem gX8_easement_X8_isBetween : GoodIn wsX8_easement (va_wsS RX8 48 yX8_isBetween wsX8_isBetween) := goodIn_app (goodIn_of _ (by decide +kernel)) ggX8_easement_X8_isBetween
set_option maxRecDepth 20000 in
theorem ggX8_easement_X8_easementOf : GoodIn wsX8_easement wsX8_easementOf := goodIn_ca (goodIn_r _ [18, 6, 19, 20, 21, 22, 23, 24, 25, 26, 27, 28, 29, 30, 31, 32, 33] (by decide +kernel) (by decide +kernel)) (goodIn_sub (fun _ h => List.mem_cons_of_mem _ (List.mem_append_right _ h)) (by decide +kernel))
set_option maxRecDepth 20000 in
theorem gX8_easement_X8_easementOf : GoodIn wsX8_easement (wsV RX8 100 RX8 yX8_easementOf wsX8_easementOf) := goodIn_app (goodIn_of _ (by decide +kernel)) ggX8_easement_X8_easementOf
theorem dX8_easement_0 : decode cX8_easement 0 = .ok (.aload_n 0, 1) := by decide +kernel
theorem dX8_easement_1 : decode cX8_easement 1 = .ok (.iconst 1, 1) := by decide +kernel
theorem dX8_easement_2 : decode cX8_easement 2 = .ok (.aload_n 0, 1) := by decide +kernel
theorem dX8_easement_3 : decode cX8_easement 3 = .ok (.iload_n 1, 1) := by decide +kernel
theorem dX8_easement_4 : decode cX8_easement 4 = .ok (.invokevirtual 193, 3) := by decide +kernel
theorem dX8_easement_7 : decode cX8_easement 7 = .ok (.ifCond .ne 7, 3) := by decide +kernel
theorem dX8_easement_10 : decode cX8_easement 10 = .ok (.iconst 1, 1) := by decide +kernel
theorem dX8_easement_11 : decode cX8_easement 11 = .ok (.goto 4, 3) := by decide +kernel
theorem dX8_easement_14 : decode cX8_easement 14 = .ok (.iconst 0, 1) := by decide +kernel
theorem dX8_easement_15 : decode cX8_easement 15 = .ok (.invokevirtual 85, 3) := by decide +kernel
theorem dX8_easement_18 : decode cX8_easement 18 = .ok (.ifCond .ne 25, 3) := by decide +kernel
theorem dX8_easement_21 : decode cX8_easement 21 = .ok (.aload_n 0, 1) := by decide +kernel
theorem dX8_easement_22 : decode cX8_easement 22 = .ok (.iconst 2, 1) := by decide +kernel
theorem dX8_easement_23 : decode cX8_easement 23 = .ok (.iload_n 2, 1) := by decide +kernel
theorem dX8_easement_24 : decode cX8_easement 24 = .ok (.iconst 0, 1) := by decide +kernel
theorem dX8_easement_25 : decode cX8_easement 25 = .ok (.iconst 4, 1) := by decide +kernel
theorem dX8_easement_26 : decode cX8_easement 26 = .ok (.invokestatic 48, 3) := by decide +kernel
theorem dX8_easement_29 : decode cX8_easement 29 = .ok (.ifCond .ne 7, 3) := by decide +kernel
theorem dX8_easement_32 : decode cX8_easement 32 = .ok (.iconst 1, 1) := by decide +kernel
theorem dX8_easement_33 : decode cX8_easement 33 = .ok (.goto 4, 3) := by decide +kernel
theorem dX8_easement_36 : decode cX8_easement 36 = .ok (.iconst 0, 1) := by decide +kernel
theorem dX8_easement_37 : decode cX8_easement 37 = .ok (.invokevirtual 85, 3) := by decide +kernel
theorem dX8_easement_40 : decode cX8_easement 40 = .ok (.ifCond .eq 7, 3) := by decide +kernel
theorem dX8_easement_43 : decode cX8_easement 43 = .ok (.iconst 0, 1) := by decide +kernel
theorem dX8_easement_44 : decode cX8_easement 44 = .ok (.goto 9, 3) := by decide +kernel
theorem dX8_easement_47 : decode cX8_easement 47 = .ok (.aload_n 0, 1) := by decide +kernel
theorem dX8_easement_48 : decode cX8_easement 48 = .ok (.iload_n 1, 1) := by decide +kernel
theorem dX8_easement_49 : decode cX8_easement 49 = .ok (.iload_n 2, 1) := by decide +kernel
theorem dX8_easement_50 : decode cX8_easement 50 = .ok (.invokevirtual 100, 3) := by decide +kernel
theorem dX8_easement_53 : decode cX8_easement 53 = .ok (.ireturn, 1) := by decide +kernel
set_option maxRecDepth 20000 in
theorem ggX8_easements_X8_isParcel : GoodIn wsX8_easements wsX8_isParcel := goodIn_ca (goodIn_r _ [6, 1, 7, 8, 5, 9, 26, 27, 28, 29, 30, 31, 32, 33, 34, 35, 36, 37, 38, 39, 40] (by decide +kernel) (by decide +kernel)) (goodIn_sub (fun _ h => List.mem_cons_of_mem _ (List.mem_append_right _ h)) (by decide +kernel))
set_option maxRecDepth 20000 in
theorem gX8_easements_X8_isParcel : GoodIn wsX8_easements (wsV RX8 52 RX8 yX8_isParcel wsX8_isParcel) := goodIn_app (goodIn_of _ (by decide +kernel)) ggX8_easements_X8_isParcel
set_option maxRecDepth 20000 in
theorem ggX8_easements_X8_fails : GoodIn wsX8_easements wsX8_fails := goodIn_r _ [13, 14, 26, 27, 28, 29, 30, 31, 32, 33, 34, 35, 36, 37, 38, 39, 40] (by decide +kernel) (by decide +kernel)
set_option maxRecDepth 20000 in
theorem gX8_easements_X8_fails : GoodIn wsX8_easements (wsV RX8 85 RX8 yX8_fails wsX8_fails) := goodIn_app (goodIn_of _ (by decide +kernel)) ggX8_easements_X8_fails
set_option maxRecDepth 20000 in
theorem ggX8_easements_X8_lasts : GoodIn wsX8_easements wsX8_lasts := goodIn_ca (goodIn_r _ [18, 19, 20, 21, 5, 22, 1, 26, 27, 28, 29, 30, 31, 32, 33, 34, 35, 36, 37, 38, 39, 40] (by decide +kernel) (by decide +kernel)) (goodIn_sub (fun _ h => List.mem_cons_of_mem _ (List.mem_append_right _ h)) (by decide +kernel))
set_option maxRecDepth 20000 in
theorem gX8_easements_X8_lasts : GoodIn wsX8_easements (wsV RX8 106 RX8 yX8_lasts wsX8_lasts) := goodIn_app (goodIn_of _ (by decide +kernel)) ggX8_easements_X8_lasts
set_option maxRecDepth 20000 in
theorem ggX8_easements_X8_easementOf : GoodIn wsX8_easements wsX8_easementOf := goodIn_ca (goodIn_r _ [22, 1, 26, 27, 28, 29, 30, 31, 32, 33, 34, 35, 36, 37, 38, 39, 40] (by decide +kernel) (by decide +kernel)) (goodIn_sub (fun _ h => List.mem_cons_of_mem _ (List.mem_append_right _ h)) (by decide +kernel))
set_option maxRecDepth 20000 in
theorem gX8_easements_X8_easementOf : GoodIn wsX8_easements (wsV RX8 100 RX8 yX8_easementOf wsX8_easementOf) := goodIn_app (goodIn_of _ (by decide +kernel)) ggX8_easements_X8_easementOf
set_option maxRecDepth 20000 in
theorem ggX8_easements_X8_bit : GoodIn wsX8_easements wsX8_bit := goodIn_r _ [25] (by decide +kernel) (by decide +kernel)
set_option maxRecDepth 20000 in
theorem gX8_easements_X8_bit : GoodIn wsX8_easements (va_wsS RX8 64 yX8_bit wsX8_bit) := goodIn_app (goodIn_of _ (by decide +kernel)) ggX8_easements_X8_bit
theorem dX8_easements_0 : decode cX8_easements 0 = .ok (.aload_n 0, 1) := by decide +kernel
theorem dX8_easements_1 : decode cX8_easements 1 = .ok (.iconst 1, 1) := by decide +kernel
theorem dX8_easements_2 : decode cX8_easements 2 = .ok (.aload_n 0, 1) := by decide +kernel
theorem dX8_easements_3 : decode cX8_easements 3 = .ok (.iload_n 1, 1) := by decide +kernel
theorem dX8_easements_4 : decode cX8_easements 4 = .ok (.invokevirtual 52, 3) := by decide +kernel
theorem dX8_easements_7 : decode cX8_easements 7 = .ok (.ifCond .ne 7, 3) := by decide +kernel
theorem dX8_easements_10 : decode cX8_easements 10 = .ok (.iconst 1, 1) := by decide +kernel
theorem dX8_easements_11 : decode cX8_easements 11 = .ok (.goto 4, 3) := by decide +kernel
theorem dX8_easements_14 : decode cX8_easements 14 = .ok (.iconst 0, 1) := by decide +kernel
theorem dX8_easements_15 : decode cX8_easements 15 = .ok (.invokevirtual 85, 3) := by decide +kernel
theorem dX8_easements_18 : decode cX8_easements 18 = .ok (.ifCond .eq 5, 3) := by decide +kernel
theorem dX8_easements_21 : decode cX8_easements 21 = .ok (.iconst 0, 1) := by decide +kernel
theorem dX8_easements_22 : decode cX8_easements 22 = .ok (.ireturn, 1) := by decide +kernel
theorem dX8_easements_23 : decode cX8_easements 23 = .ok (.iconst 0, 1) := by decide +kernel
theorem dX8_easements_24 : decode cX8_easements 24 = .ok (.istore_n 3, 1) := by decide +kernel
theorem dX8_easements_25 : decode cX8_easements 25 = .ok (.iconst 0, 1) := by decide +kernel
theorem dX8_easements_26 : decode cX8_easements 26 = .ok (.istore 4, 2) := by decide +kernel
theorem dX8_easements_28 : decode cX8_easements 28 = .ok (.iload 4, 2) := by decide +kernel
theorem dX8_easements_30 : decode cX8_easements 30 = .ok (.aload_n 0, 1) := by decide +kernel
theorem dX8_easements_31 : decode cX8_easements 31 = .ok (.getfield 9, 3) := by decide +kernel
theorem dX8_easements_34 : decode cX8_easements 34 = .ok (.iconst 3, 1) := by decide +kernel
theorem dX8_easements_35 : decode cX8_easements 35 = .ok (.iaload, 1) := by decide +kernel
theorem dX8_easements_36 : decode cX8_easements 36 = .ok (.if_icmp .ge 49, 3) := by decide +kernel
theorem dX8_easements_39 : decode cX8_easements 39 = .ok (.iload_n 3, 1) := by decide +kernel
theorem dX8_easements_40 : decode cX8_easements 40 = .ok (.aload_n 0, 1) := by decide +kernel
theorem dX8_easements_41 : decode cX8_easements 41 = .ok (.iload 4, 2) := by decide +kernel
theorem dX8_easements_43 : decode cX8_easements 43 = .ok (.invokevirtual 106, 3) := by decide +kernel
theorem dX8_easements_46 : decode cX8_easements 46 = .ok (.ifCond .eq 30, 3) := by decide +kernel
theorem dX8_easements_49 : decode cX8_easements 49 = .ok (.aload_n 0, 1) := by decide +kernel
theorem dX8_easements_50 : decode cX8_easements 50 = .ok (.iload 4, 2) := by decide +kernel
theorem dX8_easements_52 : decode cX8_easements 52 = .ok (.iload_n 2, 1) := by decide +kernel
theorem dX8_easements_53 : decode cX8_easements 53 = .ok (.ifCond .eq 7, 3) := by decide +kernel
theorem dX8_easements_56 : decode cX8_easements 56 = .ok (.iconst 1, 1) := by decide +kernel
theorem dX8_easements_57 : decode cX8_easements 57 = .ok (.goto 4, 3) := by decide +kernel
theorem dX8_easements_60 : decode cX8_easements 60 = .ok (.iconst 2, 1) := by decide +kernel
theorem dX8_easements_61 : decode cX8_easements 61 = .ok (.invokevirtual 100, 3) := by decide +kernel
theorem dX8_easements_64 : decode cX8_easements 64 = .ok (.iload_n 1, 1) := by decide +kernel
theorem dX8_easements_65 : decode cX8_easements 65 = .ok (.if_icmp .ne 11, 3) := by decide +kernel
theorem dX8_easements_68 : decode cX8_easements 68 = .ok (.iload 4, 2) := by decide +kernel
theorem dX8_easements_70 : decode cX8_easements 70 = .ok (.invokestatic 64, 3) := by decide +kernel
theorem dX8_easements_73 : decode cX8_easements 73 = .ok (.goto 4, 3) := by decide +kernel
theorem dX8_easements_76 : decode cX8_easements 76 = .ok (.iconst 0, 1) := by decide +kernel
theorem dX8_easements_77 : decode cX8_easements 77 = .ok (.ior, 1) := by decide +kernel
theorem dX8_easements_78 : decode cX8_easements 78 = .ok (.istore_n 3, 1) := by decide +kernel
theorem dX8_easements_79 : decode cX8_easements 79 = .ok (.iinc 4 1, 3) := by decide +kernel
theorem dX8_easements_82 : decode cX8_easements 82 = .ok (.goto (-54), 3) := by decide +kernel
theorem dX8_easements_85 : decode cX8_easements 85 = .ok (.iload_n 3, 1) := by decide +kernel
theorem dX8_easements_86 : decode cX8_easements 86 = .ok (.ireturn, 1) := by decide +kernel
set_option maxRecDepth 20000 in
theorem ggX8_access_X8_isParcel : GoodIn wsX8_access wsX8_isParcel := goodIn_ca (goodIn_r _ [6, 1, 7, 8, 5, 9, 32, 33, 34, 35, 36, 37, 38, 39, 40, 41, 42, 43, 44, 45, 46] (by decide +kernel) (by decide +kernel)) (goodIn_sub (fun _ h => List.mem_cons_of_mem _ (List.mem_append_right _ h)) (by decide +kernel))
set_option maxRecDepth 20000 in
theorem gX8_access_X8_isParcel : GoodIn wsX8_access (wsV RX8 52 RX8 yX8_isParcel wsX8_isParcel) := goodIn_app (goodIn_of _ (by decide +kernel)) ggX8_access_X8_isParcel
set_option maxRecDepth 20000 in
theorem ggX8_access_X8_fails : GoodIn wsX8_access wsX8_fails := goodIn_r _ [13, 14, 32, 33, 34, 35, 36, 37, 38, 39, 40, 41, 42, 43, 44, 45, 46] (by decide +kernel) (by decide +kernel)
set_option maxRecDepth 20000 in
theorem gX8_access_X8_fails : GoodIn wsX8_access (wsV RX8 85 RX8 yX8_fails wsX8_fails) := goodIn_app (goodIn_of _ (by decide +kernel)) ggX8_access_X8_fails
set_option maxRecDepth 20000 in
theorem ggX8_access_X8_isKind : GoodIn wsX8_access wsX8_isKind := goodIn_r _ [17, 7, 8, 5, 9] (by decide +kernel) (by decide +kernel)
set_option maxRecDepth 20000 in
theorem gX8_access_X8_isKind : GoodIn wsX8_access (va_wsS RX8 187 yX8_isKind wsX8_isKind) := goodIn_app (goodIn_of _ (by decide +kernel)) ggX8_access_X8_isKind
set_option maxRecDepth 20000 in
theorem ggX8_access_X8_bit : GoodIn wsX8_access wsX8_bit := goodIn_r _ [20] (by decide +kernel) (by decide +kernel)
set_option maxRecDepth 20000 in
theorem gX8_access_X8_bit : GoodIn wsX8_access (va_wsS RX8 64 yX8_bit wsX8_bit) := goodIn_app (goodIn_of _ (by decide +kernel)) ggX8_access_X8_bit
set_option maxRecDepth 20000 in
theorem ggX8_access_X8_lasts : GoodIn wsX8_access wsX8_lasts := goodIn_ca (goodIn_r _ [24, 25, 26, 27, 5, 28, 1, 32, 33, 34, 35, 36, 37, 38, 39, 40, 41, 42, 43, 44, 45, 46] (by decide +kernel) (by decide +kernel)) (goodIn_sub (fun _ h => List.mem_cons_of_mem _ (List.mem_append_right _ h)) (by decide +kernel))
set_option maxRecDepth 20000 in
theorem gX8_access_X8_lasts : GoodIn wsX8_access (wsV RX8 106 RX8 yX8_lasts wsX8_lasts) := goodIn_app (goodIn_of _ (by decide +kernel)) ggX8_access_X8_lasts
set_option maxRecDepth 20000 in
theorem ggX8_access_X8_easementOf : GoodIn wsX8_access wsX8_easementOf := goodIn_ca (goodIn_r _ [28, 1, 32, 33, 34, 35, 36, 37, 38, 39, 40, 41, 42, 43, 44, 45, 46] (by decide +kernel) (by decide +kernel)) (goodIn_sub (fun _ h => List.mem_cons_of_mem _ (List.mem_append_right _ h)) (by decide +kernel))
set_option maxRecDepth 20000 in
theorem gX8_access_X8_easementOf : GoodIn wsX8_access (wsV RX8 100 RX8 yX8_easementOf wsX8_easementOf) := goodIn_app (goodIn_of _ (by decide +kernel)) ggX8_access_X8_easementOf
set_option maxRecDepth 20000 in
theorem ggX8_access_X8_has : GoodIn wsX8_access wsX8_has := goodIn_r _ [31] (by decide +kernel) (by decide +kernel)
set_option maxRecDepth 20000 in
theorem gX8_access_X8_has : GoodIn wsX8_access (va_wsS RX8 68 yX8_has wsX8_has) := goodIn_app (goodIn_of _ (by decide +kernel)) ggX8_access_X8_has
theorem dX8_access_0 : decode cX8_access 0 = .ok (.aload_n 0, 1) := by decide +kernel
theorem dX8_access_1 : decode cX8_access 1 = .ok (.iconst 1, 1) := by decide +kernel
theorem dX8_access_2 : decode cX8_access 2 = .ok (.aload_n 0, 1) := by decide +kernel
theorem dX8_access_3 : decode cX8_access 3 = .ok (.iload_n 1, 1) := by decide +kernel
theorem dX8_access_4 : decode cX8_access 4 = .ok (.invokevirtual 52, 3) := by decide +kernel
theorem dX8_access_7 : decode cX8_access 7 = .ok (.ifCond .ne 7, 3) := by decide +kernel
theorem dX8_access_10 : decode cX8_access 10 = .ok (.iconst 1, 1) := by decide +kernel
theorem dX8_access_11 : decode cX8_access 11 = .ok (.goto 4, 3) := by decide +kernel
theorem dX8_access_14 : decode cX8_access 14 = .ok (.iconst 0, 1) := by decide +kernel
theorem dX8_access_15 : decode cX8_access 15 = .ok (.invokevirtual 85, 3) := by decide +kernel
theorem dX8_access_18 : decode cX8_access 18 = .ok (.ifCond .ne 23, 3) := by decide +kernel
theorem dX8_access_21 : decode cX8_access 21 = .ok (.aload_n 0, 1) := by decide +kernel
theorem dX8_access_22 : decode cX8_access 22 = .ok (.iconst 2, 1) := by decide +kernel
theorem dX8_access_23 : decode cX8_access 23 = .ok (.iload_n 2, 1) := by decide +kernel
theorem dX8_access_24 : decode cX8_access 24 = .ok (.invokestatic 187, 3) := by decide +kernel
theorem dX8_access_27 : decode cX8_access 27 = .ok (.ifCond .ne 7, 3) := by decide +kernel
theorem dX8_access_30 : decode cX8_access 30 = .ok (.iconst 1, 1) := by decide +kernel
theorem dX8_access_31 : decode cX8_access 31 = .ok (.goto 4, 3) := by decide +kernel
theorem dX8_access_34 : decode cX8_access 34 = .ok (.iconst 0, 1) := by decide +kernel
theorem dX8_access_35 : decode cX8_access 35 = .ok (.invokevirtual 85, 3) := by decide +kernel
theorem dX8_access_38 : decode cX8_access 38 = .ok (.ifCond .eq 5, 3) := by decide +kernel
theorem dX8_access_41 : decode cX8_access 41 = .ok (.iconst 0, 1) := by decide +kernel
theorem dX8_access_42 : decode cX8_access 42 = .ok (.ireturn, 1) := by decide +kernel
theorem dX8_access_43 : decode cX8_access 43 = .ok (.iload_n 1, 1) := by decide +kernel
theorem dX8_access_44 : decode cX8_access 44 = .ok (.invokestatic 64, 3) := by decide +kernel
theorem dX8_access_47 : decode cX8_access 47 = .ok (.istore_n 3, 1) := by decide +kernel
theorem dX8_access_48 : decode cX8_access 48 = .ok (.iconst 0, 1) := by decide +kernel
theorem dX8_access_49 : decode cX8_access 49 = .ok (.istore 4, 2) := by decide +kernel
theorem dX8_access_51 : decode cX8_access 51 = .ok (.iload_n 3, 1) := by decide +kernel
theorem dX8_access_52 : decode cX8_access 52 = .ok (.iload 4, 2) := by decide +kernel
theorem dX8_access_54 : decode cX8_access 54 = .ok (.if_icmp .eq 92, 3) := by decide +kernel
theorem dX8_access_57 : decode cX8_access 57 = .ok (.iload_n 3, 1) := by decide +kernel
theorem dX8_access_58 : decode cX8_access 58 = .ok (.istore 4, 2) := by decide +kernel
theorem dX8_access_60 : decode cX8_access 60 = .ok (.iconst 0, 1) := by decide +kernel
theorem dX8_access_61 : decode cX8_access 61 = .ok (.istore 5, 2) := by decide +kernel
theorem dX8_access_63 : decode cX8_access 63 = .ok (.iload 5, 2) := by decide +kernel
theorem dX8_access_65 : decode cX8_access 65 = .ok (.aload_n 0, 1) := by decide +kernel
theorem dX8_access_66 : decode cX8_access 66 = .ok (.getfield 9, 3) := by decide +kernel
theorem dX8_access_69 : decode cX8_access 69 = .ok (.iconst 3, 1) := by decide +kernel
theorem dX8_access_70 : decode cX8_access 70 = .ok (.iaload, 1) := by decide +kernel
theorem dX8_access_71 : decode cX8_access 71 = .ok (.if_icmp .ge 72, 3) := by decide +kernel
theorem dX8_access_74 : decode cX8_access 74 = .ok (.aload_n 0, 1) := by decide +kernel
theorem dX8_access_75 : decode cX8_access 75 = .ok (.iload 5, 2) := by decide +kernel
theorem dX8_access_77 : decode cX8_access 77 = .ok (.invokevirtual 106, 3) := by decide +kernel
theorem dX8_access_80 : decode cX8_access 80 = .ok (.ifCond .eq 32, 3) := by decide +kernel
theorem dX8_access_83 : decode cX8_access 83 = .ok (.aload_n 0, 1) := by decide +kernel
theorem dX8_access_84 : decode cX8_access 84 = .ok (.iload 5, 2) := by decide +kernel
theorem dX8_access_86 : decode cX8_access 86 = .ok (.iconst 0, 1) := by decide +kernel
theorem dX8_access_87 : decode cX8_access 87 = .ok (.invokevirtual 100, 3) := by decide +kernel
theorem dX8_access_90 : decode cX8_access 90 = .ok (.iload_n 2, 1) := by decide +kernel
theorem dX8_access_91 : decode cX8_access 91 = .ok (.if_icmp .ne 21, 3) := by decide +kernel
theorem dX8_access_94 : decode cX8_access 94 = .ok (.iload_n 3, 1) := by decide +kernel
theorem dX8_access_95 : decode cX8_access 95 = .ok (.aload_n 0, 1) := by decide +kernel
theorem dX8_access_96 : decode cX8_access 96 = .ok (.iload 5, 2) := by decide +kernel
theorem dX8_access_98 : decode cX8_access 98 = .ok (.iconst 2, 1) := by decide +kernel
theorem dX8_access_99 : decode cX8_access 99 = .ok (.invokevirtual 100, 3) := by decide +kernel
theorem dX8_access_102 : decode cX8_access 102 = .ok (.invokestatic 68, 3) := by decide +kernel
theorem dX8_access_105 : decode cX8_access 105 = .ok (.ifCond .eq 7, 3) := by decide +kernel
theorem dX8_access_108 : decode cX8_access 108 = .ok (.iconst 1, 1) := by decide +kernel
theorem dX8_access_109 : decode cX8_access 109 = .ok (.goto 4, 3) := by decide +kernel
theorem dX8_access_112 : decode cX8_access 112 = .ok (.iconst 0, 1) := by decide +kernel
theorem dX8_access_113 : decode cX8_access 113 = .ok (.istore 6, 2) := by decide +kernel
theorem dX8_access_115 : decode cX8_access 115 = .ok (.iload_n 3, 1) := by decide +kernel
theorem dX8_access_116 : decode cX8_access 116 = .ok (.iload 6, 2) := by decide +kernel
theorem dX8_access_118 : decode cX8_access 118 = .ok (.ifCond .eq 16, 3) := by decide +kernel
theorem dX8_access_121 : decode cX8_access 121 = .ok (.aload_n 0, 1) := by decide +kernel
theorem dX8_access_122 : decode cX8_access 122 = .ok (.iload 5, 2) := by decide +kernel
theorem dX8_access_124 : decode cX8_access 124 = .ok (.iconst 1, 1) := by decide +kernel
theorem dX8_access_125 : decode cX8_access 125 = .ok (.invokevirtual 100, 3) := by decide +kernel
theorem dX8_access_128 : decode cX8_access 128 = .ok (.invokestatic 64, 3) := by decide +kernel
theorem dX8_access_131 : decode cX8_access 131 = .ok (.goto 4, 3) := by decide +kernel
theorem dX8_access_134 : decode cX8_access 134 = .ok (.iconst 0, 1) := by decide +kernel
theorem dX8_access_135 : decode cX8_access 135 = .ok (.ior, 1) := by decide +kernel
theorem dX8_access_136 : decode cX8_access 136 = .ok (.istore_n 3, 1) := by decide +kernel
theorem dX8_access_137 : decode cX8_access 137 = .ok (.iinc 5 1, 3) := by decide +kernel
theorem dX8_access_140 : decode cX8_access 140 = .ok (.goto (-77), 3) := by decide +kernel
theorem dX8_access_143 : decode cX8_access 143 = .ok (.goto (-92), 3) := by decide +kernel
theorem dX8_access_146 : decode cX8_access 146 = .ok (.iload_n 3, 1) := by decide +kernel
theorem dX8_access_147 : decode cX8_access 147 = .ok (.iload_n 1, 1) := by decide +kernel
theorem dX8_access_148 : decode cX8_access 148 = .ok (.invokestatic 64, 3) := by decide +kernel
theorem dX8_access_151 : decode cX8_access 151 = .ok (.iconst (-1), 1) := by decide +kernel
theorem dX8_access_152 : decode cX8_access 152 = .ok (.ixor, 1) := by decide +kernel
theorem dX8_access_153 : decode cX8_access 153 = .ok (.iand, 1) := by decide +kernel
theorem dX8_access_154 : decode cX8_access 154 = .ok (.ireturn, 1) := by decide +kernel
set_option maxRecDepth 20000 in
theorem ggX8_isLien_X8_isBetween : GoodIn wsX8_isLien wsX8_isBetween := goodIn_r _ [5] (by decide +kernel) (by decide +kernel)
set_option maxRecDepth 20000 in
theorem gX8_isLien_X8_isBetween : GoodIn wsX8_isLien (va_wsS RX8 48 yX8_isBetween wsX8_isBetween) := goodIn_app (goodIn_of _ (by decide +kernel)) ggX8_isLien_X8_isBetween
theorem dX8_isLien_0 : decode cX8_isLien 0 = .ok (.iload_n 1, 1) := by decide +kernel
theorem dX8_isLien_1 : decode cX8_isLien 1 = .ok (.iconst 0, 1) := by decide +kernel
theorem dX8_isLien_2 : decode cX8_isLien 2 = .ok (.aload_n 0, 1) := by decide +kernel
theorem dX8_isLien_3 : decode cX8_isLien 3 = .ok (.getfield 9, 3) := by decide +kernel
theorem dX8_isLien_6 : decode cX8_isLien 6 = .ok (.iconst 4, 1) := by decide +kernel
theorem dX8_isLien_7 : decode cX8_isLien 7 = .ok (.iaload, 1) := by decide +kernel
theorem dX8_isLien_8 : decode cX8_isLien 8 = .ok (.iconst 1, 1) := by decide +kernel
theorem dX8_isLien_9 : decode cX8_isLien 9 = .ok (.isub, 1) := by decide +kernel
theorem dX8_isLien_10 : decode cX8_isLien 10 = .ok (.invokestatic 48, 3) := by decide +kernel
theorem dX8_isLien_13 : decode cX8_isLien 13 = .ok (.ireturn, 1) := by decide +kernel
theorem dX8_lienOf_0 : decode cX8_lienOf 0 = .ok (.aload_n 0, 1) := by decide +kernel
theorem dX8_lienOf_1 : decode cX8_lienOf 1 = .ok (.getfield 9, 3) := by decide +kernel
theorem dX8_lienOf_4 : decode cX8_lienOf 4 = .ok (.sipush 541, 3) := by decide +kernel
theorem dX8_lienOf_7 : decode cX8_lienOf 7 = .ok (.iload_n 1, 1) := by decide +kernel
theorem dX8_lienOf_8 : decode cX8_lienOf 8 = .ok (.iconst 3, 1) := by decide +kernel
theorem dX8_lienOf_9 : decode cX8_lienOf 9 = .ok (.imul, 1) := by decide +kernel
theorem dX8_lienOf_10 : decode cX8_lienOf 10 = .ok (.iadd, 1) := by decide +kernel
theorem dX8_lienOf_11 : decode cX8_lienOf 11 = .ok (.iload_n 2, 1) := by decide +kernel
theorem dX8_lienOf_12 : decode cX8_lienOf 12 = .ok (.iadd, 1) := by decide +kernel
theorem dX8_lienOf_13 : decode cX8_lienOf 13 = .ok (.iaload, 1) := by decide +kernel
theorem dX8_lienOf_14 : decode cX8_lienOf 14 = .ok (.ireturn, 1) := by decide +kernel
theorem dX8_rankOf_0 : decode cX8_rankOf 0 = .ok (.iconst (-1), 1) := by decide +kernel
theorem dX8_rankOf_1 : decode cX8_rankOf 1 = .ok (.istore_n 2, 1) := by decide +kernel
theorem dX8_rankOf_2 : decode cX8_rankOf 2 = .ok (.iconst 0, 1) := by decide +kernel
theorem dX8_rankOf_3 : decode cX8_rankOf 3 = .ok (.istore_n 3, 1) := by decide +kernel
theorem dX8_rankOf_4 : decode cX8_rankOf 4 = .ok (.iload_n 3, 1) := by decide +kernel
theorem dX8_rankOf_5 : decode cX8_rankOf 5 = .ok (.aload_n 0, 1) := by decide +kernel
theorem dX8_rankOf_6 : decode cX8_rankOf 6 = .ok (.getfield 9, 3) := by decide +kernel
theorem dX8_rankOf_9 : decode cX8_rankOf 9 = .ok (.iconst 5, 1) := by decide +kernel
theorem dX8_rankOf_10 : decode cX8_rankOf 10 = .ok (.iaload, 1) := by decide +kernel
theorem dX8_rankOf_11 : decode cX8_rankOf 11 = .ok (.if_icmp .ge 29, 3) := by decide +kernel
theorem dX8_rankOf_14 : decode cX8_rankOf 14 = .ok (.aload_n 0, 1) := by decide +kernel
theorem dX8_rankOf_15 : decode cX8_rankOf 15 = .ok (.getfield 9, 3) := by decide +kernel
theorem dX8_rankOf_18 : decode cX8_rankOf 18 = .ok (.sipush 601, 3) := by decide +kernel
theorem dX8_rankOf_21 : decode cX8_rankOf 21 = .ok (.iload_n 3, 1) := by decide +kernel
theorem dX8_rankOf_22 : decode cX8_rankOf 22 = .ok (.iadd, 1) := by decide +kernel
theorem dX8_rankOf_23 : decode cX8_rankOf 23 = .ok (.iaload, 1) := by decide +kernel
theorem dX8_rankOf_24 : decode cX8_rankOf 24 = .ok (.iload_n 1, 1) := by decide +kernel
theorem dX8_rankOf_25 : decode cX8_rankOf 25 = .ok (.if_icmp .ne 7, 3) := by decide +kernel
theorem dX8_rankOf_28 : decode cX8_rankOf 28 = .ok (.iload_n 3, 1) := by decide +kernel
theorem dX8_rankOf_29 : decode cX8_rankOf 29 = .ok (.goto 4, 3) := by decide +kernel
theorem dX8_rankOf_32 : decode cX8_rankOf 32 = .ok (.iload_n 2, 1) := by decide +kernel
theorem dX8_rankOf_33 : decode cX8_rankOf 33 = .ok (.istore_n 2, 1) := by decide +kernel
theorem dX8_rankOf_34 : decode cX8_rankOf 34 = .ok (.iinc 3 1, 3) := by decide +kernel
theorem dX8_rankOf_37 : decode cX8_rankOf 37 = .ok (.goto (-33), 3) := by decide +kernel
theorem dX8_rankOf_40 : decode cX8_rankOf 40 = .ok (.iload_n 2, 1) := by decide +kernel
theorem dX8_rankOf_41 : decode cX8_rankOf 41 = .ok (.ireturn, 1) := by decide +kernel
set_option maxRecDepth 20000 in
theorem ggX8_isAmount_X8_isBetween : GoodIn wsX8_isAmount wsX8_isBetween := goodIn_r _ [4] (by decide +kernel) (by decide +kernel)
set_option maxRecDepth 20000 in
theorem gX8_isAmount_X8_isBetween : GoodIn wsX8_isAmount (va_wsS RX8 48 yX8_isBetween wsX8_isBetween) := goodIn_app (goodIn_of _ (by decide +kernel)) ggX8_isAmount_X8_isBetween
theorem dX8_isAmount_0 : decode cX8_isAmount 0 = .ok (.iload_n 0, 1) := by decide +kernel
theorem dX8_isAmount_1 : decode cX8_isAmount 1 = .ok (.iconst 1, 1) := by decide +kernel
theorem dX8_isAmount_2 : decode cX8_isAmount 2 = .ok (.sipush 9999, 3) := by decide +kernel
theorem dX8_isAmount_5 : decode cX8_isAmount 5 = .ok (.invokestatic 48, 3) := by decide +kernel
theorem dX8_isAmount_8 : decode cX8_isAmount 8 = .ok (.ireturn, 1) := by decide +kernel
set_option maxRecDepth 20000 in
theorem ggX8_takesNoLien_X8_isPresent : GoodIn wsX8_takesNoLien wsX8_isPresent := goodIn_ca (goodIn_r _ [6, 7, 8, 9, 5, 10, 1, 11, 12, 13, 14, 15, 16, 17, 18, 19, 20, 21, 22, 23, 24, 25, 26, 27, 28, 29, 30, 31, 32] (by decide +kernel) (by decide +kernel)) (goodIn_sub (fun _ h => List.mem_cons_of_mem _ (List.mem_append_right _ h)) (by decide +kernel))
set_option maxRecDepth 20000 in
theorem gX8_takesNoLien_X8_isPresent : GoodIn wsX8_takesNoLien (wsV RX8 76 RX8 yX8_isPresent wsX8_isPresent) := goodIn_app (goodIn_of _ (by decide +kernel)) ggX8_takesNoLien_X8_isPresent
theorem dX8_takesNoLien_0 : decode cX8_takesNoLien 0 = .ok (.aload_n 0, 1) := by decide +kernel
theorem dX8_takesNoLien_1 : decode cX8_takesNoLien 1 = .ok (.iload_n 1, 1) := by decide +kernel
theorem dX8_takesNoLien_2 : decode cX8_takesNoLien 2 = .ok (.invokevirtual 76, 3) := by decide +kernel
theorem dX8_takesNoLien_5 : decode cX8_takesNoLien 5 = .ok (.ifCond .eq 14, 3) := by decide +kernel
theorem dX8_takesNoLien_8 : decode cX8_takesNoLien 8 = .ok (.aload_n 0, 1) := by decide +kernel
theorem dX8_takesNoLien_9 : decode cX8_takesNoLien 9 = .ok (.getfield 9, 3) := by decide +kernel
theorem dX8_takesNoLien_12 : decode cX8_takesNoLien 12 = .ok (.iconst 4, 1) := by decide +kernel
theorem dX8_takesNoLien_13 : decode cX8_takesNoLien 13 = .ok (.iaload, 1) := by decide +kernel
theorem dX8_takesNoLien_14 : decode cX8_takesNoLien 14 = .ok (.bipush 20, 2) := by decide +kernel
theorem dX8_takesNoLien_16 : decode cX8_takesNoLien 16 = .ok (.if_icmp .ne 7, 3) := by decide +kernel
theorem dX8_takesNoLien_19 : decode cX8_takesNoLien 19 = .ok (.iconst 1, 1) := by decide +kernel
theorem dX8_takesNoLien_20 : decode cX8_takesNoLien 20 = .ok (.goto 4, 3) := by decide +kernel
theorem dX8_takesNoLien_23 : decode cX8_takesNoLien 23 = .ok (.iconst 0, 1) := by decide +kernel
theorem dX8_takesNoLien_24 : decode cX8_takesNoLien 24 = .ok (.ireturn, 1) := by decide +kernel
set_option maxRecDepth 20000 in
theorem ggX8_doLien_X8_bit : GoodIn wsX8_doLien wsX8_bit := goodIn_r _ [5] (by decide +kernel) (by decide +kernel)
set_option maxRecDepth 20000 in
theorem gX8_doLien_X8_bit : GoodIn wsX8_doLien (va_wsS RX8 64 yX8_bit wsX8_bit) := goodIn_app (goodIn_of _ (by decide +kernel)) ggX8_doLien_X8_bit
theorem dX8_doLien_0 : decode cX8_doLien 0 = .ok (.aload_n 0, 1) := by decide +kernel
theorem dX8_doLien_1 : decode cX8_doLien 1 = .ok (.getfield 9, 3) := by decide +kernel
theorem dX8_doLien_4 : decode cX8_doLien 4 = .ok (.iconst 4, 1) := by decide +kernel
theorem dX8_doLien_5 : decode cX8_doLien 5 = .ok (.iaload, 1) := by decide +kernel
theorem dX8_doLien_6 : decode cX8_doLien 6 = .ok (.istore 4, 2) := by decide +kernel
theorem dX8_doLien_8 : decode cX8_doLien 8 = .ok (.sipush 541, 3) := by decide +kernel
theorem dX8_doLien_11 : decode cX8_doLien 11 = .ok (.iload 4, 2) := by decide +kernel
theorem dX8_doLien_13 : decode cX8_doLien 13 = .ok (.iconst 3, 1) := by decide +kernel
theorem dX8_doLien_14 : decode cX8_doLien 14 = .ok (.imul, 1) := by decide +kernel
theorem dX8_doLien_15 : decode cX8_doLien 15 = .ok (.iadd, 1) := by decide +kernel
theorem dX8_doLien_16 : decode cX8_doLien 16 = .ok (.istore 5, 2) := by decide +kernel
theorem dX8_doLien_18 : decode cX8_doLien 18 = .ok (.aload_n 0, 1) := by decide +kernel
theorem dX8_doLien_19 : decode cX8_doLien 19 = .ok (.getfield 9, 3) := by decide +kernel
theorem dX8_doLien_22 : decode cX8_doLien 22 = .ok (.iload 5, 2) := by decide +kernel
theorem dX8_doLien_24 : decode cX8_doLien 24 = .ok (.iconst 0, 1) := by decide +kernel
theorem dX8_doLien_25 : decode cX8_doLien 25 = .ok (.iadd, 1) := by decide +kernel
theorem dX8_doLien_26 : decode cX8_doLien 26 = .ok (.iload_n 2, 1) := by decide +kernel
theorem dX8_doLien_27 : decode cX8_doLien 27 = .ok (.iastore, 1) := by decide +kernel
theorem dX8_doLien_28 : decode cX8_doLien 28 = .ok (.aload_n 0, 1) := by decide +kernel
theorem dX8_doLien_29 : decode cX8_doLien 29 = .ok (.getfield 9, 3) := by decide +kernel
theorem dX8_doLien_32 : decode cX8_doLien 32 = .ok (.iload 5, 2) := by decide +kernel
theorem dX8_doLien_34 : decode cX8_doLien 34 = .ok (.iconst 1, 1) := by decide +kernel
theorem dX8_doLien_35 : decode cX8_doLien 35 = .ok (.iadd, 1) := by decide +kernel
theorem dX8_doLien_36 : decode cX8_doLien 36 = .ok (.iload_n 3, 1) := by decide +kernel
theorem dX8_doLien_37 : decode cX8_doLien 37 = .ok (.iastore, 1) := by decide +kernel
theorem dX8_doLien_38 : decode cX8_doLien 38 = .ok (.aload_n 0, 1) := by decide +kernel
theorem dX8_doLien_39 : decode cX8_doLien 39 = .ok (.getfield 9, 3) := by decide +kernel
theorem dX8_doLien_42 : decode cX8_doLien 42 = .ok (.iload 5, 2) := by decide +kernel
theorem dX8_doLien_44 : decode cX8_doLien 44 = .ok (.iconst 2, 1) := by decide +kernel
theorem dX8_doLien_45 : decode cX8_doLien 45 = .ok (.iadd, 1) := by decide +kernel
theorem dX8_doLien_46 : decode cX8_doLien 46 = .ok (.iload_n 1, 1) := by decide +kernel
theorem dX8_doLien_47 : decode cX8_doLien 47 = .ok (.invokestatic 64, 3) := by decide +kernel
theorem dX8_doLien_50 : decode cX8_doLien 50 = .ok (.iastore, 1) := by decide +kernel
theorem dX8_doLien_51 : decode cX8_doLien 51 = .ok (.aload_n 0, 1) := by decide +kernel
theorem dX8_doLien_52 : decode cX8_doLien 52 = .ok (.getfield 9, 3) := by decide +kernel
theorem dX8_doLien_55 : decode cX8_doLien 55 = .ok (.sipush 601, 3) := by decide +kernel
theorem dX8_doLien_58 : decode cX8_doLien 58 = .ok (.aload_n 0, 1) := by decide +kernel
theorem dX8_doLien_59 : decode cX8_doLien 59 = .ok (.getfield 9, 3) := by decide +kernel
theorem dX8_doLien_62 : decode cX8_doLien 62 = .ok (.iconst 5, 1) := by decide +kernel
theorem dX8_doLien_63 : decode cX8_doLien 63 = .ok (.iaload, 1) := by decide +kernel
theorem dX8_doLien_64 : decode cX8_doLien 64 = .ok (.iadd, 1) := by decide +kernel
theorem dX8_doLien_65 : decode cX8_doLien 65 = .ok (.iload 4, 2) := by decide +kernel
theorem dX8_doLien_67 : decode cX8_doLien 67 = .ok (.iastore, 1) := by decide +kernel
theorem dX8_doLien_68 : decode cX8_doLien 68 = .ok (.aload_n 0, 1) := by decide +kernel
theorem dX8_doLien_69 : decode cX8_doLien 69 = .ok (.getfield 9, 3) := by decide +kernel
theorem dX8_doLien_72 : decode cX8_doLien 72 = .ok (.iconst 5, 1) := by decide +kernel
theorem dX8_doLien_73 : decode cX8_doLien 73 = .ok (.dup2, 1) := by decide +kernel
theorem dX8_doLien_74 : decode cX8_doLien 74 = .ok (.iaload, 1) := by decide +kernel
theorem dX8_doLien_75 : decode cX8_doLien 75 = .ok (.iconst 1, 1) := by decide +kernel
theorem dX8_doLien_76 : decode cX8_doLien 76 = .ok (.iadd, 1) := by decide +kernel
theorem dX8_doLien_77 : decode cX8_doLien 77 = .ok (.iastore, 1) := by decide +kernel
theorem dX8_doLien_78 : decode cX8_doLien 78 = .ok (.aload_n 0, 1) := by decide +kernel
theorem dX8_doLien_79 : decode cX8_doLien 79 = .ok (.getfield 9, 3) := by decide +kernel
theorem dX8_doLien_82 : decode cX8_doLien 82 = .ok (.iconst 4, 1) := by decide +kernel
theorem dX8_doLien_83 : decode cX8_doLien 83 = .ok (.dup2, 1) := by decide +kernel
theorem dX8_doLien_84 : decode cX8_doLien 84 = .ok (.iaload, 1) := by decide +kernel
theorem dX8_doLien_85 : decode cX8_doLien 85 = .ok (.iconst 1, 1) := by decide +kernel
theorem dX8_doLien_86 : decode cX8_doLien 86 = .ok (.iadd, 1) := by decide +kernel
theorem dX8_doLien_87 : decode cX8_doLien 87 = .ok (.iastore, 1) := by decide +kernel
theorem dX8_doLien_88 : decode cX8_doLien 88 = .ok (.iload 4, 2) := by decide +kernel
theorem dX8_doLien_90 : decode cX8_doLien 90 = .ok (.ireturn, 1) := by decide +kernel
set_option maxRecDepth 20000 in
theorem ggX8_addLien_X8_isParcel : GoodIn wsX8_addLien wsX8_isParcel := goodIn_ca (goodIn_r _ [6, 1, 7, 8, 5, 9, 49, 50, 51, 52, 53, 54, 55, 56, 57, 58, 59, 60, 61, 62, 63] (by decide +kernel) (by decide +kernel)) (goodIn_sub (fun _ h => List.mem_cons_of_mem _ (List.mem_append_right _ h)) (by decide +kernel))
set_option maxRecDepth 20000 in
theorem gX8_addLien_X8_isParcel : GoodIn wsX8_addLien (wsV RX8 52 RX8 yX8_isParcel wsX8_isParcel) := goodIn_app (goodIn_of _ (by decide +kernel)) ggX8_addLien_X8_isParcel
set_option maxRecDepth 20000 in
theorem ggX8_addLien_X8_fails : GoodIn wsX8_addLien wsX8_fails := goodIn_r _ [13, 14, 49, 50, 51, 52, 53, 54, 55, 56, 57, 58, 59, 60, 61, 62, 63] (by decide +kernel) (by decide +kernel)
set_option maxRecDepth 20000 in
theorem gX8_addLien_X8_fails : GoodIn wsX8_addLien (wsV RX8 85 RX8 yX8_fails wsX8_fails) := goodIn_app (goodIn_of _ (by decide +kernel)) ggX8_addLien_X8_fails
set_option maxRecDepth 20000 in
theorem ggX8_addLien_X8_isPerson : GoodIn wsX8_addLien wsX8_isPerson := goodIn_r _ [17, 7, 8, 5, 9] (by decide +kernel) (by decide +kernel)
set_option maxRecDepth 20000 in
theorem gX8_addLien_X8_isPerson : GoodIn wsX8_addLien (va_wsS RX8 82 yX8_isPerson wsX8_isPerson) := goodIn_app (goodIn_of _ (by decide +kernel)) ggX8_addLien_X8_isPerson
set_option maxRecDepth 20000 in
theorem ggX8_addLien_X8_isAmount : GoodIn wsX8_addLien wsX8_isAmount := goodIn_r _ [20, 7, 8, 5, 9] (by decide +kernel) (by decide +kernel)
set_option maxRecDepth 20000 in
theorem gX8_addLien_X8_isAmount : GoodIn wsX8_addLien (va_wsS RX8 200 yX8_isAmount wsX8_isAmount) := goodIn_app (goodIn_of _ (by decide +kernel)) ggX8_addLien_X8_isAmount
set_option maxRecDepth 20000 in
theorem ggX8_addLien_X8_takesNoLien : GoodIn wsX8_addLien wsX8_takesNoLien := goodIn_ca (goodIn_r _ [24, 1, 25, 26, 27, 5, 28, 2, 3, 4, 6, 7, 8, 9, 29, 30, 31, 32, 49, 50, 51, 52, 53, 54, 55, 56, 57, 58, 59, 60, 61, 62, 63] (by decide +kernel) (by decide +kernel)) (goodIn_sub (fun _ h => List.mem_cons_of_mem _ (List.mem_append_right _ h)) (by decide +kernel))
set_option maxRecDepth 20000 in
theorem gX8_addLien_X8_takesNoLien : GoodIn wsX8_addLien (wsV RX8 203 RX8 yX8_takesNoLien wsX8_takesNoLien) := goodIn_app (goodIn_of _ (by decide +kernel)) ggX8_addLien_X8_takesNoLien
set_option maxRecDepth 20000 in
theorem ggX8_addLien_X8_remember : GoodIn wsX8_addLien wsX8_remember := goodIn_ca (goodIn_r _ [36, 37, 38, 39, 40, 5, 41, 49, 50, 51, 52, 53, 54, 55, 56, 57, 58, 59, 60, 61, 62, 63] (by decide +kernel) (by decide +kernel)) (goodIn_sub (fun _ h => List.mem_cons_of_mem _ (List.mem_append_right _ h)) (by decide +kernel))
set_option maxRecDepth 20000 in
theorem gX8_addLien_X8_remember : GoodIn wsX8_addLien (wsV RX8 89 RX8 yX8_remember wsX8_remember) := goodIn_app (goodIn_of _ (by decide +kernel)) ggX8_addLien_X8_remember
set_option maxRecDepth 20000 in
theorem ggX8_addLien_X8_doLien : GoodIn wsX8_addLien wsX8_doLien := goodIn_ca (goodIn_r _ [45, 1, 46, 47, 5, 48, 49, 50, 51, 52, 53, 54, 55, 56, 57, 58, 59, 60, 61, 62, 63] (by decide +kernel) (by decide +kernel)) (goodIn_sub (fun _ h => List.mem_cons_of_mem _ (List.mem_append_right _ h)) (by decide +kernel))
set_option maxRecDepth 20000 in
theorem gX8_addLien_X8_doLien : GoodIn wsX8_addLien (wsV RX8 206 RX8 yX8_doLien wsX8_doLien) := goodIn_app (goodIn_of _ (by decide +kernel)) ggX8_addLien_X8_doLien
theorem dX8_addLien_0 : decode cX8_addLien 0 = .ok (.aload_n 0, 1) := by decide +kernel
theorem dX8_addLien_1 : decode cX8_addLien 1 = .ok (.iconst 1, 1) := by decide +kernel
theorem dX8_addLien_2 : decode cX8_addLien 2 = .ok (.aload_n 0, 1) := by decide +kernel
theorem dX8_addLien_3 : decode cX8_addLien 3 = .ok (.iload_n 1, 1) := by decide +kernel
theorem dX8_addLien_4 : decode cX8_addLien 4 = .ok (.invokevirtual 52, 3) := by decide +kernel
theorem dX8_addLien_7 : decode cX8_addLien 7 = .ok (.ifCond .ne 7, 3) := by decide +kernel
theorem dX8_addLien_10 : decode cX8_addLien 10 = .ok (.iconst 1, 1) := by decide +kernel
theorem dX8_addLien_11 : decode cX8_addLien 11 = .ok (.goto 4, 3) := by decide +kernel
theorem dX8_addLien_14 : decode cX8_addLien 14 = .ok (.iconst 0, 1) := by decide +kernel
theorem dX8_addLien_15 : decode cX8_addLien 15 = .ok (.invokevirtual 85, 3) := by decide +kernel
theorem dX8_addLien_18 : decode cX8_addLien 18 = .ok (.ifCond .ne 43, 3) := by decide +kernel
theorem dX8_addLien_21 : decode cX8_addLien 21 = .ok (.aload_n 0, 1) := by decide +kernel
theorem dX8_addLien_22 : decode cX8_addLien 22 = .ok (.iconst 2, 1) := by decide +kernel
theorem dX8_addLien_23 : decode cX8_addLien 23 = .ok (.iload_n 2, 1) := by decide +kernel
theorem dX8_addLien_24 : decode cX8_addLien 24 = .ok (.invokestatic 82, 3) := by decide +kernel
theorem dX8_addLien_27 : decode cX8_addLien 27 = .ok (.ifCond .eq 10, 3) := by decide +kernel
theorem dX8_addLien_30 : decode cX8_addLien 30 = .ok (.iload_n 3, 1) := by decide +kernel
theorem dX8_addLien_31 : decode cX8_addLien 31 = .ok (.invokestatic 200, 3) := by decide +kernel
theorem dX8_addLien_34 : decode cX8_addLien 34 = .ok (.ifCond .ne 7, 3) := by decide +kernel
theorem dX8_addLien_37 : decode cX8_addLien 37 = .ok (.iconst 1, 1) := by decide +kernel
theorem dX8_addLien_38 : decode cX8_addLien 38 = .ok (.goto 4, 3) := by decide +kernel
theorem dX8_addLien_41 : decode cX8_addLien 41 = .ok (.iconst 0, 1) := by decide +kernel
theorem dX8_addLien_42 : decode cX8_addLien 42 = .ok (.invokevirtual 85, 3) := by decide +kernel
theorem dX8_addLien_45 : decode cX8_addLien 45 = .ok (.ifCond .ne 16, 3) := by decide +kernel
theorem dX8_addLien_48 : decode cX8_addLien 48 = .ok (.aload_n 0, 1) := by decide +kernel
theorem dX8_addLien_49 : decode cX8_addLien 49 = .ok (.iconst 3, 1) := by decide +kernel
theorem dX8_addLien_50 : decode cX8_addLien 50 = .ok (.aload_n 0, 1) := by decide +kernel
theorem dX8_addLien_51 : decode cX8_addLien 51 = .ok (.iload_n 1, 1) := by decide +kernel
theorem dX8_addLien_52 : decode cX8_addLien 52 = .ok (.invokevirtual 203, 3) := by decide +kernel
theorem dX8_addLien_55 : decode cX8_addLien 55 = .ok (.invokevirtual 85, 3) := by decide +kernel
theorem dX8_addLien_58 : decode cX8_addLien 58 = .ok (.ifCond .eq 5, 3) := by decide +kernel
theorem dX8_addLien_61 : decode cX8_addLien 61 = .ok (.iconst 0, 1) := by decide +kernel
theorem dX8_addLien_62 : decode cX8_addLien 62 = .ok (.ireturn, 1) := by decide +kernel
theorem dX8_addLien_63 : decode cX8_addLien 63 = .ok (.aload_n 0, 1) := by decide +kernel
theorem dX8_addLien_64 : decode cX8_addLien 64 = .ok (.aload_n 0, 1) := by decide +kernel
theorem dX8_addLien_65 : decode cX8_addLien 65 = .ok (.getfield 9, 3) := by decide +kernel
theorem dX8_addLien_68 : decode cX8_addLien 68 = .ok (.invokevirtual 89, 3) := by decide +kernel
theorem dX8_addLien_71 : decode cX8_addLien 71 = .ok (.aload_n 0, 1) := by decide +kernel
theorem dX8_addLien_72 : decode cX8_addLien 72 = .ok (.iload_n 1, 1) := by decide +kernel
theorem dX8_addLien_73 : decode cX8_addLien 73 = .ok (.iload_n 2, 1) := by decide +kernel
theorem dX8_addLien_74 : decode cX8_addLien 74 = .ok (.iload_n 3, 1) := by decide +kernel
theorem dX8_addLien_75 : decode cX8_addLien 75 = .ok (.invokevirtual 206, 3) := by decide +kernel
theorem dX8_addLien_78 : decode cX8_addLien 78 = .ok (.ireturn, 1) := by decide +kernel
theorem dX8_takeOut_0 : decode cX8_takeOut 0 = .ok (.aload_n 0, 1) := by decide +kernel
theorem dX8_takeOut_1 : decode cX8_takeOut 1 = .ok (.getfield 9, 3) := by decide +kernel
theorem dX8_takeOut_4 : decode cX8_takeOut 4 = .ok (.iconst 5, 1) := by decide +kernel
theorem dX8_takeOut_5 : decode cX8_takeOut 5 = .ok (.dup2, 1) := by decide +kernel
theorem dX8_takeOut_6 : decode cX8_takeOut 6 = .ok (.iaload, 1) := by decide +kernel
theorem dX8_takeOut_7 : decode cX8_takeOut 7 = .ok (.iconst 1, 1) := by decide +kernel
theorem dX8_takeOut_8 : decode cX8_takeOut 8 = .ok (.isub, 1) := by decide +kernel
theorem dX8_takeOut_9 : decode cX8_takeOut 9 = .ok (.iastore, 1) := by decide +kernel
theorem dX8_takeOut_10 : decode cX8_takeOut 10 = .ok (.iload_n 1, 1) := by decide +kernel
theorem dX8_takeOut_11 : decode cX8_takeOut 11 = .ok (.istore_n 2, 1) := by decide +kernel
theorem dX8_takeOut_12 : decode cX8_takeOut 12 = .ok (.iload_n 2, 1) := by decide +kernel
theorem dX8_takeOut_13 : decode cX8_takeOut 13 = .ok (.aload_n 0, 1) := by decide +kernel
theorem dX8_takeOut_14 : decode cX8_takeOut 14 = .ok (.getfield 9, 3) := by decide +kernel
theorem dX8_takeOut_17 : decode cX8_takeOut 17 = .ok (.iconst 5, 1) := by decide +kernel
theorem dX8_takeOut_18 : decode cX8_takeOut 18 = .ok (.iaload, 1) := by decide +kernel
theorem dX8_takeOut_19 : decode cX8_takeOut 19 = .ok (.if_icmp .ge 31, 3) := by decide +kernel
theorem dX8_takeOut_22 : decode cX8_takeOut 22 = .ok (.aload_n 0, 1) := by decide +kernel
theorem dX8_takeOut_23 : decode cX8_takeOut 23 = .ok (.getfield 9, 3) := by decide +kernel
theorem dX8_takeOut_26 : decode cX8_takeOut 26 = .ok (.sipush 601, 3) := by decide +kernel
theorem dX8_takeOut_29 : decode cX8_takeOut 29 = .ok (.iload_n 2, 1) := by decide +kernel
theorem dX8_takeOut_30 : decode cX8_takeOut 30 = .ok (.iadd, 1) := by decide +kernel
theorem dX8_takeOut_31 : decode cX8_takeOut 31 = .ok (.aload_n 0, 1) := by decide +kernel
theorem dX8_takeOut_32 : decode cX8_takeOut 32 = .ok (.getfield 9, 3) := by decide +kernel
theorem dX8_takeOut_35 : decode cX8_takeOut 35 = .ok (.sipush 601, 3) := by decide +kernel
theorem dX8_takeOut_38 : decode cX8_takeOut 38 = .ok (.iload_n 2, 1) := by decide +kernel
theorem dX8_takeOut_39 : decode cX8_takeOut 39 = .ok (.iadd, 1) := by decide +kernel
theorem dX8_takeOut_40 : decode cX8_takeOut 40 = .ok (.iconst 1, 1) := by decide +kernel
theorem dX8_takeOut_41 : decode cX8_takeOut 41 = .ok (.iadd, 1) := by decide +kernel
theorem dX8_takeOut_42 : decode cX8_takeOut 42 = .ok (.iaload, 1) := by decide +kernel
theorem dX8_takeOut_43 : decode cX8_takeOut 43 = .ok (.iastore, 1) := by decide +kernel
theorem dX8_takeOut_44 : decode cX8_takeOut 44 = .ok (.iinc 2 1, 3) := by decide +kernel
theorem dX8_takeOut_47 : decode cX8_takeOut 47 = .ok (.goto (-35), 3) := by decide +kernel
theorem dX8_takeOut_50 : decode cX8_takeOut 50 = .ok (.return_, 1) := by decide +kernel
set_option maxRecDepth 20000 in
theorem ggX8_release_X8_isLien : GoodIn wsX8_release wsX8_isLien := goodIn_ca (goodIn_r _ [6, 1, 7, 8, 5, 9, 32, 33, 34, 35, 36, 37, 38, 39, 40, 41, 42, 43, 44, 45, 46] (by decide +kernel) (by decide +kernel)) (goodIn_sub (fun _ h => List.mem_cons_of_mem _ (List.mem_append_right _ h)) (by decide +kernel))
set_option maxRecDepth 20000 in
theorem gX8_release_X8_isLien : GoodIn wsX8_release (wsV RX8 209 RX8 yX8_isLien wsX8_isLien) := goodIn_app (goodIn_of _ (by decide +kernel)) ggX8_release_X8_isLien
set_option maxRecDepth 20000 in
theorem ggX8_release_X8_fails : GoodIn wsX8_release wsX8_fails := goodIn_r _ [13, 14, 32, 33, 34, 35, 36, 37, 38, 39, 40, 41, 42, 43, 44, 45, 46] (by decide +kernel) (by decide +kernel)
set_option maxRecDepth 20000 in
theorem gX8_release_X8_fails : GoodIn wsX8_release (wsV RX8 85 RX8 yX8_fails wsX8_fails) := goodIn_app (goodIn_of _ (by decide +kernel)) ggX8_release_X8_fails
set_option maxRecDepth 20000 in
theorem ggX8_release_X8_rankOf : GoodIn wsX8_release wsX8_rankOf := goodIn_ca (goodIn_r _ [18, 1, 32, 33, 34, 35, 36, 37, 38, 39, 40, 41, 42, 43, 44, 45, 46] (by decide +kernel) (by decide +kernel)) (goodIn_sub (fun _ h => List.mem_cons_of_mem _ (List.mem_append_right _ h)) (by decide +kernel))
set_option maxRecDepth 20000 in
theorem gX8_release_X8_rankOf : GoodIn wsX8_release (wsV RX8 212 RX8 yX8_rankOf wsX8_rankOf) := goodIn_app (goodIn_of _ (by decide +kernel)) ggX8_release_X8_rankOf
set_option maxRecDepth 20000 in
theorem ggX8_release_X8_remember : GoodIn wsX8_release wsX8_remember := goodIn_ca (goodIn_r _ [22, 23, 24, 25, 26, 5, 27, 32, 33, 34, 35, 36, 37, 38, 39, 40, 41, 42, 43, 44, 45, 46] (by decide +kernel) (by decide +kernel)) (goodIn_sub (fun _ h => List.mem_cons_of_mem _ (List.mem_append_right _ h)) (by decide +kernel))
set_option maxRecDepth 20000 in
theorem gX8_release_X8_remember : GoodIn wsX8_release (wsV RX8 89 RX8 yX8_remember wsX8_remember) := goodIn_app (goodIn_of _ (by decide +kernel)) ggX8_release_X8_remember
set_option maxRecDepth 20000 in
theorem ggX8_release_X8_takeOut : GoodIn wsX8_release wsX8_takeOut := goodIn_ca (goodIn_r _ [31, 1, 32, 33, 34, 35, 36, 37, 38, 39, 40, 41, 42, 43, 44, 45, 46] (by decide +kernel) (by decide +kernel)) (goodIn_sub (fun _ h => List.mem_cons_of_mem _ (List.mem_append_right _ h)) (by decide +kernel))
set_option maxRecDepth 20000 in
theorem gX8_release_X8_takeOut : GoodIn wsX8_release (wsV RX8 215 RX8 yX8_takeOut wsX8_takeOut) := goodIn_app (goodIn_of _ (by decide +kernel)) ggX8_release_X8_takeOut
theorem dX8_release_0 : decode cX8_release 0 = .ok (.aload_n 0, 1) := by decide +kernel
theorem dX8_release_1 : decode cX8_release 1 = .ok (.iconst 1, 1) := by decide +kernel
theorem dX8_release_2 : decode cX8_release 2 = .ok (.aload_n 0, 1) := by decide +kernel
theorem dX8_release_3 : decode cX8_release 3 = .ok (.iload_n 1, 1) := by decide +kernel
theorem dX8_release_4 : decode cX8_release 4 = .ok (.invokevirtual 209, 3) := by decide +kernel
theorem dX8_release_7 : decode cX8_release 7 = .ok (.ifCond .ne 7, 3) := by decide +kernel
theorem dX8_release_10 : decode cX8_release 10 = .ok (.iconst 1, 1) := by decide +kernel
theorem dX8_release_11 : decode cX8_release 11 = .ok (.goto 4, 3) := by decide +kernel
theorem dX8_release_14 : decode cX8_release 14 = .ok (.iconst 0, 1) := by decide +kernel
theorem dX8_release_15 : decode cX8_release 15 = .ok (.invokevirtual 85, 3) := by decide +kernel
theorem dX8_release_18 : decode cX8_release 18 = .ok (.ifCond .ne 24, 3) := by decide +kernel
theorem dX8_release_21 : decode cX8_release 21 = .ok (.aload_n 0, 1) := by decide +kernel
theorem dX8_release_22 : decode cX8_release 22 = .ok (.iconst 2, 1) := by decide +kernel
theorem dX8_release_23 : decode cX8_release 23 = .ok (.aload_n 0, 1) := by decide +kernel
theorem dX8_release_24 : decode cX8_release 24 = .ok (.iload_n 1, 1) := by decide +kernel
theorem dX8_release_25 : decode cX8_release 25 = .ok (.invokevirtual 212, 3) := by decide +kernel
theorem dX8_release_28 : decode cX8_release 28 = .ok (.ifCond .ge 7, 3) := by decide +kernel
theorem dX8_release_31 : decode cX8_release 31 = .ok (.iconst 1, 1) := by decide +kernel
theorem dX8_release_32 : decode cX8_release 32 = .ok (.goto 4, 3) := by decide +kernel
theorem dX8_release_35 : decode cX8_release 35 = .ok (.iconst 0, 1) := by decide +kernel
theorem dX8_release_36 : decode cX8_release 36 = .ok (.invokevirtual 85, 3) := by decide +kernel
theorem dX8_release_39 : decode cX8_release 39 = .ok (.ifCond .eq 5, 3) := by decide +kernel
theorem dX8_release_42 : decode cX8_release 42 = .ok (.iconst 0, 1) := by decide +kernel
theorem dX8_release_43 : decode cX8_release 43 = .ok (.ireturn, 1) := by decide +kernel
theorem dX8_release_44 : decode cX8_release 44 = .ok (.aload_n 0, 1) := by decide +kernel
theorem dX8_release_45 : decode cX8_release 45 = .ok (.aload_n 0, 1) := by decide +kernel
theorem dX8_release_46 : decode cX8_release 46 = .ok (.getfield 9, 3) := by decide +kernel
theorem dX8_release_49 : decode cX8_release 49 = .ok (.invokevirtual 89, 3) := by decide +kernel
theorem dX8_release_52 : decode cX8_release 52 = .ok (.aload_n 0, 1) := by decide +kernel
theorem dX8_release_53 : decode cX8_release 53 = .ok (.iload_n 1, 1) := by decide +kernel
theorem dX8_release_54 : decode cX8_release 54 = .ok (.invokevirtual 212, 3) := by decide +kernel
theorem dX8_release_57 : decode cX8_release 57 = .ok (.istore_n 2, 1) := by decide +kernel
theorem dX8_release_58 : decode cX8_release 58 = .ok (.aload_n 0, 1) := by decide +kernel
theorem dX8_release_59 : decode cX8_release 59 = .ok (.iload_n 2, 1) := by decide +kernel
theorem dX8_release_60 : decode cX8_release 60 = .ok (.invokevirtual 215, 3) := by decide +kernel
theorem dX8_release_63 : decode cX8_release 63 = .ok (.iload_n 2, 1) := by decide +kernel
theorem dX8_release_64 : decode cX8_release 64 = .ok (.ireturn, 1) := by decide +kernel
set_option maxRecDepth 20000 in
theorem ggX8_postpone_X8_isLien : GoodIn wsX8_postpone wsX8_isLien := goodIn_ca (goodIn_r _ [6, 1, 7, 8, 5, 9, 28, 29, 30, 31, 32, 33, 34, 35, 36, 37, 38, 39, 40, 41, 42] (by decide +kernel) (by decide +kernel)) (goodIn_sub (fun _ h => List.mem_cons_of_mem _ (List.mem_append_right _ h)) (by decide +kernel))
set_option maxRecDepth 20000 in
theorem gX8_postpone_X8_isLien : GoodIn wsX8_postpone (wsV RX8 209 RX8 yX8_isLien wsX8_isLien) := goodIn_app (goodIn_of _ (by decide +kernel)) ggX8_postpone_X8_isLien
set_option maxRecDepth 20000 in
theorem ggX8_postpone_X8_fails : GoodIn wsX8_postpone wsX8_fails := goodIn_r _ [13, 14, 28, 29, 30, 31, 32, 33, 34, 35, 36, 37, 38, 39, 40, 41, 42] (by decide +kernel) (by decide +kernel)
set_option maxRecDepth 20000 in
theorem gX8_postpone_X8_fails : GoodIn wsX8_postpone (wsV RX8 85 RX8 yX8_fails wsX8_fails) := goodIn_app (goodIn_of _ (by decide +kernel)) ggX8_postpone_X8_fails
set_option maxRecDepth 20000 in
theorem ggX8_postpone_X8_rankOf : GoodIn wsX8_postpone wsX8_rankOf := goodIn_ca (goodIn_r _ [18, 1, 28, 29, 30, 31, 32, 33, 34, 35, 36, 37, 38, 39, 40, 41, 42] (by decide +kernel) (by decide +kernel)) (goodIn_sub (fun _ h => List.mem_cons_of_mem _ (List.mem_append_right _ h)) (by decide +kernel))
set_option maxRecDepth 20000 in
theorem gX8_postpone_X8_rankOf : GoodIn wsX8_postpone (wsV RX8 212 RX8 yX8_rankOf wsX8_rankOf) := goodIn_app (goodIn_of _ (by decide +kernel)) ggX8_postpone_X8_rankOf
set_option maxRecDepth 20000 in
theorem ggX8_postpone_X8_remember : GoodIn wsX8_postpone wsX8_remember := goodIn_ca (goodIn_r _ [22, 23, 24, 25, 26, 5, 27, 28, 29, 30, 31, 32, 33, 34, 35, 36, 37, 38, 39, 40, 41, 42] (by decide +kernel) (by decide +kernel)) (goodIn_sub (fun _ h => List.mem_cons_of_mem _ (List.mem_append_right _ h)) (by decide +kernel))
set_option maxRecDepth 20000 in
theorem gX8_postpone_X8_remember : GoodIn wsX8_postpone (wsV RX8 89 RX8 yX8_remember wsX8_remember) := goodIn_app (goodIn_of _ (by decide +kernel)) ggX8_postpone_X8_remember
theorem dX8_postpone_0 : decode cX8_postpone 0 = .ok (.aload_n 0, 1) := by decide +kernel
theorem dX8_postpone_1 : decode cX8_postpone 1 = .ok (.iconst 1, 1) := by decide +kernel
theorem dX8_postpone_2 : decode cX8_postpone 2 = .ok (.aload_n 0, 1) := by decide +kernel
theorem dX8_postpone_3 : decode cX8_postpone 3 = .ok (.iload_n 1, 1) := by decide +kernel
theorem dX8_postpone_4 : decode cX8_postpone 4 = .ok (.invokevirtual 209, 3) := by decide +kernel
theorem dX8_postpone_7 : decode cX8_postpone 7 = .ok (.ifCond .eq 11, 3) := by decide +kernel
theorem dX8_postpone_10 : decode cX8_postpone 10 = .ok (.aload_n 0, 1) := by decide +kernel
theorem dX8_postpone_11 : decode cX8_postpone 11 = .ok (.iload_n 2, 1) := by decide +kernel
theorem dX8_postpone_12 : decode cX8_postpone 12 = .ok (.invokevirtual 209, 3) := by decide +kernel
theorem dX8_postpone_15 : decode cX8_postpone 15 = .ok (.ifCond .ne 7, 3) := by decide +kernel
theorem dX8_postpone_18 : decode cX8_postpone 18 = .ok (.iconst 1, 1) := by decide +kernel
theorem dX8_postpone_19 : decode cX8_postpone 19 = .ok (.goto 4, 3) := by decide +kernel
theorem dX8_postpone_22 : decode cX8_postpone 22 = .ok (.iconst 0, 1) := by decide +kernel
theorem dX8_postpone_23 : decode cX8_postpone 23 = .ok (.invokevirtual 85, 3) := by decide +kernel
theorem dX8_postpone_26 : decode cX8_postpone 26 = .ok (.ifCond .ne 37, 3) := by decide +kernel
theorem dX8_postpone_29 : decode cX8_postpone 29 = .ok (.aload_n 0, 1) := by decide +kernel
theorem dX8_postpone_30 : decode cX8_postpone 30 = .ok (.iconst 2, 1) := by decide +kernel
theorem dX8_postpone_31 : decode cX8_postpone 31 = .ok (.aload_n 0, 1) := by decide +kernel
theorem dX8_postpone_32 : decode cX8_postpone 32 = .ok (.iload_n 1, 1) := by decide +kernel
theorem dX8_postpone_33 : decode cX8_postpone 33 = .ok (.invokevirtual 212, 3) := by decide +kernel
theorem dX8_postpone_36 : decode cX8_postpone 36 = .ok (.ifCond .lt 16, 3) := by decide +kernel
theorem dX8_postpone_39 : decode cX8_postpone 39 = .ok (.aload_n 0, 1) := by decide +kernel
theorem dX8_postpone_40 : decode cX8_postpone 40 = .ok (.iload_n 2, 1) := by decide +kernel
theorem dX8_postpone_41 : decode cX8_postpone 41 = .ok (.invokevirtual 212, 3) := by decide +kernel
theorem dX8_postpone_44 : decode cX8_postpone 44 = .ok (.aload_n 0, 1) := by decide +kernel
theorem dX8_postpone_45 : decode cX8_postpone 45 = .ok (.iload_n 1, 1) := by decide +kernel
theorem dX8_postpone_46 : decode cX8_postpone 46 = .ok (.invokevirtual 212, 3) := by decide +kernel
theorem dX8_postpone_49 : decode cX8_postpone 49 = .ok (.if_icmp .gt 7, 3) := by decide +kernel
theorem dX8_postpone_52 : decode cX8_postpone 52 = .ok (.iconst 1, 1) := by decide +kernel
theorem dX8_postpone_53 : decode cX8_postpone 53 = .ok (.goto 4, 3) := by decide +kernel
theorem dX8_postpone_56 : decode cX8_postpone 56 = .ok (.iconst 0, 1) := by decide +kernel
theorem dX8_postpone_57 : decode cX8_postpone 57 = .ok (.invokevirtual 85, 3) := by decide +kernel
theorem dX8_postpone_60 : decode cX8_postpone 60 = .ok (.ifCond .eq 5, 3) := by decide +kernel
theorem dX8_postpone_63 : decode cX8_postpone 63 = .ok (.iconst 0, 1) := by decide +kernel
theorem dX8_postpone_64 : decode cX8_postpone 64 = .ok (.ireturn, 1) := by decide +kernel
theorem dX8_postpone_65 : decode cX8_postpone 65 = .ok (.aload_n 0, 1) := by decide +kernel
theorem dX8_postpone_66 : decode cX8_postpone 66 = .ok (.aload_n 0, 1) := by decide +kernel
theorem dX8_postpone_67 : decode cX8_postpone 67 = .ok (.getfield 9, 3) := by decide +kernel
theorem dX8_postpone_70 : decode cX8_postpone 70 = .ok (.invokevirtual 89, 3) := by decide +kernel
theorem dX8_postpone_73 : decode cX8_postpone 73 = .ok (.aload_n 0, 1) := by decide +kernel
theorem dX8_postpone_74 : decode cX8_postpone 74 = .ok (.iload_n 2, 1) := by decide +kernel
theorem dX8_postpone_75 : decode cX8_postpone 75 = .ok (.invokevirtual 212, 3) := by decide +kernel
theorem dX8_postpone_78 : decode cX8_postpone 78 = .ok (.istore_n 3, 1) := by decide +kernel
theorem dX8_postpone_79 : decode cX8_postpone 79 = .ok (.aload_n 0, 1) := by decide +kernel
theorem dX8_postpone_80 : decode cX8_postpone 80 = .ok (.iload_n 1, 1) := by decide +kernel
theorem dX8_postpone_81 : decode cX8_postpone 81 = .ok (.invokevirtual 212, 3) := by decide +kernel
theorem dX8_postpone_84 : decode cX8_postpone 84 = .ok (.istore 4, 2) := by decide +kernel
theorem dX8_postpone_86 : decode cX8_postpone 86 = .ok (.iload 4, 2) := by decide +kernel
theorem dX8_postpone_88 : decode cX8_postpone 88 = .ok (.iload_n 3, 1) := by decide +kernel
theorem dX8_postpone_89 : decode cX8_postpone 89 = .ok (.if_icmp .ge 33, 3) := by decide +kernel
theorem dX8_postpone_92 : decode cX8_postpone 92 = .ok (.aload_n 0, 1) := by decide +kernel
theorem dX8_postpone_93 : decode cX8_postpone 93 = .ok (.getfield 9, 3) := by decide +kernel
theorem dX8_postpone_96 : decode cX8_postpone 96 = .ok (.sipush 601, 3) := by decide +kernel
theorem dX8_postpone_99 : decode cX8_postpone 99 = .ok (.iload 4, 2) := by decide +kernel
theorem dX8_postpone_101 : decode cX8_postpone 101 = .ok (.iadd, 1) := by decide +kernel
theorem dX8_postpone_102 : decode cX8_postpone 102 = .ok (.aload_n 0, 1) := by decide +kernel
theorem dX8_postpone_103 : decode cX8_postpone 103 = .ok (.getfield 9, 3) := by decide +kernel
theorem dX8_postpone_106 : decode cX8_postpone 106 = .ok (.sipush 601, 3) := by decide +kernel
theorem dX8_postpone_109 : decode cX8_postpone 109 = .ok (.iload 4, 2) := by decide +kernel
theorem dX8_postpone_111 : decode cX8_postpone 111 = .ok (.iadd, 1) := by decide +kernel
theorem dX8_postpone_112 : decode cX8_postpone 112 = .ok (.iconst 1, 1) := by decide +kernel
theorem dX8_postpone_113 : decode cX8_postpone 113 = .ok (.iadd, 1) := by decide +kernel
theorem dX8_postpone_114 : decode cX8_postpone 114 = .ok (.iaload, 1) := by decide +kernel
theorem dX8_postpone_115 : decode cX8_postpone 115 = .ok (.iastore, 1) := by decide +kernel
theorem dX8_postpone_116 : decode cX8_postpone 116 = .ok (.iinc 4 1, 3) := by decide +kernel
theorem dX8_postpone_119 : decode cX8_postpone 119 = .ok (.goto (-33), 3) := by decide +kernel
theorem dX8_postpone_122 : decode cX8_postpone 122 = .ok (.aload_n 0, 1) := by decide +kernel
theorem dX8_postpone_123 : decode cX8_postpone 123 = .ok (.getfield 9, 3) := by decide +kernel
theorem dX8_postpone_126 : decode cX8_postpone 126 = .ok (.sipush 601, 3) := by decide +kernel
theorem dX8_postpone_129 : decode cX8_postpone 129 = .ok (.iload_n 3, 1) := by decide +kernel
theorem dX8_postpone_130 : decode cX8_postpone 130 = .ok (.iadd, 1) := by decide +kernel
theorem dX8_postpone_131 : decode cX8_postpone 131 = .ok (.iload_n 1, 1) := by decide +kernel
theorem dX8_postpone_132 : decode cX8_postpone 132 = .ok (.iastore, 1) := by decide +kernel
theorem dX8_postpone_133 : decode cX8_postpone 133 = .ok (.iload_n 3, 1) := by decide +kernel
theorem dX8_postpone_134 : decode cX8_postpone 134 = .ok (.ireturn, 1) := by decide +kernel
set_option maxRecDepth 20000 in
theorem ggX8_lien_X8_isLien : GoodIn wsX8_lien wsX8_isLien := goodIn_ca (goodIn_r _ [5, 6, 7, 8, 4, 9, 23, 24, 25, 26, 27, 28, 29, 30, 31, 32, 33, 34, 35, 36, 37] (by decide +kernel) (by decide +kernel)) (goodIn_sub (fun _ h => List.mem_cons_of_mem _ (List.mem_append_right _ h)) (by decide +kernel))
set_option maxRecDepth 20000 in
theorem gX8_lien_X8_isLien : GoodIn wsX8_lien (wsV RX8 209 RX8 yX8_isLien wsX8_isLien) := goodIn_app (goodIn_of _ (by decide +kernel)) ggX8_lien_X8_isLien
set_option maxRecDepth 20000 in
theorem ggX8_lien_X8_fails : GoodIn wsX8_lien wsX8_fails := goodIn_r _ [13, 14, 23, 24, 25, 26, 27, 28, 29, 30, 31, 32, 33, 34, 35, 36, 37] (by decide +kernel) (by decide +kernel)
set_option maxRecDepth 20000 in
theorem gX8_lien_X8_fails : GoodIn wsX8_lien (wsV RX8 85 RX8 yX8_fails wsX8_fails) := goodIn_app (goodIn_of _ (by decide +kernel)) ggX8_lien_X8_fails
set_option maxRecDepth 20000 in
theorem ggX8_lien_X8_isBetween : GoodIn wsX8_lien wsX8_isBetween := goodIn_r _ [9] (by decide +kernel) (by decide +kernel)
set_option maxRecDepth 20000 in
theorem gX8_lien_X8_isBetween : GoodIn wsX8_lien (va_wsS RX8 48 yX8_isBetween wsX8_isBetween) := goodIn_app (goodIn_of _ (by decide +kernel)) ggX8_lien_X8_isBetween
set_option maxRecDepth 20000 in
theorem ggX8_lien_X8_rankOf : GoodIn wsX8_lien wsX8_rankOf := goodIn_ca (goodIn_r _ [18, 6, 23, 24, 25, 26, 27, 28, 29, 30, 31, 32, 33, 34, 35, 36, 37] (by decide +kernel) (by decide +kernel)) (goodIn_sub (fun _ h => List.mem_cons_of_mem _ (List.mem_append_right _ h)) (by decide +kernel))
set_option maxRecDepth 20000 in
theorem gX8_lien_X8_rankOf : GoodIn wsX8_lien (wsV RX8 212 RX8 yX8_rankOf wsX8_rankOf) := goodIn_app (goodIn_of _ (by decide +kernel)) ggX8_lien_X8_rankOf
set_option maxRecDepth 20000 in
theorem ggX8_lien_X8_lienOf : GoodIn wsX8_lien wsX8_lienOf := goodIn_ca (goodIn_r _ [22, 6, 23, 24, 25, 26, 27, 28, 29, 30, 31, 32, 33, 34, 35, 36, 37] (by decide +kernel) (by decide +kernel)) (goodIn_sub (fun _ h => List.mem_cons_of_mem _ (List.mem_append_right _ h)) (by decide +kernel))
set_option maxRecDepth 20000 in
theorem gX8_lien_X8_lienOf : GoodIn wsX8_lien (wsV RX8 150 RX8 yX8_lienOf wsX8_lienOf) := goodIn_app (goodIn_of _ (by decide +kernel)) ggX8_lien_X8_lienOf
theorem dX8_lien_0 : decode cX8_lien 0 = .ok (.aload_n 0, 1) := by decide +kernel
theorem dX8_lien_1 : decode cX8_lien 1 = .ok (.iconst 1, 1) := by decide +kernel
theorem dX8_lien_2 : decode cX8_lien 2 = .ok (.aload_n 0, 1) := by decide +kernel
theorem dX8_lien_3 : decode cX8_lien 3 = .ok (.iload_n 1, 1) := by decide +kernel
theorem dX8_lien_4 : decode cX8_lien 4 = .ok (.invokevirtual 209, 3) := by decide +kernel
theorem dX8_lien_7 : decode cX8_lien 7 = .ok (.ifCond .ne 7, 3) := by decide +kernel
theorem dX8_lien_10 : decode cX8_lien 10 = .ok (.iconst 1, 1) := by decide +kernel
theorem dX8_lien_11 : decode cX8_lien 11 = .ok (.goto 4, 3) := by decide +kernel
theorem dX8_lien_14 : decode cX8_lien 14 = .ok (.iconst 0, 1) := by decide +kernel
theorem dX8_lien_15 : decode cX8_lien 15 = .ok (.invokevirtual 85, 3) := by decide +kernel
theorem dX8_lien_18 : decode cX8_lien 18 = .ok (.ifCond .ne 25, 3) := by decide +kernel
theorem dX8_lien_21 : decode cX8_lien 21 = .ok (.aload_n 0, 1) := by decide +kernel
theorem dX8_lien_22 : decode cX8_lien 22 = .ok (.iconst 2, 1) := by decide +kernel
theorem dX8_lien_23 : decode cX8_lien 23 = .ok (.iload_n 2, 1) := by decide +kernel
theorem dX8_lien_24 : decode cX8_lien 24 = .ok (.iconst 0, 1) := by decide +kernel
theorem dX8_lien_25 : decode cX8_lien 25 = .ok (.iconst 3, 1) := by decide +kernel
theorem dX8_lien_26 : decode cX8_lien 26 = .ok (.invokestatic 48, 3) := by decide +kernel
theorem dX8_lien_29 : decode cX8_lien 29 = .ok (.ifCond .ne 7, 3) := by decide +kernel
theorem dX8_lien_32 : decode cX8_lien 32 = .ok (.iconst 1, 1) := by decide +kernel
theorem dX8_lien_33 : decode cX8_lien 33 = .ok (.goto 4, 3) := by decide +kernel
theorem dX8_lien_36 : decode cX8_lien 36 = .ok (.iconst 0, 1) := by decide +kernel
theorem dX8_lien_37 : decode cX8_lien 37 = .ok (.invokevirtual 85, 3) := by decide +kernel
theorem dX8_lien_40 : decode cX8_lien 40 = .ok (.ifCond .eq 5, 3) := by decide +kernel
theorem dX8_lien_43 : decode cX8_lien 43 = .ok (.iconst 0, 1) := by decide +kernel
theorem dX8_lien_44 : decode cX8_lien 44 = .ok (.ireturn, 1) := by decide +kernel
theorem dX8_lien_45 : decode cX8_lien 45 = .ok (.iload_n 2, 1) := by decide +kernel
theorem dX8_lien_46 : decode cX8_lien 46 = .ok (.iconst 3, 1) := by decide +kernel
theorem dX8_lien_47 : decode cX8_lien 47 = .ok (.if_icmp .ne 11, 3) := by decide +kernel
theorem dX8_lien_50 : decode cX8_lien 50 = .ok (.aload_n 0, 1) := by decide +kernel
theorem dX8_lien_51 : decode cX8_lien 51 = .ok (.iload_n 1, 1) := by decide +kernel
theorem dX8_lien_52 : decode cX8_lien 52 = .ok (.invokevirtual 212, 3) := by decide +kernel
theorem dX8_lien_55 : decode cX8_lien 55 = .ok (.goto 9, 3) := by decide +kernel
theorem dX8_lien_58 : decode cX8_lien 58 = .ok (.aload_n 0, 1) := by decide +kernel
theorem dX8_lien_59 : decode cX8_lien 59 = .ok (.iload_n 1, 1) := by decide +kernel
theorem dX8_lien_60 : decode cX8_lien 60 = .ok (.iload_n 2, 1) := by decide +kernel
theorem dX8_lien_61 : decode cX8_lien 61 = .ok (.invokevirtual 150, 3) := by decide +kernel
theorem dX8_lien_64 : decode cX8_lien 64 = .ok (.ireturn, 1) := by decide +kernel
set_option maxRecDepth 20000 in
theorem ggX8_lienAt_X8_isParcel : GoodIn wsX8_lienAt wsX8_isParcel := goodIn_ca (goodIn_r _ [6, 1, 7, 8, 5, 9, 22, 23, 24, 25, 26, 27, 28, 29, 30, 31, 32, 33, 34, 35, 36] (by decide +kernel) (by decide +kernel)) (goodIn_sub (fun _ h => List.mem_cons_of_mem _ (List.mem_append_right _ h)) (by decide +kernel))
set_option maxRecDepth 20000 in
theorem gX8_lienAt_X8_isParcel : GoodIn wsX8_lienAt (wsV RX8 52 RX8 yX8_isParcel wsX8_isParcel) := goodIn_app (goodIn_of _ (by decide +kernel)) ggX8_lienAt_X8_isParcel
set_option maxRecDepth 20000 in
theorem ggX8_lienAt_X8_fails : GoodIn wsX8_lienAt wsX8_fails := goodIn_r _ [13, 14, 22, 23, 24, 25, 26, 27, 28, 29, 30, 31, 32, 33, 34, 35, 36] (by decide +kernel) (by decide +kernel)
set_option maxRecDepth 20000 in
theorem gX8_lienAt_X8_fails : GoodIn wsX8_lienAt (wsV RX8 85 RX8 yX8_fails wsX8_fails) := goodIn_app (goodIn_of _ (by decide +kernel)) ggX8_lienAt_X8_fails
set_option maxRecDepth 20000 in
theorem ggX8_lienAt_X8_lienOf : GoodIn wsX8_lienAt wsX8_lienOf := goodIn_ca (goodIn_r _ [18, 1, 22, 23, 24, 25, 26, 27, 28, 29, 30, 31, 32, 33, 34, 35, 36] (by decide +kernel) (by decide +kernel)) (goodIn_sub (fun _ h => List.mem_cons_of_mem _ (List.mem_append_right _ h)) (by decide +kernel))
set_option maxRecDepth 20000 in
theorem gX8_lienAt_X8_lienOf : GoodIn wsX8_lienAt (wsV RX8 150 RX8 yX8_lienOf wsX8_lienOf) := goodIn_app (goodIn_of _ (by decide +kernel)) ggX8_lienAt_X8_lienOf
set_option maxRecDepth 20000 in
theorem ggX8_lienAt_X8_has : GoodIn wsX8_lienAt wsX8_has := goodIn_r _ [21] (by decide +kernel) (by decide +kernel)
set_option maxRecDepth 20000 in
theorem gX8_lienAt_X8_has : GoodIn wsX8_lienAt (va_wsS RX8 68 yX8_has wsX8_has) := goodIn_app (goodIn_of _ (by decide +kernel)) ggX8_lienAt_X8_has
theorem dX8_lienAt_0 : decode cX8_lienAt 0 = .ok (.aload_n 0, 1) := by decide +kernel
theorem dX8_lienAt_1 : decode cX8_lienAt 1 = .ok (.iconst 1, 1) := by decide +kernel
theorem dX8_lienAt_2 : decode cX8_lienAt 2 = .ok (.aload_n 0, 1) := by decide +kernel
theorem dX8_lienAt_3 : decode cX8_lienAt 3 = .ok (.iload_n 1, 1) := by decide +kernel
theorem dX8_lienAt_4 : decode cX8_lienAt 4 = .ok (.invokevirtual 52, 3) := by decide +kernel
theorem dX8_lienAt_7 : decode cX8_lienAt 7 = .ok (.ifCond .ne 7, 3) := by decide +kernel
theorem dX8_lienAt_10 : decode cX8_lienAt 10 = .ok (.iconst 1, 1) := by decide +kernel
theorem dX8_lienAt_11 : decode cX8_lienAt 11 = .ok (.goto 4, 3) := by decide +kernel
theorem dX8_lienAt_14 : decode cX8_lienAt 14 = .ok (.iconst 0, 1) := by decide +kernel
theorem dX8_lienAt_15 : decode cX8_lienAt 15 = .ok (.invokevirtual 85, 3) := by decide +kernel
theorem dX8_lienAt_18 : decode cX8_lienAt 18 = .ok (.ifCond .eq 5, 3) := by decide +kernel
theorem dX8_lienAt_21 : decode cX8_lienAt 21 = .ok (.iconst 0, 1) := by decide +kernel
theorem dX8_lienAt_22 : decode cX8_lienAt 22 = .ok (.ireturn, 1) := by decide +kernel
theorem dX8_lienAt_23 : decode cX8_lienAt 23 = .ok (.iload_n 2, 1) := by decide +kernel
theorem dX8_lienAt_24 : decode cX8_lienAt 24 = .ok (.istore_n 3, 1) := by decide +kernel
theorem dX8_lienAt_25 : decode cX8_lienAt 25 = .ok (.iconst (-1), 1) := by decide +kernel
theorem dX8_lienAt_26 : decode cX8_lienAt 26 = .ok (.istore 4, 2) := by decide +kernel
theorem dX8_lienAt_28 : decode cX8_lienAt 28 = .ok (.iconst 0, 1) := by decide +kernel
theorem dX8_lienAt_29 : decode cX8_lienAt 29 = .ok (.istore 5, 2) := by decide +kernel
theorem dX8_lienAt_31 : decode cX8_lienAt 31 = .ok (.iload 5, 2) := by decide +kernel
theorem dX8_lienAt_33 : decode cX8_lienAt 33 = .ok (.aload_n 0, 1) := by decide +kernel
theorem dX8_lienAt_34 : decode cX8_lienAt 34 = .ok (.getfield 9, 3) := by decide +kernel
theorem dX8_lienAt_37 : decode cX8_lienAt 37 = .ok (.iconst 5, 1) := by decide +kernel
theorem dX8_lienAt_38 : decode cX8_lienAt 38 = .ok (.iaload, 1) := by decide +kernel
theorem dX8_lienAt_39 : decode cX8_lienAt 39 = .ok (.if_icmp .ge 57, 3) := by decide +kernel
theorem dX8_lienAt_42 : decode cX8_lienAt 42 = .ok (.aload_n 0, 1) := by decide +kernel
theorem dX8_lienAt_43 : decode cX8_lienAt 43 = .ok (.aload_n 0, 1) := by decide +kernel
theorem dX8_lienAt_44 : decode cX8_lienAt 44 = .ok (.getfield 9, 3) := by decide +kernel
theorem dX8_lienAt_47 : decode cX8_lienAt 47 = .ok (.sipush 601, 3) := by decide +kernel
theorem dX8_lienAt_50 : decode cX8_lienAt 50 = .ok (.iload 5, 2) := by decide +kernel
theorem dX8_lienAt_52 : decode cX8_lienAt 52 = .ok (.iadd, 1) := by decide +kernel
theorem dX8_lienAt_53 : decode cX8_lienAt 53 = .ok (.iaload, 1) := by decide +kernel
theorem dX8_lienAt_54 : decode cX8_lienAt 54 = .ok (.iconst 2, 1) := by decide +kernel
theorem dX8_lienAt_55 : decode cX8_lienAt 55 = .ok (.invokevirtual 150, 3) := by decide +kernel
theorem dX8_lienAt_58 : decode cX8_lienAt 58 = .ok (.iload_n 1, 1) := by decide +kernel
theorem dX8_lienAt_59 : decode cX8_lienAt 59 = .ok (.invokestatic 68, 3) := by decide +kernel
theorem dX8_lienAt_62 : decode cX8_lienAt 62 = .ok (.ifCond .eq 28, 3) := by decide +kernel
theorem dX8_lienAt_65 : decode cX8_lienAt 65 = .ok (.iload_n 3, 1) := by decide +kernel
theorem dX8_lienAt_66 : decode cX8_lienAt 66 = .ok (.ifCond .ne 17, 3) := by decide +kernel
theorem dX8_lienAt_69 : decode cX8_lienAt 69 = .ok (.aload_n 0, 1) := by decide +kernel
theorem dX8_lienAt_70 : decode cX8_lienAt 70 = .ok (.getfield 9, 3) := by decide +kernel
theorem dX8_lienAt_73 : decode cX8_lienAt 73 = .ok (.sipush 601, 3) := by decide +kernel
theorem dX8_lienAt_76 : decode cX8_lienAt 76 = .ok (.iload 5, 2) := by decide +kernel
theorem dX8_lienAt_78 : decode cX8_lienAt 78 = .ok (.iadd, 1) := by decide +kernel
theorem dX8_lienAt_79 : decode cX8_lienAt 79 = .ok (.iaload, 1) := by decide +kernel
theorem dX8_lienAt_80 : decode cX8_lienAt 80 = .ok (.goto 5, 3) := by decide +kernel
theorem dX8_lienAt_83 : decode cX8_lienAt 83 = .ok (.iload 4, 2) := by decide +kernel
theorem dX8_lienAt_85 : decode cX8_lienAt 85 = .ok (.istore 4, 2) := by decide +kernel
theorem dX8_lienAt_87 : decode cX8_lienAt 87 = .ok (.iinc 3 (-1), 3) := by decide +kernel
theorem dX8_lienAt_90 : decode cX8_lienAt 90 = .ok (.iinc 5 1, 3) := by decide +kernel
theorem dX8_lienAt_93 : decode cX8_lienAt 93 = .ok (.goto (-62), 3) := by decide +kernel
theorem dX8_lienAt_96 : decode cX8_lienAt 96 = .ok (.aload_n 0, 1) := by decide +kernel
theorem dX8_lienAt_97 : decode cX8_lienAt 97 = .ok (.iconst 2, 1) := by decide +kernel
theorem dX8_lienAt_98 : decode cX8_lienAt 98 = .ok (.iload 4, 2) := by decide +kernel
theorem dX8_lienAt_100 : decode cX8_lienAt 100 = .ok (.ifCond .ge 7, 3) := by decide +kernel
theorem dX8_lienAt_103 : decode cX8_lienAt 103 = .ok (.iconst 1, 1) := by decide +kernel
theorem dX8_lienAt_104 : decode cX8_lienAt 104 = .ok (.goto 4, 3) := by decide +kernel
theorem dX8_lienAt_107 : decode cX8_lienAt 107 = .ok (.iconst 0, 1) := by decide +kernel
theorem dX8_lienAt_108 : decode cX8_lienAt 108 = .ok (.invokevirtual 85, 3) := by decide +kernel
theorem dX8_lienAt_111 : decode cX8_lienAt 111 = .ok (.ifCond .eq 7, 3) := by decide +kernel
theorem dX8_lienAt_114 : decode cX8_lienAt 114 = .ok (.iconst 0, 1) := by decide +kernel
theorem dX8_lienAt_115 : decode cX8_lienAt 115 = .ok (.goto 5, 3) := by decide +kernel
theorem dX8_lienAt_118 : decode cX8_lienAt 118 = .ok (.iload 4, 2) := by decide +kernel
theorem dX8_lienAt_120 : decode cX8_lienAt 120 = .ok (.ireturn, 1) := by decide +kernel
set_option maxRecDepth 20000 in
theorem ggX8_payments_X8_lienOf : GoodIn wsX8_payments wsX8_lienOf := goodIn_ca (goodIn_r _ [6, 1, 10, 11, 12, 13, 14, 15, 16, 17, 18, 19, 20, 21, 22, 23, 24] (by decide +kernel) (by decide +kernel)) (goodIn_sub (fun _ h => List.mem_cons_of_mem _ (List.mem_append_right _ h)) (by decide +kernel))
set_option maxRecDepth 20000 in
theorem gX8_payments_X8_lienOf : GoodIn wsX8_payments (wsV RX8 150 RX8 yX8_lienOf wsX8_lienOf) := goodIn_app (goodIn_of _ (by decide +kernel)) ggX8_payments_X8_lienOf
set_option maxRecDepth 20000 in
theorem ggX8_payments_X8_has : GoodIn wsX8_payments wsX8_has := goodIn_r _ [9] (by decide +kernel) (by decide +kernel)
set_option maxRecDepth 20000 in
theorem gX8_payments_X8_has : GoodIn wsX8_payments (va_wsS RX8 68 yX8_has wsX8_has) := goodIn_app (goodIn_of _ (by decide +kernel)) ggX8_payments_X8_has
theorem dX8_payments_0 : decode cX8_payments 0 = .ok (.iload_n 2, 1) := by decide +kernel
theorem dX8_payments_1 : decode cX8_payments 1 = .ok (.istore 4, 2) := by decide +kernel
theorem dX8_payments_3 : decode cX8_payments 3 = .ok (.iconst 0, 1) := by decide +kernel
theorem dX8_payments_4 : decode cX8_payments 4 = .ok (.istore 5, 2) := by decide +kernel
theorem dX8_payments_6 : decode cX8_payments 6 = .ok (.iconst 0, 1) := by decide +kernel
theorem dX8_payments_7 : decode cX8_payments 7 = .ok (.istore 6, 2) := by decide +kernel
theorem dX8_payments_9 : decode cX8_payments 9 = .ok (.iload 6, 2) := by decide +kernel
theorem dX8_payments_11 : decode cX8_payments 11 = .ok (.aload_n 0, 1) := by decide +kernel
theorem dX8_payments_12 : decode cX8_payments 12 = .ok (.getfield 9, 3) := by decide +kernel
theorem dX8_payments_15 : decode cX8_payments 15 = .ok (.iconst 5, 1) := by decide +kernel
theorem dX8_payments_16 : decode cX8_payments 16 = .ok (.iaload, 1) := by decide +kernel
theorem dX8_payments_17 : decode cX8_payments 17 = .ok (.if_icmp .ge 95, 3) := by decide +kernel
theorem dX8_payments_20 : decode cX8_payments 20 = .ok (.aload_n 0, 1) := by decide +kernel
theorem dX8_payments_21 : decode cX8_payments 21 = .ok (.getfield 9, 3) := by decide +kernel
theorem dX8_payments_24 : decode cX8_payments 24 = .ok (.sipush 601, 3) := by decide +kernel
theorem dX8_payments_27 : decode cX8_payments 27 = .ok (.iload 6, 2) := by decide +kernel
theorem dX8_payments_29 : decode cX8_payments 29 = .ok (.iadd, 1) := by decide +kernel
theorem dX8_payments_30 : decode cX8_payments 30 = .ok (.iaload, 1) := by decide +kernel
theorem dX8_payments_31 : decode cX8_payments 31 = .ok (.istore 7, 2) := by decide +kernel
theorem dX8_payments_33 : decode cX8_payments 33 = .ok (.aload_n 0, 1) := by decide +kernel
theorem dX8_payments_34 : decode cX8_payments 34 = .ok (.iload 7, 2) := by decide +kernel
theorem dX8_payments_36 : decode cX8_payments 36 = .ok (.iconst 2, 1) := by decide +kernel
theorem dX8_payments_37 : decode cX8_payments 37 = .ok (.invokevirtual 150, 3) := by decide +kernel
theorem dX8_payments_40 : decode cX8_payments 40 = .ok (.iload_n 1, 1) := by decide +kernel
theorem dX8_payments_41 : decode cX8_payments 41 = .ok (.invokestatic 68, 3) := by decide +kernel
theorem dX8_payments_44 : decode cX8_payments 44 = .ok (.ifCond .eq 62, 3) := by decide +kernel
theorem dX8_payments_47 : decode cX8_payments 47 = .ok (.aload_n 0, 1) := by decide +kernel
theorem dX8_payments_48 : decode cX8_payments 48 = .ok (.iload 7, 2) := by decide +kernel
theorem dX8_payments_50 : decode cX8_payments 50 = .ok (.iconst 1, 1) := by decide +kernel
theorem dX8_payments_51 : decode cX8_payments 51 = .ok (.invokevirtual 150, 3) := by decide +kernel
theorem dX8_payments_54 : decode cX8_payments 54 = .ok (.iload 4, 2) := by decide +kernel
theorem dX8_payments_56 : decode cX8_payments 56 = .ok (.if_icmp .ge 13, 3) := by decide +kernel
theorem dX8_payments_59 : decode cX8_payments 59 = .ok (.aload_n 0, 1) := by decide +kernel
theorem dX8_payments_60 : decode cX8_payments 60 = .ok (.iload 7, 2) := by decide +kernel
theorem dX8_payments_62 : decode cX8_payments 62 = .ok (.iconst 1, 1) := by decide +kernel
theorem dX8_payments_63 : decode cX8_payments 63 = .ok (.invokevirtual 150, 3) := by decide +kernel
theorem dX8_payments_66 : decode cX8_payments 66 = .ok (.goto 5, 3) := by decide +kernel
theorem dX8_payments_69 : decode cX8_payments 69 = .ok (.iload 4, 2) := by decide +kernel
theorem dX8_payments_71 : decode cX8_payments 71 = .ok (.istore 8, 2) := by decide +kernel
theorem dX8_payments_73 : decode cX8_payments 73 = .ok (.iload 4, 2) := by decide +kernel
theorem dX8_payments_75 : decode cX8_payments 75 = .ok (.iload 8, 2) := by decide +kernel
theorem dX8_payments_77 : decode cX8_payments 77 = .ok (.isub, 1) := by decide +kernel
theorem dX8_payments_78 : decode cX8_payments 78 = .ok (.istore 4, 2) := by decide +kernel
theorem dX8_payments_80 : decode cX8_payments 80 = .ok (.iload 5, 2) := by decide +kernel
theorem dX8_payments_82 : decode cX8_payments 82 = .ok (.iload_n 3, 1) := by decide +kernel
theorem dX8_payments_83 : decode cX8_payments 83 = .ok (.ifCond .lt 14, 3) := by decide +kernel
theorem dX8_payments_86 : decode cX8_payments 86 = .ok (.aload_n 0, 1) := by decide +kernel
theorem dX8_payments_87 : decode cX8_payments 87 = .ok (.iload 7, 2) := by decide +kernel
theorem dX8_payments_89 : decode cX8_payments 89 = .ok (.iconst 0, 1) := by decide +kernel
theorem dX8_payments_90 : decode cX8_payments 90 = .ok (.invokevirtual 150, 3) := by decide +kernel
theorem dX8_payments_93 : decode cX8_payments 93 = .ok (.iload_n 3, 1) := by decide +kernel
theorem dX8_payments_94 : decode cX8_payments 94 = .ok (.if_icmp .ne 8, 3) := by decide +kernel
theorem dX8_payments_97 : decode cX8_payments 97 = .ok (.iload 8, 2) := by decide +kernel
theorem dX8_payments_99 : decode cX8_payments 99 = .ok (.goto 4, 3) := by decide +kernel
theorem dX8_payments_102 : decode cX8_payments 102 = .ok (.iconst 0, 1) := by decide +kernel
theorem dX8_payments_103 : decode cX8_payments 103 = .ok (.iadd, 1) := by decide +kernel
theorem dX8_payments_104 : decode cX8_payments 104 = .ok (.istore 5, 2) := by decide +kernel
theorem dX8_payments_106 : decode cX8_payments 106 = .ok (.iinc 6 1, 3) := by decide +kernel
theorem dX8_payments_109 : decode cX8_payments 109 = .ok (.goto (-100), 3) := by decide +kernel
theorem dX8_payments_112 : decode cX8_payments 112 = .ok (.iload 5, 2) := by decide +kernel
theorem dX8_payments_114 : decode cX8_payments 114 = .ok (.ireturn, 1) := by decide +kernel
set_option maxRecDepth 20000 in
theorem ggX8_isPrice_X8_isBetween : GoodIn wsX8_isPrice wsX8_isBetween := goodIn_r _ [5] (by decide +kernel) (by decide +kernel)
set_option maxRecDepth 20000 in
theorem gX8_isPrice_X8_isBetween : GoodIn wsX8_isPrice (va_wsS RX8 48 yX8_isBetween wsX8_isBetween) := goodIn_app (goodIn_of _ (by decide +kernel)) ggX8_isPrice_X8_isBetween
theorem dX8_isPrice_0 : decode cX8_isPrice 0 = .ok (.iload_n 0, 1) := by decide +kernel
theorem dX8_isPrice_1 : decode cX8_isPrice 1 = .ok (.iconst 0, 1) := by decide +kernel
theorem dX8_isPrice_2 : decode cX8_isPrice 2 = .ok (.ldc 218, 2) := by decide +kernel
theorem dX8_isPrice_4 : decode cX8_isPrice 4 = .ok (.invokestatic 48, 3) := by decide +kernel
theorem dX8_isPrice_7 : decode cX8_isPrice 7 = .ok (.ireturn, 1) := by decide +kernel
set_option maxRecDepth 20000 in
theorem ggX8_paid_X8_isParcel : GoodIn wsX8_paid wsX8_isParcel := goodIn_ca (goodIn_r _ [5, 6, 7, 8, 4, 9, 41, 42, 43, 44, 45, 46, 47, 48, 49, 50, 51, 52, 53, 54, 55] (by decide +kernel) (by decide +kernel)) (goodIn_sub (fun _ h => List.mem_cons_of_mem _ (List.mem_append_right _ h)) (by decide +kernel))
set_option maxRecDepth 20000 in
theorem gX8_paid_X8_isParcel : GoodIn wsX8_paid (wsV RX8 52 RX8 yX8_isParcel wsX8_isParcel) := goodIn_app (goodIn_of _ (by decide +kernel)) ggX8_paid_X8_isParcel
set_option maxRecDepth 20000 in
theorem ggX8_paid_X8_isPerson : GoodIn wsX8_paid wsX8_isPerson := goodIn_r _ [12, 7, 8, 4, 9] (by decide +kernel) (by decide +kernel)
set_option maxRecDepth 20000 in
theorem gX8_paid_X8_isPerson : GoodIn wsX8_paid (va_wsS RX8 82 yX8_isPerson wsX8_isPerson) := goodIn_app (goodIn_of _ (by decide +kernel)) ggX8_paid_X8_isPerson
set_option maxRecDepth 20000 in
theorem ggX8_paid_X8_fails : GoodIn wsX8_paid wsX8_fails := goodIn_r _ [16, 17, 41, 42, 43, 44, 45, 46, 47, 48, 49, 50, 51, 52, 53, 54, 55] (by decide +kernel) (by decide +kernel)
set_option maxRecDepth 20000 in
theorem gX8_paid_X8_fails : GoodIn wsX8_paid (wsV RX8 85 RX8 yX8_fails wsX8_fails) := goodIn_app (goodIn_of _ (by decide +kernel)) ggX8_paid_X8_fails
set_option maxRecDepth 20000 in
theorem ggX8_paid_X8_isPrice : GoodIn wsX8_paid wsX8_isPrice := goodIn_r _ [20, 21, 7, 8, 4, 9] (by decide +kernel) (by decide +kernel)
set_option maxRecDepth 20000 in
theorem gX8_paid_X8_isPrice : GoodIn wsX8_paid (va_wsS RX8 219 yX8_isPrice wsX8_isPrice) := goodIn_app (goodIn_of _ (by decide +kernel)) ggX8_paid_X8_isPrice
set_option maxRecDepth 20000 in
theorem ggX8_paid_X8_isPresent : GoodIn wsX8_paid wsX8_isPresent := goodIn_ca (goodIn_r _ [25, 1, 2, 3, 4, 5, 6, 7, 8, 9, 26, 27, 28, 29, 41, 42, 43, 44, 45, 46, 47, 48, 49, 50, 51, 52, 53, 54, 55] (by decide +kernel) (by decide +kernel)) (goodIn_sub (fun _ h => List.mem_cons_of_mem _ (List.mem_append_right _ h)) (by decide +kernel))
set_option maxRecDepth 20000 in
theorem gX8_paid_X8_isPresent : GoodIn wsX8_paid (wsV RX8 76 RX8 yX8_isPresent wsX8_isPresent) := goodIn_app (goodIn_of _ (by decide +kernel)) ggX8_paid_X8_isPresent
set_option maxRecDepth 20000 in
theorem ggX8_paid_X8_payments : GoodIn wsX8_paid wsX8_payments := goodIn_ca (goodIn_r _ [33, 6, 34, 35, 36, 4, 37, 38, 39, 40, 41, 42, 43, 44, 45, 46, 47, 48, 49, 50, 51, 52, 53, 54, 55] (by decide +kernel) (by decide +kernel)) (goodIn_sub (fun _ h => List.mem_cons_of_mem _ (List.mem_append_right _ h)) (by decide +kernel))
set_option maxRecDepth 20000 in
theorem gX8_paid_X8_payments : GoodIn wsX8_paid (wsV RX8 222 RX8 yX8_payments wsX8_payments) := goodIn_app (goodIn_of _ (by decide +kernel)) ggX8_paid_X8_payments
theorem dX8_paid_0 : decode cX8_paid 0 = .ok (.aload_n 0, 1) := by decide +kernel
theorem dX8_paid_1 : decode cX8_paid 1 = .ok (.iconst 1, 1) := by decide +kernel
theorem dX8_paid_2 : decode cX8_paid 2 = .ok (.aload_n 0, 1) := by decide +kernel
theorem dX8_paid_3 : decode cX8_paid 3 = .ok (.iload_n 1, 1) := by decide +kernel
theorem dX8_paid_4 : decode cX8_paid 4 = .ok (.invokevirtual 52, 3) := by decide +kernel
theorem dX8_paid_7 : decode cX8_paid 7 = .ok (.ifCond .eq 10, 3) := by decide +kernel
theorem dX8_paid_10 : decode cX8_paid 10 = .ok (.iload_n 3, 1) := by decide +kernel
theorem dX8_paid_11 : decode cX8_paid 11 = .ok (.invokestatic 82, 3) := by decide +kernel
theorem dX8_paid_14 : decode cX8_paid 14 = .ok (.ifCond .ne 7, 3) := by decide +kernel
theorem dX8_paid_17 : decode cX8_paid 17 = .ok (.iconst 1, 1) := by decide +kernel
theorem dX8_paid_18 : decode cX8_paid 18 = .ok (.goto 4, 3) := by decide +kernel
theorem dX8_paid_21 : decode cX8_paid 21 = .ok (.iconst 0, 1) := by decide +kernel
theorem dX8_paid_22 : decode cX8_paid 22 = .ok (.invokevirtual 85, 3) := by decide +kernel
theorem dX8_paid_25 : decode cX8_paid 25 = .ok (.ifCond .ne 44, 3) := by decide +kernel
theorem dX8_paid_28 : decode cX8_paid 28 = .ok (.aload_n 0, 1) := by decide +kernel
theorem dX8_paid_29 : decode cX8_paid 29 = .ok (.iconst 2, 1) := by decide +kernel
theorem dX8_paid_30 : decode cX8_paid 30 = .ok (.iload_n 2, 1) := by decide +kernel
theorem dX8_paid_31 : decode cX8_paid 31 = .ok (.invokestatic 219, 3) := by decide +kernel
theorem dX8_paid_34 : decode cX8_paid 34 = .ok (.ifCond .ne 7, 3) := by decide +kernel
theorem dX8_paid_37 : decode cX8_paid 37 = .ok (.iconst 1, 1) := by decide +kernel
theorem dX8_paid_38 : decode cX8_paid 38 = .ok (.goto 4, 3) := by decide +kernel
theorem dX8_paid_41 : decode cX8_paid 41 = .ok (.iconst 0, 1) := by decide +kernel
theorem dX8_paid_42 : decode cX8_paid 42 = .ok (.invokevirtual 85, 3) := by decide +kernel
theorem dX8_paid_45 : decode cX8_paid 45 = .ok (.ifCond .ne 24, 3) := by decide +kernel
theorem dX8_paid_48 : decode cX8_paid 48 = .ok (.aload_n 0, 1) := by decide +kernel
theorem dX8_paid_49 : decode cX8_paid 49 = .ok (.iconst 3, 1) := by decide +kernel
theorem dX8_paid_50 : decode cX8_paid 50 = .ok (.aload_n 0, 1) := by decide +kernel
theorem dX8_paid_51 : decode cX8_paid 51 = .ok (.iload_n 1, 1) := by decide +kernel
theorem dX8_paid_52 : decode cX8_paid 52 = .ok (.invokevirtual 76, 3) := by decide +kernel
theorem dX8_paid_55 : decode cX8_paid 55 = .ok (.ifCond .ne 7, 3) := by decide +kernel
theorem dX8_paid_58 : decode cX8_paid 58 = .ok (.iconst 1, 1) := by decide +kernel
theorem dX8_paid_59 : decode cX8_paid 59 = .ok (.goto 4, 3) := by decide +kernel
theorem dX8_paid_62 : decode cX8_paid 62 = .ok (.iconst 0, 1) := by decide +kernel
theorem dX8_paid_63 : decode cX8_paid 63 = .ok (.invokevirtual 85, 3) := by decide +kernel
theorem dX8_paid_66 : decode cX8_paid 66 = .ok (.ifCond .eq 5, 3) := by decide +kernel
theorem dX8_paid_69 : decode cX8_paid 69 = .ok (.iconst 0, 1) := by decide +kernel
theorem dX8_paid_70 : decode cX8_paid 70 = .ok (.ireturn, 1) := by decide +kernel
theorem dX8_paid_71 : decode cX8_paid 71 = .ok (.aload_n 0, 1) := by decide +kernel
theorem dX8_paid_72 : decode cX8_paid 72 = .ok (.iload_n 1, 1) := by decide +kernel
theorem dX8_paid_73 : decode cX8_paid 73 = .ok (.iload_n 2, 1) := by decide +kernel
theorem dX8_paid_74 : decode cX8_paid 74 = .ok (.iload_n 3, 1) := by decide +kernel
theorem dX8_paid_75 : decode cX8_paid 75 = .ok (.invokevirtual 222, 3) := by decide +kernel
theorem dX8_paid_78 : decode cX8_paid 78 = .ok (.ireturn, 1) := by decide +kernel
set_option maxRecDepth 20000 in
theorem ggX8_left_X8_isParcel : GoodIn wsX8_left wsX8_isParcel := goodIn_ca (goodIn_r _ [5, 6, 7, 8, 4, 9, 38, 39, 40, 41, 42, 43, 44, 45, 46, 47, 48, 49, 50, 51, 52] (by decide +kernel) (by decide +kernel)) (goodIn_sub (fun _ h => List.mem_cons_of_mem _ (List.mem_append_right _ h)) (by decide +kernel))
set_option maxRecDepth 20000 in
theorem gX8_left_X8_isParcel : GoodIn wsX8_left (wsV RX8 52 RX8 yX8_isParcel wsX8_isParcel) := goodIn_app (goodIn_of _ (by decide +kernel)) ggX8_left_X8_isParcel
set_option maxRecDepth 20000 in
theorem ggX8_left_X8_fails : GoodIn wsX8_left wsX8_fails := goodIn_r _ [13, 14, 38, 39, 40, 41, 42, 43, 44, 45, 46, 47, 48, 49, 50, 51, 52] (by decide +kernel) (by decide +kernel)
set_option maxRecDepth 20000 in
theorem gX8_left_X8_fails : GoodIn wsX8_left (wsV RX8 85 RX8 yX8_fails wsX8_fails) := goodIn_app (goodIn_of _ (by decide +kernel)) ggX8_left_X8_fails
set_option maxRecDepth 20000 in
theorem ggX8_left_X8_isPrice : GoodIn wsX8_left wsX8_isPrice := goodIn_r _ [17, 18, 7, 8, 4, 9] (by decide +kernel) (by decide +kernel)
set_option maxRecDepth 20000 in
theorem gX8_left_X8_isPrice : GoodIn wsX8_left (va_wsS RX8 219 yX8_isPrice wsX8_isPrice) := goodIn_app (goodIn_of _ (by decide +kernel)) ggX8_left_X8_isPrice
set_option maxRecDepth 20000 in
theorem ggX8_left_X8_isPresent : GoodIn wsX8_left wsX8_isPresent := goodIn_ca (goodIn_r _ [22, 1, 2, 3, 4, 5, 6, 7, 8, 9, 23, 24, 25, 26, 38, 39, 40, 41, 42, 43, 44, 45, 46, 47, 48, 49, 50, 51, 52] (by decide +kernel) (by decide +kernel)) (goodIn_sub (fun _ h => List.mem_cons_of_mem _ (List.mem_append_right _ h)) (by decide +kernel))
set_option maxRecDepth 20000 in
theorem gX8_left_X8_isPresent : GoodIn wsX8_left (wsV RX8 76 RX8 yX8_isPresent wsX8_isPresent) := goodIn_app (goodIn_of _ (by decide +kernel)) ggX8_left_X8_isPresent
set_option maxRecDepth 20000 in
theorem ggX8_left_X8_payments : GoodIn wsX8_left wsX8_payments := goodIn_ca (goodIn_r _ [30, 6, 31, 32, 33, 4, 34, 35, 36, 37, 38, 39, 40, 41, 42, 43, 44, 45, 46, 47, 48, 49, 50, 51, 52] (by decide +kernel) (by decide +kernel)) (goodIn_sub (fun _ h => List.mem_cons_of_mem _ (List.mem_append_right _ h)) (by decide +kernel))
set_option maxRecDepth 20000 in
theorem gX8_left_X8_payments : GoodIn wsX8_left (wsV RX8 222 RX8 yX8_payments wsX8_payments) := goodIn_app (goodIn_of _ (by decide +kernel)) ggX8_left_X8_payments
theorem dX8_left_0 : decode cX8_left 0 = .ok (.aload_n 0, 1) := by decide +kernel
theorem dX8_left_1 : decode cX8_left 1 = .ok (.iconst 1, 1) := by decide +kernel
theorem dX8_left_2 : decode cX8_left 2 = .ok (.aload_n 0, 1) := by decide +kernel
theorem dX8_left_3 : decode cX8_left 3 = .ok (.iload_n 1, 1) := by decide +kernel
theorem dX8_left_4 : decode cX8_left 4 = .ok (.invokevirtual 52, 3) := by decide +kernel
theorem dX8_left_7 : decode cX8_left 7 = .ok (.ifCond .ne 7, 3) := by decide +kernel
theorem dX8_left_10 : decode cX8_left 10 = .ok (.iconst 1, 1) := by decide +kernel
theorem dX8_left_11 : decode cX8_left 11 = .ok (.goto 4, 3) := by decide +kernel
theorem dX8_left_14 : decode cX8_left 14 = .ok (.iconst 0, 1) := by decide +kernel
theorem dX8_left_15 : decode cX8_left 15 = .ok (.invokevirtual 85, 3) := by decide +kernel
theorem dX8_left_18 : decode cX8_left 18 = .ok (.ifCond .ne 44, 3) := by decide +kernel
theorem dX8_left_21 : decode cX8_left 21 = .ok (.aload_n 0, 1) := by decide +kernel
theorem dX8_left_22 : decode cX8_left 22 = .ok (.iconst 2, 1) := by decide +kernel
theorem dX8_left_23 : decode cX8_left 23 = .ok (.iload_n 2, 1) := by decide +kernel
theorem dX8_left_24 : decode cX8_left 24 = .ok (.invokestatic 219, 3) := by decide +kernel
theorem dX8_left_27 : decode cX8_left 27 = .ok (.ifCond .ne 7, 3) := by decide +kernel
theorem dX8_left_30 : decode cX8_left 30 = .ok (.iconst 1, 1) := by decide +kernel
theorem dX8_left_31 : decode cX8_left 31 = .ok (.goto 4, 3) := by decide +kernel
theorem dX8_left_34 : decode cX8_left 34 = .ok (.iconst 0, 1) := by decide +kernel
theorem dX8_left_35 : decode cX8_left 35 = .ok (.invokevirtual 85, 3) := by decide +kernel
theorem dX8_left_38 : decode cX8_left 38 = .ok (.ifCond .ne 24, 3) := by decide +kernel
theorem dX8_left_41 : decode cX8_left 41 = .ok (.aload_n 0, 1) := by decide +kernel
theorem dX8_left_42 : decode cX8_left 42 = .ok (.iconst 3, 1) := by decide +kernel
theorem dX8_left_43 : decode cX8_left 43 = .ok (.aload_n 0, 1) := by decide +kernel
theorem dX8_left_44 : decode cX8_left 44 = .ok (.iload_n 1, 1) := by decide +kernel
theorem dX8_left_45 : decode cX8_left 45 = .ok (.invokevirtual 76, 3) := by decide +kernel
theorem dX8_left_48 : decode cX8_left 48 = .ok (.ifCond .ne 7, 3) := by decide +kernel
theorem dX8_left_51 : decode cX8_left 51 = .ok (.iconst 1, 1) := by decide +kernel
theorem dX8_left_52 : decode cX8_left 52 = .ok (.goto 4, 3) := by decide +kernel
theorem dX8_left_55 : decode cX8_left 55 = .ok (.iconst 0, 1) := by decide +kernel
theorem dX8_left_56 : decode cX8_left 56 = .ok (.invokevirtual 85, 3) := by decide +kernel
theorem dX8_left_59 : decode cX8_left 59 = .ok (.ifCond .eq 5, 3) := by decide +kernel
theorem dX8_left_62 : decode cX8_left 62 = .ok (.iconst 0, 1) := by decide +kernel
theorem dX8_left_63 : decode cX8_left 63 = .ok (.ireturn, 1) := by decide +kernel
theorem dX8_left_64 : decode cX8_left 64 = .ok (.iload_n 2, 1) := by decide +kernel
theorem dX8_left_65 : decode cX8_left 65 = .ok (.aload_n 0, 1) := by decide +kernel
theorem dX8_left_66 : decode cX8_left 66 = .ok (.iload_n 1, 1) := by decide +kernel
theorem dX8_left_67 : decode cX8_left 67 = .ok (.iload_n 2, 1) := by decide +kernel
theorem dX8_left_68 : decode cX8_left 68 = .ok (.iconst (-1), 1) := by decide +kernel
theorem dX8_left_69 : decode cX8_left 69 = .ok (.invokevirtual 222, 3) := by decide +kernel
theorem dX8_left_72 : decode cX8_left 72 = .ok (.isub, 1) := by decide +kernel
theorem dX8_left_73 : decode cX8_left 73 = .ok (.ireturn, 1) := by decide +kernel
set_option maxRecDepth 20000 in
theorem ggX8_needed_X8_isLien : GoodIn wsX8_needed wsX8_isLien := goodIn_ca (goodIn_r _ [6, 1, 7, 8, 5, 9, 37, 38, 39, 40, 41, 42, 43, 44, 45, 46, 47, 48, 49, 50, 51] (by decide +kernel) (by decide +kernel)) (goodIn_sub (fun _ h => List.mem_cons_of_mem _ (List.mem_append_right _ h)) (by decide +kernel))
set_option maxRecDepth 20000 in
theorem gX8_needed_X8_isLien : GoodIn wsX8_needed (wsV RX8 209 RX8 yX8_isLien wsX8_isLien) := goodIn_app (goodIn_of _ (by decide +kernel)) ggX8_needed_X8_isLien
set_option maxRecDepth 20000 in
theorem ggX8_needed_X8_isParcel : GoodIn wsX8_needed wsX8_isParcel := goodIn_ca (goodIn_r _ [13, 1, 7, 8, 5, 9, 37, 38, 39, 40, 41, 42, 43, 44, 45, 46, 47, 48, 49, 50, 51] (by decide +kernel) (by decide +kernel)) (goodIn_sub (fun _ h => List.mem_cons_of_mem _ (List.mem_append_right _ h)) (by decide +kernel))
set_option maxRecDepth 20000 in
theorem gX8_needed_X8_isParcel : GoodIn wsX8_needed (wsV RX8 52 RX8 yX8_isParcel wsX8_isParcel) := goodIn_app (goodIn_of _ (by decide +kernel)) ggX8_needed_X8_isParcel
set_option maxRecDepth 20000 in
theorem ggX8_needed_X8_fails : GoodIn wsX8_needed wsX8_fails := goodIn_r _ [17, 18, 37, 38, 39, 40, 41, 42, 43, 44, 45, 46, 47, 48, 49, 50, 51] (by decide +kernel) (by decide +kernel)
set_option maxRecDepth 20000 in
theorem gX8_needed_X8_fails : GoodIn wsX8_needed (wsV RX8 85 RX8 yX8_fails wsX8_fails) := goodIn_app (goodIn_of _ (by decide +kernel)) ggX8_needed_X8_fails
set_option maxRecDepth 20000 in
theorem ggX8_needed_X8_liensOn : GoodIn wsX8_needed wsX8_liensOn := goodIn_ca (goodIn_r _ [22, 1, 23, 24, 25, 5, 26, 27, 28, 29, 30, 31, 32, 37, 38, 39, 40, 41, 42, 43, 44, 45, 46, 47, 48, 49, 50, 51] (by decide +kernel) (by decide +kernel)) (goodIn_sub (fun _ h => List.mem_cons_of_mem _ (List.mem_append_right _ h)) (by decide +kernel))
set_option maxRecDepth 20000 in
theorem gX8_needed_X8_liensOn : GoodIn wsX8_needed (wsV RX8 159 RX8 yX8_liensOn wsX8_liensOn) := goodIn_app (goodIn_of _ (by decide +kernel)) ggX8_needed_X8_liensOn
set_option maxRecDepth 20000 in
theorem ggX8_needed_X8_has : GoodIn wsX8_needed wsX8_has := goodIn_r _ [29] (by decide +kernel) (by decide +kernel)
set_option maxRecDepth 20000 in
theorem gX8_needed_X8_has : GoodIn wsX8_needed (va_wsS RX8 68 yX8_has wsX8_has) := goodIn_app (goodIn_of _ (by decide +kernel)) ggX8_needed_X8_has
set_option maxRecDepth 20000 in
theorem ggX8_needed_X8_rankOf : GoodIn wsX8_needed wsX8_rankOf := goodIn_ca (goodIn_r _ [36, 1, 37, 38, 39, 40, 41, 42, 43, 44, 45, 46, 47, 48, 49, 50, 51] (by decide +kernel) (by decide +kernel)) (goodIn_sub (fun _ h => List.mem_cons_of_mem _ (List.mem_append_right _ h)) (by decide +kernel))
set_option maxRecDepth 20000 in
theorem gX8_needed_X8_rankOf : GoodIn wsX8_needed (wsV RX8 212 RX8 yX8_rankOf wsX8_rankOf) := goodIn_app (goodIn_of _ (by decide +kernel)) ggX8_needed_X8_rankOf
set_option maxRecDepth 20000 in
theorem ggX8_needed_X8_lienOf : GoodIn wsX8_needed wsX8_lienOf := goodIn_ca (goodIn_r _ [26, 1, 37, 38, 39, 40, 41, 42, 43, 44, 45, 46, 47, 48, 49, 50, 51] (by decide +kernel) (by decide +kernel)) (goodIn_sub (fun _ h => List.mem_cons_of_mem _ (List.mem_append_right _ h)) (by decide +kernel))
set_option maxRecDepth 20000 in
theorem gX8_needed_X8_lienOf : GoodIn wsX8_needed (wsV RX8 150 RX8 yX8_lienOf wsX8_lienOf) := goodIn_app (goodIn_of _ (by decide +kernel)) ggX8_needed_X8_lienOf
theorem dX8_needed_0 : decode cX8_needed 0 = .ok (.aload_n 0, 1) := by decide +kernel
theorem dX8_needed_1 : decode cX8_needed 1 = .ok (.iconst 1, 1) := by decide +kernel
theorem dX8_needed_2 : decode cX8_needed 2 = .ok (.aload_n 0, 1) := by decide +kernel
theorem dX8_needed_3 : decode cX8_needed 3 = .ok (.iload_n 1, 1) := by decide +kernel
theorem dX8_needed_4 : decode cX8_needed 4 = .ok (.invokevirtual 209, 3) := by decide +kernel
theorem dX8_needed_7 : decode cX8_needed 7 = .ok (.ifCond .eq 11, 3) := by decide +kernel
theorem dX8_needed_10 : decode cX8_needed 10 = .ok (.aload_n 0, 1) := by decide +kernel
theorem dX8_needed_11 : decode cX8_needed 11 = .ok (.iload_n 2, 1) := by decide +kernel
theorem dX8_needed_12 : decode cX8_needed 12 = .ok (.invokevirtual 52, 3) := by decide +kernel
theorem dX8_needed_15 : decode cX8_needed 15 = .ok (.ifCond .ne 7, 3) := by decide +kernel
theorem dX8_needed_18 : decode cX8_needed 18 = .ok (.iconst 1, 1) := by decide +kernel
theorem dX8_needed_19 : decode cX8_needed 19 = .ok (.goto 4, 3) := by decide +kernel
theorem dX8_needed_22 : decode cX8_needed 22 = .ok (.iconst 0, 1) := by decide +kernel
theorem dX8_needed_23 : decode cX8_needed 23 = .ok (.invokevirtual 85, 3) := by decide +kernel
theorem dX8_needed_26 : decode cX8_needed 26 = .ok (.ifCond .ne 28, 3) := by decide +kernel
theorem dX8_needed_29 : decode cX8_needed 29 = .ok (.aload_n 0, 1) := by decide +kernel
theorem dX8_needed_30 : decode cX8_needed 30 = .ok (.iconst 2, 1) := by decide +kernel
theorem dX8_needed_31 : decode cX8_needed 31 = .ok (.aload_n 0, 1) := by decide +kernel
theorem dX8_needed_32 : decode cX8_needed 32 = .ok (.iload_n 2, 1) := by decide +kernel
theorem dX8_needed_33 : decode cX8_needed 33 = .ok (.invokevirtual 159, 3) := by decide +kernel
theorem dX8_needed_36 : decode cX8_needed 36 = .ok (.iload_n 1, 1) := by decide +kernel
theorem dX8_needed_37 : decode cX8_needed 37 = .ok (.invokestatic 68, 3) := by decide +kernel
theorem dX8_needed_40 : decode cX8_needed 40 = .ok (.ifCond .ne 7, 3) := by decide +kernel
theorem dX8_needed_43 : decode cX8_needed 43 = .ok (.iconst 1, 1) := by decide +kernel
theorem dX8_needed_44 : decode cX8_needed 44 = .ok (.goto 4, 3) := by decide +kernel
theorem dX8_needed_47 : decode cX8_needed 47 = .ok (.iconst 0, 1) := by decide +kernel
theorem dX8_needed_48 : decode cX8_needed 48 = .ok (.invokevirtual 85, 3) := by decide +kernel
theorem dX8_needed_51 : decode cX8_needed 51 = .ok (.ifCond .eq 5, 3) := by decide +kernel
theorem dX8_needed_54 : decode cX8_needed 54 = .ok (.iconst 0, 1) := by decide +kernel
theorem dX8_needed_55 : decode cX8_needed 55 = .ok (.ireturn, 1) := by decide +kernel
theorem dX8_needed_56 : decode cX8_needed 56 = .ok (.iconst 0, 1) := by decide +kernel
theorem dX8_needed_57 : decode cX8_needed 57 = .ok (.istore_n 3, 1) := by decide +kernel
theorem dX8_needed_58 : decode cX8_needed 58 = .ok (.iconst 0, 1) := by decide +kernel
theorem dX8_needed_59 : decode cX8_needed 59 = .ok (.istore 4, 2) := by decide +kernel
theorem dX8_needed_61 : decode cX8_needed 61 = .ok (.iload 4, 2) := by decide +kernel
theorem dX8_needed_63 : decode cX8_needed 63 = .ok (.aload_n 0, 1) := by decide +kernel
theorem dX8_needed_64 : decode cX8_needed 64 = .ok (.iload_n 1, 1) := by decide +kernel
theorem dX8_needed_65 : decode cX8_needed 65 = .ok (.invokevirtual 212, 3) := by decide +kernel
theorem dX8_needed_68 : decode cX8_needed 68 = .ok (.if_icmp .gt 55, 3) := by decide +kernel
theorem dX8_needed_71 : decode cX8_needed 71 = .ok (.iload_n 3, 1) := by decide +kernel
theorem dX8_needed_72 : decode cX8_needed 72 = .ok (.aload_n 0, 1) := by decide +kernel
theorem dX8_needed_73 : decode cX8_needed 73 = .ok (.aload_n 0, 1) := by decide +kernel
theorem dX8_needed_74 : decode cX8_needed 74 = .ok (.getfield 9, 3) := by decide +kernel
theorem dX8_needed_77 : decode cX8_needed 77 = .ok (.sipush 601, 3) := by decide +kernel
theorem dX8_needed_80 : decode cX8_needed 80 = .ok (.iload 4, 2) := by decide +kernel
theorem dX8_needed_82 : decode cX8_needed 82 = .ok (.iadd, 1) := by decide +kernel
theorem dX8_needed_83 : decode cX8_needed 83 = .ok (.iaload, 1) := by decide +kernel
theorem dX8_needed_84 : decode cX8_needed 84 = .ok (.iconst 2, 1) := by decide +kernel
theorem dX8_needed_85 : decode cX8_needed 85 = .ok (.invokevirtual 150, 3) := by decide +kernel
theorem dX8_needed_88 : decode cX8_needed 88 = .ok (.iload_n 2, 1) := by decide +kernel
theorem dX8_needed_89 : decode cX8_needed 89 = .ok (.invokestatic 68, 3) := by decide +kernel
theorem dX8_needed_92 : decode cX8_needed 92 = .ok (.ifCond .eq 22, 3) := by decide +kernel
theorem dX8_needed_95 : decode cX8_needed 95 = .ok (.aload_n 0, 1) := by decide +kernel
theorem dX8_needed_96 : decode cX8_needed 96 = .ok (.aload_n 0, 1) := by decide +kernel
theorem dX8_needed_97 : decode cX8_needed 97 = .ok (.getfield 9, 3) := by decide +kernel
theorem dX8_needed_100 : decode cX8_needed 100 = .ok (.sipush 601, 3) := by decide +kernel
theorem dX8_needed_103 : decode cX8_needed 103 = .ok (.iload 4, 2) := by decide +kernel
theorem dX8_needed_105 : decode cX8_needed 105 = .ok (.iadd, 1) := by decide +kernel
theorem dX8_needed_106 : decode cX8_needed 106 = .ok (.iaload, 1) := by decide +kernel
theorem dX8_needed_107 : decode cX8_needed 107 = .ok (.iconst 1, 1) := by decide +kernel
theorem dX8_needed_108 : decode cX8_needed 108 = .ok (.invokevirtual 150, 3) := by decide +kernel
theorem dX8_needed_111 : decode cX8_needed 111 = .ok (.goto 4, 3) := by decide +kernel
theorem dX8_needed_114 : decode cX8_needed 114 = .ok (.iconst 0, 1) := by decide +kernel
theorem dX8_needed_115 : decode cX8_needed 115 = .ok (.iadd, 1) := by decide +kernel
theorem dX8_needed_116 : decode cX8_needed 116 = .ok (.istore_n 3, 1) := by decide +kernel
theorem dX8_needed_117 : decode cX8_needed 117 = .ok (.iinc 4 1, 3) := by decide +kernel
theorem dX8_needed_120 : decode cX8_needed 120 = .ok (.goto (-59), 3) := by decide +kernel
theorem dX8_needed_123 : decode cX8_needed 123 = .ok (.iload_n 3, 1) := by decide +kernel
theorem dX8_needed_124 : decode cX8_needed 124 = .ok (.ireturn, 1) := by decide +kernel
set_option maxRecDepth 20000 in
theorem ggX8_advance_X8_isBetween : GoodIn wsX8_advance wsX8_isBetween := goodIn_r _ [5] (by decide +kernel) (by decide +kernel)
set_option maxRecDepth 20000 in
theorem gX8_advance_X8_isBetween : GoodIn wsX8_advance (va_wsS RX8 48 yX8_isBetween wsX8_isBetween) := goodIn_app (goodIn_of _ (by decide +kernel)) ggX8_advance_X8_isBetween
set_option maxRecDepth 20000 in
theorem ggX8_advance_X8_fails : GoodIn wsX8_advance wsX8_fails := goodIn_r _ [9, 10, 20, 21, 22, 23, 24, 25, 26, 27, 28, 29, 30, 31, 32, 33, 34] (by decide +kernel) (by decide +kernel)
set_option maxRecDepth 20000 in
theorem gX8_advance_X8_fails : GoodIn wsX8_advance (wsV RX8 85 RX8 yX8_fails wsX8_fails) := goodIn_app (goodIn_of _ (by decide +kernel)) ggX8_advance_X8_fails
set_option maxRecDepth 20000 in
theorem ggX8_advance_X8_remember : GoodIn wsX8_advance wsX8_remember := goodIn_ca (goodIn_r _ [14, 15, 16, 17, 18, 4, 19, 20, 21, 22, 23, 24, 25, 26, 27, 28, 29, 30, 31, 32, 33, 34] (by decide +kernel) (by decide +kernel)) (goodIn_sub (fun _ h => List.mem_cons_of_mem _ (List.mem_append_right _ h)) (by decide +kernel))
set_option maxRecDepth 20000 in
theorem gX8_advance_X8_remember : GoodIn wsX8_advance (wsV RX8 89 RX8 yX8_remember wsX8_remember) := goodIn_app (goodIn_of _ (by decide +kernel)) ggX8_advance_X8_remember
theorem dX8_advance_0 : decode cX8_advance 0 = .ok (.aload_n 0, 1) := by decide +kernel
theorem dX8_advance_1 : decode cX8_advance 1 = .ok (.iconst 1, 1) := by decide +kernel
theorem dX8_advance_2 : decode cX8_advance 2 = .ok (.iload_n 1, 1) := by decide +kernel
theorem dX8_advance_3 : decode cX8_advance 3 = .ok (.iconst 0, 1) := by decide +kernel
theorem dX8_advance_4 : decode cX8_advance 4 = .ok (.sipush 999, 3) := by decide +kernel
theorem dX8_advance_7 : decode cX8_advance 7 = .ok (.invokestatic 48, 3) := by decide +kernel
theorem dX8_advance_10 : decode cX8_advance 10 = .ok (.ifCond .ne 7, 3) := by decide +kernel
theorem dX8_advance_13 : decode cX8_advance 13 = .ok (.iconst 1, 1) := by decide +kernel
theorem dX8_advance_14 : decode cX8_advance 14 = .ok (.goto 4, 3) := by decide +kernel
theorem dX8_advance_17 : decode cX8_advance 17 = .ok (.iconst 0, 1) := by decide +kernel
theorem dX8_advance_18 : decode cX8_advance 18 = .ok (.invokevirtual 85, 3) := by decide +kernel
theorem dX8_advance_21 : decode cX8_advance 21 = .ok (.ifCond .ne 30, 3) := by decide +kernel
theorem dX8_advance_24 : decode cX8_advance 24 = .ok (.aload_n 0, 1) := by decide +kernel
theorem dX8_advance_25 : decode cX8_advance 25 = .ok (.iconst 2, 1) := by decide +kernel
theorem dX8_advance_26 : decode cX8_advance 26 = .ok (.aload_n 0, 1) := by decide +kernel
theorem dX8_advance_27 : decode cX8_advance 27 = .ok (.getfield 9, 3) := by decide +kernel
theorem dX8_advance_30 : decode cX8_advance 30 = .ok (.iconst 0, 1) := by decide +kernel
theorem dX8_advance_31 : decode cX8_advance 31 = .ok (.iaload, 1) := by decide +kernel
theorem dX8_advance_32 : decode cX8_advance 32 = .ok (.iload_n 1, 1) := by decide +kernel
theorem dX8_advance_33 : decode cX8_advance 33 = .ok (.iadd, 1) := by decide +kernel
theorem dX8_advance_34 : decode cX8_advance 34 = .ok (.sipush 9999, 3) := by decide +kernel
theorem dX8_advance_37 : decode cX8_advance 37 = .ok (.if_icmp .le 7, 3) := by decide +kernel
theorem dX8_advance_40 : decode cX8_advance 40 = .ok (.iconst 1, 1) := by decide +kernel
theorem dX8_advance_41 : decode cX8_advance 41 = .ok (.goto 4, 3) := by decide +kernel
theorem dX8_advance_44 : decode cX8_advance 44 = .ok (.iconst 0, 1) := by decide +kernel
theorem dX8_advance_45 : decode cX8_advance 45 = .ok (.invokevirtual 85, 3) := by decide +kernel
theorem dX8_advance_48 : decode cX8_advance 48 = .ok (.ifCond .eq 5, 3) := by decide +kernel
theorem dX8_advance_51 : decode cX8_advance 51 = .ok (.iconst 0, 1) := by decide +kernel
theorem dX8_advance_52 : decode cX8_advance 52 = .ok (.ireturn, 1) := by decide +kernel
theorem dX8_advance_53 : decode cX8_advance 53 = .ok (.aload_n 0, 1) := by decide +kernel
theorem dX8_advance_54 : decode cX8_advance 54 = .ok (.aload_n 0, 1) := by decide +kernel
theorem dX8_advance_55 : decode cX8_advance 55 = .ok (.getfield 9, 3) := by decide +kernel
theorem dX8_advance_58 : decode cX8_advance 58 = .ok (.invokevirtual 89, 3) := by decide +kernel
theorem dX8_advance_61 : decode cX8_advance 61 = .ok (.aload_n 0, 1) := by decide +kernel
theorem dX8_advance_62 : decode cX8_advance 62 = .ok (.getfield 9, 3) := by decide +kernel
theorem dX8_advance_65 : decode cX8_advance 65 = .ok (.iconst 0, 1) := by decide +kernel
theorem dX8_advance_66 : decode cX8_advance 66 = .ok (.dup2, 1) := by decide +kernel
theorem dX8_advance_67 : decode cX8_advance 67 = .ok (.iaload, 1) := by decide +kernel
theorem dX8_advance_68 : decode cX8_advance 68 = .ok (.iload_n 1, 1) := by decide +kernel
theorem dX8_advance_69 : decode cX8_advance 69 = .ok (.iadd, 1) := by decide +kernel
theorem dX8_advance_70 : decode cX8_advance 70 = .ok (.iastore, 1) := by decide +kernel
theorem dX8_advance_71 : decode cX8_advance 71 = .ok (.aload_n 0, 1) := by decide +kernel
theorem dX8_advance_72 : decode cX8_advance 72 = .ok (.getfield 9, 3) := by decide +kernel
theorem dX8_advance_75 : decode cX8_advance 75 = .ok (.iconst 0, 1) := by decide +kernel
theorem dX8_advance_76 : decode cX8_advance 76 = .ok (.iaload, 1) := by decide +kernel
theorem dX8_advance_77 : decode cX8_advance 77 = .ok (.ireturn, 1) := by decide +kernel
set_option maxRecDepth 20000 in
theorem ggX8_sumOfParcels_X8_countGaps : GoodIn wsX8_sumOfParcels wsX8_countGaps := goodIn_ca (goodIn_r _ [6, 1, 7, 8, 9, 5, 10, 11, 12, 13, 14, 15, 16, 17, 18, 19, 20, 21, 22, 37, 38, 39, 40, 41, 42, 43, 44, 45, 46, 47, 48, 49, 50, 51] (by decide +kernel) (by decide +kernel)) (goodIn_sub (fun _ h => List.mem_cons_of_mem _ (List.mem_append_right _ h)) (by decide +kernel))
set_option maxRecDepth 20000 in
theorem gX8_sumOfParcels_X8_countGaps : GoodIn wsX8_sumOfParcels (wsV RX8 156 RX8 yX8_countGaps wsX8_countGaps) := goodIn_app (goodIn_of _ (by decide +kernel)) ggX8_sumOfParcels_X8_countGaps
set_option maxRecDepth 20000 in
theorem ggX8_sumOfParcels_X8_of : GoodIn wsX8_sumOfParcels wsX8_of := goodIn_ca (goodIn_r _ [22, 1, 37, 38, 39, 40, 41, 42, 43, 44, 45, 46, 47, 48, 49, 50, 51] (by decide +kernel) (by decide +kernel)) (goodIn_sub (fun _ h => List.mem_cons_of_mem _ (List.mem_append_right _ h)) (by decide +kernel))
set_option maxRecDepth 20000 in
theorem gX8_sumOfParcels_X8_of : GoodIn wsX8_sumOfParcels (wsV RX8 56 RX8 yX8_of wsX8_of) := goodIn_app (goodIn_of _ (by decide +kernel)) ggX8_sumOfParcels_X8_of
set_option maxRecDepth 20000 in
theorem ggX8_sumOfParcels_X8_count : GoodIn wsX8_sumOfParcels wsX8_count := goodIn_r _ [25] (by decide +kernel) (by decide +kernel)
set_option maxRecDepth 20000 in
theorem gX8_sumOfParcels_X8_count : GoodIn wsX8_sumOfParcels (va_wsS RX8 225 yX8_count wsX8_count) := goodIn_app (goodIn_of _ (by decide +kernel)) ggX8_sumOfParcels_X8_count
set_option maxRecDepth 20000 in
theorem ggX8_sumOfParcels_X8_isPresent : GoodIn wsX8_sumOfParcels wsX8_isPresent := goodIn_ca (goodIn_r _ [29, 30, 31, 32, 5, 33, 1, 34, 35, 36, 19, 20, 21, 22, 37, 38, 39, 40, 41, 42, 43, 44, 45, 46, 47, 48, 49, 50, 51] (by decide +kernel) (by decide +kernel)) (goodIn_sub (fun _ h => List.mem_cons_of_mem _ (List.mem_append_right _ h)) (by decide +kernel))
set_option maxRecDepth 20000 in
theorem gX8_sumOfParcels_X8_isPresent : GoodIn wsX8_sumOfParcels (wsV RX8 76 RX8 yX8_isPresent wsX8_isPresent) := goodIn_app (goodIn_of _ (by decide +kernel)) ggX8_sumOfParcels_X8_isPresent
theorem dX8_sumOfParcels_0 : decode cX8_sumOfParcels 0 = .ok (.iconst 0, 1) := by decide +kernel
theorem dX8_sumOfParcels_1 : decode cX8_sumOfParcels 1 = .ok (.istore_n 2, 1) := by decide +kernel
theorem dX8_sumOfParcels_2 : decode cX8_sumOfParcels 2 = .ok (.iconst 0, 1) := by decide +kernel
theorem dX8_sumOfParcels_3 : decode cX8_sumOfParcels 3 = .ok (.istore_n 3, 1) := by decide +kernel
theorem dX8_sumOfParcels_4 : decode cX8_sumOfParcels 4 = .ok (.iload_n 3, 1) := by decide +kernel
theorem dX8_sumOfParcels_5 : decode cX8_sumOfParcels 5 = .ok (.aload_n 0, 1) := by decide +kernel
theorem dX8_sumOfParcels_6 : decode cX8_sumOfParcels 6 = .ok (.getfield 9, 3) := by decide +kernel
theorem dX8_sumOfParcels_9 : decode cX8_sumOfParcels 9 = .ok (.iconst 1, 1) := by decide +kernel
theorem dX8_sumOfParcels_10 : decode cX8_sumOfParcels 10 = .ok (.iaload, 1) := by decide +kernel
theorem dX8_sumOfParcels_11 : decode cX8_sumOfParcels 11 = .ok (.if_icmp .ge 67, 3) := by decide +kernel
theorem dX8_sumOfParcels_14 : decode cX8_sumOfParcels 14 = .ok (.iload_n 1, 1) := by decide +kernel
theorem dX8_sumOfParcels_15 : decode cX8_sumOfParcels 15 = .ok (.iconst 5, 1) := by decide +kernel
theorem dX8_sumOfParcels_16 : decode cX8_sumOfParcels 16 = .ok (.if_icmp .ne 14, 3) := by decide +kernel
theorem dX8_sumOfParcels_19 : decode cX8_sumOfParcels 19 = .ok (.iload_n 2, 1) := by decide +kernel
theorem dX8_sumOfParcels_20 : decode cX8_sumOfParcels 20 = .ok (.aload_n 0, 1) := by decide +kernel
theorem dX8_sumOfParcels_21 : decode cX8_sumOfParcels 21 = .ok (.iload_n 3, 1) := by decide +kernel
theorem dX8_sumOfParcels_22 : decode cX8_sumOfParcels 22 = .ok (.invokevirtual 156, 3) := by decide +kernel
theorem dX8_sumOfParcels_25 : decode cX8_sumOfParcels 25 = .ok (.iadd, 1) := by decide +kernel
theorem dX8_sumOfParcels_26 : decode cX8_sumOfParcels 26 = .ok (.istore_n 2, 1) := by decide +kernel
theorem dX8_sumOfParcels_27 : decode cX8_sumOfParcels 27 = .ok (.goto 45, 3) := by decide +kernel
theorem dX8_sumOfParcels_30 : decode cX8_sumOfParcels 30 = .ok (.iload_n 1, 1) := by decide +kernel
theorem dX8_sumOfParcels_31 : decode cX8_sumOfParcels 31 = .ok (.bipush 10, 2) := by decide +kernel
theorem dX8_sumOfParcels_33 : decode cX8_sumOfParcels 33 = .ok (.if_icmp .ne 18, 3) := by decide +kernel
theorem dX8_sumOfParcels_36 : decode cX8_sumOfParcels 36 = .ok (.iload_n 2, 1) := by decide +kernel
theorem dX8_sumOfParcels_37 : decode cX8_sumOfParcels 37 = .ok (.aload_n 0, 1) := by decide +kernel
theorem dX8_sumOfParcels_38 : decode cX8_sumOfParcels 38 = .ok (.iload_n 3, 1) := by decide +kernel
theorem dX8_sumOfParcels_39 : decode cX8_sumOfParcels 39 = .ok (.iconst 3, 1) := by decide +kernel
theorem dX8_sumOfParcels_40 : decode cX8_sumOfParcels 40 = .ok (.invokevirtual 56, 3) := by decide +kernel
theorem dX8_sumOfParcels_43 : decode cX8_sumOfParcels 43 = .ok (.invokestatic 225, 3) := by decide +kernel
theorem dX8_sumOfParcels_46 : decode cX8_sumOfParcels 46 = .ok (.iadd, 1) := by decide +kernel
theorem dX8_sumOfParcels_47 : decode cX8_sumOfParcels 47 = .ok (.istore_n 2, 1) := by decide +kernel
theorem dX8_sumOfParcels_48 : decode cX8_sumOfParcels 48 = .ok (.goto 24, 3) := by decide +kernel
theorem dX8_sumOfParcels_51 : decode cX8_sumOfParcels 51 = .ok (.iload_n 2, 1) := by decide +kernel
theorem dX8_sumOfParcels_52 : decode cX8_sumOfParcels 52 = .ok (.aload_n 0, 1) := by decide +kernel
theorem dX8_sumOfParcels_53 : decode cX8_sumOfParcels 53 = .ok (.iload_n 3, 1) := by decide +kernel
theorem dX8_sumOfParcels_54 : decode cX8_sumOfParcels 54 = .ok (.invokevirtual 76, 3) := by decide +kernel
theorem dX8_sumOfParcels_57 : decode cX8_sumOfParcels 57 = .ok (.ifCond .eq 12, 3) := by decide +kernel
theorem dX8_sumOfParcels_60 : decode cX8_sumOfParcels 60 = .ok (.aload_n 0, 1) := by decide +kernel
theorem dX8_sumOfParcels_61 : decode cX8_sumOfParcels 61 = .ok (.iload_n 3, 1) := by decide +kernel
theorem dX8_sumOfParcels_62 : decode cX8_sumOfParcels 62 = .ok (.iconst 0, 1) := by decide +kernel
theorem dX8_sumOfParcels_63 : decode cX8_sumOfParcels 63 = .ok (.invokevirtual 56, 3) := by decide +kernel
theorem dX8_sumOfParcels_66 : decode cX8_sumOfParcels 66 = .ok (.goto 4, 3) := by decide +kernel
theorem dX8_sumOfParcels_69 : decode cX8_sumOfParcels 69 = .ok (.iconst 0, 1) := by decide +kernel
theorem dX8_sumOfParcels_70 : decode cX8_sumOfParcels 70 = .ok (.iadd, 1) := by decide +kernel
theorem dX8_sumOfParcels_71 : decode cX8_sumOfParcels 71 = .ok (.istore_n 2, 1) := by decide +kernel
theorem dX8_sumOfParcels_72 : decode cX8_sumOfParcels 72 = .ok (.iinc 3 1, 3) := by decide +kernel
theorem dX8_sumOfParcels_75 : decode cX8_sumOfParcels 75 = .ok (.goto (-71), 3) := by decide +kernel
theorem dX8_sumOfParcels_78 : decode cX8_sumOfParcels 78 = .ok (.iload_n 2, 1) := by decide +kernel
theorem dX8_sumOfParcels_79 : decode cX8_sumOfParcels 79 = .ok (.ireturn, 1) := by decide +kernel
set_option maxRecDepth 20000 in
theorem ggX8_sumOfLiens_X8_lienOf : GoodIn wsX8_sumOfLiens wsX8_lienOf := goodIn_ca (goodIn_r _ [6, 1, 7, 8, 9, 10, 11, 12, 13, 14, 15, 16, 17, 18, 19, 20, 21] (by decide +kernel) (by decide +kernel)) (goodIn_sub (fun _ h => List.mem_cons_of_mem _ (List.mem_append_right _ h)) (by decide +kernel))
set_option maxRecDepth 20000 in
theorem gX8_sumOfLiens_X8_lienOf : GoodIn wsX8_sumOfLiens (wsV RX8 150 RX8 yX8_lienOf wsX8_lienOf) := goodIn_app (goodIn_of _ (by decide +kernel)) ggX8_sumOfLiens_X8_lienOf
theorem dX8_sumOfLiens_0 : decode cX8_sumOfLiens 0 = .ok (.iconst 0, 1) := by decide +kernel
theorem dX8_sumOfLiens_1 : decode cX8_sumOfLiens 1 = .ok (.istore_n 1, 1) := by decide +kernel
theorem dX8_sumOfLiens_2 : decode cX8_sumOfLiens 2 = .ok (.iconst 0, 1) := by decide +kernel
theorem dX8_sumOfLiens_3 : decode cX8_sumOfLiens 3 = .ok (.istore_n 2, 1) := by decide +kernel
theorem dX8_sumOfLiens_4 : decode cX8_sumOfLiens 4 = .ok (.iload_n 2, 1) := by decide +kernel
theorem dX8_sumOfLiens_5 : decode cX8_sumOfLiens 5 = .ok (.aload_n 0, 1) := by decide +kernel
theorem dX8_sumOfLiens_6 : decode cX8_sumOfLiens 6 = .ok (.getfield 9, 3) := by decide +kernel
theorem dX8_sumOfLiens_9 : decode cX8_sumOfLiens 9 = .ok (.iconst 5, 1) := by decide +kernel
theorem dX8_sumOfLiens_10 : decode cX8_sumOfLiens 10 = .ok (.iaload, 1) := by decide +kernel
theorem dX8_sumOfLiens_11 : decode cX8_sumOfLiens 11 = .ok (.if_icmp .ge 27, 3) := by decide +kernel
theorem dX8_sumOfLiens_14 : decode cX8_sumOfLiens 14 = .ok (.iload_n 1, 1) := by decide +kernel
theorem dX8_sumOfLiens_15 : decode cX8_sumOfLiens 15 = .ok (.aload_n 0, 1) := by decide +kernel
theorem dX8_sumOfLiens_16 : decode cX8_sumOfLiens 16 = .ok (.aload_n 0, 1) := by decide +kernel
theorem dX8_sumOfLiens_17 : decode cX8_sumOfLiens 17 = .ok (.getfield 9, 3) := by decide +kernel
theorem dX8_sumOfLiens_20 : decode cX8_sumOfLiens 20 = .ok (.sipush 601, 3) := by decide +kernel
theorem dX8_sumOfLiens_23 : decode cX8_sumOfLiens 23 = .ok (.iload_n 2, 1) := by decide +kernel
theorem dX8_sumOfLiens_24 : decode cX8_sumOfLiens 24 = .ok (.iadd, 1) := by decide +kernel
theorem dX8_sumOfLiens_25 : decode cX8_sumOfLiens 25 = .ok (.iaload, 1) := by decide +kernel
theorem dX8_sumOfLiens_26 : decode cX8_sumOfLiens 26 = .ok (.iconst 1, 1) := by decide +kernel
theorem dX8_sumOfLiens_27 : decode cX8_sumOfLiens 27 = .ok (.invokevirtual 150, 3) := by decide +kernel
theorem dX8_sumOfLiens_30 : decode cX8_sumOfLiens 30 = .ok (.iadd, 1) := by decide +kernel
theorem dX8_sumOfLiens_31 : decode cX8_sumOfLiens 31 = .ok (.istore_n 1, 1) := by decide +kernel
theorem dX8_sumOfLiens_32 : decode cX8_sumOfLiens 32 = .ok (.iinc 2 1, 3) := by decide +kernel
theorem dX8_sumOfLiens_35 : decode cX8_sumOfLiens 35 = .ok (.goto (-31), 3) := by decide +kernel
theorem dX8_sumOfLiens_38 : decode cX8_sumOfLiens 38 = .ok (.iload_n 1, 1) := by decide +kernel
theorem dX8_sumOfLiens_39 : decode cX8_sumOfLiens 39 = .ok (.ireturn, 1) := by decide +kernel
set_option maxRecDepth 20000 in
theorem ggX8_account_X8_isBetween : GoodIn wsX8_account wsX8_isBetween := goodIn_r _ [5] (by decide +kernel) (by decide +kernel)
set_option maxRecDepth 20000 in
theorem gX8_account_X8_isBetween : GoodIn wsX8_account (va_wsS RX8 48 yX8_isBetween wsX8_isBetween) := goodIn_app (goodIn_of _ (by decide +kernel)) ggX8_account_X8_isBetween
set_option maxRecDepth 20000 in
theorem ggX8_account_X8_fails : GoodIn wsX8_account wsX8_fails := goodIn_r _ [9, 10, 70, 71, 72, 73, 74, 75, 76, 77, 78, 79, 80, 81, 82, 83, 84] (by decide +kernel) (by decide +kernel)
set_option maxRecDepth 20000 in
theorem gX8_account_X8_fails : GoodIn wsX8_account (wsV RX8 85 RX8 yX8_fails wsX8_fails) := goodIn_app (goodIn_of _ (by decide +kernel)) ggX8_account_X8_fails
set_option maxRecDepth 20000 in
theorem ggX8_account_X8_countPresent : GoodIn wsX8_account wsX8_countPresent := goodIn_ca (goodIn_r _ [14, 1, 15, 16, 17, 4, 18, 19, 20, 21, 22, 2, 3, 5, 23, 24, 25, 26, 70, 71, 72, 73, 74, 75, 76, 77, 78, 79, 80, 81, 82, 83, 84] (by decide +kernel) (by decide +kernel)) (goodIn_sub (fun _ h => List.mem_cons_of_mem _ (List.mem_append_right _ h)) (by decide +kernel))
set_option maxRecDepth 20000 in
theorem gX8_account_X8_countPresent : GoodIn wsX8_account (wsV RX8 228 RX8 yX8_countPresent wsX8_countPresent) := goodIn_app (goodIn_of _ (by decide +kernel)) ggX8_account_X8_countPresent
set_option maxRecDepth 20000 in
theorem ggX8_account_X8_countEasements : GoodIn wsX8_account wsX8_countEasements := goodIn_ca (goodIn_r _ [30, 1, 31, 32, 33, 4, 34, 35, 36, 37, 38, 70, 71, 72, 73, 74, 75, 76, 77, 78, 79, 80, 81, 82, 83, 84] (by decide +kernel) (by decide +kernel)) (goodIn_sub (fun _ h => List.mem_cons_of_mem _ (List.mem_append_right _ h)) (by decide +kernel))
set_option maxRecDepth 20000 in
theorem gX8_account_X8_countEasements : GoodIn wsX8_account (wsV RX8 196 RX8 yX8_countEasements wsX8_countEasements) := goodIn_app (goodIn_of _ (by decide +kernel)) ggX8_account_X8_countEasements
set_option maxRecDepth 20000 in
theorem ggX8_account_X8_sumOfLiens : GoodIn wsX8_account wsX8_sumOfLiens := goodIn_ca (goodIn_r _ [42, 1, 43, 44, 45, 4, 46, 70, 71, 72, 73, 74, 75, 76, 77, 78, 79, 80, 81, 82, 83, 84] (by decide +kernel) (by decide +kernel)) (goodIn_sub (fun _ h => List.mem_cons_of_mem _ (List.mem_append_right _ h)) (by decide +kernel))
set_option maxRecDepth 20000 in
theorem gX8_account_X8_sumOfLiens : GoodIn wsX8_account (wsV RX8 231 RX8 yX8_sumOfLiens wsX8_sumOfLiens) := goodIn_app (goodIn_of _ (by decide +kernel)) ggX8_account_X8_sumOfLiens
set_option maxRecDepth 20000 in
theorem ggX8_account_X8_sumOfParcels : GoodIn wsX8_account wsX8_sumOfParcels := goodIn_ca (goodIn_r _ [50, 1, 51, 52, 53, 4, 54, 55, 56, 57, 58, 59, 60, 61, 62, 63, 64, 65, 66, 23, 24, 25, 26, 67, 68, 69, 15, 16, 17, 18, 19, 20, 21, 22, 2, 3, 5, 70, 71, 72, 73, 74, 75, 76, 77, 78, 79, 80, 81, 82, 83, 84] (by decide +kernel) (by decide +kernel)) (goodIn_sub (fun _ h => List.mem_cons_of_mem _ (List.mem_append_right _ h)) (by decide +kernel))
set_option maxRecDepth 20000 in
theorem gX8_account_X8_sumOfParcels : GoodIn wsX8_account (wsV RX8 234 RX8 yX8_sumOfParcels wsX8_sumOfParcels) := goodIn_app (goodIn_of _ (by decide +kernel)) ggX8_account_X8_sumOfParcels
theorem dX8_account_0 : decode cX8_account 0 = .ok (.aload_n 0, 1) := by decide +kernel
theorem dX8_account_1 : decode cX8_account 1 = .ok (.iconst 1, 1) := by decide +kernel
theorem dX8_account_2 : decode cX8_account 2 = .ok (.iload_n 1, 1) := by decide +kernel
theorem dX8_account_3 : decode cX8_account 3 = .ok (.iconst 0, 1) := by decide +kernel
theorem dX8_account_4 : decode cX8_account 4 = .ok (.bipush 10, 2) := by decide +kernel
theorem dX8_account_6 : decode cX8_account 6 = .ok (.invokestatic 48, 3) := by decide +kernel
theorem dX8_account_9 : decode cX8_account 9 = .ok (.ifCond .ne 7, 3) := by decide +kernel
theorem dX8_account_12 : decode cX8_account 12 = .ok (.iconst 1, 1) := by decide +kernel
theorem dX8_account_13 : decode cX8_account 13 = .ok (.goto 4, 3) := by decide +kernel
theorem dX8_account_16 : decode cX8_account 16 = .ok (.iconst 0, 1) := by decide +kernel
theorem dX8_account_17 : decode cX8_account 17 = .ok (.invokevirtual 85, 3) := by decide +kernel
theorem dX8_account_20 : decode cX8_account 20 = .ok (.ifCond .eq 5, 3) := by decide +kernel
theorem dX8_account_23 : decode cX8_account 23 = .ok (.iconst 0, 1) := by decide +kernel
theorem dX8_account_24 : decode cX8_account 24 = .ok (.ireturn, 1) := by decide +kernel
theorem dX8_account_25 : decode cX8_account 25 = .ok (.iload_n 1, 1) := by decide +kernel
theorem dX8_account_26 : decode cX8_account 26 = .ok (.tableswitch 118 0 10 #[58, 65, 118, 70, 78, 118, 85, 90, 97, 102, 109], 58) := by decide +kernel
theorem dX8_account_84 : decode cX8_account 84 = .ok (.aload_n 0, 1) := by decide +kernel
theorem dX8_account_85 : decode cX8_account 85 = .ok (.getfield 9, 3) := by decide +kernel
theorem dX8_account_88 : decode cX8_account 88 = .ok (.iconst 1, 1) := by decide +kernel
theorem dX8_account_89 : decode cX8_account 89 = .ok (.iaload, 1) := by decide +kernel
theorem dX8_account_90 : decode cX8_account 90 = .ok (.ireturn, 1) := by decide +kernel
theorem dX8_account_91 : decode cX8_account 91 = .ok (.aload_n 0, 1) := by decide +kernel
theorem dX8_account_92 : decode cX8_account 92 = .ok (.invokevirtual 228, 3) := by decide +kernel
theorem dX8_account_95 : decode cX8_account 95 = .ok (.ireturn, 1) := by decide +kernel
theorem dX8_account_96 : decode cX8_account 96 = .ok (.aload_n 0, 1) := by decide +kernel
theorem dX8_account_97 : decode cX8_account 97 = .ok (.getfield 9, 3) := by decide +kernel
theorem dX8_account_100 : decode cX8_account 100 = .ok (.bipush 6, 2) := by decide +kernel
theorem dX8_account_102 : decode cX8_account 102 = .ok (.iaload, 1) := by decide +kernel
theorem dX8_account_103 : decode cX8_account 103 = .ok (.ireturn, 1) := by decide +kernel
theorem dX8_account_104 : decode cX8_account 104 = .ok (.aload_n 0, 1) := by decide +kernel
theorem dX8_account_105 : decode cX8_account 105 = .ok (.getfield 9, 3) := by decide +kernel
theorem dX8_account_108 : decode cX8_account 108 = .ok (.iconst 2, 1) := by decide +kernel
theorem dX8_account_109 : decode cX8_account 109 = .ok (.iaload, 1) := by decide +kernel
theorem dX8_account_110 : decode cX8_account 110 = .ok (.ireturn, 1) := by decide +kernel
theorem dX8_account_111 : decode cX8_account 111 = .ok (.aload_n 0, 1) := by decide +kernel
theorem dX8_account_112 : decode cX8_account 112 = .ok (.invokevirtual 196, 3) := by decide +kernel
theorem dX8_account_115 : decode cX8_account 115 = .ok (.ireturn, 1) := by decide +kernel
theorem dX8_account_116 : decode cX8_account 116 = .ok (.aload_n 0, 1) := by decide +kernel
theorem dX8_account_117 : decode cX8_account 117 = .ok (.getfield 9, 3) := by decide +kernel
theorem dX8_account_120 : decode cX8_account 120 = .ok (.iconst 5, 1) := by decide +kernel
theorem dX8_account_121 : decode cX8_account 121 = .ok (.iaload, 1) := by decide +kernel
theorem dX8_account_122 : decode cX8_account 122 = .ok (.ireturn, 1) := by decide +kernel
theorem dX8_account_123 : decode cX8_account 123 = .ok (.aload_n 0, 1) := by decide +kernel
theorem dX8_account_124 : decode cX8_account 124 = .ok (.invokevirtual 231, 3) := by decide +kernel
theorem dX8_account_127 : decode cX8_account 127 = .ok (.ireturn, 1) := by decide +kernel
theorem dX8_account_128 : decode cX8_account 128 = .ok (.aload_n 0, 1) := by decide +kernel
theorem dX8_account_129 : decode cX8_account 129 = .ok (.getfield 9, 3) := by decide +kernel
theorem dX8_account_132 : decode cX8_account 132 = .ok (.iconst 0, 1) := by decide +kernel
theorem dX8_account_133 : decode cX8_account 133 = .ok (.iaload, 1) := by decide +kernel
theorem dX8_account_134 : decode cX8_account 134 = .ok (.ireturn, 1) := by decide +kernel
theorem dX8_account_135 : decode cX8_account 135 = .ok (.aload_n 0, 1) := by decide +kernel
theorem dX8_account_136 : decode cX8_account 136 = .ok (.bipush 10, 2) := by decide +kernel
theorem dX8_account_138 : decode cX8_account 138 = .ok (.invokevirtual 234, 3) := by decide +kernel
theorem dX8_account_141 : decode cX8_account 141 = .ok (.iconst 2, 1) := by decide +kernel
theorem dX8_account_142 : decode cX8_account 142 = .ok (.idiv, 1) := by decide +kernel
theorem dX8_account_143 : decode cX8_account 143 = .ok (.ireturn, 1) := by decide +kernel
theorem dX8_account_144 : decode cX8_account 144 = .ok (.aload_n 0, 1) := by decide +kernel
theorem dX8_account_145 : decode cX8_account 145 = .ok (.iload_n 1, 1) := by decide +kernel
theorem dX8_account_146 : decode cX8_account 146 = .ok (.invokevirtual 234, 3) := by decide +kernel
theorem dX8_account_149 : decode cX8_account 149 = .ok (.ireturn, 1) := by decide +kernel
set_option maxRecDepth 20000 in
theorem ggX8_meanArea_X8_isPerson : GoodIn wsX8_meanArea wsX8_isPerson := goodIn_r _ [5, 6, 7, 4, 8] (by decide +kernel) (by decide +kernel)
set_option maxRecDepth 20000 in
theorem gX8_meanArea_X8_isPerson : GoodIn wsX8_meanArea (va_wsS RX8 82 yX8_isPerson wsX8_isPerson) := goodIn_app (goodIn_of _ (by decide +kernel)) ggX8_meanArea_X8_isPerson
set_option maxRecDepth 20000 in
theorem ggX8_meanArea_X8_fails : GoodIn wsX8_meanArea wsX8_fails := goodIn_r _ [12, 13, 51, 52, 53, 54, 55, 56, 57, 58, 59, 60, 61, 62, 63, 64, 65] (by decide +kernel) (by decide +kernel)
set_option maxRecDepth 20000 in
theorem gX8_meanArea_X8_fails : GoodIn wsX8_meanArea (wsV RX8 85 RX8 yX8_fails wsX8_fails) := goodIn_app (goodIn_of _ (by decide +kernel)) ggX8_meanArea_X8_fails
set_option maxRecDepth 20000 in
theorem ggX8_meanArea_X8_holdingsOf : GoodIn wsX8_meanArea wsX8_holdingsOf := goodIn_ca (goodIn_r _ [17, 1, 18, 19, 20, 4, 21, 22, 23, 24, 25, 6, 7, 8, 26, 27, 28, 29, 30, 31, 32, 33, 34, 35, 36, 37, 38, 39, 40, 41, 42, 43, 44, 51, 52, 53, 54, 55, 56, 57, 58, 59, 60, 61, 62, 63, 64, 65] (by decide +kernel) (by decide +kernel)) (goodIn_sub (fun _ h => List.mem_cons_of_mem _ (List.mem_append_right _ h)) (by decide +kernel))
set_option maxRecDepth 20000 in
theorem gX8_meanArea_X8_holdingsOf : GoodIn wsX8_meanArea (wsV RX8 184 RX8 yX8_holdingsOf wsX8_holdingsOf) := goodIn_app (goodIn_of _ (by decide +kernel)) ggX8_meanArea_X8_holdingsOf
set_option maxRecDepth 20000 in
theorem ggX8_meanArea_X8_has : GoodIn wsX8_meanArea wsX8_has := goodIn_r _ [47] (by decide +kernel) (by decide +kernel)
set_option maxRecDepth 20000 in
theorem gX8_meanArea_X8_has : GoodIn wsX8_meanArea (va_wsS RX8 68 yX8_has wsX8_has) := goodIn_app (goodIn_of _ (by decide +kernel)) ggX8_meanArea_X8_has
set_option maxRecDepth 20000 in
theorem ggX8_meanArea_X8_of : GoodIn wsX8_meanArea wsX8_of := goodIn_ca (goodIn_r _ [29, 1, 51, 52, 53, 54, 55, 56, 57, 58, 59, 60, 61, 62, 63, 64, 65] (by decide +kernel) (by decide +kernel)) (goodIn_sub (fun _ h => List.mem_cons_of_mem _ (List.mem_append_right _ h)) (by decide +kernel))
set_option maxRecDepth 20000 in
theorem gX8_meanArea_X8_of : GoodIn wsX8_meanArea (wsV RX8 56 RX8 yX8_of wsX8_of) := goodIn_app (goodIn_of _ (by decide +kernel)) ggX8_meanArea_X8_of
set_option maxRecDepth 20000 in
theorem ggX8_meanArea_X8_count : GoodIn wsX8_meanArea wsX8_count := goodIn_r _ [50] (by decide +kernel) (by decide +kernel)
set_option maxRecDepth 20000 in
theorem gX8_meanArea_X8_count : GoodIn wsX8_meanArea (va_wsS RX8 225 yX8_count wsX8_count) := goodIn_app (goodIn_of _ (by decide +kernel)) ggX8_meanArea_X8_count
theorem dX8_meanArea_0 : decode cX8_meanArea 0 = .ok (.aload_n 0, 1) := by decide +kernel
theorem dX8_meanArea_1 : decode cX8_meanArea 1 = .ok (.iconst 1, 1) := by decide +kernel
theorem dX8_meanArea_2 : decode cX8_meanArea 2 = .ok (.iload_n 1, 1) := by decide +kernel
theorem dX8_meanArea_3 : decode cX8_meanArea 3 = .ok (.invokestatic 82, 3) := by decide +kernel
theorem dX8_meanArea_6 : decode cX8_meanArea 6 = .ok (.ifCond .ne 7, 3) := by decide +kernel
theorem dX8_meanArea_9 : decode cX8_meanArea 9 = .ok (.iconst 1, 1) := by decide +kernel
theorem dX8_meanArea_10 : decode cX8_meanArea 10 = .ok (.goto 4, 3) := by decide +kernel
theorem dX8_meanArea_13 : decode cX8_meanArea 13 = .ok (.iconst 0, 1) := by decide +kernel
theorem dX8_meanArea_14 : decode cX8_meanArea 14 = .ok (.invokevirtual 85, 3) := by decide +kernel
theorem dX8_meanArea_17 : decode cX8_meanArea 17 = .ok (.ifCond .eq 5, 3) := by decide +kernel
theorem dX8_meanArea_20 : decode cX8_meanArea 20 = .ok (.dconst 0, 1) := by decide +kernel
theorem dX8_meanArea_21 : decode cX8_meanArea 21 = .ok (.dreturn, 1) := by decide +kernel
theorem dX8_meanArea_22 : decode cX8_meanArea 22 = .ok (.aload_n 0, 1) := by decide +kernel
theorem dX8_meanArea_23 : decode cX8_meanArea 23 = .ok (.iload_n 1, 1) := by decide +kernel
theorem dX8_meanArea_24 : decode cX8_meanArea 24 = .ok (.invokevirtual 184, 3) := by decide +kernel
theorem dX8_meanArea_27 : decode cX8_meanArea 27 = .ok (.istore_n 2, 1) := by decide +kernel
theorem dX8_meanArea_28 : decode cX8_meanArea 28 = .ok (.iconst 0, 1) := by decide +kernel
theorem dX8_meanArea_29 : decode cX8_meanArea 29 = .ok (.istore_n 3, 1) := by decide +kernel
theorem dX8_meanArea_30 : decode cX8_meanArea 30 = .ok (.iconst 0, 1) := by decide +kernel
theorem dX8_meanArea_31 : decode cX8_meanArea 31 = .ok (.istore 4, 2) := by decide +kernel
theorem dX8_meanArea_33 : decode cX8_meanArea 33 = .ok (.iload 4, 2) := by decide +kernel
theorem dX8_meanArea_35 : decode cX8_meanArea 35 = .ok (.aload_n 0, 1) := by decide +kernel
theorem dX8_meanArea_36 : decode cX8_meanArea 36 = .ok (.getfield 9, 3) := by decide +kernel
theorem dX8_meanArea_39 : decode cX8_meanArea 39 = .ok (.iconst 1, 1) := by decide +kernel
theorem dX8_meanArea_40 : decode cX8_meanArea 40 = .ok (.iaload, 1) := by decide +kernel
theorem dX8_meanArea_41 : decode cX8_meanArea 41 = .ok (.if_icmp .ge 32, 3) := by decide +kernel
theorem dX8_meanArea_44 : decode cX8_meanArea 44 = .ok (.iload_n 3, 1) := by decide +kernel
theorem dX8_meanArea_45 : decode cX8_meanArea 45 = .ok (.iload_n 2, 1) := by decide +kernel
theorem dX8_meanArea_46 : decode cX8_meanArea 46 = .ok (.iload 4, 2) := by decide +kernel
theorem dX8_meanArea_48 : decode cX8_meanArea 48 = .ok (.invokestatic 68, 3) := by decide +kernel
theorem dX8_meanArea_51 : decode cX8_meanArea 51 = .ok (.ifCond .eq 13, 3) := by decide +kernel
theorem dX8_meanArea_54 : decode cX8_meanArea 54 = .ok (.aload_n 0, 1) := by decide +kernel
theorem dX8_meanArea_55 : decode cX8_meanArea 55 = .ok (.iload 4, 2) := by decide +kernel
theorem dX8_meanArea_57 : decode cX8_meanArea 57 = .ok (.iconst 0, 1) := by decide +kernel
theorem dX8_meanArea_58 : decode cX8_meanArea 58 = .ok (.invokevirtual 56, 3) := by decide +kernel
theorem dX8_meanArea_61 : decode cX8_meanArea 61 = .ok (.goto 4, 3) := by decide +kernel
theorem dX8_meanArea_64 : decode cX8_meanArea 64 = .ok (.iconst 0, 1) := by decide +kernel
theorem dX8_meanArea_65 : decode cX8_meanArea 65 = .ok (.iadd, 1) := by decide +kernel
theorem dX8_meanArea_66 : decode cX8_meanArea 66 = .ok (.istore_n 3, 1) := by decide +kernel
theorem dX8_meanArea_67 : decode cX8_meanArea 67 = .ok (.iinc 4 1, 3) := by decide +kernel
theorem dX8_meanArea_70 : decode cX8_meanArea 70 = .ok (.goto (-37), 3) := by decide +kernel
theorem dX8_meanArea_73 : decode cX8_meanArea 73 = .ok (.aload_n 0, 1) := by decide +kernel
theorem dX8_meanArea_74 : decode cX8_meanArea 74 = .ok (.iconst 2, 1) := by decide +kernel
theorem dX8_meanArea_75 : decode cX8_meanArea 75 = .ok (.iload_n 2, 1) := by decide +kernel
theorem dX8_meanArea_76 : decode cX8_meanArea 76 = .ok (.ifCond .ne 7, 3) := by decide +kernel
theorem dX8_meanArea_79 : decode cX8_meanArea 79 = .ok (.iconst 1, 1) := by decide +kernel
theorem dX8_meanArea_80 : decode cX8_meanArea 80 = .ok (.goto 4, 3) := by decide +kernel
theorem dX8_meanArea_83 : decode cX8_meanArea 83 = .ok (.iconst 0, 1) := by decide +kernel
theorem dX8_meanArea_84 : decode cX8_meanArea 84 = .ok (.invokevirtual 85, 3) := by decide +kernel
theorem dX8_meanArea_87 : decode cX8_meanArea 87 = .ok (.ifCond .eq 7, 3) := by decide +kernel
theorem dX8_meanArea_90 : decode cX8_meanArea 90 = .ok (.dconst 0, 1) := by decide +kernel
theorem dX8_meanArea_91 : decode cX8_meanArea 91 = .ok (.goto 11, 3) := by decide +kernel
theorem dX8_meanArea_94 : decode cX8_meanArea 94 = .ok (.iload_n 3, 1) := by decide +kernel
theorem dX8_meanArea_95 : decode cX8_meanArea 95 = .ok (.i2d, 1) := by decide +kernel
theorem dX8_meanArea_96 : decode cX8_meanArea 96 = .ok (.iload_n 2, 1) := by decide +kernel
theorem dX8_meanArea_97 : decode cX8_meanArea 97 = .ok (.invokestatic 225, 3) := by decide +kernel
theorem dX8_meanArea_100 : decode cX8_meanArea 100 = .ok (.i2d, 1) := by decide +kernel
theorem dX8_meanArea_101 : decode cX8_meanArea 101 = .ok (.ddiv, 1) := by decide +kernel
theorem dX8_meanArea_102 : decode cX8_meanArea 102 = .ok (.dreturn, 1) := by decide +kernel
set_option maxRecDepth 20000 in
theorem ggX8_append_X8_isBetween : GoodIn wsX8_append wsX8_isBetween := goodIn_r _ [6] (by decide +kernel) (by decide +kernel)
set_option maxRecDepth 20000 in
theorem gX8_append_X8_isBetween : GoodIn wsX8_append (va_wsS RX8 48 yX8_isBetween wsX8_isBetween) := goodIn_app (goodIn_of _ (by decide +kernel)) ggX8_append_X8_isBetween
set_option maxRecDepth 20000 in
theorem ggX8_append_X8_fails : GoodIn wsX8_append wsX8_fails := goodIn_r _ [10, 11, 12, 13, 14, 15, 16, 17, 18, 19, 20, 21, 22, 23, 24, 25, 26] (by decide +kernel) (by decide +kernel)
set_option maxRecDepth 20000 in
theorem gX8_append_X8_fails : GoodIn wsX8_append (wsV RX8 85 RX8 yX8_fails wsX8_fails) := goodIn_app (goodIn_of _ (by decide +kernel)) ggX8_append_X8_fails
theorem dX8_append_0 : decode cX8_append 0 = .ok (.aload_n 0, 1) := by decide +kernel
theorem dX8_append_1 : decode cX8_append 1 = .ok (.iconst 1, 1) := by decide +kernel
theorem dX8_append_2 : decode cX8_append 2 = .ok (.iload_n 1, 1) := by decide +kernel
theorem dX8_append_3 : decode cX8_append 3 = .ok (.bipush 32, 2) := by decide +kernel
theorem dX8_append_5 : decode cX8_append 5 = .ok (.bipush 126, 2) := by decide +kernel
theorem dX8_append_7 : decode cX8_append 7 = .ok (.invokestatic 48, 3) := by decide +kernel
theorem dX8_append_10 : decode cX8_append 10 = .ok (.ifCond .ne 7, 3) := by decide +kernel
theorem dX8_append_13 : decode cX8_append 13 = .ok (.iconst 1, 1) := by decide +kernel
theorem dX8_append_14 : decode cX8_append 14 = .ok (.goto 4, 3) := by decide +kernel
theorem dX8_append_17 : decode cX8_append 17 = .ok (.iconst 0, 1) := by decide +kernel
theorem dX8_append_18 : decode cX8_append 18 = .ok (.invokevirtual 85, 3) := by decide +kernel
theorem dX8_append_21 : decode cX8_append 21 = .ok (.ifCond .ne 25, 3) := by decide +kernel
theorem dX8_append_24 : decode cX8_append 24 = .ok (.aload_n 0, 1) := by decide +kernel
theorem dX8_append_25 : decode cX8_append 25 = .ok (.iconst 2, 1) := by decide +kernel
theorem dX8_append_26 : decode cX8_append 26 = .ok (.aload_n 0, 1) := by decide +kernel
theorem dX8_append_27 : decode cX8_append 27 = .ok (.getfield 237, 3) := by decide +kernel
theorem dX8_append_30 : decode cX8_append 30 = .ok (.bipush 80, 2) := by decide +kernel
theorem dX8_append_32 : decode cX8_append 32 = .ok (.if_icmp .ne 7, 3) := by decide +kernel
theorem dX8_append_35 : decode cX8_append 35 = .ok (.iconst 1, 1) := by decide +kernel
theorem dX8_append_36 : decode cX8_append 36 = .ok (.goto 4, 3) := by decide +kernel
theorem dX8_append_39 : decode cX8_append 39 = .ok (.iconst 0, 1) := by decide +kernel
theorem dX8_append_40 : decode cX8_append 40 = .ok (.invokevirtual 85, 3) := by decide +kernel
theorem dX8_append_43 : decode cX8_append 43 = .ok (.ifCond .eq 5, 3) := by decide +kernel
theorem dX8_append_46 : decode cX8_append 46 = .ok (.iconst 0, 1) := by decide +kernel
theorem dX8_append_47 : decode cX8_append 47 = .ok (.ireturn, 1) := by decide +kernel
theorem dX8_append_48 : decode cX8_append 48 = .ok (.aload_n 0, 1) := by decide +kernel
theorem dX8_append_49 : decode cX8_append 49 = .ok (.getfield 31, 3) := by decide +kernel
theorem dX8_append_52 : decode cX8_append 52 = .ok (.aload_n 0, 1) := by decide +kernel
theorem dX8_append_53 : decode cX8_append 53 = .ok (.getfield 237, 3) := by decide +kernel
theorem dX8_append_56 : decode cX8_append 56 = .ok (.iload_n 1, 1) := by decide +kernel
theorem dX8_append_57 : decode cX8_append 57 = .ok (.castore, 1) := by decide +kernel
theorem dX8_append_58 : decode cX8_append 58 = .ok (.aload_n 0, 1) := by decide +kernel
theorem dX8_append_59 : decode cX8_append 59 = .ok (.dup, 1) := by decide +kernel
theorem dX8_append_60 : decode cX8_append 60 = .ok (.getfield 237, 3) := by decide +kernel
theorem dX8_append_63 : decode cX8_append 63 = .ok (.iconst 1, 1) := by decide +kernel
theorem dX8_append_64 : decode cX8_append 64 = .ok (.iadd, 1) := by decide +kernel
theorem dX8_append_65 : decode cX8_append 65 = .ok (.putfield 237, 3) := by decide +kernel
theorem dX8_append_68 : decode cX8_append 68 = .ok (.aload_n 0, 1) := by decide +kernel
theorem dX8_append_69 : decode cX8_append 69 = .ok (.getfield 237, 3) := by decide +kernel
theorem dX8_append_72 : decode cX8_append 72 = .ok (.ireturn, 1) := by decide +kernel
set_option maxRecDepth 20000 in
theorem ggX8_sees_X8_isBetween : GoodIn wsX8_sees wsX8_isBetween := goodIn_r _ [8] (by decide +kernel) (by decide +kernel)
set_option maxRecDepth 20000 in
theorem gX8_sees_X8_isBetween : GoodIn wsX8_sees (va_wsS RX8 48 yX8_isBetween wsX8_isBetween) := goodIn_app (goodIn_of _ (by decide +kernel)) ggX8_sees_X8_isBetween
theorem dX8_sees_0 : decode cX8_sees 0 = .ok (.aload_n 0, 1) := by decide +kernel
theorem dX8_sees_1 : decode cX8_sees 1 = .ok (.getfield 240, 3) := by decide +kernel
theorem dX8_sees_4 : decode cX8_sees 4 = .ok (.ifCond .ne 35, 3) := by decide +kernel
theorem dX8_sees_7 : decode cX8_sees 7 = .ok (.aload_n 0, 1) := by decide +kernel
theorem dX8_sees_8 : decode cX8_sees 8 = .ok (.getfield 244, 3) := by decide +kernel
theorem dX8_sees_11 : decode cX8_sees 11 = .ok (.aload_n 0, 1) := by decide +kernel
theorem dX8_sees_12 : decode cX8_sees 12 = .ok (.getfield 237, 3) := by decide +kernel
theorem dX8_sees_15 : decode cX8_sees 15 = .ok (.if_icmp .ge 24, 3) := by decide +kernel
theorem dX8_sees_18 : decode cX8_sees 18 = .ok (.aload_n 0, 1) := by decide +kernel
theorem dX8_sees_19 : decode cX8_sees 19 = .ok (.getfield 31, 3) := by decide +kernel
theorem dX8_sees_22 : decode cX8_sees 22 = .ok (.aload_n 0, 1) := by decide +kernel
theorem dX8_sees_23 : decode cX8_sees 23 = .ok (.getfield 244, 3) := by decide +kernel
theorem dX8_sees_26 : decode cX8_sees 26 = .ok (.caload, 1) := by decide +kernel
theorem dX8_sees_27 : decode cX8_sees 27 = .ok (.iload_n 1, 1) := by decide +kernel
theorem dX8_sees_28 : decode cX8_sees 28 = .ok (.iload_n 2, 1) := by decide +kernel
theorem dX8_sees_29 : decode cX8_sees 29 = .ok (.invokestatic 48, 3) := by decide +kernel
theorem dX8_sees_32 : decode cX8_sees 32 = .ok (.ifCond .eq 7, 3) := by decide +kernel
theorem dX8_sees_35 : decode cX8_sees 35 = .ok (.iconst 1, 1) := by decide +kernel
theorem dX8_sees_36 : decode cX8_sees 36 = .ok (.goto 4, 3) := by decide +kernel
theorem dX8_sees_39 : decode cX8_sees 39 = .ok (.iconst 0, 1) := by decide +kernel
theorem dX8_sees_40 : decode cX8_sees 40 = .ok (.ireturn, 1) := by decide +kernel
set_option maxRecDepth 20000 in
theorem ggX8_must_X8_sees : GoodIn wsX8_must wsX8_sees := goodIn_ca (goodIn_r _ [7, 1, 2, 8, 9, 10, 11, 6, 12, 13, 14, 15, 16, 17, 18, 19, 20, 21, 22, 23, 24, 25, 26, 27] (by decide +kernel) (by decide +kernel)) (goodIn_sub (fun _ h => List.mem_cons_of_mem _ (List.mem_append_right _ h)) (by decide +kernel))
set_option maxRecDepth 20000 in
theorem gX8_must_X8_sees : GoodIn wsX8_must (wsV RX8 247 RX8 yX8_sees wsX8_sees) := goodIn_app (goodIn_of _ (by decide +kernel)) ggX8_must_X8_sees
theorem dX8_must_0 : decode cX8_must 0 = .ok (.aload_n 0, 1) := by decide +kernel
theorem dX8_must_1 : decode cX8_must 1 = .ok (.dup, 1) := by decide +kernel
theorem dX8_must_2 : decode cX8_must 2 = .ok (.getfield 240, 3) := by decide +kernel
theorem dX8_must_5 : decode cX8_must 5 = .ok (.aload_n 0, 1) := by decide +kernel
theorem dX8_must_6 : decode cX8_must 6 = .ok (.iload_n 1, 1) := by decide +kernel
theorem dX8_must_7 : decode cX8_must 7 = .ok (.iload_n 1, 1) := by decide +kernel
theorem dX8_must_8 : decode cX8_must 8 = .ok (.invokevirtual 247, 3) := by decide +kernel
theorem dX8_must_11 : decode cX8_must 11 = .ok (.ifCond .ne 7, 3) := by decide +kernel
theorem dX8_must_14 : decode cX8_must 14 = .ok (.iconst 1, 1) := by decide +kernel
theorem dX8_must_15 : decode cX8_must 15 = .ok (.goto 4, 3) := by decide +kernel
theorem dX8_must_18 : decode cX8_must 18 = .ok (.iconst 0, 1) := by decide +kernel
theorem dX8_must_19 : decode cX8_must 19 = .ok (.ior, 1) := by decide +kernel
theorem dX8_must_20 : decode cX8_must 20 = .ok (.putfield 240, 3) := by decide +kernel
theorem dX8_must_23 : decode cX8_must 23 = .ok (.aload_n 0, 1) := by decide +kernel
theorem dX8_must_24 : decode cX8_must 24 = .ok (.dup, 1) := by decide +kernel
theorem dX8_must_25 : decode cX8_must 25 = .ok (.getfield 244, 3) := by decide +kernel
theorem dX8_must_28 : decode cX8_must 28 = .ok (.aload_n 0, 1) := by decide +kernel
theorem dX8_must_29 : decode cX8_must 29 = .ok (.getfield 240, 3) := by decide +kernel
theorem dX8_must_32 : decode cX8_must 32 = .ok (.ifCond .eq 7, 3) := by decide +kernel
theorem dX8_must_35 : decode cX8_must 35 = .ok (.iconst 0, 1) := by decide +kernel
theorem dX8_must_36 : decode cX8_must 36 = .ok (.goto 4, 3) := by decide +kernel
theorem dX8_must_39 : decode cX8_must 39 = .ok (.iconst 1, 1) := by decide +kernel
theorem dX8_must_40 : decode cX8_must 40 = .ok (.iadd, 1) := by decide +kernel
theorem dX8_must_41 : decode cX8_must 41 = .ok (.putfield 244, 3) := by decide +kernel
theorem dX8_must_44 : decode cX8_must 44 = .ok (.return_, 1) := by decide +kernel
theorem dX8_word_0 : decode cX8_word 0 = .ok (.iload_n 0, 1) := by decide +kernel
theorem dX8_word_1 : decode cX8_word 1 = .ok (.tableswitch 52 0 4 #[35, 38, 41, 44, 48], 35) := by decide +kernel
theorem dX8_word_36 : decode cX8_word 36 = .ok (.ldc 250, 2) := by decide +kernel
theorem dX8_word_38 : decode cX8_word 38 = .ok (.areturn, 1) := by decide +kernel
theorem dX8_word_39 : decode cX8_word 39 = .ok (.ldc 252, 2) := by decide +kernel
theorem dX8_word_41 : decode cX8_word 41 = .ok (.areturn, 1) := by decide +kernel
theorem dX8_word_42 : decode cX8_word 42 = .ok (.ldc 254, 2) := by decide +kernel
theorem dX8_word_44 : decode cX8_word 44 = .ok (.areturn, 1) := by decide +kernel
theorem dX8_word_45 : decode cX8_word 45 = .ok (.ldc_w 256, 3) := by decide +kernel
theorem dX8_word_48 : decode cX8_word 48 = .ok (.areturn, 1) := by decide +kernel
theorem dX8_word_49 : decode cX8_word 49 = .ok (.ldc_w 258, 3) := by decide +kernel
theorem dX8_word_52 : decode cX8_word 52 = .ok (.areturn, 1) := by decide +kernel
theorem dX8_word_53 : decode cX8_word 53 = .ok (.ldc_w 260, 3) := by decide +kernel
theorem dX8_word_56 : decode cX8_word 56 = .ok (.areturn, 1) := by decide +kernel
set_option maxRecDepth 20000 in
theorem ggX8_isPrefix_J0_length_8abf5 : GoodIn wsX8_isPrefix wsJ0_length_8abf5 := goodIn_r _ [8, 9, 10, 11, 12, 7, 13, 14, 15, 68, 69] (by decide +kernel) (by decide +kernel)
set_option maxRecDepth 20000 in
theorem gX8_isPrefix_J0_length_8abf5 : GoodIn wsX8_isPrefix (wsV RX8 262 RJ0 yJ0_length_8abf5 wsJ0_length_8abf5) := goodIn_app (goodIn_of _ (by decide +kernel)) ggX8_isPrefix_J0_length_8abf5
set_option maxRecDepth 20000 in
theorem ggX8_isPrefix_J0_charAt_5068e : GoodIn wsX8_isPrefix wsJ0_charAt_5068e := goodIn_r _ [19, 9, 20, 21, 22, 7, 23, 14, 15, 24, 25, 26, 27, 28, 29, 30, 31, 32, 33, 34, 35, 36, 37, 38, 39, 40, 41, 42, 43, 44, 45, 46, 47, 48, 49, 50, 51, 52, 68, 69] (by decide +kernel) (by decide +kernel)
set_option maxRecDepth 20000 in
theorem gX8_isPrefix_J0_charAt_5068e : GoodIn wsX8_isPrefix (wsV RX8 266 RJ0 yJ0_charAt_5068e wsJ0_charAt_5068e) := goodIn_app (goodIn_of _ (by decide +kernel)) ggX8_isPrefix_J0_charAt_5068e
theorem dX8_isPrefix_0 : decode cX8_isPrefix 0 = .ok (.aload_n 0, 1) := by decide +kernel
theorem dX8_isPrefix_1 : decode cX8_isPrefix 1 = .ok (.getfield 244, 3) := by decide +kernel
theorem dX8_isPrefix_4 : decode cX8_isPrefix 4 = .ok (.iload_n 1, 1) := by decide +kernel
theorem dX8_isPrefix_5 : decode cX8_isPrefix 5 = .ok (.isub, 1) := by decide +kernel
theorem dX8_isPrefix_6 : decode cX8_isPrefix 6 = .ok (.aload_n 2, 1) := by decide +kernel
theorem dX8_isPrefix_7 : decode cX8_isPrefix 7 = .ok (.invokevirtual 262, 3) := by decide +kernel
theorem dX8_isPrefix_10 : decode cX8_isPrefix 10 = .ok (.if_icmp .ge 7, 3) := by decide +kernel
theorem dX8_isPrefix_13 : decode cX8_isPrefix 13 = .ok (.iconst 1, 1) := by decide +kernel
theorem dX8_isPrefix_14 : decode cX8_isPrefix 14 = .ok (.goto 4, 3) := by decide +kernel
theorem dX8_isPrefix_17 : decode cX8_isPrefix 17 = .ok (.iconst 0, 1) := by decide +kernel
theorem dX8_isPrefix_18 : decode cX8_isPrefix 18 = .ok (.istore_n 3, 1) := by decide +kernel
theorem dX8_isPrefix_19 : decode cX8_isPrefix 19 = .ok (.iload_n 1, 1) := by decide +kernel
theorem dX8_isPrefix_20 : decode cX8_isPrefix 20 = .ok (.istore 4, 2) := by decide +kernel
theorem dX8_isPrefix_22 : decode cX8_isPrefix 22 = .ok (.iload_n 3, 1) := by decide +kernel
theorem dX8_isPrefix_23 : decode cX8_isPrefix 23 = .ok (.ifCond .eq 51, 3) := by decide +kernel
theorem dX8_isPrefix_26 : decode cX8_isPrefix 26 = .ok (.iload 4, 2) := by decide +kernel
theorem dX8_isPrefix_28 : decode cX8_isPrefix 28 = .ok (.aload_n 0, 1) := by decide +kernel
theorem dX8_isPrefix_29 : decode cX8_isPrefix 29 = .ok (.getfield 244, 3) := by decide +kernel
theorem dX8_isPrefix_32 : decode cX8_isPrefix 32 = .ok (.if_icmp .gt 42, 3) := by decide +kernel
theorem dX8_isPrefix_35 : decode cX8_isPrefix 35 = .ok (.iload 4, 2) := by decide +kernel
theorem dX8_isPrefix_37 : decode cX8_isPrefix 37 = .ok (.aload_n 0, 1) := by decide +kernel
theorem dX8_isPrefix_38 : decode cX8_isPrefix 38 = .ok (.getfield 237, 3) := by decide +kernel
theorem dX8_isPrefix_41 : decode cX8_isPrefix 41 = .ok (.if_icmp .ge 25, 3) := by decide +kernel
theorem dX8_isPrefix_44 : decode cX8_isPrefix 44 = .ok (.aload_n 0, 1) := by decide +kernel
theorem dX8_isPrefix_45 : decode cX8_isPrefix 45 = .ok (.getfield 31, 3) := by decide +kernel
theorem dX8_isPrefix_48 : decode cX8_isPrefix 48 = .ok (.iload 4, 2) := by decide +kernel
theorem dX8_isPrefix_50 : decode cX8_isPrefix 50 = .ok (.caload, 1) := by decide +kernel
theorem dX8_isPrefix_51 : decode cX8_isPrefix 51 = .ok (.aload_n 2, 1) := by decide +kernel
theorem dX8_isPrefix_52 : decode cX8_isPrefix 52 = .ok (.iload 4, 2) := by decide +kernel
theorem dX8_isPrefix_54 : decode cX8_isPrefix 54 = .ok (.iload_n 1, 1) := by decide +kernel
theorem dX8_isPrefix_55 : decode cX8_isPrefix 55 = .ok (.isub, 1) := by decide +kernel
theorem dX8_isPrefix_56 : decode cX8_isPrefix 56 = .ok (.invokevirtual 266, 3) := by decide +kernel
theorem dX8_isPrefix_59 : decode cX8_isPrefix 59 = .ok (.if_icmp .ne 7, 3) := by decide +kernel
theorem dX8_isPrefix_62 : decode cX8_isPrefix 62 = .ok (.iconst 1, 1) := by decide +kernel
theorem dX8_isPrefix_63 : decode cX8_isPrefix 63 = .ok (.goto 4, 3) := by decide +kernel
theorem dX8_isPrefix_66 : decode cX8_isPrefix 66 = .ok (.iconst 0, 1) := by decide +kernel
theorem dX8_isPrefix_67 : decode cX8_isPrefix 67 = .ok (.istore_n 3, 1) := by decide +kernel
theorem dX8_isPrefix_68 : decode cX8_isPrefix 68 = .ok (.iinc 4 1, 3) := by decide +kernel
theorem dX8_isPrefix_71 : decode cX8_isPrefix 71 = .ok (.goto (-49), 3) := by decide +kernel
theorem dX8_isPrefix_74 : decode cX8_isPrefix 74 = .ok (.iload_n 3, 1) := by decide +kernel
theorem dX8_isPrefix_75 : decode cX8_isPrefix 75 = .ok (.ireturn, 1) := by decide +kernel
set_option maxRecDepth 20000 in
theorem ggX8_readWord_X8_word : GoodIn wsX8_readWord wsX8_word := goodIn_r _ [6] (by decide +kernel) (by decide +kernel)
set_option maxRecDepth 20000 in
theorem gX8_readWord_X8_word : GoodIn wsX8_readWord (va_wsS RX8 270 yX8_word wsX8_word) := goodIn_app (goodIn_of _ (by decide +kernel)) ggX8_readWord_X8_word
set_option maxRecDepth 20000 in
theorem ggX8_readWord_X8_isPrefix : GoodIn wsX8_readWord wsX8_isPrefix := goodIn_ca (goodIn_r _ [10, 1, 11, 12, 13, 14, 15, 16, 17, 18, 19, 20, 21, 22, 23, 24, 25, 26, 27, 28, 29, 30, 31, 32, 33, 34, 35, 36, 37, 38, 39, 40, 41, 42, 43, 44, 45, 46, 47, 48, 49, 50, 51, 52, 53, 54, 55, 56, 57, 58, 59, 60, 61, 62, 63, 64, 65, 66, 67, 68, 69, 70, 71, 72, 73, 74, 75, 76, 77, 78] (by decide +kernel) (by decide +kernel)) (goodIn_sub (fun _ h => List.mem_cons_of_mem _ (List.mem_append_right _ h)) (by decide +kernel))
set_option maxRecDepth 20000 in
theorem gX8_readWord_X8_isPrefix : GoodIn wsX8_readWord (wsV RX8 274 RX8 yX8_isPrefix wsX8_isPrefix) := goodIn_app (goodIn_of _ (by decide +kernel)) ggX8_readWord_X8_isPrefix
set_option maxRecDepth 20000 in
theorem ggX8_readWord_J0_length_8abf5 : GoodIn wsX8_readWord wsJ0_length_8abf5 := goodIn_r _ [17, 18, 19, 20, 21, 16, 22, 23, 24, 77, 78] (by decide +kernel) (by decide +kernel)
set_option maxRecDepth 20000 in
theorem gX8_readWord_J0_length_8abf5 : GoodIn wsX8_readWord (wsV RX8 262 RJ0 yJ0_length_8abf5 wsJ0_length_8abf5) := goodIn_app (goodIn_of _ (by decide +kernel)) ggX8_readWord_J0_length_8abf5
theorem dX8_readWord_0 : decode cX8_readWord 0 = .ok (.aload_n 0, 1) := by decide +kernel
theorem dX8_readWord_1 : decode cX8_readWord 1 = .ok (.getfield 244, 3) := by decide +kernel
theorem dX8_readWord_4 : decode cX8_readWord 4 = .ok (.istore_n 1, 1) := by decide +kernel
theorem dX8_readWord_5 : decode cX8_readWord 5 = .ok (.iconst (-1), 1) := by decide +kernel
theorem dX8_readWord_6 : decode cX8_readWord 6 = .ok (.istore_n 2, 1) := by decide +kernel
theorem dX8_readWord_7 : decode cX8_readWord 7 = .ok (.aload_n 0, 1) := by decide +kernel
theorem dX8_readWord_8 : decode cX8_readWord 8 = .ok (.getfield 240, 3) := by decide +kernel
theorem dX8_readWord_11 : decode cX8_readWord 11 = .ok (.ifCond .ne 107, 3) := by decide +kernel
theorem dX8_readWord_14 : decode cX8_readWord 14 = .ok (.iload_n 2, 1) := by decide +kernel
theorem dX8_readWord_15 : decode cX8_readWord 15 = .ok (.ifCond .ge 103, 3) := by decide +kernel
theorem dX8_readWord_18 : decode cX8_readWord 18 = .ok (.iconst 0, 1) := by decide +kernel
theorem dX8_readWord_19 : decode cX8_readWord 19 = .ok (.istore_n 3, 1) := by decide +kernel
theorem dX8_readWord_20 : decode cX8_readWord 20 = .ok (.iconst 0, 1) := by decide +kernel
theorem dX8_readWord_21 : decode cX8_readWord 21 = .ok (.istore 4, 2) := by decide +kernel
theorem dX8_readWord_23 : decode cX8_readWord 23 = .ok (.iload 4, 2) := by decide +kernel
theorem dX8_readWord_25 : decode cX8_readWord 25 = .ok (.bipush 6, 2) := by decide +kernel
theorem dX8_readWord_27 : decode cX8_readWord 27 = .ok (.if_icmp .ge 57, 3) := by decide +kernel
theorem dX8_readWord_30 : decode cX8_readWord 30 = .ok (.aload_n 0, 1) := by decide +kernel
theorem dX8_readWord_31 : decode cX8_readWord 31 = .ok (.iload_n 1, 1) := by decide +kernel
theorem dX8_readWord_32 : decode cX8_readWord 32 = .ok (.iload 4, 2) := by decide +kernel
theorem dX8_readWord_34 : decode cX8_readWord 34 = .ok (.invokestatic 270, 3) := by decide +kernel
theorem dX8_readWord_37 : decode cX8_readWord 37 = .ok (.invokevirtual 274, 3) := by decide +kernel
theorem dX8_readWord_40 : decode cX8_readWord 40 = .ok (.istore 5, 2) := by decide +kernel
theorem dX8_readWord_42 : decode cX8_readWord 42 = .ok (.iload_n 3, 1) := by decide +kernel
theorem dX8_readWord_43 : decode cX8_readWord 43 = .ok (.iload 5, 2) := by decide +kernel
theorem dX8_readWord_45 : decode cX8_readWord 45 = .ok (.ior, 1) := by decide +kernel
theorem dX8_readWord_46 : decode cX8_readWord 46 = .ok (.istore_n 3, 1) := by decide +kernel
theorem dX8_readWord_47 : decode cX8_readWord 47 = .ok (.iload 5, 2) := by decide +kernel
theorem dX8_readWord_49 : decode cX8_readWord 49 = .ok (.ifCond .eq 27, 3) := by decide +kernel
theorem dX8_readWord_52 : decode cX8_readWord 52 = .ok (.aload_n 0, 1) := by decide +kernel
theorem dX8_readWord_53 : decode cX8_readWord 53 = .ok (.getfield 244, 3) := by decide +kernel
theorem dX8_readWord_56 : decode cX8_readWord 56 = .ok (.iload_n 1, 1) := by decide +kernel
theorem dX8_readWord_57 : decode cX8_readWord 57 = .ok (.isub, 1) := by decide +kernel
theorem dX8_readWord_58 : decode cX8_readWord 58 = .ok (.iconst 1, 1) := by decide +kernel
theorem dX8_readWord_59 : decode cX8_readWord 59 = .ok (.iadd, 1) := by decide +kernel
theorem dX8_readWord_60 : decode cX8_readWord 60 = .ok (.iload 4, 2) := by decide +kernel
theorem dX8_readWord_62 : decode cX8_readWord 62 = .ok (.invokestatic 270, 3) := by decide +kernel
theorem dX8_readWord_65 : decode cX8_readWord 65 = .ok (.invokevirtual 262, 3) := by decide +kernel
theorem dX8_readWord_68 : decode cX8_readWord 68 = .ok (.if_icmp .ne 8, 3) := by decide +kernel
theorem dX8_readWord_71 : decode cX8_readWord 71 = .ok (.iload 4, 2) := by decide +kernel
theorem dX8_readWord_73 : decode cX8_readWord 73 = .ok (.goto 4, 3) := by decide +kernel
theorem dX8_readWord_76 : decode cX8_readWord 76 = .ok (.iload_n 2, 1) := by decide +kernel
theorem dX8_readWord_77 : decode cX8_readWord 77 = .ok (.istore_n 2, 1) := by decide +kernel
theorem dX8_readWord_78 : decode cX8_readWord 78 = .ok (.iinc 4 1, 3) := by decide +kernel
theorem dX8_readWord_81 : decode cX8_readWord 81 = .ok (.goto (-58), 3) := by decide +kernel
theorem dX8_readWord_84 : decode cX8_readWord 84 = .ok (.aload_n 0, 1) := by decide +kernel
theorem dX8_readWord_85 : decode cX8_readWord 85 = .ok (.iload_n 3, 1) := by decide +kernel
theorem dX8_readWord_86 : decode cX8_readWord 86 = .ok (.ifCond .ne 7, 3) := by decide +kernel
theorem dX8_readWord_89 : decode cX8_readWord 89 = .ok (.iconst 1, 1) := by decide +kernel
theorem dX8_readWord_90 : decode cX8_readWord 90 = .ok (.goto 4, 3) := by decide +kernel
theorem dX8_readWord_93 : decode cX8_readWord 93 = .ok (.iconst 0, 1) := by decide +kernel
theorem dX8_readWord_94 : decode cX8_readWord 94 = .ok (.putfield 240, 3) := by decide +kernel
theorem dX8_readWord_97 : decode cX8_readWord 97 = .ok (.aload_n 0, 1) := by decide +kernel
theorem dX8_readWord_98 : decode cX8_readWord 98 = .ok (.dup, 1) := by decide +kernel
theorem dX8_readWord_99 : decode cX8_readWord 99 = .ok (.getfield 244, 3) := by decide +kernel
theorem dX8_readWord_102 : decode cX8_readWord 102 = .ok (.iload_n 3, 1) := by decide +kernel
theorem dX8_readWord_103 : decode cX8_readWord 103 = .ok (.ifCond .eq 7, 3) := by decide +kernel
theorem dX8_readWord_106 : decode cX8_readWord 106 = .ok (.iconst 1, 1) := by decide +kernel
theorem dX8_readWord_107 : decode cX8_readWord 107 = .ok (.goto 4, 3) := by decide +kernel
theorem dX8_readWord_110 : decode cX8_readWord 110 = .ok (.iconst 0, 1) := by decide +kernel
theorem dX8_readWord_111 : decode cX8_readWord 111 = .ok (.iadd, 1) := by decide +kernel
theorem dX8_readWord_112 : decode cX8_readWord 112 = .ok (.putfield 244, 3) := by decide +kernel
theorem dX8_readWord_115 : decode cX8_readWord 115 = .ok (.goto (-108), 3) := by decide +kernel
theorem dX8_readWord_118 : decode cX8_readWord 118 = .ok (.aload_n 0, 1) := by decide +kernel
theorem dX8_readWord_119 : decode cX8_readWord 119 = .ok (.getfield 240, 3) := by decide +kernel
theorem dX8_readWord_122 : decode cX8_readWord 122 = .ok (.ifCond .eq 7, 3) := by decide +kernel
theorem dX8_readWord_125 : decode cX8_readWord 125 = .ok (.iconst (-1), 1) := by decide +kernel
theorem dX8_readWord_126 : decode cX8_readWord 126 = .ok (.goto 4, 3) := by decide +kernel
theorem dX8_readWord_129 : decode cX8_readWord 129 = .ok (.iload_n 2, 1) := by decide +kernel
theorem dX8_readWord_130 : decode cX8_readWord 130 = .ok (.ireturn, 1) := by decide +kernel
set_option maxRecDepth 20000 in
theorem ggX8_readNumber_X8_sees : GoodIn wsX8_readNumber wsX8_sees := goodIn_ca (goodIn_r _ [8, 3, 2, 9, 1, 10, 11, 7, 12, 13, 14, 15, 16, 17, 18, 19, 20, 21, 22, 23, 24, 25, 26, 27] (by decide +kernel) (by decide +kernel)) (goodIn_sub (fun _ h => List.mem_cons_of_mem _ (List.mem_append_right _ h)) (by decide +kernel))
set_option maxRecDepth 20000 in
theorem gX8_readNumber_X8_sees : GoodIn wsX8_readNumber (wsV RX8 247 RX8 yX8_sees wsX8_sees) := goodIn_app (goodIn_of _ (by decide +kernel)) ggX8_readNumber_X8_sees
theorem dX8_readNumber_0 : decode cX8_readNumber 0 = .ok (.iconst 0, 1) := by decide +kernel
theorem dX8_readNumber_1 : decode cX8_readNumber 1 = .ok (.istore_n 1, 1) := by decide +kernel
theorem dX8_readNumber_2 : decode cX8_readNumber 2 = .ok (.iconst 0, 1) := by decide +kernel
theorem dX8_readNumber_3 : decode cX8_readNumber 3 = .ok (.istore_n 2, 1) := by decide +kernel
theorem dX8_readNumber_4 : decode cX8_readNumber 4 = .ok (.iload_n 2, 1) := by decide +kernel
theorem dX8_readNumber_5 : decode cX8_readNumber 5 = .ok (.iconst 4, 1) := by decide +kernel
theorem dX8_readNumber_6 : decode cX8_readNumber 6 = .ok (.if_icmp .ge 48, 3) := by decide +kernel
theorem dX8_readNumber_9 : decode cX8_readNumber 9 = .ok (.aload_n 0, 1) := by decide +kernel
theorem dX8_readNumber_10 : decode cX8_readNumber 10 = .ok (.bipush 48, 2) := by decide +kernel
theorem dX8_readNumber_12 : decode cX8_readNumber 12 = .ok (.bipush 57, 2) := by decide +kernel
theorem dX8_readNumber_14 : decode cX8_readNumber 14 = .ok (.invokevirtual 247, 3) := by decide +kernel
theorem dX8_readNumber_17 : decode cX8_readNumber 17 = .ok (.ifCond .eq 37, 3) := by decide +kernel
theorem dX8_readNumber_20 : decode cX8_readNumber 20 = .ok (.bipush 10, 2) := by decide +kernel
theorem dX8_readNumber_22 : decode cX8_readNumber 22 = .ok (.iload_n 1, 1) := by decide +kernel
theorem dX8_readNumber_23 : decode cX8_readNumber 23 = .ok (.imul, 1) := by decide +kernel
theorem dX8_readNumber_24 : decode cX8_readNumber 24 = .ok (.aload_n 0, 1) := by decide +kernel
theorem dX8_readNumber_25 : decode cX8_readNumber 25 = .ok (.getfield 31, 3) := by decide +kernel
theorem dX8_readNumber_28 : decode cX8_readNumber 28 = .ok (.aload_n 0, 1) := by decide +kernel
theorem dX8_readNumber_29 : decode cX8_readNumber 29 = .ok (.getfield 244, 3) := by decide +kernel
theorem dX8_readNumber_32 : decode cX8_readNumber 32 = .ok (.caload, 1) := by decide +kernel
theorem dX8_readNumber_33 : decode cX8_readNumber 33 = .ok (.iadd, 1) := by decide +kernel
theorem dX8_readNumber_34 : decode cX8_readNumber 34 = .ok (.bipush 48, 2) := by decide +kernel
theorem dX8_readNumber_36 : decode cX8_readNumber 36 = .ok (.isub, 1) := by decide +kernel
theorem dX8_readNumber_37 : decode cX8_readNumber 37 = .ok (.istore_n 1, 1) := by decide +kernel
theorem dX8_readNumber_38 : decode cX8_readNumber 38 = .ok (.aload_n 0, 1) := by decide +kernel
theorem dX8_readNumber_39 : decode cX8_readNumber 39 = .ok (.dup, 1) := by decide +kernel
theorem dX8_readNumber_40 : decode cX8_readNumber 40 = .ok (.getfield 244, 3) := by decide +kernel
theorem dX8_readNumber_43 : decode cX8_readNumber 43 = .ok (.iconst 1, 1) := by decide +kernel
theorem dX8_readNumber_44 : decode cX8_readNumber 44 = .ok (.iadd, 1) := by decide +kernel
theorem dX8_readNumber_45 : decode cX8_readNumber 45 = .ok (.putfield 244, 3) := by decide +kernel
theorem dX8_readNumber_48 : decode cX8_readNumber 48 = .ok (.iinc 2 1, 3) := by decide +kernel
theorem dX8_readNumber_51 : decode cX8_readNumber 51 = .ok (.goto (-47), 3) := by decide +kernel
theorem dX8_readNumber_54 : decode cX8_readNumber 54 = .ok (.aload_n 0, 1) := by decide +kernel
theorem dX8_readNumber_55 : decode cX8_readNumber 55 = .ok (.dup, 1) := by decide +kernel
theorem dX8_readNumber_56 : decode cX8_readNumber 56 = .ok (.getfield 240, 3) := by decide +kernel
theorem dX8_readNumber_59 : decode cX8_readNumber 59 = .ok (.iload_n 2, 1) := by decide +kernel
theorem dX8_readNumber_60 : decode cX8_readNumber 60 = .ok (.ifCond .ne 7, 3) := by decide +kernel
theorem dX8_readNumber_63 : decode cX8_readNumber 63 = .ok (.iconst 1, 1) := by decide +kernel
theorem dX8_readNumber_64 : decode cX8_readNumber 64 = .ok (.goto 4, 3) := by decide +kernel
theorem dX8_readNumber_67 : decode cX8_readNumber 67 = .ok (.iconst 0, 1) := by decide +kernel
theorem dX8_readNumber_68 : decode cX8_readNumber 68 = .ok (.ior, 1) := by decide +kernel
theorem dX8_readNumber_69 : decode cX8_readNumber 69 = .ok (.putfield 240, 3) := by decide +kernel
theorem dX8_readNumber_72 : decode cX8_readNumber 72 = .ok (.iload_n 1, 1) := by decide +kernel
theorem dX8_readNumber_73 : decode cX8_readNumber 73 = .ok (.ireturn, 1) := by decide +kernel
theorem dX8_countNumbers_0 : decode cX8_countNumbers 0 = .ok (.iload_n 0, 1) := by decide +kernel
theorem dX8_countNumbers_1 : decode cX8_countNumbers 1 = .ok (.iconst 2, 1) := by decide +kernel
theorem dX8_countNumbers_2 : decode cX8_countNumbers 2 = .ok (.if_icmp .eq 8, 3) := by decide +kernel
theorem dX8_countNumbers_5 : decode cX8_countNumbers 5 = .ok (.iload_n 0, 1) := by decide +kernel
theorem dX8_countNumbers_6 : decode cX8_countNumbers 6 = .ok (.iconst 4, 1) := by decide +kernel
theorem dX8_countNumbers_7 : decode cX8_countNumbers 7 = .ok (.if_icmp .ne 7, 3) := by decide +kernel
theorem dX8_countNumbers_10 : decode cX8_countNumbers 10 = .ok (.iconst 3, 1) := by decide +kernel
theorem dX8_countNumbers_11 : decode cX8_countNumbers 11 = .ok (.goto 13, 3) := by decide +kernel
theorem dX8_countNumbers_14 : decode cX8_countNumbers 14 = .ok (.iload_n 0, 1) := by decide +kernel
theorem dX8_countNumbers_15 : decode cX8_countNumbers 15 = .ok (.iconst 5, 1) := by decide +kernel
theorem dX8_countNumbers_16 : decode cX8_countNumbers 16 = .ok (.if_icmp .ne 7, 3) := by decide +kernel
theorem dX8_countNumbers_19 : decode cX8_countNumbers 19 = .ok (.iconst 1, 1) := by decide +kernel
theorem dX8_countNumbers_20 : decode cX8_countNumbers 20 = .ok (.goto 4, 3) := by decide +kernel
theorem dX8_countNumbers_23 : decode cX8_countNumbers 23 = .ok (.iconst 2, 1) := by decide +kernel
theorem dX8_countNumbers_24 : decode cX8_countNumbers 24 = .ok (.ireturn, 1) := by decide +kernel
set_option maxRecDepth 20000 in
theorem ggX8_readCommand_X8_readWord : GoodIn wsX8_readCommand wsX8_readWord := goodIn_ca (goodIn_r _ [7, 8, 1, 9, 10, 6, 11, 12, 13, 14, 15, 16, 17, 18, 19, 20, 21, 22, 23, 24, 25, 26, 27, 28, 29, 30, 31, 32, 33, 34, 35, 36, 37, 38, 39, 40, 41, 42, 43, 44, 45, 46, 47, 48, 49, 50, 51, 52, 53, 54, 55, 56, 57, 58, 59, 60, 61, 62, 63, 64, 65, 66, 85, 86, 87, 88, 89, 90, 91, 92, 93, 94, 95, 96, 97, 98, 99, 100, 101] (by decide +kernel) (by decide +kernel)) (goodIn_sub (fun _ h => List.mem_cons_of_mem _ (List.mem_append_right _ h)) (by decide +kernel))
set_option maxRecDepth 20000 in
theorem gX8_readCommand_X8_readWord : GoodIn wsX8_readCommand (wsV RX8 278 RX8 yX8_readWord wsX8_readWord) := goodIn_app (goodIn_of _ (by decide +kernel)) ggX8_readCommand_X8_readWord
set_option maxRecDepth 20000 in
theorem ggX8_readCommand_X8_countNumbers : GoodIn wsX8_readCommand wsX8_countNumbers := goodIn_r _ [69] (by decide +kernel) (by decide +kernel)
set_option maxRecDepth 20000 in
theorem gX8_readCommand_X8_countNumbers : GoodIn wsX8_readCommand (va_wsS RX8 281 yX8_countNumbers wsX8_countNumbers) := goodIn_app (goodIn_of _ (by decide +kernel)) ggX8_readCommand_X8_countNumbers
set_option maxRecDepth 20000 in
theorem ggX8_readCommand_X8_must : GoodIn wsX8_readCommand wsX8_must := goodIn_ca (goodIn_r _ [73, 1, 8, 74, 75, 76, 6, 77, 16, 17, 78, 79, 80, 85, 86, 87, 88, 89, 90, 91, 92, 93, 94, 95, 96, 97, 98, 99] (by decide +kernel) (by decide +kernel)) (goodIn_sub (fun _ h => List.mem_cons_of_mem _ (List.mem_append_right _ h)) (by decide +kernel))
set_option maxRecDepth 20000 in
theorem gX8_readCommand_X8_must : GoodIn wsX8_readCommand (wsV RX8 284 RX8 yX8_must wsX8_must) := goodIn_app (goodIn_of _ (by decide +kernel)) ggX8_readCommand_X8_must
set_option maxRecDepth 20000 in
theorem ggX8_readCommand_X8_readNumber : GoodIn wsX8_readCommand wsX8_readNumber := goodIn_ca (goodIn_r _ [84, 17, 8, 1, 74, 75, 76, 6, 77, 16, 78, 79, 80, 85, 86, 87, 88, 89, 90, 91, 92, 93, 94, 95, 96, 97, 98, 99] (by decide +kernel) (by decide +kernel)) (goodIn_sub (fun _ h => List.mem_cons_of_mem _ (List.mem_append_right _ h)) (by decide +kernel))
set_option maxRecDepth 20000 in
theorem gX8_readCommand_X8_readNumber : GoodIn wsX8_readCommand (wsV RX8 287 RX8 yX8_readNumber wsX8_readNumber) := goodIn_app (goodIn_of _ (by decide +kernel)) ggX8_readCommand_X8_readNumber
theorem dX8_readCommand_0 : decode cX8_readCommand 0 = .ok (.aload_n 0, 1) := by decide +kernel
theorem dX8_readCommand_1 : decode cX8_readCommand 1 = .ok (.invokevirtual 278, 3) := by decide +kernel
theorem dX8_readCommand_4 : decode cX8_readCommand 4 = .ok (.istore_n 1, 1) := by decide +kernel
theorem dX8_readCommand_5 : decode cX8_readCommand 5 = .ok (.iconst 0, 1) := by decide +kernel
theorem dX8_readCommand_6 : decode cX8_readCommand 6 = .ok (.istore_n 2, 1) := by decide +kernel
theorem dX8_readCommand_7 : decode cX8_readCommand 7 = .ok (.iload_n 2, 1) := by decide +kernel
theorem dX8_readCommand_8 : decode cX8_readCommand 8 = .ok (.iload_n 1, 1) := by decide +kernel
theorem dX8_readCommand_9 : decode cX8_readCommand 9 = .ok (.invokestatic 281, 3) := by decide +kernel
theorem dX8_readCommand_12 : decode cX8_readCommand 12 = .ok (.if_icmp .ge 43, 3) := by decide +kernel
theorem dX8_readCommand_15 : decode cX8_readCommand 15 = .ok (.aload_n 0, 1) := by decide +kernel
theorem dX8_readCommand_16 : decode cX8_readCommand 16 = .ok (.getfield 240, 3) := by decide +kernel
theorem dX8_readCommand_19 : decode cX8_readCommand 19 = .ok (.ifCond .ne 36, 3) := by decide +kernel
theorem dX8_readCommand_22 : decode cX8_readCommand 22 = .ok (.aload_n 0, 1) := by decide +kernel
theorem dX8_readCommand_23 : decode cX8_readCommand 23 = .ok (.bipush 32, 2) := by decide +kernel
theorem dX8_readCommand_25 : decode cX8_readCommand 25 = .ok (.invokevirtual 284, 3) := by decide +kernel
theorem dX8_readCommand_28 : decode cX8_readCommand 28 = .ok (.aload_n 0, 1) := by decide +kernel
theorem dX8_readCommand_29 : decode cX8_readCommand 29 = .ok (.getfield 35, 3) := by decide +kernel
theorem dX8_readCommand_32 : decode cX8_readCommand 32 = .ok (.iload_n 2, 1) := by decide +kernel
theorem dX8_readCommand_33 : decode cX8_readCommand 33 = .ok (.aload_n 0, 1) := by decide +kernel
theorem dX8_readCommand_34 : decode cX8_readCommand 34 = .ok (.getfield 240, 3) := by decide +kernel
theorem dX8_readCommand_37 : decode cX8_readCommand 37 = .ok (.ifCond .eq 7, 3) := by decide +kernel
theorem dX8_readCommand_40 : decode cX8_readCommand 40 = .ok (.iconst 0, 1) := by decide +kernel
theorem dX8_readCommand_41 : decode cX8_readCommand 41 = .ok (.goto 7, 3) := by decide +kernel
theorem dX8_readCommand_44 : decode cX8_readCommand 44 = .ok (.aload_n 0, 1) := by decide +kernel
theorem dX8_readCommand_45 : decode cX8_readCommand 45 = .ok (.invokevirtual 287, 3) := by decide +kernel
theorem dX8_readCommand_48 : decode cX8_readCommand 48 = .ok (.iastore, 1) := by decide +kernel
theorem dX8_readCommand_49 : decode cX8_readCommand 49 = .ok (.iinc 2 1, 3) := by decide +kernel
theorem dX8_readCommand_52 : decode cX8_readCommand 52 = .ok (.goto (-45), 3) := by decide +kernel
theorem dX8_readCommand_55 : decode cX8_readCommand 55 = .ok (.aload_n 0, 1) := by decide +kernel
theorem dX8_readCommand_56 : decode cX8_readCommand 56 = .ok (.getfield 240, 3) := by decide +kernel
theorem dX8_readCommand_59 : decode cX8_readCommand 59 = .ok (.ifCond .ne 9, 3) := by decide +kernel
theorem dX8_readCommand_62 : decode cX8_readCommand 62 = .ok (.aload_n 0, 1) := by decide +kernel
theorem dX8_readCommand_63 : decode cX8_readCommand 63 = .ok (.bipush 59, 2) := by decide +kernel
theorem dX8_readCommand_65 : decode cX8_readCommand 65 = .ok (.invokevirtual 284, 3) := by decide +kernel
theorem dX8_readCommand_68 : decode cX8_readCommand 68 = .ok (.aload_n 0, 1) := by decide +kernel
theorem dX8_readCommand_69 : decode cX8_readCommand 69 = .ok (.getfield 240, 3) := by decide +kernel
theorem dX8_readCommand_72 : decode cX8_readCommand 72 = .ok (.ifCond .eq 7, 3) := by decide +kernel
theorem dX8_readCommand_75 : decode cX8_readCommand 75 = .ok (.iconst (-1), 1) := by decide +kernel
theorem dX8_readCommand_76 : decode cX8_readCommand 76 = .ok (.goto 4, 3) := by decide +kernel
theorem dX8_readCommand_79 : decode cX8_readCommand 79 = .ok (.iload_n 1, 1) := by decide +kernel
theorem dX8_readCommand_80 : decode cX8_readCommand 80 = .ok (.ireturn, 1) := by decide +kernel
set_option maxRecDepth 20000 in
theorem ggX8_does_X8_isParcel : GoodIn wsX8_does wsX8_isParcel := goodIn_ca (goodIn_r _ [7, 2, 8, 9, 6, 10, 140, 141, 142, 143, 144, 145, 146, 147, 148, 149, 150, 151, 152, 153, 154] (by decide +kernel) (by decide +kernel)) (goodIn_sub (fun _ h => List.mem_cons_of_mem _ (List.mem_append_right _ h)) (by decide +kernel))
set_option maxRecDepth 20000 in
theorem gX8_does_X8_isParcel : GoodIn wsX8_does (wsV RX8 52 RX8 yX8_isParcel wsX8_isParcel) := goodIn_app (goodIn_of _ (by decide +kernel)) ggX8_does_X8_isParcel
set_option maxRecDepth 20000 in
theorem ggX8_does_X8_of : GoodIn wsX8_does wsX8_of := goodIn_ca (goodIn_r _ [14, 2, 140, 141, 142, 143, 144, 145, 146, 147, 148, 149, 150, 151, 152, 153, 154] (by decide +kernel) (by decide +kernel)) (goodIn_sub (fun _ h => List.mem_cons_of_mem _ (List.mem_append_right _ h)) (by decide +kernel))
set_option maxRecDepth 20000 in
theorem gX8_does_X8_of : GoodIn wsX8_does (wsV RX8 56 RX8 yX8_of wsX8_of) := goodIn_app (goodIn_of _ (by decide +kernel)) ggX8_does_X8_of
set_option maxRecDepth 20000 in
theorem ggX8_does_X8_whyNoSplit : GoodIn wsX8_does wsX8_whyNoSplit := goodIn_ca (goodIn_r _ [18, 2, 19, 20, 21, 6, 22, 3, 4, 5, 7, 8, 9, 10, 11, 12, 13, 14, 140, 141, 142, 143, 144, 145, 146, 147, 148, 149, 150, 151, 152, 153, 154] (by decide +kernel) (by decide +kernel)) (goodIn_sub (fun _ h => List.mem_cons_of_mem _ (List.mem_append_right _ h)) (by decide +kernel))
set_option maxRecDepth 20000 in
theorem gX8_does_X8_whyNoSplit : GoodIn wsX8_does (wsV RX8 135 RX8 yX8_whyNoSplit wsX8_whyNoSplit) := goodIn_app (goodIn_of _ (by decide +kernel)) ggX8_does_X8_whyNoSplit
set_option maxRecDepth 20000 in
theorem ggX8_does_X8_isRefused : GoodIn wsX8_does wsX8_isRefused := goodIn_r _ [26, 27, 140, 141, 142, 143, 144, 145, 146, 147, 148, 149, 150, 151, 152, 153, 154] (by decide +kernel) (by decide +kernel)
set_option maxRecDepth 20000 in
theorem gX8_does_X8_isRefused : GoodIn wsX8_does (wsV RX8 138 RX8 yX8_isRefused wsX8_isRefused) := goodIn_app (goodIn_of _ (by decide +kernel)) ggX8_does_X8_isRefused
set_option maxRecDepth 20000 in
theorem ggX8_does_X8_doSplit : GoodIn wsX8_does wsX8_doSplit := goodIn_ca (goodIn_r _ [31, 32, 33, 34, 6, 35, 2, 36, 37, 38, 39, 11, 12, 13, 14, 40, 41, 42, 43, 44, 45, 46, 47, 48, 49, 50, 51, 52, 53, 54, 55, 56, 57, 58, 59, 60, 61, 62, 63, 64, 65, 66, 67, 68, 69, 70, 71, 72, 73, 74, 75, 76, 77, 78, 79, 80, 81, 82, 83, 84, 85, 86, 87, 88, 89, 90, 91, 92, 93, 140, 141, 142, 143, 144, 145, 146, 147, 148, 149, 150, 151, 152, 153, 154] (by decide +kernel) (by decide +kernel)) (goodIn_sub (fun _ h => List.mem_cons_of_mem _ (List.mem_append_right _ h)) (by decide +kernel))
set_option maxRecDepth 20000 in
theorem gX8_does_X8_doSplit : GoodIn wsX8_does (wsV RX8 141 RX8 yX8_doSplit wsX8_doSplit) := goodIn_app (goodIn_of _ (by decide +kernel)) ggX8_does_X8_doSplit
set_option maxRecDepth 20000 in
theorem ggX8_does_X8_whyNoMerge : GoodIn wsX8_does wsX8_whyNoMerge := goodIn_ca (goodIn_r _ [97, 2, 19, 20, 21, 6, 22, 3, 4, 5, 7, 8, 9, 10, 11, 12, 13, 14, 48, 49, 50, 32, 33, 34, 35, 36, 37, 38, 39, 40, 41, 42, 43, 140, 141, 142, 143, 144, 145, 146, 147, 148, 149, 150, 151, 152, 153, 154] (by decide +kernel) (by decide +kernel)) (goodIn_sub (fun _ h => List.mem_cons_of_mem _ (List.mem_append_right _ h)) (by decide +kernel))
set_option maxRecDepth 20000 in
theorem gX8_does_X8_whyNoMerge : GoodIn wsX8_does (wsV RX8 144 RX8 yX8_whyNoMerge wsX8_whyNoMerge) := goodIn_app (goodIn_of _ (by decide +kernel)) ggX8_does_X8_whyNoMerge
set_option maxRecDepth 20000 in
theorem ggX8_does_X8_doMerge : GoodIn wsX8_does wsX8_doMerge := goodIn_ca (goodIn_r _ [101, 32, 33, 34, 6, 35, 2, 36, 37, 38, 39, 11, 12, 13, 14, 40, 41, 42, 43, 55, 56, 57, 44, 45, 46, 47, 48, 49, 50, 51, 52, 53, 54, 58, 59, 60, 61, 62, 63, 64, 65, 66, 67, 68, 69, 102, 103, 104, 105, 78, 79, 80, 81, 74, 75, 76, 77, 82, 83, 84, 85, 106, 107, 108, 109, 90, 91, 92, 93, 140, 141, 142, 143, 144, 145, 146, 147, 148, 149, 150, 151, 152, 153, 154] (by decide +kernel) (by decide +kernel)) (goodIn_sub (fun _ h => List.mem_cons_of_mem _ (List.mem_append_right _ h)) (by decide +kernel))
set_option maxRecDepth 20000 in
theorem gX8_does_X8_doMerge : GoodIn wsX8_does (wsV RX8 147 RX8 yX8_doMerge wsX8_doMerge) := goodIn_app (goodIn_of _ (by decide +kernel)) ggX8_does_X8_doMerge
set_option maxRecDepth 20000 in
theorem ggX8_does_X8_isPerson : GoodIn wsX8_does wsX8_isPerson := goodIn_r _ [112, 8, 9, 6, 10] (by decide +kernel) (by decide +kernel)
set_option maxRecDepth 20000 in
theorem gX8_does_X8_isPerson : GoodIn wsX8_does (va_wsS RX8 82 yX8_isPerson wsX8_isPerson) := goodIn_app (goodIn_of _ (by decide +kernel)) ggX8_does_X8_isPerson
set_option maxRecDepth 20000 in
theorem ggX8_does_X8_takesNoDeed : GoodIn wsX8_does wsX8_takesNoDeed := goodIn_ca (goodIn_r _ [116, 2, 19, 20, 21, 6, 22, 3, 4, 5, 7, 8, 9, 10, 11, 12, 13, 14, 140, 141, 142, 143, 144, 145, 146, 147, 148, 149, 150, 151, 152, 153, 154] (by decide +kernel) (by decide +kernel)) (goodIn_sub (fun _ h => List.mem_cons_of_mem _ (List.mem_append_right _ h)) (by decide +kernel))
set_option maxRecDepth 20000 in
theorem gX8_does_X8_takesNoDeed : GoodIn wsX8_does (wsV RX8 174 RX8 yX8_takesNoDeed wsX8_takesNoDeed) := goodIn_app (goodIn_of _ (by decide +kernel)) ggX8_does_X8_takesNoDeed
set_option maxRecDepth 20000 in
theorem ggX8_does_X8_doDeed : GoodIn wsX8_does wsX8_doDeed := goodIn_ca (goodIn_r _ [120, 2, 40, 41, 42, 6, 43, 121, 122, 123, 124, 36, 37, 38, 39, 11, 12, 13, 14, 140, 141, 142, 143, 144, 145, 146, 147, 148, 149, 150, 151, 152, 153, 154] (by decide +kernel) (by decide +kernel)) (goodIn_sub (fun _ h => List.mem_cons_of_mem _ (List.mem_append_right _ h)) (by decide +kernel))
set_option maxRecDepth 20000 in
theorem gX8_does_X8_doDeed : GoodIn wsX8_does (wsV RX8 177 RX8 yX8_doDeed wsX8_doDeed) := goodIn_app (goodIn_of _ (by decide +kernel)) ggX8_does_X8_doDeed
set_option maxRecDepth 20000 in
theorem ggX8_does_X8_takesNoEasement : GoodIn wsX8_does wsX8_takesNoEasement := goodIn_ca (goodIn_r _ [128, 2, 19, 20, 21, 6, 22, 3, 4, 5, 7, 8, 9, 10, 11, 12, 13, 14, 140, 141, 142, 143, 144, 145, 146, 147, 148, 149, 150, 151, 152, 153, 154] (by decide +kernel) (by decide +kernel)) (goodIn_sub (fun _ h => List.mem_cons_of_mem _ (List.mem_append_right _ h)) (by decide +kernel))
set_option maxRecDepth 20000 in
theorem gX8_does_X8_takesNoEasement : GoodIn wsX8_does (wsV RX8 190 RX8 yX8_takesNoEasement wsX8_takesNoEasement) := goodIn_app (goodIn_of _ (by decide +kernel)) ggX8_does_X8_takesNoEasement
set_option maxRecDepth 20000 in
theorem ggX8_does_X8_newEasement : GoodIn wsX8_does wsX8_newEasement := goodIn_ca (goodIn_r _ [89, 2, 82, 83, 84, 6, 85, 140, 141, 142, 143, 144, 145, 146, 147, 148, 149, 150, 151, 152, 153, 154] (by decide +kernel) (by decide +kernel)) (goodIn_sub (fun _ h => List.mem_cons_of_mem _ (List.mem_append_right _ h)) (by decide +kernel))
set_option maxRecDepth 20000 in
theorem gX8_does_X8_newEasement : GoodIn wsX8_does (wsV RX8 109 RX8 yX8_newEasement wsX8_newEasement) := goodIn_app (goodIn_of _ (by decide +kernel)) ggX8_does_X8_newEasement
set_option maxRecDepth 20000 in
theorem ggX8_does_X8_isAmount : GoodIn wsX8_does wsX8_isAmount := goodIn_r _ [131, 8, 9, 6, 10] (by decide +kernel) (by decide +kernel)
set_option maxRecDepth 20000 in
theorem gX8_does_X8_isAmount : GoodIn wsX8_does (va_wsS RX8 200 yX8_isAmount wsX8_isAmount) := goodIn_app (goodIn_of _ (by decide +kernel)) ggX8_does_X8_isAmount
set_option maxRecDepth 20000 in
theorem ggX8_does_X8_takesNoLien : GoodIn wsX8_does wsX8_takesNoLien := goodIn_ca (goodIn_r _ [135, 2, 19, 20, 21, 6, 22, 3, 4, 5, 7, 8, 9, 10, 11, 12, 13, 14, 140, 141, 142, 143, 144, 145, 146, 147, 148, 149, 150, 151, 152, 153, 154] (by decide +kernel) (by decide +kernel)) (goodIn_sub (fun _ h => List.mem_cons_of_mem _ (List.mem_append_right _ h)) (by decide +kernel))
set_option maxRecDepth 20000 in
theorem gX8_does_X8_takesNoLien : GoodIn wsX8_does (wsV RX8 203 RX8 yX8_takesNoLien wsX8_takesNoLien) := goodIn_app (goodIn_of _ (by decide +kernel)) ggX8_does_X8_takesNoLien
set_option maxRecDepth 20000 in
theorem ggX8_does_X8_doLien : GoodIn wsX8_does wsX8_doLien := goodIn_ca (goodIn_r _ [139, 2, 55, 56, 6, 57, 140, 141, 142, 143, 144, 145, 146, 147, 148, 149, 150, 151, 152, 153, 154] (by decide +kernel) (by decide +kernel)) (goodIn_sub (fun _ h => List.mem_cons_of_mem _ (List.mem_append_right _ h)) (by decide +kernel))
set_option maxRecDepth 20000 in
theorem gX8_does_X8_doLien : GoodIn wsX8_does (wsV RX8 206 RX8 yX8_doLien wsX8_doLien) := goodIn_app (goodIn_of _ (by decide +kernel)) ggX8_does_X8_doLien
theorem dX8_does_0 : decode cX8_does 0 = .ok (.aload_n 0, 1) := by decide +kernel
theorem dX8_does_1 : decode cX8_does 1 = .ok (.getfield 35, 3) := by decide +kernel
theorem dX8_does_4 : decode cX8_does 4 = .ok (.iconst 0, 1) := by decide +kernel
theorem dX8_does_5 : decode cX8_does 5 = .ok (.iaload, 1) := by decide +kernel
theorem dX8_does_6 : decode cX8_does 6 = .ok (.istore_n 2, 1) := by decide +kernel
theorem dX8_does_7 : decode cX8_does 7 = .ok (.aload_n 0, 1) := by decide +kernel
theorem dX8_does_8 : decode cX8_does 8 = .ok (.getfield 35, 3) := by decide +kernel
theorem dX8_does_11 : decode cX8_does 11 = .ok (.iconst 1, 1) := by decide +kernel
theorem dX8_does_12 : decode cX8_does 12 = .ok (.iaload, 1) := by decide +kernel
theorem dX8_does_13 : decode cX8_does 13 = .ok (.istore_n 3, 1) := by decide +kernel
theorem dX8_does_14 : decode cX8_does 14 = .ok (.aload_n 0, 1) := by decide +kernel
theorem dX8_does_15 : decode cX8_does 15 = .ok (.getfield 35, 3) := by decide +kernel
theorem dX8_does_18 : decode cX8_does 18 = .ok (.iconst 2, 1) := by decide +kernel
theorem dX8_does_19 : decode cX8_does 19 = .ok (.iaload, 1) := by decide +kernel
theorem dX8_does_20 : decode cX8_does 20 = .ok (.istore 4, 2) := by decide +kernel
theorem dX8_does_22 : decode cX8_does 22 = .ok (.iload_n 1, 1) := by decide +kernel
theorem dX8_does_23 : decode cX8_does 23 = .ok (.iconst 5, 1) := by decide +kernel
theorem dX8_does_24 : decode cX8_does 24 = .ok (.if_icmp .ne 38, 3) := by decide +kernel
theorem dX8_does_27 : decode cX8_does 27 = .ok (.iload_n 2, 1) := by decide +kernel
theorem dX8_does_28 : decode cX8_does 28 = .ok (.sipush 999, 3) := by decide +kernel
theorem dX8_does_31 : decode cX8_does 31 = .ok (.if_icmp .gt 17, 3) := by decide +kernel
theorem dX8_does_34 : decode cX8_does 34 = .ok (.aload_n 0, 1) := by decide +kernel
theorem dX8_does_35 : decode cX8_does 35 = .ok (.getfield 9, 3) := by decide +kernel
theorem dX8_does_38 : decode cX8_does 38 = .ok (.iconst 0, 1) := by decide +kernel
theorem dX8_does_39 : decode cX8_does 39 = .ok (.iaload, 1) := by decide +kernel
theorem dX8_does_40 : decode cX8_does 40 = .ok (.iload_n 2, 1) := by decide +kernel
theorem dX8_does_41 : decode cX8_does 41 = .ok (.iadd, 1) := by decide +kernel
theorem dX8_does_42 : decode cX8_does 42 = .ok (.sipush 9999, 3) := by decide +kernel
theorem dX8_does_45 : decode cX8_does 45 = .ok (.if_icmp .le 5, 3) := by decide +kernel
theorem dX8_does_48 : decode cX8_does 48 = .ok (.iconst 0, 1) := by decide +kernel
theorem dX8_does_49 : decode cX8_does 49 = .ok (.ireturn, 1) := by decide +kernel
theorem dX8_does_50 : decode cX8_does 50 = .ok (.aload_n 0, 1) := by decide +kernel
theorem dX8_does_51 : decode cX8_does 51 = .ok (.getfield 9, 3) := by decide +kernel
theorem dX8_does_54 : decode cX8_does 54 = .ok (.iconst 0, 1) := by decide +kernel
theorem dX8_does_55 : decode cX8_does 55 = .ok (.dup2, 1) := by decide +kernel
theorem dX8_does_56 : decode cX8_does 56 = .ok (.iaload, 1) := by decide +kernel
theorem dX8_does_57 : decode cX8_does 57 = .ok (.iload_n 2, 1) := by decide +kernel
theorem dX8_does_58 : decode cX8_does 58 = .ok (.iadd, 1) := by decide +kernel
theorem dX8_does_59 : decode cX8_does 59 = .ok (.iastore, 1) := by decide +kernel
theorem dX8_does_60 : decode cX8_does 60 = .ok (.iconst 1, 1) := by decide +kernel
theorem dX8_does_61 : decode cX8_does 61 = .ok (.ireturn, 1) := by decide +kernel
theorem dX8_does_62 : decode cX8_does 62 = .ok (.aload_n 0, 1) := by decide +kernel
theorem dX8_does_63 : decode cX8_does 63 = .ok (.iload_n 2, 1) := by decide +kernel
theorem dX8_does_64 : decode cX8_does 64 = .ok (.invokevirtual 52, 3) := by decide +kernel
theorem dX8_does_67 : decode cX8_does 67 = .ok (.ifCond .ne 5, 3) := by decide +kernel
theorem dX8_does_70 : decode cX8_does 70 = .ok (.iconst 0, 1) := by decide +kernel
theorem dX8_does_71 : decode cX8_does 71 = .ok (.ireturn, 1) := by decide +kernel
theorem dX8_does_72 : decode cX8_does 72 = .ok (.iload_n 1, 1) := by decide +kernel
theorem dX8_does_73 : decode cX8_does 73 = .ok (.tableswitch 180 0 3 #[31, 67, 104, 146], 31) := by decide +kernel
theorem dX8_does_104 : decode cX8_does 104 = .ok (.aload_n 0, 1) := by decide +kernel
theorem dX8_does_105 : decode cX8_does 105 = .ok (.aload_n 0, 1) := by decide +kernel
theorem dX8_does_106 : decode cX8_does 106 = .ok (.iload_n 2, 1) := by decide +kernel
theorem dX8_does_107 : decode cX8_does 107 = .ok (.iload_n 3, 1) := by decide +kernel
theorem dX8_does_108 : decode cX8_does 108 = .ok (.aload_n 0, 1) := by decide +kernel
theorem dX8_does_109 : decode cX8_does 109 = .ok (.iload_n 2, 1) := by decide +kernel
theorem dX8_does_110 : decode cX8_does 110 = .ok (.iconst 3, 1) := by decide +kernel
theorem dX8_does_111 : decode cX8_does 111 = .ok (.invokevirtual 56, 3) := by decide +kernel
theorem dX8_does_114 : decode cX8_does 114 = .ok (.invokevirtual 135, 3) := by decide +kernel
theorem dX8_does_117 : decode cX8_does 117 = .ok (.invokevirtual 138, 3) := by decide +kernel
theorem dX8_does_120 : decode cX8_does 120 = .ok (.ifCond .eq 5, 3) := by decide +kernel
theorem dX8_does_123 : decode cX8_does 123 = .ok (.iconst 0, 1) := by decide +kernel
theorem dX8_does_124 : decode cX8_does 124 = .ok (.ireturn, 1) := by decide +kernel
theorem dX8_does_125 : decode cX8_does 125 = .ok (.aload_n 0, 1) := by decide +kernel
theorem dX8_does_126 : decode cX8_does 126 = .ok (.iload_n 2, 1) := by decide +kernel
theorem dX8_does_127 : decode cX8_does 127 = .ok (.iload_n 3, 1) := by decide +kernel
theorem dX8_does_128 : decode cX8_does 128 = .ok (.aload_n 0, 1) := by decide +kernel
theorem dX8_does_129 : decode cX8_does 129 = .ok (.iload_n 2, 1) := by decide +kernel
theorem dX8_does_130 : decode cX8_does 130 = .ok (.iconst 3, 1) := by decide +kernel
theorem dX8_does_131 : decode cX8_does 131 = .ok (.invokevirtual 56, 3) := by decide +kernel
theorem dX8_does_134 : decode cX8_does 134 = .ok (.invokevirtual 141, 3) := by decide +kernel
theorem dX8_does_137 : decode cX8_does 137 = .ok (.pop, 1) := by decide +kernel
theorem dX8_does_138 : decode cX8_does 138 = .ok (.iconst 1, 1) := by decide +kernel
theorem dX8_does_139 : decode cX8_does 139 = .ok (.ireturn, 1) := by decide +kernel
theorem dX8_does_140 : decode cX8_does 140 = .ok (.aload_n 0, 1) := by decide +kernel
theorem dX8_does_141 : decode cX8_does 141 = .ok (.iload_n 3, 1) := by decide +kernel
theorem dX8_does_142 : decode cX8_does 142 = .ok (.invokevirtual 52, 3) := by decide +kernel
theorem dX8_does_145 : decode cX8_does 145 = .ok (.ifCond .eq 21, 3) := by decide +kernel
theorem dX8_does_148 : decode cX8_does 148 = .ok (.iload_n 2, 1) := by decide +kernel
theorem dX8_does_149 : decode cX8_does 149 = .ok (.iload_n 3, 1) := by decide +kernel
theorem dX8_does_150 : decode cX8_does 150 = .ok (.if_icmp .eq 16, 3) := by decide +kernel
theorem dX8_does_153 : decode cX8_does 153 = .ok (.aload_n 0, 1) := by decide +kernel
theorem dX8_does_154 : decode cX8_does 154 = .ok (.aload_n 0, 1) := by decide +kernel
theorem dX8_does_155 : decode cX8_does 155 = .ok (.iload_n 2, 1) := by decide +kernel
theorem dX8_does_156 : decode cX8_does 156 = .ok (.iload_n 3, 1) := by decide +kernel
theorem dX8_does_157 : decode cX8_does 157 = .ok (.invokevirtual 144, 3) := by decide +kernel
theorem dX8_does_160 : decode cX8_does 160 = .ok (.invokevirtual 138, 3) := by decide +kernel
theorem dX8_does_163 : decode cX8_does 163 = .ok (.ifCond .eq 5, 3) := by decide +kernel
theorem dX8_does_166 : decode cX8_does 166 = .ok (.iconst 0, 1) := by decide +kernel
theorem dX8_does_167 : decode cX8_does 167 = .ok (.ireturn, 1) := by decide +kernel
theorem dX8_does_168 : decode cX8_does 168 = .ok (.aload_n 0, 1) := by decide +kernel
theorem dX8_does_169 : decode cX8_does 169 = .ok (.iload_n 2, 1) := by decide +kernel
theorem dX8_does_170 : decode cX8_does 170 = .ok (.iload_n 3, 1) := by decide +kernel
theorem dX8_does_171 : decode cX8_does 171 = .ok (.invokevirtual 147, 3) := by decide +kernel
theorem dX8_does_174 : decode cX8_does 174 = .ok (.pop, 1) := by decide +kernel
theorem dX8_does_175 : decode cX8_does 175 = .ok (.iconst 1, 1) := by decide +kernel
theorem dX8_does_176 : decode cX8_does 176 = .ok (.ireturn, 1) := by decide +kernel
theorem dX8_does_177 : decode cX8_does 177 = .ok (.iload_n 3, 1) := by decide +kernel
theorem dX8_does_178 : decode cX8_does 178 = .ok (.invokestatic 82, 3) := by decide +kernel
theorem dX8_does_181 : decode cX8_does 181 = .ok (.ifCond .eq 19, 3) := by decide +kernel
theorem dX8_does_184 : decode cX8_does 184 = .ok (.iload 4, 2) := by decide +kernel
theorem dX8_does_186 : decode cX8_does 186 = .ok (.invokestatic 82, 3) := by decide +kernel
theorem dX8_does_189 : decode cX8_does 189 = .ok (.ifCond .eq 11, 3) := by decide +kernel
theorem dX8_does_192 : decode cX8_does 192 = .ok (.aload_n 0, 1) := by decide +kernel
theorem dX8_does_193 : decode cX8_does 193 = .ok (.iload_n 2, 1) := by decide +kernel
theorem dX8_does_194 : decode cX8_does 194 = .ok (.invokevirtual 174, 3) := by decide +kernel
theorem dX8_does_197 : decode cX8_does 197 = .ok (.ifCond .eq 5, 3) := by decide +kernel
theorem dX8_does_200 : decode cX8_does 200 = .ok (.iconst 0, 1) := by decide +kernel
theorem dX8_does_201 : decode cX8_does 201 = .ok (.ireturn, 1) := by decide +kernel
theorem dX8_does_202 : decode cX8_does 202 = .ok (.aload_n 0, 1) := by decide +kernel
theorem dX8_does_203 : decode cX8_does 203 = .ok (.iload_n 2, 1) := by decide +kernel
theorem dX8_does_204 : decode cX8_does 204 = .ok (.iload_n 3, 1) := by decide +kernel
theorem dX8_does_205 : decode cX8_does 205 = .ok (.iload 4, 2) := by decide +kernel
theorem dX8_does_207 : decode cX8_does 207 = .ok (.aload_n 0, 1) := by decide +kernel
theorem dX8_does_208 : decode cX8_does 208 = .ok (.getfield 9, 3) := by decide +kernel
theorem dX8_does_211 : decode cX8_does 211 = .ok (.iconst 0, 1) := by decide +kernel
theorem dX8_does_212 : decode cX8_does 212 = .ok (.iaload, 1) := by decide +kernel
theorem dX8_does_213 : decode cX8_does 213 = .ok (.invokevirtual 177, 3) := by decide +kernel
theorem dX8_does_216 : decode cX8_does 216 = .ok (.pop, 1) := by decide +kernel
theorem dX8_does_217 : decode cX8_does 217 = .ok (.iconst 1, 1) := by decide +kernel
theorem dX8_does_218 : decode cX8_does 218 = .ok (.ireturn, 1) := by decide +kernel
theorem dX8_does_219 : decode cX8_does 219 = .ok (.aload_n 0, 1) := by decide +kernel
theorem dX8_does_220 : decode cX8_does 220 = .ok (.iload_n 3, 1) := by decide +kernel
theorem dX8_does_221 : decode cX8_does 221 = .ok (.invokevirtual 52, 3) := by decide +kernel
theorem dX8_does_224 : decode cX8_does 224 = .ok (.ifCond .eq 17, 3) := by decide +kernel
theorem dX8_does_227 : decode cX8_does 227 = .ok (.iload_n 2, 1) := by decide +kernel
theorem dX8_does_228 : decode cX8_does 228 = .ok (.iload_n 3, 1) := by decide +kernel
theorem dX8_does_229 : decode cX8_does 229 = .ok (.if_icmp .eq 12, 3) := by decide +kernel
theorem dX8_does_232 : decode cX8_does 232 = .ok (.aload_n 0, 1) := by decide +kernel
theorem dX8_does_233 : decode cX8_does 233 = .ok (.iload_n 2, 1) := by decide +kernel
theorem dX8_does_234 : decode cX8_does 234 = .ok (.iload_n 3, 1) := by decide +kernel
theorem dX8_does_235 : decode cX8_does 235 = .ok (.invokevirtual 190, 3) := by decide +kernel
theorem dX8_does_238 : decode cX8_does 238 = .ok (.ifCond .eq 5, 3) := by decide +kernel
theorem dX8_does_241 : decode cX8_does 241 = .ok (.iconst 0, 1) := by decide +kernel
theorem dX8_does_242 : decode cX8_does 242 = .ok (.ireturn, 1) := by decide +kernel
theorem dX8_does_243 : decode cX8_does 243 = .ok (.aload_n 0, 1) := by decide +kernel
theorem dX8_does_244 : decode cX8_does 244 = .ok (.iconst 0, 1) := by decide +kernel
theorem dX8_does_245 : decode cX8_does 245 = .ok (.iload_n 2, 1) := by decide +kernel
theorem dX8_does_246 : decode cX8_does 246 = .ok (.iload_n 3, 1) := by decide +kernel
theorem dX8_does_247 : decode cX8_does 247 = .ok (.invokevirtual 109, 3) := by decide +kernel
theorem dX8_does_250 : decode cX8_does 250 = .ok (.pop, 1) := by decide +kernel
theorem dX8_does_251 : decode cX8_does 251 = .ok (.iconst 1, 1) := by decide +kernel
theorem dX8_does_252 : decode cX8_does 252 = .ok (.ireturn, 1) := by decide +kernel
theorem dX8_does_253 : decode cX8_does 253 = .ok (.iload_n 3, 1) := by decide +kernel
theorem dX8_does_254 : decode cX8_does 254 = .ok (.invokestatic 82, 3) := by decide +kernel
theorem dX8_does_257 : decode cX8_does 257 = .ok (.ifCond .eq 19, 3) := by decide +kernel
theorem dX8_does_260 : decode cX8_does 260 = .ok (.iload 4, 2) := by decide +kernel
theorem dX8_does_262 : decode cX8_does 262 = .ok (.invokestatic 200, 3) := by decide +kernel
theorem dX8_does_265 : decode cX8_does 265 = .ok (.ifCond .eq 11, 3) := by decide +kernel
theorem dX8_does_268 : decode cX8_does 268 = .ok (.aload_n 0, 1) := by decide +kernel
theorem dX8_does_269 : decode cX8_does 269 = .ok (.iload_n 2, 1) := by decide +kernel
theorem dX8_does_270 : decode cX8_does 270 = .ok (.invokevirtual 203, 3) := by decide +kernel
theorem dX8_does_273 : decode cX8_does 273 = .ok (.ifCond .eq 5, 3) := by decide +kernel
theorem dX8_does_276 : decode cX8_does 276 = .ok (.iconst 0, 1) := by decide +kernel
theorem dX8_does_277 : decode cX8_does 277 = .ok (.ireturn, 1) := by decide +kernel
theorem dX8_does_278 : decode cX8_does 278 = .ok (.aload_n 0, 1) := by decide +kernel
theorem dX8_does_279 : decode cX8_does 279 = .ok (.iload_n 2, 1) := by decide +kernel
theorem dX8_does_280 : decode cX8_does 280 = .ok (.iload_n 3, 1) := by decide +kernel
theorem dX8_does_281 : decode cX8_does 281 = .ok (.iload 4, 2) := by decide +kernel
theorem dX8_does_283 : decode cX8_does 283 = .ok (.invokevirtual 206, 3) := by decide +kernel
theorem dX8_does_286 : decode cX8_does 286 = .ok (.pop, 1) := by decide +kernel
theorem dX8_does_287 : decode cX8_does 287 = .ok (.iconst 1, 1) := by decide +kernel
theorem dX8_does_288 : decode cX8_does 288 = .ok (.ireturn, 1) := by decide +kernel
set_option maxRecDepth 20000 in
theorem ggX8_read_X8_readCommand : GoodIn wsX8_read wsX8_readCommand := goodIn_ca (goodIn_r _ [11, 2, 12, 13, 14, 15, 10, 16, 1, 17, 18, 19, 20, 21, 22, 23, 3, 24, 25, 26, 27, 28, 29, 30, 31, 32, 33, 34, 35, 36, 37, 38, 39, 40, 41, 42, 43, 44, 45, 46, 47, 48, 49, 50, 51, 52, 53, 54, 55, 56, 57, 58, 59, 60, 61, 62, 63, 64, 65, 66, 67, 68, 69, 70, 71, 72, 73, 74, 75, 76, 77, 78, 79, 80, 81, 82, 83, 84, 85, 86, 87, 88, 89, 90, 91, 243, 244, 245, 246, 247, 248, 249, 250, 251, 252, 253, 254, 255, 256, 257, 258, 259] (by decide +kernel) (by decide +kernel)) (goodIn_sub (fun _ h => List.mem_cons_of_mem _ (List.mem_append_right _ h)) (by decide +kernel))
set_option maxRecDepth 20000 in
theorem gX8_read_X8_readCommand : GoodIn wsX8_read (wsV RX8 290 RX8 yX8_readCommand wsX8_readCommand) := goodIn_app (goodIn_of _ (by decide +kernel)) ggX8_read_X8_readCommand
set_option maxRecDepth 20000 in
theorem ggX8_read_X8_fails : GoodIn wsX8_read wsX8_fails := goodIn_r _ [95, 96, 243, 244, 245, 246, 247, 248, 249, 250, 251, 252, 253, 254, 255, 256, 257] (by decide +kernel) (by decide +kernel)
set_option maxRecDepth 20000 in
theorem gX8_read_X8_fails : GoodIn wsX8_read (wsV RX8 85 RX8 yX8_fails wsX8_fails) := goodIn_app (goodIn_of _ (by decide +kernel)) ggX8_read_X8_fails
set_option maxRecDepth 20000 in
theorem ggX8_read_X8_copyRow : GoodIn wsX8_read wsX8_copyRow := goodIn_ca (goodIn_r _ [99] (by decide +kernel) (by decide +kernel)) (goodIn_sub (fun _ h => List.mem_cons_of_mem _ (List.mem_append_right _ h)) (by decide +kernel))
set_option maxRecDepth 20000 in
theorem gX8_read_X8_copyRow : GoodIn wsX8_read (va_wsS RX8 44 yX8_copyRow wsX8_copyRow) := goodIn_app (goodIn_of _ (by decide +kernel)) ggX8_read_X8_copyRow
set_option maxRecDepth 20000 in
theorem ggX8_read_X8_does : GoodIn wsX8_read wsX8_does := goodIn_ca (goodIn_r _ [103, 12, 5, 104, 105, 106, 10, 107, 85, 86, 87, 108, 109, 110, 111, 112, 113, 114, 115, 116, 117, 118, 119, 120, 121, 122, 123, 124, 125, 126, 127, 128, 129, 130, 131, 132, 133, 134, 135, 136, 137, 138, 139, 140, 141, 142, 143, 144, 145, 146, 147, 148, 149, 150, 151, 152, 153, 154, 155, 156, 157, 158, 159, 160, 161, 162, 163, 164, 165, 166, 167, 168, 169, 170, 171, 172, 173, 174, 175, 176, 177, 178, 179, 180, 181, 182, 183, 184, 185, 186, 187, 188, 189, 190, 191, 192, 193, 194, 195, 196, 197, 198, 199, 200, 201, 202, 203, 204, 205, 206, 207, 208, 209, 210, 211, 212, 213, 214, 215, 216, 217, 218, 219, 220, 221, 222, 223, 224, 225, 226, 227, 228, 229, 230, 231, 232, 233, 234, 235, 236, 243, 244, 245, 246, 247, 248, 249, 250, 251, 252, 253, 254, 255, 256, 257] (by decide +kernel) (by decide +kernel)) (goodIn_sub (fun _ h => List.mem_cons_of_mem _ (List.mem_append_right _ h)) (by decide +kernel))
set_option maxRecDepth 20000 in
theorem gX8_read_X8_does : GoodIn wsX8_read (wsV RX8 293 RX8 yX8_does wsX8_does) := goodIn_app (goodIn_of _ (by decide +kernel)) ggX8_read_X8_does
set_option maxRecDepth 20000 in
theorem ggX8_read_X8_remember : GoodIn wsX8_read wsX8_remember := goodIn_ca (goodIn_r _ [240, 241, 242, 97, 98, 10, 99, 243, 244, 245, 246, 247, 248, 249, 250, 251, 252, 253, 254, 255, 256, 257] (by decide +kernel) (by decide +kernel)) (goodIn_sub (fun _ h => List.mem_cons_of_mem _ (List.mem_append_right _ h)) (by decide +kernel))
set_option maxRecDepth 20000 in
theorem gX8_read_X8_remember : GoodIn wsX8_read (wsV RX8 89 RX8 yX8_remember wsX8_remember) := goodIn_app (goodIn_of _ (by decide +kernel)) ggX8_read_X8_remember
theorem dX8_read_0 : decode cX8_read 0 = .ok (.aload_n 0, 1) := by decide +kernel
theorem dX8_read_1 : decode cX8_read 1 = .ok (.iconst 0, 1) := by decide +kernel
theorem dX8_read_2 : decode cX8_read 2 = .ok (.putfield 244, 3) := by decide +kernel
theorem dX8_read_5 : decode cX8_read 5 = .ok (.aload_n 0, 1) := by decide +kernel
theorem dX8_read_6 : decode cX8_read 6 = .ok (.iconst 0, 1) := by decide +kernel
theorem dX8_read_7 : decode cX8_read 7 = .ok (.putfield 240, 3) := by decide +kernel
theorem dX8_read_10 : decode cX8_read 10 = .ok (.iconst 0, 1) := by decide +kernel
theorem dX8_read_11 : decode cX8_read 11 = .ok (.istore_n 1, 1) := by decide +kernel
theorem dX8_read_12 : decode cX8_read 12 = .ok (.aload_n 0, 1) := by decide +kernel
theorem dX8_read_13 : decode cX8_read 13 = .ok (.getfield 240, 3) := by decide +kernel
theorem dX8_read_16 : decode cX8_read 16 = .ok (.ifCond .ne 29, 3) := by decide +kernel
theorem dX8_read_19 : decode cX8_read 19 = .ok (.iload_n 1, 1) := by decide +kernel
theorem dX8_read_20 : decode cX8_read 20 = .ok (.ifCond .eq 14, 3) := by decide +kernel
theorem dX8_read_23 : decode cX8_read 23 = .ok (.aload_n 0, 1) := by decide +kernel
theorem dX8_read_24 : decode cX8_read 24 = .ok (.getfield 244, 3) := by decide +kernel
theorem dX8_read_27 : decode cX8_read 27 = .ok (.aload_n 0, 1) := by decide +kernel
theorem dX8_read_28 : decode cX8_read 28 = .ok (.getfield 237, 3) := by decide +kernel
theorem dX8_read_31 : decode cX8_read 31 = .ok (.if_icmp .ge 14, 3) := by decide +kernel
theorem dX8_read_34 : decode cX8_read 34 = .ok (.aload_n 0, 1) := by decide +kernel
theorem dX8_read_35 : decode cX8_read 35 = .ok (.invokevirtual 290, 3) := by decide +kernel
theorem dX8_read_38 : decode cX8_read 38 = .ok (.pop, 1) := by decide +kernel
theorem dX8_read_39 : decode cX8_read 39 = .ok (.iinc 1 1, 3) := by decide +kernel
theorem dX8_read_42 : decode cX8_read 42 = .ok (.goto (-30), 3) := by decide +kernel
theorem dX8_read_45 : decode cX8_read 45 = .ok (.aload_n 0, 1) := by decide +kernel
theorem dX8_read_46 : decode cX8_read 46 = .ok (.getfield 240, 3) := by decide +kernel
theorem dX8_read_49 : decode cX8_read 49 = .ok (.ifCond .eq 25, 3) := by decide +kernel
theorem dX8_read_52 : decode cX8_read 52 = .ok (.aload_n 0, 1) := by decide +kernel
theorem dX8_read_53 : decode cX8_read 53 = .ok (.aload_n 0, 1) := by decide +kernel
theorem dX8_read_54 : decode cX8_read 54 = .ok (.getfield 244, 3) := by decide +kernel
theorem dX8_read_57 : decode cX8_read 57 = .ok (.putfield 24, 3) := by decide +kernel
theorem dX8_read_60 : decode cX8_read 60 = .ok (.aload_n 0, 1) := by decide +kernel
theorem dX8_read_61 : decode cX8_read 61 = .ok (.iconst 0, 1) := by decide +kernel
theorem dX8_read_62 : decode cX8_read 62 = .ok (.putfield 237, 3) := by decide +kernel
theorem dX8_read_65 : decode cX8_read 65 = .ok (.aload_n 0, 1) := by decide +kernel
theorem dX8_read_66 : decode cX8_read 66 = .ok (.iconst 1, 1) := by decide +kernel
theorem dX8_read_67 : decode cX8_read 67 = .ok (.iconst 1, 1) := by decide +kernel
theorem dX8_read_68 : decode cX8_read 68 = .ok (.invokevirtual 85, 3) := by decide +kernel
theorem dX8_read_71 : decode cX8_read 71 = .ok (.pop, 1) := by decide +kernel
theorem dX8_read_72 : decode cX8_read 72 = .ok (.iconst 0, 1) := by decide +kernel
theorem dX8_read_73 : decode cX8_read 73 = .ok (.ireturn, 1) := by decide +kernel
theorem dX8_read_74 : decode cX8_read 74 = .ok (.aload_n 0, 1) := by decide +kernel
theorem dX8_read_75 : decode cX8_read 75 = .ok (.getfield 9, 3) := by decide +kernel
theorem dX8_read_78 : decode cX8_read 78 = .ok (.aload_n 0, 1) := by decide +kernel
theorem dX8_read_79 : decode cX8_read 79 = .ok (.getfield 16, 3) := by decide +kernel
theorem dX8_read_82 : decode cX8_read 82 = .ok (.invokestatic 44, 3) := by decide +kernel
theorem dX8_read_85 : decode cX8_read 85 = .ok (.aload_n 0, 1) := by decide +kernel
theorem dX8_read_86 : decode cX8_read 86 = .ok (.iconst 0, 1) := by decide +kernel
theorem dX8_read_87 : decode cX8_read 87 = .ok (.putfield 244, 3) := by decide +kernel
theorem dX8_read_90 : decode cX8_read 90 = .ok (.iconst 1, 1) := by decide +kernel
theorem dX8_read_91 : decode cX8_read 91 = .ok (.istore_n 2, 1) := by decide +kernel
theorem dX8_read_92 : decode cX8_read 92 = .ok (.iload_n 2, 1) := by decide +kernel
theorem dX8_read_93 : decode cX8_read 93 = .ok (.ifCond .eq 26, 3) := by decide +kernel
theorem dX8_read_96 : decode cX8_read 96 = .ok (.aload_n 0, 1) := by decide +kernel
theorem dX8_read_97 : decode cX8_read 97 = .ok (.getfield 244, 3) := by decide +kernel
theorem dX8_read_100 : decode cX8_read 100 = .ok (.aload_n 0, 1) := by decide +kernel
theorem dX8_read_101 : decode cX8_read 101 = .ok (.getfield 237, 3) := by decide +kernel
theorem dX8_read_104 : decode cX8_read 104 = .ok (.if_icmp .ge 15, 3) := by decide +kernel
theorem dX8_read_107 : decode cX8_read 107 = .ok (.aload_n 0, 1) := by decide +kernel
theorem dX8_read_108 : decode cX8_read 108 = .ok (.aload_n 0, 1) := by decide +kernel
theorem dX8_read_109 : decode cX8_read 109 = .ok (.invokevirtual 290, 3) := by decide +kernel
theorem dX8_read_112 : decode cX8_read 112 = .ok (.invokevirtual 293, 3) := by decide +kernel
theorem dX8_read_115 : decode cX8_read 115 = .ok (.istore_n 2, 1) := by decide +kernel
theorem dX8_read_116 : decode cX8_read 116 = .ok (.goto (-24), 3) := by decide +kernel
theorem dX8_read_119 : decode cX8_read 119 = .ok (.aload_n 0, 1) := by decide +kernel
theorem dX8_read_120 : decode cX8_read 120 = .ok (.iconst 0, 1) := by decide +kernel
theorem dX8_read_121 : decode cX8_read 121 = .ok (.putfield 237, 3) := by decide +kernel
theorem dX8_read_124 : decode cX8_read 124 = .ok (.aload_n 0, 1) := by decide +kernel
theorem dX8_read_125 : decode cX8_read 125 = .ok (.iconst 2, 1) := by decide +kernel
theorem dX8_read_126 : decode cX8_read 126 = .ok (.iload_n 2, 1) := by decide +kernel
theorem dX8_read_127 : decode cX8_read 127 = .ok (.ifCond .ne 7, 3) := by decide +kernel
theorem dX8_read_130 : decode cX8_read 130 = .ok (.iconst 1, 1) := by decide +kernel
theorem dX8_read_131 : decode cX8_read 131 = .ok (.goto 4, 3) := by decide +kernel
theorem dX8_read_134 : decode cX8_read 134 = .ok (.iconst 0, 1) := by decide +kernel
theorem dX8_read_135 : decode cX8_read 135 = .ok (.invokevirtual 85, 3) := by decide +kernel
theorem dX8_read_138 : decode cX8_read 138 = .ok (.ifCond .eq 16, 3) := by decide +kernel
theorem dX8_read_141 : decode cX8_read 141 = .ok (.aload_n 0, 1) := by decide +kernel
theorem dX8_read_142 : decode cX8_read 142 = .ok (.getfield 16, 3) := by decide +kernel
theorem dX8_read_145 : decode cX8_read 145 = .ok (.aload_n 0, 1) := by decide +kernel
theorem dX8_read_146 : decode cX8_read 146 = .ok (.getfield 9, 3) := by decide +kernel
theorem dX8_read_149 : decode cX8_read 149 = .ok (.invokestatic 44, 3) := by decide +kernel
theorem dX8_read_152 : decode cX8_read 152 = .ok (.iconst 0, 1) := by decide +kernel
theorem dX8_read_153 : decode cX8_read 153 = .ok (.ireturn, 1) := by decide +kernel
theorem dX8_read_154 : decode cX8_read 154 = .ok (.aload_n 0, 1) := by decide +kernel
theorem dX8_read_155 : decode cX8_read 155 = .ok (.aload_n 0, 1) := by decide +kernel
theorem dX8_read_156 : decode cX8_read 156 = .ok (.getfield 16, 3) := by decide +kernel
theorem dX8_read_159 : decode cX8_read 159 = .ok (.invokevirtual 89, 3) := by decide +kernel
theorem dX8_read_162 : decode cX8_read 162 = .ok (.iload_n 1, 1) := by decide +kernel
theorem dX8_read_163 : decode cX8_read 163 = .ok (.ireturn, 1) := by decide +kernel
set_option maxRecDepth 20000 in
theorem ggX8_errorPosition_X8_fails : GoodIn wsX8_errorPosition wsX8_fails := goodIn_r _ [6, 7, 8, 9, 10, 11, 12, 13, 14, 15, 16, 17, 18, 19, 20, 21, 22] (by decide +kernel) (by decide +kernel)
set_option maxRecDepth 20000 in
theorem gX8_errorPosition_X8_fails : GoodIn wsX8_errorPosition (wsV RX8 85 RX8 yX8_fails wsX8_fails) := goodIn_app (goodIn_of _ (by decide +kernel)) ggX8_errorPosition_X8_fails
theorem dX8_errorPosition_0 : decode cX8_errorPosition 0 = .ok (.aload_n 0, 1) := by decide +kernel
theorem dX8_errorPosition_1 : decode cX8_errorPosition 1 = .ok (.iconst 1, 1) := by decide +kernel
theorem dX8_errorPosition_2 : decode cX8_errorPosition 2 = .ok (.aload_n 0, 1) := by decide +kernel
theorem dX8_errorPosition_3 : decode cX8_errorPosition 3 = .ok (.getfield 24, 3) := by decide +kernel
theorem dX8_errorPosition_6 : decode cX8_errorPosition 6 = .ok (.ifCond .ge 7, 3) := by decide +kernel
theorem dX8_errorPosition_9 : decode cX8_errorPosition 9 = .ok (.iconst 1, 1) := by decide +kernel
theorem dX8_errorPosition_10 : decode cX8_errorPosition 10 = .ok (.goto 4, 3) := by decide +kernel
theorem dX8_errorPosition_13 : decode cX8_errorPosition 13 = .ok (.iconst 0, 1) := by decide +kernel
theorem dX8_errorPosition_14 : decode cX8_errorPosition 14 = .ok (.invokevirtual 85, 3) := by decide +kernel
theorem dX8_errorPosition_17 : decode cX8_errorPosition 17 = .ok (.ifCond .eq 7, 3) := by decide +kernel
theorem dX8_errorPosition_20 : decode cX8_errorPosition 20 = .ok (.iconst 0, 1) := by decide +kernel
theorem dX8_errorPosition_21 : decode cX8_errorPosition 21 = .ok (.goto 7, 3) := by decide +kernel
theorem dX8_errorPosition_24 : decode cX8_errorPosition 24 = .ok (.aload_n 0, 1) := by decide +kernel
theorem dX8_errorPosition_25 : decode cX8_errorPosition 25 = .ok (.getfield 24, 3) := by decide +kernel
theorem dX8_errorPosition_28 : decode cX8_errorPosition 28 = .ok (.ireturn, 1) := by decide +kernel
set_option maxRecDepth 20000 in
theorem ggX8_undo_X8_fails : GoodIn wsX8_undo wsX8_fails := goodIn_r _ [8, 9, 13, 14, 15, 16, 17, 18, 19, 20, 21, 22, 23, 24, 25, 26, 27] (by decide +kernel) (by decide +kernel)
set_option maxRecDepth 20000 in
theorem gX8_undo_X8_fails : GoodIn wsX8_undo (wsV RX8 85 RX8 yX8_fails wsX8_fails) := goodIn_app (goodIn_of _ (by decide +kernel)) ggX8_undo_X8_fails
set_option maxRecDepth 20000 in
theorem ggX8_undo_X8_copyRow : GoodIn wsX8_undo wsX8_copyRow := goodIn_ca (goodIn_r _ [12] (by decide +kernel) (by decide +kernel)) (goodIn_sub (fun _ h => List.mem_cons_of_mem _ (List.mem_append_right _ h)) (by decide +kernel))
set_option maxRecDepth 20000 in
theorem gX8_undo_X8_copyRow : GoodIn wsX8_undo (va_wsS RX8 44 yX8_copyRow wsX8_copyRow) := goodIn_app (goodIn_of _ (by decide +kernel)) ggX8_undo_X8_copyRow
theorem dX8_undo_0 : decode cX8_undo 0 = .ok (.aload_n 0, 1) := by decide +kernel
theorem dX8_undo_1 : decode cX8_undo 1 = .ok (.iconst 1, 1) := by decide +kernel
theorem dX8_undo_2 : decode cX8_undo 2 = .ok (.aload_n 0, 1) := by decide +kernel
theorem dX8_undo_3 : decode cX8_undo 3 = .ok (.getfield 41, 3) := by decide +kernel
theorem dX8_undo_6 : decode cX8_undo 6 = .ok (.ifCond .ne 7, 3) := by decide +kernel
theorem dX8_undo_9 : decode cX8_undo 9 = .ok (.iconst 1, 1) := by decide +kernel
theorem dX8_undo_10 : decode cX8_undo 10 = .ok (.goto 4, 3) := by decide +kernel
theorem dX8_undo_13 : decode cX8_undo 13 = .ok (.iconst 0, 1) := by decide +kernel
theorem dX8_undo_14 : decode cX8_undo 14 = .ok (.invokevirtual 85, 3) := by decide +kernel
theorem dX8_undo_17 : decode cX8_undo 17 = .ok (.ifCond .eq 5, 3) := by decide +kernel
theorem dX8_undo_20 : decode cX8_undo 20 = .ok (.iconst 0, 1) := by decide +kernel
theorem dX8_undo_21 : decode cX8_undo 21 = .ok (.ireturn, 1) := by decide +kernel
theorem dX8_undo_22 : decode cX8_undo 22 = .ok (.aload_n 0, 1) := by decide +kernel
theorem dX8_undo_23 : decode cX8_undo 23 = .ok (.dup, 1) := by decide +kernel
theorem dX8_undo_24 : decode cX8_undo 24 = .ok (.getfield 41, 3) := by decide +kernel
theorem dX8_undo_27 : decode cX8_undo 27 = .ok (.iconst 1, 1) := by decide +kernel
theorem dX8_undo_28 : decode cX8_undo 28 = .ok (.isub, 1) := by decide +kernel
theorem dX8_undo_29 : decode cX8_undo 29 = .ok (.putfield 41, 3) := by decide +kernel
theorem dX8_undo_32 : decode cX8_undo 32 = .ok (.aload_n 0, 1) := by decide +kernel
theorem dX8_undo_33 : decode cX8_undo 33 = .ok (.getfield 21, 3) := by decide +kernel
theorem dX8_undo_36 : decode cX8_undo 36 = .ok (.aload_n 0, 1) := by decide +kernel
theorem dX8_undo_37 : decode cX8_undo 37 = .ok (.getfield 41, 3) := by decide +kernel
theorem dX8_undo_40 : decode cX8_undo 40 = .ok (.aaload, 1) := by decide +kernel
theorem dX8_undo_41 : decode cX8_undo 41 = .ok (.aload_n 0, 1) := by decide +kernel
theorem dX8_undo_42 : decode cX8_undo 42 = .ok (.getfield 9, 3) := by decide +kernel
theorem dX8_undo_45 : decode cX8_undo 45 = .ok (.invokestatic 44, 3) := by decide +kernel
theorem dX8_undo_48 : decode cX8_undo 48 = .ok (.aload_n 0, 1) := by decide +kernel
theorem dX8_undo_49 : decode cX8_undo 49 = .ok (.getfield 41, 3) := by decide +kernel
theorem dX8_undo_52 : decode cX8_undo 52 = .ok (.ireturn, 1) := by decide +kernel
set_option maxRecDepth 20000 in
theorem ggX8_save_X8_copyRow : GoodIn wsX8_save wsX8_copyRow := goodIn_ca (goodIn_r _ [8] (by decide +kernel) (by decide +kernel)) (goodIn_sub (fun _ h => List.mem_cons_of_mem _ (List.mem_append_right _ h)) (by decide +kernel))
set_option maxRecDepth 20000 in
theorem gX8_save_X8_copyRow : GoodIn wsX8_save (va_wsS RX8 44 yX8_copyRow wsX8_copyRow) := goodIn_app (goodIn_of _ (by decide +kernel)) ggX8_save_X8_copyRow
set_option maxRecDepth 20000 in
theorem ggX8_save_X8_countPresent : GoodIn wsX8_save wsX8_countPresent := goodIn_ca (goodIn_r _ [12, 3, 13, 14, 15, 7, 16, 17, 18, 19, 20, 21, 22, 23, 24, 25, 26, 27, 28, 29, 30, 31, 32, 33, 34, 35, 36, 37, 38, 39, 40, 41, 42] (by decide +kernel) (by decide +kernel)) (goodIn_sub (fun _ h => List.mem_cons_of_mem _ (List.mem_append_right _ h)) (by decide +kernel))
set_option maxRecDepth 20000 in
theorem gX8_save_X8_countPresent : GoodIn wsX8_save (wsV RX8 228 RX8 yX8_countPresent wsX8_countPresent) := goodIn_app (goodIn_of _ (by decide +kernel)) ggX8_save_X8_countPresent
theorem dX8_save_0 : decode cX8_save 0 = .ok (.aload_n 0, 1) := by decide +kernel
theorem dX8_save_1 : decode cX8_save 1 = .ok (.iconst 0, 1) := by decide +kernel
theorem dX8_save_2 : decode cX8_save 2 = .ok (.putfield 38, 3) := by decide +kernel
theorem dX8_save_5 : decode cX8_save 5 = .ok (.aload_n 0, 1) := by decide +kernel
theorem dX8_save_6 : decode cX8_save 6 = .ok (.iconst 1, 1) := by decide +kernel
theorem dX8_save_7 : decode cX8_save 7 = .ok (.putfield 296, 3) := by decide +kernel
theorem dX8_save_10 : decode cX8_save 10 = .ok (.aload_n 0, 1) := by decide +kernel
theorem dX8_save_11 : decode cX8_save 11 = .ok (.getfield 9, 3) := by decide +kernel
theorem dX8_save_14 : decode cX8_save 14 = .ok (.aload_n 0, 1) := by decide +kernel
theorem dX8_save_15 : decode cX8_save 15 = .ok (.getfield 13, 3) := by decide +kernel
theorem dX8_save_18 : decode cX8_save 18 = .ok (.invokestatic 44, 3) := by decide +kernel
theorem dX8_save_21 : decode cX8_save 21 = .ok (.aload_n 0, 1) := by decide +kernel
theorem dX8_save_22 : decode cX8_save 22 = .ok (.invokevirtual 228, 3) := by decide +kernel
theorem dX8_save_25 : decode cX8_save 25 = .ok (.ireturn, 1) := by decide +kernel
set_option maxRecDepth 20000 in
theorem ggX8_restore_X8_fails : GoodIn wsX8_restore wsX8_fails := goodIn_r _ [9, 10, 33, 34, 35, 36, 37, 38, 39, 40, 41, 42, 43, 44, 45, 46, 47] (by decide +kernel) (by decide +kernel)
set_option maxRecDepth 20000 in
theorem gX8_restore_X8_fails : GoodIn wsX8_restore (wsV RX8 85 RX8 yX8_fails wsX8_fails) := goodIn_app (goodIn_of _ (by decide +kernel)) ggX8_restore_X8_fails
set_option maxRecDepth 20000 in
theorem ggX8_restore_X8_copyRow : GoodIn wsX8_restore wsX8_copyRow := goodIn_ca (goodIn_r _ [13] (by decide +kernel) (by decide +kernel)) (goodIn_sub (fun _ h => List.mem_cons_of_mem _ (List.mem_append_right _ h)) (by decide +kernel))
set_option maxRecDepth 20000 in
theorem gX8_restore_X8_copyRow : GoodIn wsX8_restore (va_wsS RX8 44 yX8_copyRow wsX8_copyRow) := goodIn_app (goodIn_of _ (by decide +kernel)) ggX8_restore_X8_copyRow
set_option maxRecDepth 20000 in
theorem ggX8_restore_X8_countPresent : GoodIn wsX8_restore wsX8_countPresent := goodIn_ca (goodIn_r _ [17, 3, 18, 19, 20, 8, 21, 22, 23, 24, 25, 26, 27, 28, 29, 30, 31, 32, 33, 34, 35, 36, 37, 38, 39, 40, 41, 42, 43, 44, 45, 46, 47] (by decide +kernel) (by decide +kernel)) (goodIn_sub (fun _ h => List.mem_cons_of_mem _ (List.mem_append_right _ h)) (by decide +kernel))
set_option maxRecDepth 20000 in
theorem gX8_restore_X8_countPresent : GoodIn wsX8_restore (wsV RX8 228 RX8 yX8_countPresent wsX8_countPresent) := goodIn_app (goodIn_of _ (by decide +kernel)) ggX8_restore_X8_countPresent
theorem dX8_restore_0 : decode cX8_restore 0 = .ok (.aload_n 0, 1) := by decide +kernel
theorem dX8_restore_1 : decode cX8_restore 1 = .ok (.iconst 1, 1) := by decide +kernel
theorem dX8_restore_2 : decode cX8_restore 2 = .ok (.aload_n 0, 1) := by decide +kernel
theorem dX8_restore_3 : decode cX8_restore 3 = .ok (.getfield 296, 3) := by decide +kernel
theorem dX8_restore_6 : decode cX8_restore 6 = .ok (.ifCond .ne 7, 3) := by decide +kernel
theorem dX8_restore_9 : decode cX8_restore 9 = .ok (.iconst 1, 1) := by decide +kernel
theorem dX8_restore_10 : decode cX8_restore 10 = .ok (.goto 4, 3) := by decide +kernel
theorem dX8_restore_13 : decode cX8_restore 13 = .ok (.iconst 0, 1) := by decide +kernel
theorem dX8_restore_14 : decode cX8_restore 14 = .ok (.invokevirtual 85, 3) := by decide +kernel
theorem dX8_restore_17 : decode cX8_restore 17 = .ok (.ifCond .eq 5, 3) := by decide +kernel
theorem dX8_restore_20 : decode cX8_restore 20 = .ok (.iconst 0, 1) := by decide +kernel
theorem dX8_restore_21 : decode cX8_restore 21 = .ok (.ireturn, 1) := by decide +kernel
theorem dX8_restore_22 : decode cX8_restore 22 = .ok (.aload_n 0, 1) := by decide +kernel
theorem dX8_restore_23 : decode cX8_restore 23 = .ok (.getfield 13, 3) := by decide +kernel
theorem dX8_restore_26 : decode cX8_restore 26 = .ok (.aload_n 0, 1) := by decide +kernel
theorem dX8_restore_27 : decode cX8_restore 27 = .ok (.getfield 9, 3) := by decide +kernel
theorem dX8_restore_30 : decode cX8_restore 30 = .ok (.invokestatic 44, 3) := by decide +kernel
theorem dX8_restore_33 : decode cX8_restore 33 = .ok (.aload_n 0, 1) := by decide +kernel
theorem dX8_restore_34 : decode cX8_restore 34 = .ok (.iconst 0, 1) := by decide +kernel
theorem dX8_restore_35 : decode cX8_restore 35 = .ok (.putfield 41, 3) := by decide +kernel
theorem dX8_restore_38 : decode cX8_restore 38 = .ok (.aload_n 0, 1) := by decide +kernel
theorem dX8_restore_39 : decode cX8_restore 39 = .ok (.invokevirtual 228, 3) := by decide +kernel
theorem dX8_restore_42 : decode cX8_restore 42 = .ok (.ireturn, 1) := by decide +kernel
