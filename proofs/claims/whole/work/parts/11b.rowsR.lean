set_option maxRecDepth 20000 in
theorem ggX7_clear_X6_empty : GoodIn wsX7_clear wsX6_empty := goodIn_r _ [9, 10, 11, 12, 13, 14, 15, 16, 17, 18, 19, 34, 35, 36, 37, 38, 39, 40, 41, 42, 43, 44, 45, 46, 47, 48, 49, 50, 51, 52, 53, 54, 55, 56, 57, 58, 59, 60, 61, 62, 63] (by decide +kernel) (by decide +kernel)
set_option maxRecDepth 20000 in
theorem gX7_clear_X6_empty : GoodIn wsX7_clear (wsV RX7 56 RX6 yX6_empty wsX6_empty) := goodIn_app (goodIn_of _ (by decide +kernel)) ggX7_clear_X6_empty
set_option maxRecDepth 20000 in
theorem ggX7_clear_X2_forget : GoodIn wsX7_clear wsX2_forget := goodIn_r _ [24, 25, 64, 65, 66] (by decide +kernel) (by decide +kernel)
set_option maxRecDepth 20000 in
theorem gX7_clear_X2_forget : GoodIn wsX7_clear (wsV RX7 59 RX2 yX2_forget wsX2_forget) := goodIn_app (goodIn_of _ (by decide +kernel)) ggX7_clear_X2_forget
theorem dX7_clear_0 : decode cX7_clear 0 = .ok (.aload_n 0, 1) := by decide +kernel
theorem dX7_clear_1 : decode cX7_clear 1 = .ok (.getfield 10, 3) := by decide +kernel
theorem dX7_clear_4 : decode cX7_clear 4 = .ok (.getfield 47, 3) := by decide +kernel
theorem dX7_clear_7 : decode cX7_clear 7 = .ok (.getfield 51, 3) := by decide +kernel
theorem dX7_clear_10 : decode cX7_clear 10 = .ok (.istore_n 1, 1) := by decide +kernel
theorem dX7_clear_11 : decode cX7_clear 11 = .ok (.aload_n 0, 1) := by decide +kernel
theorem dX7_clear_12 : decode cX7_clear 12 = .ok (.getfield 10, 3) := by decide +kernel
theorem dX7_clear_15 : decode cX7_clear 15 = .ok (.invokevirtual 56, 3) := by decide +kernel
theorem dX7_clear_18 : decode cX7_clear 18 = .ok (.aload_n 0, 1) := by decide +kernel
theorem dX7_clear_19 : decode cX7_clear 19 = .ok (.getfield 25, 3) := by decide +kernel
theorem dX7_clear_22 : decode cX7_clear 22 = .ok (.invokevirtual 59, 3) := by decide +kernel
theorem dX7_clear_25 : decode cX7_clear 25 = .ok (.iload_n 1, 1) := by decide +kernel
theorem dX7_clear_26 : decode cX7_clear 26 = .ok (.ireturn, 1) := by decide +kernel
set_option maxRecDepth 20000 in
theorem ggX7_addParcel_X6_faultOfParcel : GoodIn wsX7_addParcel wsX6_faultOfParcel := goodIn_r _ [9, 10, 11, 12, 13, 14, 15, 16, 17, 124, 125, 126, 127, 128, 129, 130, 131, 132, 133, 134, 135] (by decide +kernel) (by decide +kernel)
set_option maxRecDepth 20000 in
theorem gX7_addParcel_X6_faultOfParcel : GoodIn wsX7_addParcel (wsV RX7 62 RX6 yX6_faultOfParcel wsX6_faultOfParcel) := goodIn_app (goodIn_of _ (by decide +kernel)) ggX7_addParcel_X6_faultOfParcel
set_option maxRecDepth 20000 in
theorem ggX7_addParcel_X7_raise : GoodIn wsX7_addParcel wsX7_raise := goodIn_ca (goodIn_ca (goodIn_ca (goodIn_ca (goodIn_r _ [20, 21, 22, 23, 24, 13, 25, 26, 27, 28, 29, 30, 31, 32, 33, 34, 35, 36, 37, 38, 39, 40, 17, 12, 14] (by decide +kernel) (by decide +kernel)) (goodIn_sub (fun _ h => List.mem_cons_of_mem _ (List.mem_append_left _ (List.mem_append_left _ (List.mem_append_left _ (List.mem_append_left _ (List.mem_append_right _ h)))))) (by decide +kernel))) (goodIn_sub (fun _ h => List.mem_cons_of_mem _ (List.mem_append_left _ (List.mem_append_left _ (List.mem_append_left _ (List.mem_append_right _ h))))) (by decide +kernel))) (goodIn_sub (fun _ h => List.mem_cons_of_mem _ (List.mem_append_left _ (List.mem_append_left _ (List.mem_append_right _ h)))) (by decide +kernel))) (goodIn_sub (fun _ h => List.mem_cons_of_mem _ (List.mem_append_left _ (List.mem_append_right _ h))) (by decide +kernel))
set_option maxRecDepth 20000 in
theorem gX7_addParcel_X7_raise : GoodIn wsX7_addParcel (va_wsS RX7 66 yX7_raise wsX7_raise) := goodIn_app (goodIn_of _ (by decide +kernel)) ggX7_addParcel_X7_raise
set_option maxRecDepth 20000 in
theorem ggX7_addParcel_X2_remember : GoodIn wsX7_addParcel wsX2_remember := goodIn_r _ [45, 46, 47, 48, 49, 50, 51, 52, 53, 54, 55, 8, 56, 57, 10, 58, 59, 60, 61, 62, 63, 64, 65, 66, 67, 68, 69, 70, 71, 72, 73, 74, 75, 76, 77, 78, 79, 80, 81, 82, 83, 84, 85, 86, 87, 88, 89, 90, 91, 92, 93, 94, 95, 96, 97, 98, 99, 100, 101, 102, 103, 104, 105, 106, 107, 108, 109, 110, 111, 136, 137, 138, 124, 125, 126, 127, 128, 129, 130, 131, 132, 133, 134, 135, 139, 140, 141, 142, 143, 144, 145, 146, 147, 148, 149, 150, 151, 152, 153, 154, 155, 156] (by decide +kernel) (by decide +kernel)
set_option maxRecDepth 20000 in
theorem gX7_addParcel_X2_remember : GoodIn wsX7_addParcel (wsV RX7 70 RX2 yX2_remember wsX2_remember) := goodIn_app (goodIn_of _ (by decide +kernel)) ggX7_addParcel_X2_remember
set_option maxRecDepth 20000 in
theorem ggX7_addParcel_X4_come : GoodIn wsX7_addParcel wsX4_come := goodIn_ca (goodIn_r _ [115, 66, 67, 72, 73, 74, 75, 76, 129, 130, 131, 132, 133, 134, 135] (by decide +kernel) (by decide +kernel)) (goodIn_sub (fun _ h => List.mem_cons_of_mem _ (List.mem_append_right _ h)) (by decide +kernel))
set_option maxRecDepth 20000 in
theorem gX7_addParcel_X4_come : GoodIn wsX7_addParcel (wsV RX7 77 RX4 yX4_come wsX4_come) := goodIn_app (goodIn_of _ (by decide +kernel)) ggX7_addParcel_X4_come
theorem dX7_addParcel_0 : decode cX7_addParcel 0 = .ok (.aload_n 0, 1) := by decide +kernel
theorem dX7_addParcel_1 : decode cX7_addParcel 1 = .ok (.getfield 10, 3) := by decide +kernel
theorem dX7_addParcel_4 : decode cX7_addParcel 4 = .ok (.iload_n 1, 1) := by decide +kernel
theorem dX7_addParcel_5 : decode cX7_addParcel 5 = .ok (.iload_n 2, 1) := by decide +kernel
theorem dX7_addParcel_6 : decode cX7_addParcel 6 = .ok (.invokevirtual 62, 3) := by decide +kernel
theorem dX7_addParcel_9 : decode cX7_addParcel 9 = .ok (.invokestatic 66, 3) := by decide +kernel
theorem dX7_addParcel_12 : decode cX7_addParcel 12 = .ok (.aload_n 0, 1) := by decide +kernel
theorem dX7_addParcel_13 : decode cX7_addParcel 13 = .ok (.getfield 25, 3) := by decide +kernel
theorem dX7_addParcel_16 : decode cX7_addParcel 16 = .ok (.aload_n 0, 1) := by decide +kernel
theorem dX7_addParcel_17 : decode cX7_addParcel 17 = .ok (.getfield 10, 3) := by decide +kernel
theorem dX7_addParcel_20 : decode cX7_addParcel 20 = .ok (.invokevirtual 70, 3) := by decide +kernel
theorem dX7_addParcel_23 : decode cX7_addParcel 23 = .ok (.aload_n 0, 1) := by decide +kernel
theorem dX7_addParcel_24 : decode cX7_addParcel 24 = .ok (.getfield 10, 3) := by decide +kernel
theorem dX7_addParcel_27 : decode cX7_addParcel 27 = .ok (.getfield 47, 3) := by decide +kernel
theorem dX7_addParcel_30 : decode cX7_addParcel 30 = .ok (.iload_n 1, 1) := by decide +kernel
theorem dX7_addParcel_31 : decode cX7_addParcel 31 = .ok (.iload_n 2, 1) := by decide +kernel
theorem dX7_addParcel_32 : decode cX7_addParcel 32 = .ok (.iconst 0, 1) := by decide +kernel
theorem dX7_addParcel_33 : decode cX7_addParcel 33 = .ok (.aload_n 0, 1) := by decide +kernel
theorem dX7_addParcel_34 : decode cX7_addParcel 34 = .ok (.getfield 10, 3) := by decide +kernel
theorem dX7_addParcel_37 : decode cX7_addParcel 37 = .ok (.getfield 74, 3) := by decide +kernel
theorem dX7_addParcel_40 : decode cX7_addParcel 40 = .ok (.invokevirtual 77, 3) := by decide +kernel
theorem dX7_addParcel_43 : decode cX7_addParcel 43 = .ok (.ireturn, 1) := by decide +kernel
set_option maxRecDepth 20000 in
theorem ggX7_border_X6_faultOfBorder : GoodIn wsX7_border wsX6_faultOfBorder := goodIn_ca (goodIn_r _ [8, 9, 10, 11, 12, 13, 14, 15, 16, 17, 18, 19, 20, 21, 143, 144, 145, 146, 147, 148, 149, 150, 151, 152, 153, 154] (by decide +kernel) (by decide +kernel)) (goodIn_sub (fun _ h => List.mem_cons_of_mem _ (List.mem_append_left _ (List.mem_append_left _ (List.mem_append_left _ (List.mem_append_left _ (List.mem_append_right _ h)))))) (by decide +kernel))
set_option maxRecDepth 20000 in
theorem gX7_border_X6_faultOfBorder : GoodIn wsX7_border (wsV RX7 81 RX6 yX6_faultOfBorder wsX6_faultOfBorder) := goodIn_app (goodIn_of _ (by decide +kernel)) ggX7_border_X6_faultOfBorder
set_option maxRecDepth 20000 in
theorem ggX7_border_X7_raise : GoodIn wsX7_border wsX7_raise := goodIn_ca (goodIn_ca (goodIn_ca (goodIn_ca (goodIn_r _ [25, 26, 27, 28, 29, 24, 30, 31, 32, 33, 34, 35, 36, 37, 38, 39, 40, 41, 42, 43, 44, 45, 46, 47, 48] (by decide +kernel) (by decide +kernel)) (goodIn_sub (fun _ h => List.mem_cons_of_mem _ (List.mem_append_left _ (List.mem_append_left _ (List.mem_append_left _ (List.mem_append_right _ h))))) (by decide +kernel))) (goodIn_sub (fun _ h => List.mem_cons_of_mem _ (List.mem_append_left _ (List.mem_append_left _ (List.mem_append_right _ h)))) (by decide +kernel))) (goodIn_sub (fun _ h => List.mem_cons_of_mem _ (List.mem_append_left _ (List.mem_append_right _ h))) (by decide +kernel))) (goodIn_sub (fun _ h => List.mem_cons_of_mem _ (List.mem_append_right _ h)) (by decide +kernel))
set_option maxRecDepth 20000 in
theorem gX7_border_X7_raise : GoodIn wsX7_border (va_wsS RX7 66 yX7_raise wsX7_raise) := goodIn_app (goodIn_of _ (by decide +kernel)) ggX7_border_X7_raise
set_option maxRecDepth 20000 in
theorem ggX7_border_X2_remember : GoodIn wsX7_border wsX2_remember := goodIn_r _ [53, 54, 55, 56, 57, 58, 59, 60, 61, 62, 63, 7, 64, 65, 9, 66, 67, 68, 69, 70, 71, 13, 72, 15, 73, 74, 75, 76, 77, 78, 20, 79, 80, 81, 82, 83, 84, 85, 86, 87, 88, 89, 90, 91, 92, 93, 94, 95, 96, 97, 98, 99, 100, 101, 102, 103, 104, 105, 106, 107, 108, 109, 110, 111, 112, 113, 114, 115, 116, 155, 156, 157, 143, 144, 145, 146, 147, 148, 149, 150, 151, 152, 153, 154, 158, 159, 160, 161, 162, 163, 164, 165, 166, 167, 168, 169, 170, 171, 172, 173, 174, 175] (by decide +kernel) (by decide +kernel)
set_option maxRecDepth 20000 in
theorem gX7_border_X2_remember : GoodIn wsX7_border (wsV RX7 70 RX2 yX2_remember wsX2_remember) := goodIn_app (goodIn_of _ (by decide +kernel)) ggX7_border_X2_remember
set_option maxRecDepth 20000 in
theorem ggX7_border_X4_areNeighbours : GoodIn wsX7_border wsX4_areNeighbours := goodIn_ca (goodIn_r _ [120, 121, 122, 123, 13, 124, 79, 21, 11, 12, 14, 15, 125, 24, 126, 148, 149, 150, 151, 152, 153, 154] (by decide +kernel) (by decide +kernel)) (goodIn_sub (fun _ h => List.mem_cons_of_mem _ (List.mem_append_left _ (List.mem_append_left _ (List.mem_append_left _ (List.mem_append_left _ (List.mem_append_right _ h)))))) (by decide +kernel))
set_option maxRecDepth 20000 in
theorem gX7_border_X4_areNeighbours : GoodIn wsX7_border (wsV RX7 84 RX4 yX4_areNeighbours wsX4_areNeighbours) := goodIn_app (goodIn_of _ (by decide +kernel)) ggX7_border_X4_areNeighbours
set_option maxRecDepth 20000 in
theorem ggX7_border_X4_link : GoodIn wsX7_border wsX4_link := goodIn_ca (goodIn_r _ [130, 79, 21, 11, 12, 13, 14, 15, 148, 149, 150, 151, 152, 153, 154] (by decide +kernel) (by decide +kernel)) (goodIn_sub (fun _ h => List.mem_cons_of_mem _ (List.mem_append_left _ (List.mem_append_left _ (List.mem_append_left _ (List.mem_append_left _ (List.mem_append_right _ h)))))) (by decide +kernel))
set_option maxRecDepth 20000 in
theorem gX7_border_X4_link : GoodIn wsX7_border (wsV RX7 88 RX4 yX4_link wsX4_link) := goodIn_app (goodIn_of _ (by decide +kernel)) ggX7_border_X4_link
set_option maxRecDepth 20000 in
theorem ggX7_border_X4_unlink : GoodIn wsX7_border wsX4_unlink := goodIn_ca (goodIn_r _ [134, 79, 21, 11, 12, 13, 14, 15, 148, 149, 150, 151, 152, 153, 154] (by decide +kernel) (by decide +kernel)) (goodIn_sub (fun _ h => List.mem_cons_of_mem _ (List.mem_append_left _ (List.mem_append_left _ (List.mem_append_left _ (List.mem_append_left _ (List.mem_append_right _ h)))))) (by decide +kernel))
set_option maxRecDepth 20000 in
theorem gX7_border_X4_unlink : GoodIn wsX7_border (wsV RX7 92 RX4 yX4_unlink wsX4_unlink) := goodIn_app (goodIn_of _ (by decide +kernel)) ggX7_border_X4_unlink
theorem dX7_border_0 : decode cX7_border 0 = .ok (.aload_n 0, 1) := by decide +kernel
theorem dX7_border_1 : decode cX7_border 1 = .ok (.getfield 10, 3) := by decide +kernel
theorem dX7_border_4 : decode cX7_border 4 = .ok (.iload_n 1, 1) := by decide +kernel
theorem dX7_border_5 : decode cX7_border 5 = .ok (.iload_n 2, 1) := by decide +kernel
theorem dX7_border_6 : decode cX7_border 6 = .ok (.invokevirtual 81, 3) := by decide +kernel
theorem dX7_border_9 : decode cX7_border 9 = .ok (.invokestatic 66, 3) := by decide +kernel
theorem dX7_border_12 : decode cX7_border 12 = .ok (.aload_n 0, 1) := by decide +kernel
theorem dX7_border_13 : decode cX7_border 13 = .ok (.getfield 25, 3) := by decide +kernel
theorem dX7_border_16 : decode cX7_border 16 = .ok (.aload_n 0, 1) := by decide +kernel
theorem dX7_border_17 : decode cX7_border 17 = .ok (.getfield 10, 3) := by decide +kernel
theorem dX7_border_20 : decode cX7_border 20 = .ok (.invokevirtual 70, 3) := by decide +kernel
theorem dX7_border_23 : decode cX7_border 23 = .ok (.aload_n 0, 1) := by decide +kernel
theorem dX7_border_24 : decode cX7_border 24 = .ok (.getfield 10, 3) := by decide +kernel
theorem dX7_border_27 : decode cX7_border 27 = .ok (.getfield 47, 3) := by decide +kernel
theorem dX7_border_30 : decode cX7_border 30 = .ok (.iload_n 1, 1) := by decide +kernel
theorem dX7_border_31 : decode cX7_border 31 = .ok (.iload_n 2, 1) := by decide +kernel
theorem dX7_border_32 : decode cX7_border 32 = .ok (.invokevirtual 84, 3) := by decide +kernel
theorem dX7_border_35 : decode cX7_border 35 = .ok (.istore 4, 2) := by decide +kernel
theorem dX7_border_37 : decode cX7_border 37 = .ok (.iload_n 3, 1) := by decide +kernel
theorem dX7_border_38 : decode cX7_border 38 = .ok (.ifCond .eq 18, 3) := by decide +kernel
theorem dX7_border_41 : decode cX7_border 41 = .ok (.aload_n 0, 1) := by decide +kernel
theorem dX7_border_42 : decode cX7_border 42 = .ok (.getfield 10, 3) := by decide +kernel
theorem dX7_border_45 : decode cX7_border 45 = .ok (.getfield 47, 3) := by decide +kernel
theorem dX7_border_48 : decode cX7_border 48 = .ok (.iload_n 1, 1) := by decide +kernel
theorem dX7_border_49 : decode cX7_border 49 = .ok (.iload_n 2, 1) := by decide +kernel
theorem dX7_border_50 : decode cX7_border 50 = .ok (.invokevirtual 88, 3) := by decide +kernel
theorem dX7_border_53 : decode cX7_border 53 = .ok (.goto 15, 3) := by decide +kernel
theorem dX7_border_56 : decode cX7_border 56 = .ok (.aload_n 0, 1) := by decide +kernel
theorem dX7_border_57 : decode cX7_border 57 = .ok (.getfield 10, 3) := by decide +kernel
theorem dX7_border_60 : decode cX7_border 60 = .ok (.getfield 47, 3) := by decide +kernel
theorem dX7_border_63 : decode cX7_border 63 = .ok (.iload_n 1, 1) := by decide +kernel
theorem dX7_border_64 : decode cX7_border 64 = .ok (.iload_n 2, 1) := by decide +kernel
theorem dX7_border_65 : decode cX7_border 65 = .ok (.invokevirtual 92, 3) := by decide +kernel
theorem dX7_border_68 : decode cX7_border 68 = .ok (.iload 4, 2) := by decide +kernel
theorem dX7_border_70 : decode cX7_border 70 = .ok (.ireturn, 1) := by decide +kernel
set_option maxRecDepth 20000 in
theorem ggX7_split_X6_faultOfSplit : GoodIn wsX7_split wsX6_faultOfSplit := goodIn_ca (goodIn_r _ [7, 8, 9, 10, 11, 12, 13, 14, 15, 16, 17, 18, 19, 20, 21, 22, 23, 24, 25, 26, 196, 197, 198, 199, 200, 201, 202, 203, 204, 205, 206, 207] (by decide +kernel) (by decide +kernel)) (goodIn_sub (fun _ h => List.mem_cons_of_mem _ (List.mem_append_left _ (List.mem_append_left _ (List.mem_append_left _ (List.mem_append_left _ (List.mem_append_right _ h)))))) (by decide +kernel))
set_option maxRecDepth 20000 in
theorem gX7_split_X6_faultOfSplit : GoodIn wsX7_split (wsV RX7 95 RX6 yX6_faultOfSplit wsX6_faultOfSplit) := goodIn_app (goodIn_of _ (by decide +kernel)) ggX7_split_X6_faultOfSplit
set_option maxRecDepth 20000 in
theorem ggX7_split_X7_keepReason : GoodIn wsX7_split wsX7_keepReason := goodIn_r _ [30, 31, 32, 33, 25, 34, 35, 24, 26, 188, 189, 190, 191, 192, 193, 194, 195] (by decide +kernel) (by decide +kernel)
set_option maxRecDepth 20000 in
theorem gX7_split_X7_keepReason : GoodIn wsX7_split (wsV RX7 99 RX7 yX7_keepReason wsX7_keepReason) := goodIn_app (goodIn_of _ (by decide +kernel)) ggX7_split_X7_keepReason
set_option maxRecDepth 20000 in
theorem ggX7_split_X7_raise : GoodIn wsX7_split wsX7_raise := goodIn_ca (goodIn_ca (goodIn_ca (goodIn_ca (goodIn_r _ [38, 39, 40, 41, 42, 25, 43, 44, 45, 46, 47, 48, 49, 50, 51, 52, 53, 54, 55, 32, 33, 34, 35, 24, 26] (by decide +kernel) (by decide +kernel)) (goodIn_sub (fun _ h => List.mem_cons_of_mem _ (List.mem_append_left _ (List.mem_append_left _ (List.mem_append_left _ (List.mem_append_right _ h))))) (by decide +kernel))) (goodIn_sub (fun _ h => List.mem_cons_of_mem _ (List.mem_append_left _ (List.mem_append_left _ (List.mem_append_right _ h)))) (by decide +kernel))) (goodIn_sub (fun _ h => List.mem_cons_of_mem _ (List.mem_append_left _ (List.mem_append_right _ h))) (by decide +kernel))) (goodIn_sub (fun _ h => List.mem_cons_of_mem _ (List.mem_append_right _ h)) (by decide +kernel))
set_option maxRecDepth 20000 in
theorem gX7_split_X7_raise : GoodIn wsX7_split (va_wsS RX7 66 yX7_raise wsX7_raise) := goodIn_app (goodIn_of _ (by decide +kernel)) ggX7_split_X7_raise
set_option maxRecDepth 20000 in
theorem ggX7_split_X2_remember : GoodIn wsX7_split wsX2_remember := goodIn_r _ [60, 61, 62, 63, 64, 65, 66, 67, 68, 69, 70, 6, 71, 72, 8, 73, 74, 75, 76, 77, 78, 15, 79, 17, 80, 81, 82, 83, 84, 85, 22, 86, 87, 88, 89, 90, 91, 92, 93, 94, 95, 96, 97, 98, 99, 100, 101, 102, 103, 104, 105, 106, 107, 108, 109, 110, 111, 112, 113, 114, 115, 116, 117, 118, 119, 120, 121, 122, 123, 208, 209, 210, 196, 197, 198, 199, 200, 201, 202, 203, 204, 205, 206, 207, 211, 212, 213, 214, 215, 216, 217, 218, 219, 220, 221, 222, 223, 224, 225, 226, 227, 228] (by decide +kernel) (by decide +kernel)
set_option maxRecDepth 20000 in
theorem gX7_split_X2_remember : GoodIn wsX7_split (wsV RX7 70 RX2 yX2_remember wsX2_remember) := goodIn_app (goodIn_of _ (by decide +kernel)) ggX7_split_X2_remember
set_option maxRecDepth 20000 in
theorem ggX7_split_X6_divide : GoodIn wsX7_split wsX6_divide := goodIn_ca (goodIn_r _ [127, 8, 72, 74, 75, 128, 129, 130, 6, 131, 132, 133, 134, 135, 73, 136, 12, 13, 14, 15, 16, 17, 137, 138, 139, 92, 140, 94, 99, 141, 142, 143, 144, 95, 97, 98, 145, 146, 147, 148, 86, 23, 149, 150, 151, 152, 80, 153, 25, 154, 155, 156, 157, 158, 22, 159, 160, 161, 162, 85, 87, 88, 163, 164, 165, 166, 167, 168, 169, 170, 171, 172, 173, 174, 103, 175, 105, 111, 108, 109, 106, 176, 177, 178, 179, 180, 181, 182, 183, 110, 184, 185, 186, 115, 187, 118, 123, 122, 196, 197, 198, 199, 200, 201, 202, 203, 204, 205, 206, 207, 211, 212, 213, 214, 215, 216, 217, 218, 219, 220, 221, 222, 223, 224, 225, 226, 227, 228] (by decide +kernel) (by decide +kernel)) (goodIn_sub (fun _ h => List.mem_cons_of_mem _ (List.mem_append_left _ (List.mem_append_left _ (List.mem_append_left _ (List.mem_append_left _ (List.mem_append_right _ h)))))) (by decide +kernel))
set_option maxRecDepth 20000 in
theorem gX7_split_X6_divide : GoodIn wsX7_split (wsV RX7 102 RX6 yX6_divide wsX6_divide) := goodIn_app (goodIn_of _ (by decide +kernel)) ggX7_split_X6_divide
theorem dX7_split_0 : decode cX7_split 0 = .ok (.aload_n 0, 1) := by decide +kernel
theorem dX7_split_1 : decode cX7_split 1 = .ok (.getfield 10, 3) := by decide +kernel
theorem dX7_split_4 : decode cX7_split 4 = .ok (.iload_n 1, 1) := by decide +kernel
theorem dX7_split_5 : decode cX7_split 5 = .ok (.iload_n 2, 1) := by decide +kernel
theorem dX7_split_6 : decode cX7_split 6 = .ok (.iload_n 3, 1) := by decide +kernel
theorem dX7_split_7 : decode cX7_split 7 = .ok (.invokevirtual 95, 3) := by decide +kernel
theorem dX7_split_10 : decode cX7_split 10 = .ok (.istore 4, 2) := by decide +kernel
theorem dX7_split_12 : decode cX7_split 12 = .ok (.aload_n 0, 1) := by decide +kernel
theorem dX7_split_13 : decode cX7_split 13 = .ok (.iload 4, 2) := by decide +kernel
theorem dX7_split_15 : decode cX7_split 15 = .ok (.invokevirtual 99, 3) := by decide +kernel
theorem dX7_split_18 : decode cX7_split 18 = .ok (.iload 4, 2) := by decide +kernel
theorem dX7_split_20 : decode cX7_split 20 = .ok (.invokestatic 66, 3) := by decide +kernel
theorem dX7_split_23 : decode cX7_split 23 = .ok (.aload_n 0, 1) := by decide +kernel
theorem dX7_split_24 : decode cX7_split 24 = .ok (.getfield 25, 3) := by decide +kernel
theorem dX7_split_27 : decode cX7_split 27 = .ok (.aload_n 0, 1) := by decide +kernel
theorem dX7_split_28 : decode cX7_split 28 = .ok (.getfield 10, 3) := by decide +kernel
theorem dX7_split_31 : decode cX7_split 31 = .ok (.invokevirtual 70, 3) := by decide +kernel
theorem dX7_split_34 : decode cX7_split 34 = .ok (.aload_n 0, 1) := by decide +kernel
theorem dX7_split_35 : decode cX7_split 35 = .ok (.getfield 10, 3) := by decide +kernel
theorem dX7_split_38 : decode cX7_split 38 = .ok (.iload_n 1, 1) := by decide +kernel
theorem dX7_split_39 : decode cX7_split 39 = .ok (.iload_n 2, 1) := by decide +kernel
theorem dX7_split_40 : decode cX7_split 40 = .ok (.iload_n 3, 1) := by decide +kernel
theorem dX7_split_41 : decode cX7_split 41 = .ok (.invokevirtual 102, 3) := by decide +kernel
theorem dX7_split_44 : decode cX7_split 44 = .ok (.ireturn, 1) := by decide +kernel
set_option maxRecDepth 20000 in
theorem ggX7_merge_X6_faultOfMerge : GoodIn wsX7_merge wsX6_faultOfMerge := goodIn_ca (goodIn_r _ [7, 8, 9, 10, 11, 12, 13, 14, 15, 16, 17, 18, 19, 20, 21, 22, 23, 24, 25, 26, 27, 28, 29, 30, 31, 32, 33, 34, 35, 36, 37, 6, 38, 39, 40, 41, 42, 43, 44, 45, 46, 47, 48, 49, 50, 51, 52, 53, 54, 55, 56, 57, 58, 203, 204, 205, 206, 207, 208, 209, 210, 211, 212, 213, 214, 215, 216, 217, 218, 219, 220] (by decide +kernel) (by decide +kernel)) (goodIn_sub (fun _ h => List.mem_cons_of_mem _ (List.mem_append_left _ (List.mem_append_left _ (List.mem_append_left _ (List.mem_append_left _ (List.mem_append_right _ h)))))) (by decide +kernel))
set_option maxRecDepth 20000 in
theorem gX7_merge_X6_faultOfMerge : GoodIn wsX7_merge (wsV RX7 105 RX6 yX6_faultOfMerge wsX6_faultOfMerge) := goodIn_app (goodIn_of _ (by decide +kernel)) ggX7_merge_X6_faultOfMerge
set_option maxRecDepth 20000 in
theorem ggX7_merge_X7_keepReason : GoodIn wsX7_merge wsX7_keepReason := goodIn_r _ [62, 63, 64, 65, 33, 66, 67, 68, 69, 195, 196, 197, 198, 199, 200, 201, 202] (by decide +kernel) (by decide +kernel)
set_option maxRecDepth 20000 in
theorem gX7_merge_X7_keepReason : GoodIn wsX7_merge (wsV RX7 99 RX7 yX7_keepReason wsX7_keepReason) := goodIn_app (goodIn_of _ (by decide +kernel)) ggX7_merge_X7_keepReason
set_option maxRecDepth 20000 in
theorem ggX7_merge_X7_raise : GoodIn wsX7_merge wsX7_raise := goodIn_ca (goodIn_ca (goodIn_ca (goodIn_ca (goodIn_r _ [72, 73, 74, 75, 76, 33, 77, 78, 79, 80, 81, 82, 83, 84, 85, 86, 87, 88, 89, 64, 65, 66, 67, 68, 69] (by decide +kernel) (by decide +kernel)) (goodIn_sub (fun _ h => List.mem_cons_of_mem _ (List.mem_append_left _ (List.mem_append_left _ (List.mem_append_left _ (List.mem_append_right _ h))))) (by decide +kernel))) (goodIn_sub (fun _ h => List.mem_cons_of_mem _ (List.mem_append_left _ (List.mem_append_left _ (List.mem_append_right _ h)))) (by decide +kernel))) (goodIn_sub (fun _ h => List.mem_cons_of_mem _ (List.mem_append_left _ (List.mem_append_right _ h))) (by decide +kernel))) (goodIn_sub (fun _ h => List.mem_cons_of_mem _ (List.mem_append_right _ h)) (by decide +kernel))
set_option maxRecDepth 20000 in
theorem gX7_merge_X7_raise : GoodIn wsX7_merge (va_wsS RX7 66 yX7_raise wsX7_raise) := goodIn_app (goodIn_of _ (by decide +kernel)) ggX7_merge_X7_raise
set_option maxRecDepth 20000 in
theorem ggX7_merge_X2_remember : GoodIn wsX7_merge wsX2_remember := goodIn_r _ [94, 95, 96, 97, 98, 99, 100, 101, 102, 103, 104, 6, 105, 106, 8, 43, 107, 108, 109, 110, 111, 14, 112, 16, 113, 114, 115, 116, 117, 118, 21, 31, 119, 120, 121, 122, 123, 48, 124, 50, 56, 125, 57, 58, 51, 126, 127, 128, 129, 130, 131, 132, 133, 134, 135, 136, 137, 138, 139, 140, 141, 142, 143, 144, 145, 146, 147, 148, 149, 221, 222, 223, 203, 204, 205, 206, 207, 208, 209, 210, 211, 212, 213, 214, 215, 216, 217, 218, 219, 220, 224, 225, 226, 227, 228, 229, 230, 231, 232, 233, 234, 235] (by decide +kernel) (by decide +kernel)
set_option maxRecDepth 20000 in
theorem gX7_merge_X2_remember : GoodIn wsX7_merge (wsV RX7 70 RX2 yX2_remember wsX2_remember) := goodIn_app (goodIn_of _ (by decide +kernel)) ggX7_merge_X2_remember
set_option maxRecDepth 20000 in
theorem ggX7_merge_X6_unite : GoodIn wsX7_merge wsX6_unite := goodIn_ca (goodIn_r _ [153, 8, 106, 107, 108, 35, 36, 37, 6, 38, 39, 40, 41, 42, 43, 44, 11, 12, 13, 14, 15, 16, 45, 46, 47, 48, 49, 50, 51, 52, 53, 54, 55, 56, 57, 58, 154, 28, 29, 30, 31, 22, 155, 156, 157, 158, 21, 159, 160, 161, 162, 113, 32, 33, 34, 163, 164, 165, 166, 118, 119, 120, 167, 168, 169, 170, 171, 172, 173, 174, 175, 176, 177, 129, 178, 131, 137, 134, 135, 179, 180, 181, 182, 183, 184, 185, 186, 187, 188, 189, 190, 132, 191, 192, 193, 141, 194, 144, 149, 148, 203, 204, 205, 206, 207, 208, 209, 210, 211, 212, 213, 214, 215, 216, 217, 218, 219, 220, 224, 225, 226, 227, 228, 229, 230, 231, 232, 233, 234, 235] (by decide +kernel) (by decide +kernel)) (goodIn_sub (fun _ h => List.mem_cons_of_mem _ (List.mem_append_left _ (List.mem_append_left _ (List.mem_append_left _ (List.mem_append_left _ (List.mem_append_right _ h)))))) (by decide +kernel))
set_option maxRecDepth 20000 in
theorem gX7_merge_X6_unite : GoodIn wsX7_merge (wsV RX7 108 RX6 yX6_unite wsX6_unite) := goodIn_app (goodIn_of _ (by decide +kernel)) ggX7_merge_X6_unite
theorem dX7_merge_0 : decode cX7_merge 0 = .ok (.aload_n 0, 1) := by decide +kernel
theorem dX7_merge_1 : decode cX7_merge 1 = .ok (.getfield 10, 3) := by decide +kernel
theorem dX7_merge_4 : decode cX7_merge 4 = .ok (.iload_n 1, 1) := by decide +kernel
theorem dX7_merge_5 : decode cX7_merge 5 = .ok (.iload_n 2, 1) := by decide +kernel
theorem dX7_merge_6 : decode cX7_merge 6 = .ok (.invokevirtual 105, 3) := by decide +kernel
theorem dX7_merge_9 : decode cX7_merge 9 = .ok (.istore_n 3, 1) := by decide +kernel
theorem dX7_merge_10 : decode cX7_merge 10 = .ok (.aload_n 0, 1) := by decide +kernel
theorem dX7_merge_11 : decode cX7_merge 11 = .ok (.iload_n 3, 1) := by decide +kernel
theorem dX7_merge_12 : decode cX7_merge 12 = .ok (.invokevirtual 99, 3) := by decide +kernel
theorem dX7_merge_15 : decode cX7_merge 15 = .ok (.iload_n 3, 1) := by decide +kernel
theorem dX7_merge_16 : decode cX7_merge 16 = .ok (.invokestatic 66, 3) := by decide +kernel
theorem dX7_merge_19 : decode cX7_merge 19 = .ok (.aload_n 0, 1) := by decide +kernel
theorem dX7_merge_20 : decode cX7_merge 20 = .ok (.getfield 25, 3) := by decide +kernel
theorem dX7_merge_23 : decode cX7_merge 23 = .ok (.aload_n 0, 1) := by decide +kernel
theorem dX7_merge_24 : decode cX7_merge 24 = .ok (.getfield 10, 3) := by decide +kernel
theorem dX7_merge_27 : decode cX7_merge 27 = .ok (.invokevirtual 70, 3) := by decide +kernel
theorem dX7_merge_30 : decode cX7_merge 30 = .ok (.aload_n 0, 1) := by decide +kernel
theorem dX7_merge_31 : decode cX7_merge 31 = .ok (.getfield 10, 3) := by decide +kernel
theorem dX7_merge_34 : decode cX7_merge 34 = .ok (.iload_n 1, 1) := by decide +kernel
theorem dX7_merge_35 : decode cX7_merge 35 = .ok (.iload_n 2, 1) := by decide +kernel
theorem dX7_merge_36 : decode cX7_merge 36 = .ok (.invokevirtual 108, 3) := by decide +kernel
theorem dX7_merge_39 : decode cX7_merge 39 = .ok (.ireturn, 1) := by decide +kernel
set_option maxRecDepth 20000 in
theorem ggX7_parcel_X4_has : GoodIn wsX7_parcel wsX4_has := goodIn_r _ [10, 11, 99, 100, 101, 102, 103, 104, 105] (by decide +kernel) (by decide +kernel)
set_option maxRecDepth 20000 in
theorem gX7_parcel_X4_has : GoodIn wsX7_parcel (wsV RX7 111 RX4 yX4_has wsX4_has) := goodIn_app (goodIn_of _ (by decide +kernel)) ggX7_parcel_X4_has
set_option maxRecDepth 20000 in
theorem ggX7_parcel_X7_checkNumber : GoodIn wsX7_parcel wsX7_checkNumber := goodIn_ca (goodIn_r _ [15, 16, 17] (by decide +kernel) (by decide +kernel)) (goodIn_sub (fun _ h => List.mem_cons_of_mem _ (List.mem_append_left _ (List.mem_append_right _ h))) (by decide +kernel))
set_option maxRecDepth 20000 in
theorem gX7_parcel_X7_checkNumber : GoodIn wsX7_parcel (va_wsS RX7 115 yX7_checkNumber wsX7_checkNumber) := goodIn_app (goodIn_of _ (by decide +kernel)) ggX7_parcel_X7_checkNumber
set_option maxRecDepth 20000 in
theorem ggX7_parcel_X7_isFrom : GoodIn wsX7_parcel wsX7_isFrom := goodIn_r _ [20] (by decide +kernel) (by decide +kernel)
set_option maxRecDepth 20000 in
theorem gX7_parcel_X7_isFrom : GoodIn wsX7_parcel (va_wsS RX7 119 yX7_isFrom wsX7_isFrom) := goodIn_app (goodIn_of _ (by decide +kernel)) ggX7_parcel_X7_isFrom
set_option maxRecDepth 20000 in
theorem ggX7_parcel_X7_checkArgument : GoodIn wsX7_parcel wsX7_checkArgument := goodIn_ca (goodIn_r _ [23, 24, 25] (by decide +kernel) (by decide +kernel)) (goodIn_sub (fun _ h => List.mem_cons_of_mem _ (List.mem_append_right _ h)) (by decide +kernel))
set_option maxRecDepth 20000 in
theorem gX7_parcel_X7_checkArgument : GoodIn wsX7_parcel (va_wsS RX7 123 yX7_checkArgument wsX7_checkArgument) := goodIn_app (goodIn_of _ (by decide +kernel)) ggX7_parcel_X7_checkArgument
set_option maxRecDepth 20000 in
theorem ggX7_parcel_X4_rowOf : GoodIn wsX7_parcel wsX4_rowOf := goodIn_ca (goodIn_r _ [29, 30, 31, 32, 33, 34, 35, 36, 7, 8, 9, 10, 11, 99, 100, 101, 102, 103, 104, 105] (by decide +kernel) (by decide +kernel)) (goodIn_sub (fun _ h => List.mem_cons_of_mem _ (List.mem_append_left _ (List.mem_append_left _ (List.mem_append_right _ h)))) (by decide +kernel))
set_option maxRecDepth 20000 in
theorem gX7_parcel_X4_rowOf : GoodIn wsX7_parcel (wsV RX7 126 RX4 yX4_rowOf wsX4_rowOf) := goodIn_app (goodIn_of _ (by decide +kernel)) ggX7_parcel_X4_rowOf
set_option maxRecDepth 20000 in
theorem ggX7_parcel_X6_holderNow : GoodIn wsX7_parcel wsX6_holderNow := goodIn_ca (goodIn_r _ [41, 42, 43, 44, 40, 45, 46, 47, 48, 49, 7, 8, 9, 10, 11, 50, 51, 52, 53, 54, 55, 56, 57, 58, 59, 60, 61, 62, 63, 94, 95, 96, 97, 98, 99, 100, 101, 102, 103, 104, 105, 106, 107, 108, 109, 110, 111] (by decide +kernel) (by decide +kernel)) (goodIn_sub (fun _ h => List.mem_cons_of_mem _ (List.mem_append_left _ (List.mem_append_left _ (List.mem_append_right _ h)))) (by decide +kernel))
set_option maxRecDepth 20000 in
theorem gX7_parcel_X6_holderNow : GoodIn wsX7_parcel (wsV RX7 133 RX6 yX6_holderNow wsX6_holderNow) := goodIn_app (goodIn_of _ (by decide +kernel)) ggX7_parcel_X6_holderNow
set_option maxRecDepth 20000 in
theorem ggX7_parcel_X0_countOf : GoodIn wsX7_parcel wsX0_countOf := goodIn_ca (goodIn_r _ [67, 55, 61, 106, 107, 108, 109, 110, 111] (by decide +kernel) (by decide +kernel)) (goodIn_sub (fun _ h => List.mem_cons_of_mem _ (List.mem_append_left _ (List.mem_append_left _ (List.mem_append_right _ h)))) (by decide +kernel))
set_option maxRecDepth 20000 in
theorem gX7_parcel_X0_countOf : GoodIn wsX7_parcel (wsV RX7 141 RX0 yX0_countOf wsX0_countOf) := goodIn_app (goodIn_of _ (by decide +kernel)) ggX7_parcel_X0_countOf
set_option maxRecDepth 20000 in
theorem ggX7_parcel_X0_gapsOf : GoodIn wsX7_parcel wsX0_gapsOf := goodIn_ca (goodIn_r _ [71, 55, 61, 62, 63, 106, 107, 108, 109, 110, 111] (by decide +kernel) (by decide +kernel)) (goodIn_sub (fun _ h => List.mem_cons_of_mem _ (List.mem_append_left _ (List.mem_append_left _ (List.mem_append_right _ h)))) (by decide +kernel))
set_option maxRecDepth 20000 in
theorem gX7_parcel_X0_gapsOf : GoodIn wsX7_parcel (wsV RX7 146 RX0 yX0_gapsOf wsX0_gapsOf) := goodIn_app (goodIn_of _ (by decide +kernel)) ggX7_parcel_X0_gapsOf
set_option maxRecDepth 20000 in
theorem ggX7_parcel_X3_onParcel : GoodIn wsX7_parcel wsX3_onParcel := goodIn_ca (goodIn_r _ [76, 77, 78, 79, 80, 81, 75, 82, 83, 84, 14, 85, 112, 113, 114, 115, 116, 117] (by decide +kernel) (by decide +kernel)) (goodIn_sub (fun _ h => List.mem_cons_of_mem _ (List.mem_append_left _ (List.mem_append_left _ (List.mem_append_right _ h)))) (by decide +kernel))
set_option maxRecDepth 20000 in
theorem gX7_parcel_X3_onParcel : GoodIn wsX7_parcel (wsV RX7 153 RX3 yX3_onParcel wsX3_onParcel) := goodIn_app (goodIn_of _ (by decide +kernel)) ggX7_parcel_X3_onParcel
theorem dX7_parcel_0 : decode cX7_parcel 0 = .ok (.aload_n 0, 1) := by decide +kernel
theorem dX7_parcel_1 : decode cX7_parcel 1 = .ok (.getfield 10, 3) := by decide +kernel
theorem dX7_parcel_4 : decode cX7_parcel 4 = .ok (.getfield 47, 3) := by decide +kernel
theorem dX7_parcel_7 : decode cX7_parcel 7 = .ok (.iload_n 1, 1) := by decide +kernel
theorem dX7_parcel_8 : decode cX7_parcel 8 = .ok (.invokevirtual 111, 3) := by decide +kernel
theorem dX7_parcel_11 : decode cX7_parcel 11 = .ok (.invokestatic 115, 3) := by decide +kernel
theorem dX7_parcel_14 : decode cX7_parcel 14 = .ok (.iload_n 2, 1) := by decide +kernel
theorem dX7_parcel_15 : decode cX7_parcel 15 = .ok (.iconst 0, 1) := by decide +kernel
theorem dX7_parcel_16 : decode cX7_parcel 16 = .ok (.bipush 9, 2) := by decide +kernel
theorem dX7_parcel_18 : decode cX7_parcel 18 = .ok (.invokestatic 119, 3) := by decide +kernel
theorem dX7_parcel_21 : decode cX7_parcel 21 = .ok (.invokestatic 123, 3) := by decide +kernel
theorem dX7_parcel_24 : decode cX7_parcel 24 = .ok (.iload_n 2, 1) := by decide +kernel
theorem dX7_parcel_25 : decode cX7_parcel 25 = .ok (.iconst 5, 1) := by decide +kernel
theorem dX7_parcel_26 : decode cX7_parcel 26 = .ok (.if_icmp .gt 16, 3) := by decide +kernel
theorem dX7_parcel_29 : decode cX7_parcel 29 = .ok (.aload_n 0, 1) := by decide +kernel
theorem dX7_parcel_30 : decode cX7_parcel 30 = .ok (.getfield 10, 3) := by decide +kernel
theorem dX7_parcel_33 : decode cX7_parcel 33 = .ok (.getfield 47, 3) := by decide +kernel
theorem dX7_parcel_36 : decode cX7_parcel 36 = .ok (.iload_n 1, 1) := by decide +kernel
theorem dX7_parcel_37 : decode cX7_parcel 37 = .ok (.iload_n 2, 1) := by decide +kernel
theorem dX7_parcel_38 : decode cX7_parcel 38 = .ok (.invokevirtual 126, 3) := by decide +kernel
theorem dX7_parcel_41 : decode cX7_parcel 41 = .ok (.ireturn, 1) := by decide +kernel
theorem dX7_parcel_42 : decode cX7_parcel 42 = .ok (.aload_n 0, 1) := by decide +kernel
theorem dX7_parcel_43 : decode cX7_parcel 43 = .ok (.getfield 10, 3) := by decide +kernel
theorem dX7_parcel_46 : decode cX7_parcel 46 = .ok (.getfield 47, 3) := by decide +kernel
theorem dX7_parcel_49 : decode cX7_parcel 49 = .ok (.getfield 129, 3) := by decide +kernel
theorem dX7_parcel_52 : decode cX7_parcel 52 = .ok (.iload_n 1, 1) := by decide +kernel
theorem dX7_parcel_53 : decode cX7_parcel 53 = .ok (.iaload, 1) := by decide +kernel
theorem dX7_parcel_54 : decode cX7_parcel 54 = .ok (.istore_n 3, 1) := by decide +kernel
theorem dX7_parcel_55 : decode cX7_parcel 55 = .ok (.iload_n 2, 1) := by decide +kernel
theorem dX7_parcel_56 : decode cX7_parcel 56 = .ok (.tableswitch 62 6 8 #[28, 37, 49], 28) := by decide +kernel
theorem dX7_parcel_84 : decode cX7_parcel 84 = .ok (.aload_n 0, 1) := by decide +kernel
theorem dX7_parcel_85 : decode cX7_parcel 85 = .ok (.getfield 10, 3) := by decide +kernel
theorem dX7_parcel_88 : decode cX7_parcel 88 = .ok (.iload_n 1, 1) := by decide +kernel
theorem dX7_parcel_89 : decode cX7_parcel 89 = .ok (.invokevirtual 133, 3) := by decide +kernel
theorem dX7_parcel_92 : decode cX7_parcel 92 = .ok (.ireturn, 1) := by decide +kernel
theorem dX7_parcel_93 : decode cX7_parcel 93 = .ok (.aload_n 0, 1) := by decide +kernel
theorem dX7_parcel_94 : decode cX7_parcel 94 = .ok (.getfield 10, 3) := by decide +kernel
theorem dX7_parcel_97 : decode cX7_parcel 97 = .ok (.getfield 137, 3) := by decide +kernel
theorem dX7_parcel_100 : decode cX7_parcel 100 = .ok (.iload_n 1, 1) := by decide +kernel
theorem dX7_parcel_101 : decode cX7_parcel 101 = .ok (.invokevirtual 141, 3) := by decide +kernel
theorem dX7_parcel_104 : decode cX7_parcel 104 = .ok (.ireturn, 1) := by decide +kernel
theorem dX7_parcel_105 : decode cX7_parcel 105 = .ok (.aload_n 0, 1) := by decide +kernel
theorem dX7_parcel_106 : decode cX7_parcel 106 = .ok (.getfield 10, 3) := by decide +kernel
theorem dX7_parcel_109 : decode cX7_parcel 109 = .ok (.getfield 137, 3) := by decide +kernel
theorem dX7_parcel_112 : decode cX7_parcel 112 = .ok (.iload_n 1, 1) := by decide +kernel
theorem dX7_parcel_113 : decode cX7_parcel 113 = .ok (.iload_n 3, 1) := by decide +kernel
theorem dX7_parcel_114 : decode cX7_parcel 114 = .ok (.invokevirtual 146, 3) := by decide +kernel
theorem dX7_parcel_117 : decode cX7_parcel 117 = .ok (.ireturn, 1) := by decide +kernel
theorem dX7_parcel_118 : decode cX7_parcel 118 = .ok (.aload_n 0, 1) := by decide +kernel
theorem dX7_parcel_119 : decode cX7_parcel 119 = .ok (.getfield 10, 3) := by decide +kernel
theorem dX7_parcel_122 : decode cX7_parcel 122 = .ok (.getfield 149, 3) := by decide +kernel
theorem dX7_parcel_125 : decode cX7_parcel 125 = .ok (.iload_n 1, 1) := by decide +kernel
theorem dX7_parcel_126 : decode cX7_parcel 126 = .ok (.invokevirtual 153, 3) := by decide +kernel
theorem dX7_parcel_129 : decode cX7_parcel 129 = .ok (.ireturn, 1) := by decide +kernel
set_option maxRecDepth 20000 in
theorem ggX7_origins_X4_has : GoodIn wsX7_origins wsX4_has := goodIn_r _ [7, 8, 36, 37, 38, 39, 40, 41, 42] (by decide +kernel) (by decide +kernel)
set_option maxRecDepth 20000 in
theorem gX7_origins_X4_has : GoodIn wsX7_origins (wsV RX7 111 RX4 yX4_has wsX4_has) := goodIn_app (goodIn_of _ (by decide +kernel)) ggX7_origins_X4_has
set_option maxRecDepth 20000 in
theorem ggX7_origins_X7_checkNumber : GoodIn wsX7_origins wsX7_checkNumber := goodIn_ca (goodIn_r _ [12, 13, 14] (by decide +kernel) (by decide +kernel)) (goodIn_sub (fun _ h => List.mem_cons_of_mem _ (List.mem_append_left _ (List.mem_append_right _ h))) (by decide +kernel))
set_option maxRecDepth 20000 in
theorem gX7_origins_X7_checkNumber : GoodIn wsX7_origins (va_wsS RX7 115 yX7_checkNumber wsX7_checkNumber) := goodIn_app (goodIn_of _ (by decide +kernel)) ggX7_origins_X7_checkNumber
set_option maxRecDepth 20000 in
theorem ggX7_origins_X4_ancestorsOf : GoodIn wsX7_origins wsX4_ancestorsOf := goodIn_ca (goodIn_r _ [18, 19, 20, 4, 5, 6, 7, 8, 21, 11, 22, 36, 37, 38, 39, 40, 41, 42] (by decide +kernel) (by decide +kernel)) (goodIn_sub (fun _ h => List.mem_cons_of_mem _ (List.mem_append_right _ h)) (by decide +kernel))
set_option maxRecDepth 20000 in
theorem gX7_origins_X4_ancestorsOf : GoodIn wsX7_origins (wsV RX7 158 RX4 yX4_ancestorsOf wsX4_ancestorsOf) := goodIn_app (goodIn_of _ (by decide +kernel)) ggX7_origins_X4_ancestorsOf
theorem dX7_origins_0 : decode cX7_origins 0 = .ok (.aload_n 0, 1) := by decide +kernel
theorem dX7_origins_1 : decode cX7_origins 1 = .ok (.getfield 10, 3) := by decide +kernel
theorem dX7_origins_4 : decode cX7_origins 4 = .ok (.getfield 47, 3) := by decide +kernel
theorem dX7_origins_7 : decode cX7_origins 7 = .ok (.iload_n 1, 1) := by decide +kernel
theorem dX7_origins_8 : decode cX7_origins 8 = .ok (.invokevirtual 111, 3) := by decide +kernel
theorem dX7_origins_11 : decode cX7_origins 11 = .ok (.invokestatic 115, 3) := by decide +kernel
theorem dX7_origins_14 : decode cX7_origins 14 = .ok (.aload_n 0, 1) := by decide +kernel
theorem dX7_origins_15 : decode cX7_origins 15 = .ok (.getfield 10, 3) := by decide +kernel
theorem dX7_origins_18 : decode cX7_origins 18 = .ok (.getfield 47, 3) := by decide +kernel
theorem dX7_origins_21 : decode cX7_origins 21 = .ok (.iload_n 1, 1) := by decide +kernel
theorem dX7_origins_22 : decode cX7_origins 22 = .ok (.invokevirtual 158, 3) := by decide +kernel
theorem dX7_origins_25 : decode cX7_origins 25 = .ok (.ireturn, 1) := by decide +kernel
set_option maxRecDepth 20000 in
theorem ggX7_remains_X4_has : GoodIn wsX7_remains wsX4_has := goodIn_r _ [7, 8, 39, 40, 41, 42, 43, 44, 45] (by decide +kernel) (by decide +kernel)
set_option maxRecDepth 20000 in
theorem gX7_remains_X4_has : GoodIn wsX7_remains (wsV RX7 111 RX4 yX4_has wsX4_has) := goodIn_app (goodIn_of _ (by decide +kernel)) ggX7_remains_X4_has
set_option maxRecDepth 20000 in
theorem ggX7_remains_X7_checkNumber : GoodIn wsX7_remains wsX7_checkNumber := goodIn_ca (goodIn_r _ [12, 13, 14] (by decide +kernel) (by decide +kernel)) (goodIn_sub (fun _ h => List.mem_cons_of_mem _ (List.mem_append_left _ (List.mem_append_right _ h))) (by decide +kernel))
set_option maxRecDepth 20000 in
theorem gX7_remains_X7_checkNumber : GoodIn wsX7_remains (va_wsS RX7 115 yX7_checkNumber wsX7_checkNumber) := goodIn_app (goodIn_of _ (by decide +kernel)) ggX7_remains_X7_checkNumber
set_option maxRecDepth 20000 in
theorem ggX7_remains_X4_heirsOf : GoodIn wsX7_remains wsX4_heirsOf := goodIn_ca (goodIn_r _ [18, 8, 19, 20, 4, 5, 6, 7, 39, 40, 41, 42, 43, 44, 45] (by decide +kernel) (by decide +kernel)) (goodIn_sub (fun _ h => List.mem_cons_of_mem _ (List.mem_append_right _ h)) (by decide +kernel))
set_option maxRecDepth 20000 in
theorem gX7_remains_X4_heirsOf : GoodIn wsX7_remains (wsV RX7 161 RX4 yX4_heirsOf wsX4_heirsOf) := goodIn_app (goodIn_of _ (by decide +kernel)) ggX7_remains_X4_heirsOf
set_option maxRecDepth 20000 in
theorem ggX7_remains_X4_presentOnes : GoodIn wsX7_remains wsX4_presentOnes := goodIn_ca (goodIn_r _ [24, 8, 25, 39, 40, 41, 42, 43, 44, 45] (by decide +kernel) (by decide +kernel)) (goodIn_sub (fun _ h => List.mem_cons_of_mem _ (List.mem_append_right _ h)) (by decide +kernel))
set_option maxRecDepth 20000 in
theorem gX7_remains_X4_presentOnes : GoodIn wsX7_remains (wsV RX7 164 RX4 yX4_presentOnes wsX4_presentOnes) := goodIn_app (goodIn_of _ (by decide +kernel)) ggX7_remains_X4_presentOnes
theorem dX7_remains_0 : decode cX7_remains 0 = .ok (.aload_n 0, 1) := by decide +kernel
theorem dX7_remains_1 : decode cX7_remains 1 = .ok (.getfield 10, 3) := by decide +kernel
theorem dX7_remains_4 : decode cX7_remains 4 = .ok (.getfield 47, 3) := by decide +kernel
theorem dX7_remains_7 : decode cX7_remains 7 = .ok (.iload_n 1, 1) := by decide +kernel
theorem dX7_remains_8 : decode cX7_remains 8 = .ok (.invokevirtual 111, 3) := by decide +kernel
theorem dX7_remains_11 : decode cX7_remains 11 = .ok (.invokestatic 115, 3) := by decide +kernel
theorem dX7_remains_14 : decode cX7_remains 14 = .ok (.aload_n 0, 1) := by decide +kernel
theorem dX7_remains_15 : decode cX7_remains 15 = .ok (.getfield 10, 3) := by decide +kernel
theorem dX7_remains_18 : decode cX7_remains 18 = .ok (.getfield 47, 3) := by decide +kernel
theorem dX7_remains_21 : decode cX7_remains 21 = .ok (.iload_n 1, 1) := by decide +kernel
theorem dX7_remains_22 : decode cX7_remains 22 = .ok (.invokevirtual 161, 3) := by decide +kernel
theorem dX7_remains_25 : decode cX7_remains 25 = .ok (.aload_n 0, 1) := by decide +kernel
theorem dX7_remains_26 : decode cX7_remains 26 = .ok (.getfield 10, 3) := by decide +kernel
theorem dX7_remains_29 : decode cX7_remains 29 = .ok (.getfield 47, 3) := by decide +kernel
theorem dX7_remains_32 : decode cX7_remains 32 = .ok (.invokevirtual 164, 3) := by decide +kernel
theorem dX7_remains_35 : decode cX7_remains 35 = .ok (.iand, 1) := by decide +kernel
theorem dX7_remains_36 : decode cX7_remains 36 = .ok (.ireturn, 1) := by decide +kernel
set_option maxRecDepth 20000 in
theorem ggX7_borders_X4_has : GoodIn wsX7_borders wsX4_has := goodIn_r _ [7, 8, 55, 56, 57, 58, 59, 60, 61] (by decide +kernel) (by decide +kernel)
set_option maxRecDepth 20000 in
theorem gX7_borders_X4_has : GoodIn wsX7_borders (wsV RX7 111 RX4 yX4_has wsX4_has) := goodIn_app (goodIn_of _ (by decide +kernel)) ggX7_borders_X4_has
set_option maxRecDepth 20000 in
theorem ggX7_borders_X7_checkNumber : GoodIn wsX7_borders wsX7_checkNumber := goodIn_ca (goodIn_r _ [12, 13, 14] (by decide +kernel) (by decide +kernel)) (goodIn_sub (fun _ h => List.mem_cons_of_mem _ (List.mem_append_left _ (List.mem_append_left _ (List.mem_append_left _ (List.mem_append_right _ h))))) (by decide +kernel))
set_option maxRecDepth 20000 in
theorem gX7_borders_X7_checkNumber : GoodIn wsX7_borders (va_wsS RX7 115 yX7_checkNumber wsX7_checkNumber) := goodIn_app (goodIn_of _ (by decide +kernel)) ggX7_borders_X7_checkNumber
set_option maxRecDepth 20000 in
theorem ggX7_borders_X4_isPresent : GoodIn wsX7_borders wsX4_isPresent := goodIn_ca (goodIn_r _ [18, 19, 20, 4, 5, 6, 7, 8, 55, 56, 57, 58, 59, 60, 61] (by decide +kernel) (by decide +kernel)) (goodIn_sub (fun _ h => List.mem_cons_of_mem _ (List.mem_append_left _ (List.mem_append_left _ (List.mem_append_right _ h)))) (by decide +kernel))
set_option maxRecDepth 20000 in
theorem gX7_borders_X4_isPresent : GoodIn wsX7_borders (wsV RX7 168 RX4 yX4_isPresent wsX4_isPresent) := goodIn_app (goodIn_of _ (by decide +kernel)) ggX7_borders_X4_isPresent
set_option maxRecDepth 20000 in
theorem ggX7_borders_X7_checkState : GoodIn wsX7_borders wsX7_checkState := goodIn_ca (goodIn_r _ [23, 24, 25] (by decide +kernel) (by decide +kernel)) (goodIn_sub (fun _ h => List.mem_cons_of_mem _ (List.mem_append_left _ (List.mem_append_right _ h))) (by decide +kernel))
set_option maxRecDepth 20000 in
theorem gX7_borders_X7_checkState : GoodIn wsX7_borders (va_wsS RX7 171 yX7_checkState wsX7_checkState) := goodIn_app (goodIn_of _ (by decide +kernel)) ggX7_borders_X7_checkState
set_option maxRecDepth 20000 in
theorem ggX7_borders_X4_stepsBetween : GoodIn wsX7_borders wsX4_stepsBetween := goodIn_ca (goodIn_r _ [29, 30, 11, 31, 32, 33, 34, 6, 35, 8, 36, 55, 56, 57, 58, 59, 60, 61] (by decide +kernel) (by decide +kernel)) (goodIn_sub (fun _ h => List.mem_cons_of_mem _ (List.mem_append_left _ (List.mem_append_left _ (List.mem_append_right _ h)))) (by decide +kernel))
set_option maxRecDepth 20000 in
theorem gX7_borders_X4_stepsBetween : GoodIn wsX7_borders (wsV RX7 174 RX4 yX4_stepsBetween wsX4_stepsBetween) := goodIn_app (goodIn_of _ (by decide +kernel)) ggX7_borders_X4_stepsBetween
set_option maxRecDepth 20000 in
theorem ggX7_borders_X7_checkAnswer : GoodIn wsX7_borders wsX7_checkAnswer := goodIn_ca (goodIn_r _ [39, 40, 41] (by decide +kernel) (by decide +kernel)) (goodIn_sub (fun _ h => List.mem_cons_of_mem _ (List.mem_append_right _ h)) (by decide +kernel))
set_option maxRecDepth 20000 in
theorem gX7_borders_X7_checkAnswer : GoodIn wsX7_borders (va_wsS RX7 177 yX7_checkAnswer wsX7_checkAnswer) := goodIn_app (goodIn_of _ (by decide +kernel)) ggX7_borders_X7_checkAnswer
theorem dX7_borders_0 : decode cX7_borders 0 = .ok (.aload_n 0, 1) := by decide +kernel
theorem dX7_borders_1 : decode cX7_borders 1 = .ok (.getfield 10, 3) := by decide +kernel
theorem dX7_borders_4 : decode cX7_borders 4 = .ok (.getfield 47, 3) := by decide +kernel
theorem dX7_borders_7 : decode cX7_borders 7 = .ok (.iload_n 1, 1) := by decide +kernel
theorem dX7_borders_8 : decode cX7_borders 8 = .ok (.invokevirtual 111, 3) := by decide +kernel
theorem dX7_borders_11 : decode cX7_borders 11 = .ok (.ifCond .eq 21, 3) := by decide +kernel
theorem dX7_borders_14 : decode cX7_borders 14 = .ok (.aload_n 0, 1) := by decide +kernel
theorem dX7_borders_15 : decode cX7_borders 15 = .ok (.getfield 10, 3) := by decide +kernel
theorem dX7_borders_18 : decode cX7_borders 18 = .ok (.getfield 47, 3) := by decide +kernel
theorem dX7_borders_21 : decode cX7_borders 21 = .ok (.iload_n 2, 1) := by decide +kernel
theorem dX7_borders_22 : decode cX7_borders 22 = .ok (.invokevirtual 111, 3) := by decide +kernel
theorem dX7_borders_25 : decode cX7_borders 25 = .ok (.ifCond .eq 7, 3) := by decide +kernel
theorem dX7_borders_28 : decode cX7_borders 28 = .ok (.iconst 1, 1) := by decide +kernel
theorem dX7_borders_29 : decode cX7_borders 29 = .ok (.goto 4, 3) := by decide +kernel
theorem dX7_borders_32 : decode cX7_borders 32 = .ok (.iconst 0, 1) := by decide +kernel
theorem dX7_borders_33 : decode cX7_borders 33 = .ok (.invokestatic 115, 3) := by decide +kernel
theorem dX7_borders_36 : decode cX7_borders 36 = .ok (.aload_n 0, 1) := by decide +kernel
theorem dX7_borders_37 : decode cX7_borders 37 = .ok (.getfield 10, 3) := by decide +kernel
theorem dX7_borders_40 : decode cX7_borders 40 = .ok (.getfield 47, 3) := by decide +kernel
theorem dX7_borders_43 : decode cX7_borders 43 = .ok (.iload_n 1, 1) := by decide +kernel
theorem dX7_borders_44 : decode cX7_borders 44 = .ok (.invokevirtual 168, 3) := by decide +kernel
theorem dX7_borders_47 : decode cX7_borders 47 = .ok (.ifCond .eq 21, 3) := by decide +kernel
theorem dX7_borders_50 : decode cX7_borders 50 = .ok (.aload_n 0, 1) := by decide +kernel
theorem dX7_borders_51 : decode cX7_borders 51 = .ok (.getfield 10, 3) := by decide +kernel
theorem dX7_borders_54 : decode cX7_borders 54 = .ok (.getfield 47, 3) := by decide +kernel
theorem dX7_borders_57 : decode cX7_borders 57 = .ok (.iload_n 2, 1) := by decide +kernel
theorem dX7_borders_58 : decode cX7_borders 58 = .ok (.invokevirtual 168, 3) := by decide +kernel
theorem dX7_borders_61 : decode cX7_borders 61 = .ok (.ifCond .eq 7, 3) := by decide +kernel
theorem dX7_borders_64 : decode cX7_borders 64 = .ok (.iconst 1, 1) := by decide +kernel
theorem dX7_borders_65 : decode cX7_borders 65 = .ok (.goto 4, 3) := by decide +kernel
theorem dX7_borders_68 : decode cX7_borders 68 = .ok (.iconst 0, 1) := by decide +kernel
theorem dX7_borders_69 : decode cX7_borders 69 = .ok (.invokestatic 171, 3) := by decide +kernel
theorem dX7_borders_72 : decode cX7_borders 72 = .ok (.aload_n 0, 1) := by decide +kernel
theorem dX7_borders_73 : decode cX7_borders 73 = .ok (.getfield 10, 3) := by decide +kernel
theorem dX7_borders_76 : decode cX7_borders 76 = .ok (.getfield 47, 3) := by decide +kernel
theorem dX7_borders_79 : decode cX7_borders 79 = .ok (.iload_n 1, 1) := by decide +kernel
theorem dX7_borders_80 : decode cX7_borders 80 = .ok (.iload_n 2, 1) := by decide +kernel
theorem dX7_borders_81 : decode cX7_borders 81 = .ok (.invokevirtual 174, 3) := by decide +kernel
theorem dX7_borders_84 : decode cX7_borders 84 = .ok (.istore_n 3, 1) := by decide +kernel
theorem dX7_borders_85 : decode cX7_borders 85 = .ok (.iload_n 3, 1) := by decide +kernel
theorem dX7_borders_86 : decode cX7_borders 86 = .ok (.iconst (-1), 1) := by decide +kernel
theorem dX7_borders_87 : decode cX7_borders 87 = .ok (.if_icmp .eq 7, 3) := by decide +kernel
theorem dX7_borders_90 : decode cX7_borders 90 = .ok (.iconst 1, 1) := by decide +kernel
theorem dX7_borders_91 : decode cX7_borders 91 = .ok (.goto 4, 3) := by decide +kernel
theorem dX7_borders_94 : decode cX7_borders 94 = .ok (.iconst 0, 1) := by decide +kernel
theorem dX7_borders_95 : decode cX7_borders 95 = .ok (.invokestatic 177, 3) := by decide +kernel
theorem dX7_borders_98 : decode cX7_borders 98 = .ok (.iload_n 3, 1) := by decide +kernel
theorem dX7_borders_99 : decode cX7_borders 99 = .ok (.ireturn, 1) := by decide +kernel
set_option maxRecDepth 20000 in
theorem ggX7_partners_X4_has : GoodIn wsX7_partners wsX4_has := goodIn_r _ [8, 9, 79, 80, 81, 82, 83, 84, 85] (by decide +kernel) (by decide +kernel)
set_option maxRecDepth 20000 in
theorem gX7_partners_X4_has : GoodIn wsX7_partners (wsV RX7 111 RX4 yX4_has wsX4_has) := goodIn_app (goodIn_of _ (by decide +kernel)) ggX7_partners_X4_has
set_option maxRecDepth 20000 in
theorem ggX7_partners_X7_checkNumber : GoodIn wsX7_partners wsX7_checkNumber := goodIn_ca (goodIn_r _ [13, 14, 15] (by decide +kernel) (by decide +kernel)) (goodIn_sub (fun _ h => List.mem_cons_of_mem _ (List.mem_append_left _ (List.mem_append_right _ h))) (by decide +kernel))
set_option maxRecDepth 20000 in
theorem gX7_partners_X7_checkNumber : GoodIn wsX7_partners (va_wsS RX7 115 yX7_checkNumber wsX7_checkNumber) := goodIn_app (goodIn_of _ (by decide +kernel)) ggX7_partners_X7_checkNumber
set_option maxRecDepth 20000 in
theorem ggX7_partners_X6_faultOfMerge : GoodIn wsX7_partners wsX6_faultOfMerge := goodIn_ca (goodIn_r _ [20, 21, 22, 23, 24, 5, 6, 7, 8, 9, 25, 26, 27, 28, 29, 30, 31, 32, 33, 34, 35, 36, 37, 38, 39, 40, 12, 41, 42, 43, 44, 19, 45, 46, 47, 48, 49, 50, 51, 52, 53, 54, 55, 56, 57, 58, 59, 60, 61, 62, 63, 64, 65, 74, 75, 76, 77, 78, 79, 80, 81, 82, 83, 84, 85, 86, 87, 88, 89, 90, 91] (by decide +kernel) (by decide +kernel)) (goodIn_sub (fun _ h => List.mem_cons_of_mem _ (List.mem_append_right _ h)) (by decide +kernel))
set_option maxRecDepth 20000 in
theorem gX7_partners_X6_faultOfMerge : GoodIn wsX7_partners (wsV RX7 105 RX6 yX6_faultOfMerge wsX6_faultOfMerge) := goodIn_app (goodIn_of _ (by decide +kernel)) ggX7_partners_X6_faultOfMerge
theorem dX7_partners_0 : decode cX7_partners 0 = .ok (.aload_n 0, 1) := by decide +kernel
theorem dX7_partners_1 : decode cX7_partners 1 = .ok (.getfield 10, 3) := by decide +kernel
theorem dX7_partners_4 : decode cX7_partners 4 = .ok (.getfield 47, 3) := by decide +kernel
theorem dX7_partners_7 : decode cX7_partners 7 = .ok (.iload_n 1, 1) := by decide +kernel
theorem dX7_partners_8 : decode cX7_partners 8 = .ok (.invokevirtual 111, 3) := by decide +kernel
theorem dX7_partners_11 : decode cX7_partners 11 = .ok (.invokestatic 115, 3) := by decide +kernel
theorem dX7_partners_14 : decode cX7_partners 14 = .ok (.iconst 0, 1) := by decide +kernel
theorem dX7_partners_15 : decode cX7_partners 15 = .ok (.istore_n 2, 1) := by decide +kernel
theorem dX7_partners_16 : decode cX7_partners 16 = .ok (.iconst 0, 1) := by decide +kernel
theorem dX7_partners_17 : decode cX7_partners 17 = .ok (.istore_n 3, 1) := by decide +kernel
theorem dX7_partners_18 : decode cX7_partners 18 = .ok (.iload_n 3, 1) := by decide +kernel
theorem dX7_partners_19 : decode cX7_partners 19 = .ok (.aload_n 0, 1) := by decide +kernel
theorem dX7_partners_20 : decode cX7_partners 20 = .ok (.getfield 10, 3) := by decide +kernel
theorem dX7_partners_23 : decode cX7_partners 23 = .ok (.getfield 47, 3) := by decide +kernel
theorem dX7_partners_26 : decode cX7_partners 26 = .ok (.getfield 51, 3) := by decide +kernel
theorem dX7_partners_29 : decode cX7_partners 29 = .ok (.if_icmp .ge 27, 3) := by decide +kernel
theorem dX7_partners_32 : decode cX7_partners 32 = .ok (.aload_n 0, 1) := by decide +kernel
theorem dX7_partners_33 : decode cX7_partners 33 = .ok (.getfield 10, 3) := by decide +kernel
theorem dX7_partners_36 : decode cX7_partners 36 = .ok (.iload_n 1, 1) := by decide +kernel
theorem dX7_partners_37 : decode cX7_partners 37 = .ok (.iload_n 3, 1) := by decide +kernel
theorem dX7_partners_38 : decode cX7_partners 38 = .ok (.invokevirtual 105, 3) := by decide +kernel
theorem dX7_partners_41 : decode cX7_partners 41 = .ok (.ifCond .ne 9, 3) := by decide +kernel
theorem dX7_partners_44 : decode cX7_partners 44 = .ok (.iload_n 2, 1) := by decide +kernel
theorem dX7_partners_45 : decode cX7_partners 45 = .ok (.iconst 1, 1) := by decide +kernel
theorem dX7_partners_46 : decode cX7_partners 46 = .ok (.iload_n 3, 1) := by decide +kernel
theorem dX7_partners_47 : decode cX7_partners 47 = .ok (.ishl, 1) := by decide +kernel
theorem dX7_partners_48 : decode cX7_partners 48 = .ok (.ior, 1) := by decide +kernel
theorem dX7_partners_49 : decode cX7_partners 49 = .ok (.istore_n 2, 1) := by decide +kernel
theorem dX7_partners_50 : decode cX7_partners 50 = .ok (.iinc 3 1, 3) := by decide +kernel
theorem dX7_partners_53 : decode cX7_partners 53 = .ok (.goto (-35), 3) := by decide +kernel
theorem dX7_partners_56 : decode cX7_partners 56 = .ok (.iload_n 2, 1) := by decide +kernel
theorem dX7_partners_57 : decode cX7_partners 57 = .ok (.ireturn, 1) := by decide +kernel
set_option maxRecDepth 20000 in
theorem ggX7_reason_X7_checkAnswer : GoodIn wsX7_reason wsX7_checkAnswer := goodIn_ca (goodIn_r _ [5, 6, 7] (by decide +kernel) (by decide +kernel)) (goodIn_sub (fun _ h => List.mem_cons_of_mem _ (List.mem_append_right _ h)) (by decide +kernel))
set_option maxRecDepth 20000 in
theorem gX7_reason_X7_checkAnswer : GoodIn wsX7_reason (va_wsS RX7 177 yX7_checkAnswer wsX7_checkAnswer) := goodIn_app (goodIn_of _ (by decide +kernel)) ggX7_reason_X7_checkAnswer
theorem dX7_reason_0 : decode cX7_reason 0 = .ok (.aload_n 0, 1) := by decide +kernel
theorem dX7_reason_1 : decode cX7_reason 1 = .ok (.getfield 40, 3) := by decide +kernel
theorem dX7_reason_4 : decode cX7_reason 4 = .ok (.iconst (-1), 1) := by decide +kernel
theorem dX7_reason_5 : decode cX7_reason 5 = .ok (.if_icmp .eq 7, 3) := by decide +kernel
theorem dX7_reason_8 : decode cX7_reason 8 = .ok (.iconst 1, 1) := by decide +kernel
theorem dX7_reason_9 : decode cX7_reason 9 = .ok (.goto 4, 3) := by decide +kernel
theorem dX7_reason_12 : decode cX7_reason 12 = .ok (.iconst 0, 1) := by decide +kernel
theorem dX7_reason_13 : decode cX7_reason 13 = .ok (.invokestatic 177, 3) := by decide +kernel
theorem dX7_reason_16 : decode cX7_reason 16 = .ok (.aload_n 0, 1) := by decide +kernel
theorem dX7_reason_17 : decode cX7_reason 17 = .ok (.getfield 40, 3) := by decide +kernel
theorem dX7_reason_20 : decode cX7_reason 20 = .ok (.ireturn, 1) := by decide +kernel
set_option maxRecDepth 20000 in
theorem ggX7_deed_X6_faultOfDeed : GoodIn wsX7_deed wsX6_faultOfDeed := goodIn_ca (goodIn_r _ [10, 11, 12, 13, 14, 15, 16, 17, 18, 19, 20, 21, 22, 23, 24, 25, 26, 27, 28, 29, 30, 31, 32, 33, 147, 148, 149, 150, 151, 152, 153, 154, 155, 156, 157, 158, 159, 160, 161, 162, 163, 164] (by decide +kernel) (by decide +kernel)) (goodIn_sub (fun _ h => List.mem_cons_of_mem _ (List.mem_append_left _ (List.mem_append_left _ (List.mem_append_left _ (List.mem_append_left _ (List.mem_append_right _ h)))))) (by decide +kernel))
set_option maxRecDepth 20000 in
theorem gX7_deed_X6_faultOfDeed : GoodIn wsX7_deed (wsV RX7 180 RX6 yX6_faultOfDeed wsX6_faultOfDeed) := goodIn_app (goodIn_of _ (by decide +kernel)) ggX7_deed_X6_faultOfDeed
set_option maxRecDepth 20000 in
theorem ggX7_deed_X7_raise : GoodIn wsX7_deed wsX7_raise := goodIn_ca (goodIn_ca (goodIn_ca (goodIn_ca (goodIn_r _ [36, 37, 38, 39, 40, 23, 41, 42, 43, 44, 45, 46, 47, 48, 49, 50, 51, 52, 53, 54, 55, 56, 25, 26, 27] (by decide +kernel) (by decide +kernel)) (goodIn_sub (fun _ h => List.mem_cons_of_mem _ (List.mem_append_left _ (List.mem_append_left _ (List.mem_append_left _ (List.mem_append_right _ h))))) (by decide +kernel))) (goodIn_sub (fun _ h => List.mem_cons_of_mem _ (List.mem_append_left _ (List.mem_append_left _ (List.mem_append_right _ h)))) (by decide +kernel))) (goodIn_sub (fun _ h => List.mem_cons_of_mem _ (List.mem_append_left _ (List.mem_append_right _ h))) (by decide +kernel))) (goodIn_sub (fun _ h => List.mem_cons_of_mem _ (List.mem_append_right _ h)) (by decide +kernel))
set_option maxRecDepth 20000 in
theorem gX7_deed_X7_raise : GoodIn wsX7_deed (va_wsS RX7 66 yX7_raise wsX7_raise) := goodIn_app (goodIn_of _ (by decide +kernel)) ggX7_deed_X7_raise
set_option maxRecDepth 20000 in
theorem ggX7_deed_X2_remember : GoodIn wsX7_deed wsX2_remember := goodIn_r _ [61, 62, 63, 64, 65, 66, 67, 68, 69, 70, 71, 9, 72, 13, 11, 14, 73, 74, 75, 76, 77, 19, 78, 21, 79, 80, 81, 82, 83, 84, 32, 85, 86, 87, 88, 89, 90, 91, 92, 93, 94, 95, 96, 97, 98, 99, 100, 101, 102, 103, 104, 105, 106, 107, 108, 109, 110, 111, 112, 113, 114, 115, 116, 117, 118, 119, 120, 121, 122, 165, 166, 167, 147, 148, 149, 150, 151, 152, 153, 154, 155, 156, 157, 158, 159, 160, 161, 162, 163, 164, 168, 169, 170, 171, 172, 173, 174, 175, 176, 177, 178, 179] (by decide +kernel) (by decide +kernel)
set_option maxRecDepth 20000 in
theorem gX7_deed_X2_remember : GoodIn wsX7_deed (wsV RX7 70 RX2 yX2_remember wsX2_remember) := goodIn_app (goodIn_of _ (by decide +kernel)) ggX7_deed_X2_remember
set_option maxRecDepth 20000 in
theorem ggX7_deed_X0_record : GoodIn wsX7_deed wsX0_record := goodIn_ca (goodIn_r _ [126, 93, 94, 96, 97, 98, 127, 128, 129, 91, 130, 159, 160, 161, 162, 163, 164] (by decide +kernel) (by decide +kernel)) (goodIn_sub (fun _ h => List.mem_cons_of_mem _ (List.mem_append_left _ (List.mem_append_left _ (List.mem_append_left _ (List.mem_append_left _ (List.mem_append_right _ h)))))) (by decide +kernel))
set_option maxRecDepth 20000 in
theorem gX7_deed_X0_record : GoodIn wsX7_deed (wsV RX7 183 RX0 yX0_record wsX0_record) := goodIn_app (goodIn_of _ (by decide +kernel)) ggX7_deed_X0_record
set_option maxRecDepth 20000 in
theorem ggX7_deed_X0_isGood : GoodIn wsX7_deed wsX0_isGood := goodIn_ca (goodIn_r _ [134, 93, 94, 96, 135, 136, 137, 91, 138, 97, 159, 160, 161, 162, 163, 164] (by decide +kernel) (by decide +kernel)) (goodIn_sub (fun _ h => List.mem_cons_of_mem _ (List.mem_append_left _ (List.mem_append_left _ (List.mem_append_left _ (List.mem_append_left _ (List.mem_append_right _ h)))))) (by decide +kernel))
set_option maxRecDepth 20000 in
theorem gX7_deed_X0_isGood : GoodIn wsX7_deed (wsV RX7 186 RX0 yX0_isGood wsX0_isGood) := goodIn_app (goodIn_of _ (by decide +kernel)) ggX7_deed_X0_isGood
theorem dX7_deed_0 : decode cX7_deed 0 = .ok (.aload_n 0, 1) := by decide +kernel
theorem dX7_deed_1 : decode cX7_deed 1 = .ok (.getfield 10, 3) := by decide +kernel
theorem dX7_deed_4 : decode cX7_deed 4 = .ok (.iload_n 1, 1) := by decide +kernel
theorem dX7_deed_5 : decode cX7_deed 5 = .ok (.iload_n 2, 1) := by decide +kernel
theorem dX7_deed_6 : decode cX7_deed 6 = .ok (.iload_n 3, 1) := by decide +kernel
theorem dX7_deed_7 : decode cX7_deed 7 = .ok (.iload 4, 2) := by decide +kernel
theorem dX7_deed_9 : decode cX7_deed 9 = .ok (.invokevirtual 180, 3) := by decide +kernel
theorem dX7_deed_12 : decode cX7_deed 12 = .ok (.invokestatic 66, 3) := by decide +kernel
theorem dX7_deed_15 : decode cX7_deed 15 = .ok (.aload_n 0, 1) := by decide +kernel
theorem dX7_deed_16 : decode cX7_deed 16 = .ok (.getfield 25, 3) := by decide +kernel
theorem dX7_deed_19 : decode cX7_deed 19 = .ok (.aload_n 0, 1) := by decide +kernel
theorem dX7_deed_20 : decode cX7_deed 20 = .ok (.getfield 10, 3) := by decide +kernel
theorem dX7_deed_23 : decode cX7_deed 23 = .ok (.invokevirtual 70, 3) := by decide +kernel
theorem dX7_deed_26 : decode cX7_deed 26 = .ok (.aload_n 0, 1) := by decide +kernel
theorem dX7_deed_27 : decode cX7_deed 27 = .ok (.getfield 10, 3) := by decide +kernel
theorem dX7_deed_30 : decode cX7_deed 30 = .ok (.getfield 137, 3) := by decide +kernel
theorem dX7_deed_33 : decode cX7_deed 33 = .ok (.iload_n 1, 1) := by decide +kernel
theorem dX7_deed_34 : decode cX7_deed 34 = .ok (.iload_n 2, 1) := by decide +kernel
theorem dX7_deed_35 : decode cX7_deed 35 = .ok (.iload_n 3, 1) := by decide +kernel
theorem dX7_deed_36 : decode cX7_deed 36 = .ok (.iload 4, 2) := by decide +kernel
theorem dX7_deed_38 : decode cX7_deed 38 = .ok (.invokevirtual 183, 3) := by decide +kernel
theorem dX7_deed_41 : decode cX7_deed 41 = .ok (.istore 5, 2) := by decide +kernel
theorem dX7_deed_43 : decode cX7_deed 43 = .ok (.aload_n 0, 1) := by decide +kernel
theorem dX7_deed_44 : decode cX7_deed 44 = .ok (.getfield 10, 3) := by decide +kernel
theorem dX7_deed_47 : decode cX7_deed 47 = .ok (.getfield 137, 3) := by decide +kernel
theorem dX7_deed_50 : decode cX7_deed 50 = .ok (.iload 5, 2) := by decide +kernel
theorem dX7_deed_52 : decode cX7_deed 52 = .ok (.aload_n 0, 1) := by decide +kernel
theorem dX7_deed_53 : decode cX7_deed 53 = .ok (.getfield 10, 3) := by decide +kernel
theorem dX7_deed_56 : decode cX7_deed 56 = .ok (.getfield 47, 3) := by decide +kernel
theorem dX7_deed_59 : decode cX7_deed 59 = .ok (.getfield 129, 3) := by decide +kernel
theorem dX7_deed_62 : decode cX7_deed 62 = .ok (.iload_n 1, 1) := by decide +kernel
theorem dX7_deed_63 : decode cX7_deed 63 = .ok (.iaload, 1) := by decide +kernel
theorem dX7_deed_64 : decode cX7_deed 64 = .ok (.invokevirtual 186, 3) := by decide +kernel
theorem dX7_deed_67 : decode cX7_deed 67 = .ok (.ifCond .eq 7, 3) := by decide +kernel
theorem dX7_deed_70 : decode cX7_deed 70 = .ok (.iconst 1, 1) := by decide +kernel
theorem dX7_deed_71 : decode cX7_deed 71 = .ok (.goto 4, 3) := by decide +kernel
theorem dX7_deed_74 : decode cX7_deed 74 = .ok (.iconst 0, 1) := by decide +kernel
theorem dX7_deed_75 : decode cX7_deed 75 = .ok (.ireturn, 1) := by decide +kernel
set_option maxRecDepth 20000 in
theorem ggX7_deedOf_X4_has : GoodIn wsX7_deedOf wsX4_has := goodIn_r _ [12, 13, 64, 65, 66, 67, 68, 69, 70] (by decide +kernel) (by decide +kernel)
set_option maxRecDepth 20000 in
theorem gX7_deedOf_X4_has : GoodIn wsX7_deedOf (wsV RX7 111 RX4 yX4_has wsX4_has) := goodIn_app (goodIn_of _ (by decide +kernel)) ggX7_deedOf_X4_has
set_option maxRecDepth 20000 in
theorem ggX7_deedOf_X7_checkNumber : GoodIn wsX7_deedOf wsX7_checkNumber := goodIn_ca (goodIn_r _ [17, 18, 19] (by decide +kernel) (by decide +kernel)) (goodIn_sub (fun _ h => List.mem_cons_of_mem _ (List.mem_append_left _ (List.mem_append_right _ h))) (by decide +kernel))
set_option maxRecDepth 20000 in
theorem gX7_deedOf_X7_checkNumber : GoodIn wsX7_deedOf (va_wsS RX7 115 yX7_checkNumber wsX7_checkNumber) := goodIn_app (goodIn_of _ (by decide +kernel)) ggX7_deedOf_X7_checkNumber
set_option maxRecDepth 20000 in
theorem ggX7_deedOf_X0_rowAt : GoodIn wsX7_deedOf wsX0_rowAt := goodIn_ca (goodIn_r _ [24, 25, 26, 58, 59, 60, 61, 62, 63] (by decide +kernel) (by decide +kernel)) (goodIn_sub (fun _ h => List.mem_cons_of_mem _ (List.mem_append_left _ (List.mem_append_left _ (List.mem_append_right _ h)))) (by decide +kernel))
set_option maxRecDepth 20000 in
theorem gX7_deedOf_X0_rowAt : GoodIn wsX7_deedOf (wsV RX7 189 RX0 yX0_rowAt wsX0_rowAt) := goodIn_app (goodIn_of _ (by decide +kernel)) ggX7_deedOf_X0_rowAt
set_option maxRecDepth 20000 in
theorem ggX7_deedOf_X7_isFrom : GoodIn wsX7_deedOf wsX7_isFrom := goodIn_r _ [29] (by decide +kernel) (by decide +kernel)
set_option maxRecDepth 20000 in
theorem gX7_deedOf_X7_isFrom : GoodIn wsX7_deedOf (va_wsS RX7 119 yX7_isFrom wsX7_isFrom) := goodIn_app (goodIn_of _ (by decide +kernel)) ggX7_deedOf_X7_isFrom
set_option maxRecDepth 20000 in
theorem ggX7_deedOf_X7_checkArgument : GoodIn wsX7_deedOf wsX7_checkArgument := goodIn_ca (goodIn_r _ [32, 33, 34] (by decide +kernel) (by decide +kernel)) (goodIn_sub (fun _ h => List.mem_cons_of_mem _ (List.mem_append_right _ h)) (by decide +kernel))
set_option maxRecDepth 20000 in
theorem gX7_deedOf_X7_checkArgument : GoodIn wsX7_deedOf (va_wsS RX7 123 yX7_checkArgument wsX7_checkArgument) := goodIn_app (goodIn_of _ (by decide +kernel)) ggX7_deedOf_X7_checkArgument
set_option maxRecDepth 20000 in
theorem ggX7_deedOf_X0_isGood : GoodIn wsX7_deedOf wsX0_isGood := goodIn_ca (goodIn_r _ [38, 25, 26, 39, 40, 41, 42, 23, 43, 44, 58, 59, 60, 61, 62, 63] (by decide +kernel) (by decide +kernel)) (goodIn_sub (fun _ h => List.mem_cons_of_mem _ (List.mem_append_left _ (List.mem_append_left _ (List.mem_append_right _ h)))) (by decide +kernel))
set_option maxRecDepth 20000 in
theorem gX7_deedOf_X0_isGood : GoodIn wsX7_deedOf (wsV RX7 186 RX0 yX0_isGood wsX0_isGood) := goodIn_app (goodIn_of _ (by decide +kernel)) ggX7_deedOf_X0_isGood
theorem dX7_deedOf_0 : decode cX7_deedOf 0 = .ok (.aload_n 0, 1) := by decide +kernel
theorem dX7_deedOf_1 : decode cX7_deedOf 1 = .ok (.getfield 10, 3) := by decide +kernel
theorem dX7_deedOf_4 : decode cX7_deedOf 4 = .ok (.getfield 47, 3) := by decide +kernel
theorem dX7_deedOf_7 : decode cX7_deedOf 7 = .ok (.iload_n 1, 1) := by decide +kernel
theorem dX7_deedOf_8 : decode cX7_deedOf 8 = .ok (.invokevirtual 111, 3) := by decide +kernel
theorem dX7_deedOf_11 : decode cX7_deedOf 11 = .ok (.invokestatic 115, 3) := by decide +kernel
theorem dX7_deedOf_14 : decode cX7_deedOf 14 = .ok (.aload_n 0, 1) := by decide +kernel
theorem dX7_deedOf_15 : decode cX7_deedOf 15 = .ok (.getfield 10, 3) := by decide +kernel
theorem dX7_deedOf_18 : decode cX7_deedOf 18 = .ok (.getfield 137, 3) := by decide +kernel
theorem dX7_deedOf_21 : decode cX7_deedOf 21 = .ok (.iload_n 1, 1) := by decide +kernel
theorem dX7_deedOf_22 : decode cX7_deedOf 22 = .ok (.iload_n 2, 1) := by decide +kernel
theorem dX7_deedOf_23 : decode cX7_deedOf 23 = .ok (.invokevirtual 189, 3) := by decide +kernel
theorem dX7_deedOf_26 : decode cX7_deedOf 26 = .ok (.istore 4, 2) := by decide +kernel
theorem dX7_deedOf_28 : decode cX7_deedOf 28 = .ok (.iload 4, 2) := by decide +kernel
theorem dX7_deedOf_30 : decode cX7_deedOf 30 = .ok (.iconst (-1), 1) := by decide +kernel
theorem dX7_deedOf_31 : decode cX7_deedOf 31 = .ok (.if_icmp .eq 7, 3) := by decide +kernel
theorem dX7_deedOf_34 : decode cX7_deedOf 34 = .ok (.iconst 1, 1) := by decide +kernel
theorem dX7_deedOf_35 : decode cX7_deedOf 35 = .ok (.goto 4, 3) := by decide +kernel
theorem dX7_deedOf_38 : decode cX7_deedOf 38 = .ok (.iconst 0, 1) := by decide +kernel
theorem dX7_deedOf_39 : decode cX7_deedOf 39 = .ok (.invokestatic 115, 3) := by decide +kernel
theorem dX7_deedOf_42 : decode cX7_deedOf 42 = .ok (.iload_n 3, 1) := by decide +kernel
theorem dX7_deedOf_43 : decode cX7_deedOf 43 = .ok (.iconst 0, 1) := by decide +kernel
theorem dX7_deedOf_44 : decode cX7_deedOf 44 = .ok (.iconst 3, 1) := by decide +kernel
theorem dX7_deedOf_45 : decode cX7_deedOf 45 = .ok (.invokestatic 119, 3) := by decide +kernel
theorem dX7_deedOf_48 : decode cX7_deedOf 48 = .ok (.invokestatic 123, 3) := by decide +kernel
theorem dX7_deedOf_51 : decode cX7_deedOf 51 = .ok (.iload_n 3, 1) := by decide +kernel
theorem dX7_deedOf_52 : decode cX7_deedOf 52 = .ok (.tableswitch 70 0 2 #[28, 42, 56], 28) := by decide +kernel
theorem dX7_deedOf_80 : decode cX7_deedOf 80 = .ok (.aload_n 0, 1) := by decide +kernel
theorem dX7_deedOf_81 : decode cX7_deedOf 81 = .ok (.getfield 10, 3) := by decide +kernel
theorem dX7_deedOf_84 : decode cX7_deedOf 84 = .ok (.getfield 137, 3) := by decide +kernel
theorem dX7_deedOf_87 : decode cX7_deedOf 87 = .ok (.getfield 192, 3) := by decide +kernel
theorem dX7_deedOf_90 : decode cX7_deedOf 90 = .ok (.iload 4, 2) := by decide +kernel
theorem dX7_deedOf_92 : decode cX7_deedOf 92 = .ok (.iaload, 1) := by decide +kernel
theorem dX7_deedOf_93 : decode cX7_deedOf 93 = .ok (.ireturn, 1) := by decide +kernel
theorem dX7_deedOf_94 : decode cX7_deedOf 94 = .ok (.aload_n 0, 1) := by decide +kernel
theorem dX7_deedOf_95 : decode cX7_deedOf 95 = .ok (.getfield 10, 3) := by decide +kernel
theorem dX7_deedOf_98 : decode cX7_deedOf 98 = .ok (.getfield 137, 3) := by decide +kernel
theorem dX7_deedOf_101 : decode cX7_deedOf 101 = .ok (.getfield 195, 3) := by decide +kernel
theorem dX7_deedOf_104 : decode cX7_deedOf 104 = .ok (.iload 4, 2) := by decide +kernel
theorem dX7_deedOf_106 : decode cX7_deedOf 106 = .ok (.iaload, 1) := by decide +kernel
theorem dX7_deedOf_107 : decode cX7_deedOf 107 = .ok (.ireturn, 1) := by decide +kernel
theorem dX7_deedOf_108 : decode cX7_deedOf 108 = .ok (.aload_n 0, 1) := by decide +kernel
theorem dX7_deedOf_109 : decode cX7_deedOf 109 = .ok (.getfield 10, 3) := by decide +kernel
theorem dX7_deedOf_112 : decode cX7_deedOf 112 = .ok (.getfield 137, 3) := by decide +kernel
theorem dX7_deedOf_115 : decode cX7_deedOf 115 = .ok (.getfield 198, 3) := by decide +kernel
theorem dX7_deedOf_118 : decode cX7_deedOf 118 = .ok (.iload 4, 2) := by decide +kernel
theorem dX7_deedOf_120 : decode cX7_deedOf 120 = .ok (.iaload, 1) := by decide +kernel
theorem dX7_deedOf_121 : decode cX7_deedOf 121 = .ok (.ireturn, 1) := by decide +kernel
theorem dX7_deedOf_122 : decode cX7_deedOf 122 = .ok (.aload_n 0, 1) := by decide +kernel
theorem dX7_deedOf_123 : decode cX7_deedOf 123 = .ok (.getfield 10, 3) := by decide +kernel
theorem dX7_deedOf_126 : decode cX7_deedOf 126 = .ok (.getfield 137, 3) := by decide +kernel
theorem dX7_deedOf_129 : decode cX7_deedOf 129 = .ok (.iload 4, 2) := by decide +kernel
theorem dX7_deedOf_131 : decode cX7_deedOf 131 = .ok (.aload_n 0, 1) := by decide +kernel
theorem dX7_deedOf_132 : decode cX7_deedOf 132 = .ok (.getfield 10, 3) := by decide +kernel
theorem dX7_deedOf_135 : decode cX7_deedOf 135 = .ok (.getfield 47, 3) := by decide +kernel
theorem dX7_deedOf_138 : decode cX7_deedOf 138 = .ok (.getfield 129, 3) := by decide +kernel
theorem dX7_deedOf_141 : decode cX7_deedOf 141 = .ok (.iload_n 1, 1) := by decide +kernel
theorem dX7_deedOf_142 : decode cX7_deedOf 142 = .ok (.iaload, 1) := by decide +kernel
theorem dX7_deedOf_143 : decode cX7_deedOf 143 = .ok (.invokevirtual 186, 3) := by decide +kernel
theorem dX7_deedOf_146 : decode cX7_deedOf 146 = .ok (.ifCond .eq 7, 3) := by decide +kernel
theorem dX7_deedOf_149 : decode cX7_deedOf 149 = .ok (.iconst 1, 1) := by decide +kernel
theorem dX7_deedOf_150 : decode cX7_deedOf 150 = .ok (.goto 4, 3) := by decide +kernel
theorem dX7_deedOf_153 : decode cX7_deedOf 153 = .ok (.iconst 0, 1) := by decide +kernel
theorem dX7_deedOf_154 : decode cX7_deedOf 154 = .ok (.ireturn, 1) := by decide +kernel
set_option maxRecDepth 20000 in
theorem ggX7_holder_X4_has : GoodIn wsX7_holder wsX4_has := goodIn_r _ [7, 8, 71, 72, 73, 74, 75, 76, 77] (by decide +kernel) (by decide +kernel)
set_option maxRecDepth 20000 in
theorem gX7_holder_X4_has : GoodIn wsX7_holder (wsV RX7 111 RX4 yX4_has wsX4_has) := goodIn_app (goodIn_of _ (by decide +kernel)) ggX7_holder_X4_has
set_option maxRecDepth 20000 in
theorem ggX7_holder_X7_checkNumber : GoodIn wsX7_holder wsX7_checkNumber := goodIn_ca (goodIn_r _ [12, 13, 14] (by decide +kernel) (by decide +kernel)) (goodIn_sub (fun _ h => List.mem_cons_of_mem _ (List.mem_append_left _ (List.mem_append_left _ (List.mem_append_right _ h)))) (by decide +kernel))
set_option maxRecDepth 20000 in
theorem gX7_holder_X7_checkNumber : GoodIn wsX7_holder (va_wsS RX7 115 yX7_checkNumber wsX7_checkNumber) := goodIn_app (goodIn_of _ (by decide +kernel)) ggX7_holder_X7_checkNumber
set_option maxRecDepth 20000 in
theorem ggX7_holder_X6_wasThere : GoodIn wsX7_holder wsX6_wasThere := goodIn_ca (goodIn_r _ [19, 20, 21, 22, 23, 24, 4, 5, 6, 7, 8, 25, 26, 27, 28, 29, 30, 31, 11, 32, 66, 67, 68, 69, 70, 71, 72, 73, 74, 75, 76, 77] (by decide +kernel) (by decide +kernel)) (goodIn_sub (fun _ h => List.mem_cons_of_mem _ (List.mem_append_left _ (List.mem_append_right _ h))) (by decide +kernel))
set_option maxRecDepth 20000 in
theorem gX7_holder_X6_wasThere : GoodIn wsX7_holder (wsV RX7 201 RX6 yX6_wasThere wsX6_wasThere) := goodIn_app (goodIn_of _ (by decide +kernel)) ggX7_holder_X6_wasThere
set_option maxRecDepth 20000 in
theorem ggX7_holder_X7_checkAnswer : GoodIn wsX7_holder wsX7_checkAnswer := goodIn_ca (goodIn_r _ [35, 36, 37] (by decide +kernel) (by decide +kernel)) (goodIn_sub (fun _ h => List.mem_cons_of_mem _ (List.mem_append_right _ h)) (by decide +kernel))
set_option maxRecDepth 20000 in
theorem gX7_holder_X7_checkAnswer : GoodIn wsX7_holder (va_wsS RX7 177 yX7_checkAnswer wsX7_checkAnswer) := goodIn_app (goodIn_of _ (by decide +kernel)) ggX7_holder_X7_checkAnswer
set_option maxRecDepth 20000 in
theorem ggX7_holder_X6_holderAt : GoodIn wsX7_holder wsX6_holderAt := goodIn_ca (goodIn_r _ [41, 20, 42, 43, 24, 4, 5, 6, 7, 8, 44, 45, 46, 47, 48, 49, 50, 51, 52, 53, 54, 55, 56, 57, 66, 67, 68, 69, 70, 71, 72, 73, 74, 75, 76, 77, 78, 79, 80, 81, 82, 83] (by decide +kernel) (by decide +kernel)) (goodIn_sub (fun _ h => List.mem_cons_of_mem _ (List.mem_append_left _ (List.mem_append_right _ h))) (by decide +kernel))
set_option maxRecDepth 20000 in
theorem gX7_holder_X6_holderAt : GoodIn wsX7_holder (wsV RX7 204 RX6 yX6_holderAt wsX6_holderAt) := goodIn_app (goodIn_of _ (by decide +kernel)) ggX7_holder_X6_holderAt
theorem dX7_holder_0 : decode cX7_holder 0 = .ok (.aload_n 0, 1) := by decide +kernel
theorem dX7_holder_1 : decode cX7_holder 1 = .ok (.getfield 10, 3) := by decide +kernel
theorem dX7_holder_4 : decode cX7_holder 4 = .ok (.getfield 47, 3) := by decide +kernel
theorem dX7_holder_7 : decode cX7_holder 7 = .ok (.iload_n 1, 1) := by decide +kernel
theorem dX7_holder_8 : decode cX7_holder 8 = .ok (.invokevirtual 111, 3) := by decide +kernel
theorem dX7_holder_11 : decode cX7_holder 11 = .ok (.invokestatic 115, 3) := by decide +kernel
theorem dX7_holder_14 : decode cX7_holder 14 = .ok (.aload_n 0, 1) := by decide +kernel
theorem dX7_holder_15 : decode cX7_holder 15 = .ok (.getfield 10, 3) := by decide +kernel
theorem dX7_holder_18 : decode cX7_holder 18 = .ok (.iload_n 1, 1) := by decide +kernel
theorem dX7_holder_19 : decode cX7_holder 19 = .ok (.iload_n 2, 1) := by decide +kernel
theorem dX7_holder_20 : decode cX7_holder 20 = .ok (.invokevirtual 201, 3) := by decide +kernel
theorem dX7_holder_23 : decode cX7_holder 23 = .ok (.invokestatic 177, 3) := by decide +kernel
theorem dX7_holder_26 : decode cX7_holder 26 = .ok (.aload_n 0, 1) := by decide +kernel
theorem dX7_holder_27 : decode cX7_holder 27 = .ok (.getfield 10, 3) := by decide +kernel
theorem dX7_holder_30 : decode cX7_holder 30 = .ok (.iload_n 1, 1) := by decide +kernel
theorem dX7_holder_31 : decode cX7_holder 31 = .ok (.iload_n 2, 1) := by decide +kernel
theorem dX7_holder_32 : decode cX7_holder 32 = .ok (.invokevirtual 204, 3) := by decide +kernel
theorem dX7_holder_35 : decode cX7_holder 35 = .ok (.ireturn, 1) := by decide +kernel
set_option maxRecDepth 20000 in
theorem ggX7_holdings_X7_isPerson : GoodIn wsX7_holdings wsX7_isPerson := goodIn_r _ [5, 6, 7, 4, 8] (by decide +kernel) (by decide +kernel)
set_option maxRecDepth 20000 in
theorem gX7_holdings_X7_isPerson : GoodIn wsX7_holdings (va_wsS RX7 207 yX7_isPerson wsX7_isPerson) := goodIn_app (goodIn_of _ (by decide +kernel)) ggX7_holdings_X7_isPerson
set_option maxRecDepth 20000 in
theorem ggX7_holdings_X7_checkNumber : GoodIn wsX7_holdings wsX7_checkNumber := goodIn_ca (goodIn_r _ [11, 12, 13] (by decide +kernel) (by decide +kernel)) (goodIn_sub (fun _ h => List.mem_cons_of_mem _ (List.mem_append_left _ (List.mem_append_right _ h))) (by decide +kernel))
set_option maxRecDepth 20000 in
theorem gX7_holdings_X7_checkNumber : GoodIn wsX7_holdings (va_wsS RX7 115 yX7_checkNumber wsX7_checkNumber) := goodIn_app (goodIn_of _ (by decide +kernel)) ggX7_holdings_X7_checkNumber
set_option maxRecDepth 20000 in
theorem ggX7_holdings_X6_presentOf : GoodIn wsX7_holdings wsX6_presentOf := goodIn_ca (goodIn_r _ [18, 19, 20, 21, 22, 23, 24, 25, 26, 27, 28, 29, 30, 31, 32, 33, 34, 17, 35, 36, 37, 38, 39, 40, 41, 42, 43, 44, 45, 46, 47, 48, 49, 50, 51, 52, 53, 54, 55, 56, 65, 66, 67, 68, 69, 70, 71, 72, 73, 74, 75, 76, 77, 78, 79, 80, 81, 82] (by decide +kernel) (by decide +kernel)) (goodIn_sub (fun _ h => List.mem_cons_of_mem _ (List.mem_append_right _ h)) (by decide +kernel))
set_option maxRecDepth 20000 in
theorem gX7_holdings_X6_presentOf : GoodIn wsX7_holdings (wsV RX7 210 RX6 yX6_presentOf wsX6_presentOf) := goodIn_app (goodIn_of _ (by decide +kernel)) ggX7_holdings_X6_presentOf
theorem dX7_holdings_0 : decode cX7_holdings 0 = .ok (.iload_n 1, 1) := by decide +kernel
theorem dX7_holdings_1 : decode cX7_holdings 1 = .ok (.invokestatic 207, 3) := by decide +kernel
theorem dX7_holdings_4 : decode cX7_holdings 4 = .ok (.invokestatic 115, 3) := by decide +kernel
theorem dX7_holdings_7 : decode cX7_holdings 7 = .ok (.aload_n 0, 1) := by decide +kernel
theorem dX7_holdings_8 : decode cX7_holdings 8 = .ok (.getfield 10, 3) := by decide +kernel
theorem dX7_holdings_11 : decode cX7_holdings 11 = .ok (.iload_n 1, 1) := by decide +kernel
theorem dX7_holdings_12 : decode cX7_holdings 12 = .ok (.invokevirtual 210, 3) := by decide +kernel
theorem dX7_holdings_15 : decode cX7_holdings 15 = .ok (.ireturn, 1) := by decide +kernel
set_option maxRecDepth 20000 in
theorem ggX7_holders_X4_has : GoodIn wsX7_holders wsX4_has := goodIn_r _ [9, 10, 39, 40, 41, 42, 43, 44, 45] (by decide +kernel) (by decide +kernel)
set_option maxRecDepth 20000 in
theorem gX7_holders_X4_has : GoodIn wsX7_holders (wsV RX7 111 RX4 yX4_has wsX4_has) := goodIn_app (goodIn_of _ (by decide +kernel)) ggX7_holders_X4_has
set_option maxRecDepth 20000 in
theorem ggX7_holders_X7_checkNumber : GoodIn wsX7_holders wsX7_checkNumber := goodIn_ca (goodIn_r _ [14, 15, 16] (by decide +kernel) (by decide +kernel)) (goodIn_sub (fun _ h => List.mem_cons_of_mem _ (List.mem_append_right _ h)) (by decide +kernel))
set_option maxRecDepth 20000 in
theorem gX7_holders_X7_checkNumber : GoodIn wsX7_holders (va_wsS RX7 115 yX7_checkNumber wsX7_checkNumber) := goodIn_app (goodIn_of _ (by decide +kernel)) ggX7_holders_X7_checkNumber
set_option maxRecDepth 20000 in
theorem ggX7_holders_X0_everHolding : GoodIn wsX7_holders wsX0_everHolding := goodIn_ca (goodIn_r _ [21, 22, 23, 24, 25, 46, 47, 48, 49, 50, 51] (by decide +kernel) (by decide +kernel)) (goodIn_sub (fun _ h => List.mem_cons_of_mem _ (List.mem_append_left _ (List.mem_append_right _ h))) (by decide +kernel))
set_option maxRecDepth 20000 in
theorem gX7_holders_X0_everHolding : GoodIn wsX7_holders (wsV RX7 213 RX0 yX0_everHolding wsX0_everHolding) := goodIn_app (goodIn_of _ (by decide +kernel)) ggX7_holders_X0_everHolding
theorem dX7_holders_0 : decode cX7_holders 0 = .ok (.aload_n 0, 1) := by decide +kernel
theorem dX7_holders_1 : decode cX7_holders 1 = .ok (.getfield 10, 3) := by decide +kernel
theorem dX7_holders_4 : decode cX7_holders 4 = .ok (.getfield 47, 3) := by decide +kernel
theorem dX7_holders_7 : decode cX7_holders 7 = .ok (.iload_n 1, 1) := by decide +kernel
theorem dX7_holders_8 : decode cX7_holders 8 = .ok (.invokevirtual 111, 3) := by decide +kernel
theorem dX7_holders_11 : decode cX7_holders 11 = .ok (.invokestatic 115, 3) := by decide +kernel
theorem dX7_holders_14 : decode cX7_holders 14 = .ok (.aload_n 0, 1) := by decide +kernel
theorem dX7_holders_15 : decode cX7_holders 15 = .ok (.getfield 10, 3) := by decide +kernel
theorem dX7_holders_18 : decode cX7_holders 18 = .ok (.getfield 137, 3) := by decide +kernel
theorem dX7_holders_21 : decode cX7_holders 21 = .ok (.iload_n 1, 1) := by decide +kernel
theorem dX7_holders_22 : decode cX7_holders 22 = .ok (.aload_n 0, 1) := by decide +kernel
theorem dX7_holders_23 : decode cX7_holders 23 = .ok (.getfield 10, 3) := by decide +kernel
theorem dX7_holders_26 : decode cX7_holders 26 = .ok (.getfield 47, 3) := by decide +kernel
theorem dX7_holders_29 : decode cX7_holders 29 = .ok (.getfield 129, 3) := by decide +kernel
theorem dX7_holders_32 : decode cX7_holders 32 = .ok (.iload_n 1, 1) := by decide +kernel
theorem dX7_holders_33 : decode cX7_holders 33 = .ok (.iaload, 1) := by decide +kernel
theorem dX7_holders_34 : decode cX7_holders 34 = .ok (.invokevirtual 213, 3) := by decide +kernel
theorem dX7_holders_37 : decode cX7_holders 37 = .ok (.ireturn, 1) := by decide +kernel
set_option maxRecDepth 20000 in
theorem ggX7_needless_X4_has : GoodIn wsX7_needless wsX4_has := goodIn_r _ [9, 10, 57, 58, 59, 60, 61, 62, 63] (by decide +kernel) (by decide +kernel)
set_option maxRecDepth 20000 in
theorem gX7_needless_X4_has : GoodIn wsX7_needless (wsV RX7 111 RX4 yX4_has wsX4_has) := goodIn_app (goodIn_of _ (by decide +kernel)) ggX7_needless_X4_has
set_option maxRecDepth 20000 in
theorem ggX7_needless_X7_checkNumber : GoodIn wsX7_needless wsX7_checkNumber := goodIn_ca (goodIn_r _ [14, 15, 16] (by decide +kernel) (by decide +kernel)) (goodIn_sub (fun _ h => List.mem_cons_of_mem _ (List.mem_append_right _ h)) (by decide +kernel))
set_option maxRecDepth 20000 in
theorem gX7_needless_X7_checkNumber : GoodIn wsX7_needless (va_wsS RX7 115 yX7_checkNumber wsX7_checkNumber) := goodIn_app (goodIn_of _ (by decide +kernel)) ggX7_needless_X7_checkNumber
set_option maxRecDepth 20000 in
theorem ggX7_needless_X0_mostWithoutGap : GoodIn wsX7_needless wsX0_mostWithoutGap := goodIn_ca (goodIn_r _ [21, 22, 23, 24, 25, 26, 27, 28, 29, 30, 31, 13, 32, 33, 34, 35, 36, 37, 38, 20, 39, 64, 65, 66, 67, 68, 69] (by decide +kernel) (by decide +kernel)) (goodIn_sub (fun _ h => List.mem_cons_of_mem _ (List.mem_append_left _ (List.mem_append_right _ h))) (by decide +kernel))
set_option maxRecDepth 20000 in
theorem gX7_needless_X0_mostWithoutGap : GoodIn wsX7_needless (wsV RX7 216 RX0 yX0_mostWithoutGap wsX0_mostWithoutGap) := goodIn_app (goodIn_of _ (by decide +kernel)) ggX7_needless_X0_mostWithoutGap
set_option maxRecDepth 20000 in
theorem ggX7_needless_X0_countOf : GoodIn wsX7_needless wsX0_countOf := goodIn_ca (goodIn_r _ [43, 23, 26, 64, 65, 66, 67, 68, 69] (by decide +kernel) (by decide +kernel)) (goodIn_sub (fun _ h => List.mem_cons_of_mem _ (List.mem_append_left _ (List.mem_append_right _ h))) (by decide +kernel))
set_option maxRecDepth 20000 in
theorem gX7_needless_X0_countOf : GoodIn wsX7_needless (wsV RX7 141 RX0 yX0_countOf wsX0_countOf) := goodIn_app (goodIn_of _ (by decide +kernel)) ggX7_needless_X0_countOf
theorem dX7_needless_0 : decode cX7_needless 0 = .ok (.aload_n 0, 1) := by decide +kernel
theorem dX7_needless_1 : decode cX7_needless 1 = .ok (.getfield 10, 3) := by decide +kernel
theorem dX7_needless_4 : decode cX7_needless 4 = .ok (.getfield 47, 3) := by decide +kernel
theorem dX7_needless_7 : decode cX7_needless 7 = .ok (.iload_n 1, 1) := by decide +kernel
theorem dX7_needless_8 : decode cX7_needless 8 = .ok (.invokevirtual 111, 3) := by decide +kernel
theorem dX7_needless_11 : decode cX7_needless 11 = .ok (.invokestatic 115, 3) := by decide +kernel
theorem dX7_needless_14 : decode cX7_needless 14 = .ok (.aload_n 0, 1) := by decide +kernel
theorem dX7_needless_15 : decode cX7_needless 15 = .ok (.getfield 10, 3) := by decide +kernel
theorem dX7_needless_18 : decode cX7_needless 18 = .ok (.getfield 137, 3) := by decide +kernel
theorem dX7_needless_21 : decode cX7_needless 21 = .ok (.iload_n 1, 1) := by decide +kernel
theorem dX7_needless_22 : decode cX7_needless 22 = .ok (.aload_n 0, 1) := by decide +kernel
theorem dX7_needless_23 : decode cX7_needless 23 = .ok (.getfield 10, 3) := by decide +kernel
theorem dX7_needless_26 : decode cX7_needless 26 = .ok (.getfield 47, 3) := by decide +kernel
theorem dX7_needless_29 : decode cX7_needless 29 = .ok (.getfield 129, 3) := by decide +kernel
theorem dX7_needless_32 : decode cX7_needless 32 = .ok (.iload_n 1, 1) := by decide +kernel
theorem dX7_needless_33 : decode cX7_needless 33 = .ok (.iaload, 1) := by decide +kernel
theorem dX7_needless_34 : decode cX7_needless 34 = .ok (.invokevirtual 216, 3) := by decide +kernel
theorem dX7_needless_37 : decode cX7_needless 37 = .ok (.istore_n 2, 1) := by decide +kernel
theorem dX7_needless_38 : decode cX7_needless 38 = .ok (.aload_n 0, 1) := by decide +kernel
theorem dX7_needless_39 : decode cX7_needless 39 = .ok (.getfield 10, 3) := by decide +kernel
theorem dX7_needless_42 : decode cX7_needless 42 = .ok (.getfield 137, 3) := by decide +kernel
theorem dX7_needless_45 : decode cX7_needless 45 = .ok (.iload_n 1, 1) := by decide +kernel
theorem dX7_needless_46 : decode cX7_needless 46 = .ok (.invokevirtual 141, 3) := by decide +kernel
theorem dX7_needless_49 : decode cX7_needless 49 = .ok (.iload_n 2, 1) := by decide +kernel
theorem dX7_needless_50 : decode cX7_needless 50 = .ok (.isub, 1) := by decide +kernel
theorem dX7_needless_51 : decode cX7_needless 51 = .ok (.ireturn, 1) := by decide +kernel
set_option maxRecDepth 20000 in
theorem ggX7_addEasement_X6_faultOfEasement : GoodIn wsX7_addEasement wsX6_faultOfEasement := goodIn_ca (goodIn_r _ [9, 10, 11, 12, 13, 14, 15, 16, 17, 18, 19, 20, 21, 22, 23, 24, 25, 26, 27, 131, 132, 133, 134, 135, 136, 137, 138, 139, 140, 141, 142, 143, 144, 145, 146, 147, 148] (by decide +kernel) (by decide +kernel)) (goodIn_sub (fun _ h => List.mem_cons_of_mem _ (List.mem_append_left _ (List.mem_append_left _ (List.mem_append_left _ (List.mem_append_left _ (List.mem_append_right _ h)))))) (by decide +kernel))
set_option maxRecDepth 20000 in
theorem gX7_addEasement_X6_faultOfEasement : GoodIn wsX7_addEasement (wsV RX7 219 RX6 yX6_faultOfEasement wsX6_faultOfEasement) := goodIn_app (goodIn_of _ (by decide +kernel)) ggX7_addEasement_X6_faultOfEasement
set_option maxRecDepth 20000 in
theorem ggX7_addEasement_X7_raise : GoodIn wsX7_addEasement wsX7_raise := goodIn_ca (goodIn_ca (goodIn_ca (goodIn_ca (goodIn_r _ [30, 31, 32, 33, 34, 20, 35, 36, 37, 38, 39, 40, 41, 42, 43, 44, 45, 46, 47, 48, 49, 50, 51, 19, 21] (by decide +kernel) (by decide +kernel)) (goodIn_sub (fun _ h => List.mem_cons_of_mem _ (List.mem_append_left _ (List.mem_append_left _ (List.mem_append_left _ (List.mem_append_right _ h))))) (by decide +kernel))) (goodIn_sub (fun _ h => List.mem_cons_of_mem _ (List.mem_append_left _ (List.mem_append_left _ (List.mem_append_right _ h)))) (by decide +kernel))) (goodIn_sub (fun _ h => List.mem_cons_of_mem _ (List.mem_append_left _ (List.mem_append_right _ h))) (by decide +kernel))) (goodIn_sub (fun _ h => List.mem_cons_of_mem _ (List.mem_append_right _ h)) (by decide +kernel))
set_option maxRecDepth 20000 in
theorem gX7_addEasement_X7_raise : GoodIn wsX7_addEasement (va_wsS RX7 66 yX7_raise wsX7_raise) := goodIn_app (goodIn_of _ (by decide +kernel)) ggX7_addEasement_X7_raise
set_option maxRecDepth 20000 in
theorem ggX7_addEasement_X2_remember : GoodIn wsX7_addEasement wsX2_remember := goodIn_r _ [56, 57, 58, 59, 60, 61, 62, 63, 64, 65, 66, 8, 67, 68, 10, 69, 11, 70, 71, 72, 73, 16, 74, 18, 75, 76, 77, 78, 79, 80, 26, 81, 82, 83, 84, 85, 86, 87, 88, 89, 90, 91, 92, 93, 94, 95, 96, 97, 98, 99, 100, 101, 102, 103, 104, 105, 106, 107, 108, 109, 110, 111, 112, 113, 114, 115, 116, 117, 118, 149, 150, 151, 131, 132, 133, 134, 135, 142, 143, 144, 145, 146, 147, 148, 152, 153, 154, 155, 156, 157, 136, 137, 138, 139, 140, 141, 158, 159, 160, 161, 162, 163] (by decide +kernel) (by decide +kernel)
set_option maxRecDepth 20000 in
theorem gX7_addEasement_X2_remember : GoodIn wsX7_addEasement (wsV RX7 70 RX2 yX2_remember wsX2_remember) := goodIn_app (goodIn_of _ (by decide +kernel)) ggX7_addEasement_X2_remember
set_option maxRecDepth 20000 in
theorem ggX7_addEasement_X1_come : GoodIn wsX7_addEasement wsX1_come := goodIn_ca (goodIn_r _ [122, 100, 101, 103, 104, 105, 106, 136, 137, 138, 139, 140, 141] (by decide +kernel) (by decide +kernel)) (goodIn_sub (fun _ h => List.mem_cons_of_mem _ (List.mem_append_left _ (List.mem_append_left _ (List.mem_append_left _ (List.mem_append_left _ (List.mem_append_right _ h)))))) (by decide +kernel))
set_option maxRecDepth 20000 in
theorem gX7_addEasement_X1_come : GoodIn wsX7_addEasement (wsV RX7 226 RX1 yX1_come wsX1_come) := goodIn_app (goodIn_of _ (by decide +kernel)) ggX7_addEasement_X1_come
theorem dX7_addEasement_0 : decode cX7_addEasement 0 = .ok (.aload_n 0, 1) := by decide +kernel
theorem dX7_addEasement_1 : decode cX7_addEasement 1 = .ok (.getfield 10, 3) := by decide +kernel
theorem dX7_addEasement_4 : decode cX7_addEasement 4 = .ok (.iload_n 1, 1) := by decide +kernel
theorem dX7_addEasement_5 : decode cX7_addEasement 5 = .ok (.iload_n 2, 1) := by decide +kernel
theorem dX7_addEasement_6 : decode cX7_addEasement 6 = .ok (.iload_n 3, 1) := by decide +kernel
theorem dX7_addEasement_7 : decode cX7_addEasement 7 = .ok (.invokevirtual 219, 3) := by decide +kernel
theorem dX7_addEasement_10 : decode cX7_addEasement 10 = .ok (.invokestatic 66, 3) := by decide +kernel
theorem dX7_addEasement_13 : decode cX7_addEasement 13 = .ok (.aload_n 0, 1) := by decide +kernel
theorem dX7_addEasement_14 : decode cX7_addEasement 14 = .ok (.getfield 25, 3) := by decide +kernel
theorem dX7_addEasement_17 : decode cX7_addEasement 17 = .ok (.aload_n 0, 1) := by decide +kernel
theorem dX7_addEasement_18 : decode cX7_addEasement 18 = .ok (.getfield 10, 3) := by decide +kernel
theorem dX7_addEasement_21 : decode cX7_addEasement 21 = .ok (.invokevirtual 70, 3) := by decide +kernel
theorem dX7_addEasement_24 : decode cX7_addEasement 24 = .ok (.aload_n 0, 1) := by decide +kernel
theorem dX7_addEasement_25 : decode cX7_addEasement 25 = .ok (.getfield 10, 3) := by decide +kernel
theorem dX7_addEasement_28 : decode cX7_addEasement 28 = .ok (.getfield 222, 3) := by decide +kernel
theorem dX7_addEasement_31 : decode cX7_addEasement 31 = .ok (.iload_n 1, 1) := by decide +kernel
theorem dX7_addEasement_32 : decode cX7_addEasement 32 = .ok (.iload_n 2, 1) := by decide +kernel
theorem dX7_addEasement_33 : decode cX7_addEasement 33 = .ok (.iload_n 3, 1) := by decide +kernel
theorem dX7_addEasement_34 : decode cX7_addEasement 34 = .ok (.aload_n 0, 1) := by decide +kernel
theorem dX7_addEasement_35 : decode cX7_addEasement 35 = .ok (.getfield 10, 3) := by decide +kernel
theorem dX7_addEasement_38 : decode cX7_addEasement 38 = .ok (.getfield 74, 3) := by decide +kernel
theorem dX7_addEasement_41 : decode cX7_addEasement 41 = .ok (.invokevirtual 226, 3) := by decide +kernel
theorem dX7_addEasement_44 : decode cX7_addEasement 44 = .ok (.ireturn, 1) := by decide +kernel
set_option maxRecDepth 20000 in
theorem ggX7_endEasement_X1_has : GoodIn wsX7_endEasement wsX1_has := goodIn_r _ [9, 10, 119, 120, 121, 122, 123, 124] (by decide +kernel) (by decide +kernel)
set_option maxRecDepth 20000 in
theorem gX7_endEasement_X1_has : GoodIn wsX7_endEasement (wsV RX7 229 RX1 yX1_has wsX1_has) := goodIn_app (goodIn_of _ (by decide +kernel)) ggX7_endEasement_X1_has
set_option maxRecDepth 20000 in
theorem ggX7_endEasement_X7_checkNumber : GoodIn wsX7_endEasement wsX7_checkNumber := goodIn_ca (goodIn_r _ [14, 15, 16] (by decide +kernel) (by decide +kernel)) (goodIn_sub (fun _ h => List.mem_cons_of_mem _ (List.mem_append_left _ (List.mem_append_left _ (List.mem_append_right _ h)))) (by decide +kernel))
set_option maxRecDepth 20000 in
theorem gX7_endEasement_X7_checkNumber : GoodIn wsX7_endEasement (va_wsS RX7 115 yX7_checkNumber wsX7_checkNumber) := goodIn_app (goodIn_of _ (by decide +kernel)) ggX7_endEasement_X7_checkNumber
set_option maxRecDepth 20000 in
theorem ggX7_endEasement_X1_isLive : GoodIn wsX7_endEasement wsX1_isLive := goodIn_ca (goodIn_r _ [20, 21, 22, 6, 7, 8, 9, 10, 119, 120, 121, 122, 123, 124] (by decide +kernel) (by decide +kernel)) (goodIn_sub (fun _ h => List.mem_cons_of_mem _ (List.mem_append_left _ (List.mem_append_right _ h))) (by decide +kernel))
set_option maxRecDepth 20000 in
theorem gX7_endEasement_X1_isLive : GoodIn wsX7_endEasement (wsV RX7 230 RX1 yX1_isLive wsX1_isLive) := goodIn_app (goodIn_of _ (by decide +kernel)) ggX7_endEasement_X1_isLive
set_option maxRecDepth 20000 in
theorem ggX7_endEasement_X7_checkState : GoodIn wsX7_endEasement wsX7_checkState := goodIn_ca (goodIn_r _ [25, 26, 27] (by decide +kernel) (by decide +kernel)) (goodIn_sub (fun _ h => List.mem_cons_of_mem _ (List.mem_append_right _ h)) (by decide +kernel))
set_option maxRecDepth 20000 in
theorem gX7_endEasement_X7_checkState : GoodIn wsX7_endEasement (va_wsS RX7 171 yX7_checkState wsX7_checkState) := goodIn_app (goodIn_of _ (by decide +kernel)) ggX7_endEasement_X7_checkState
set_option maxRecDepth 20000 in
theorem ggX7_endEasement_X2_remember : GoodIn wsX7_endEasement wsX2_remember := goodIn_r _ [32, 33, 34, 35, 36, 37, 38, 39, 40, 41, 42, 43, 44, 45, 46, 47, 48, 49, 50, 51, 52, 53, 54, 55, 56, 57, 58, 59, 60, 61, 62, 63, 64, 65, 66, 67, 68, 69, 70, 71, 72, 73, 74, 75, 76, 77, 78, 79, 8, 80, 10, 81, 82, 83, 84, 85, 21, 86, 87, 88, 89, 90, 91, 92, 93, 94, 95, 96, 97, 125, 126, 127, 114, 115, 116, 117, 118, 128, 129, 130, 131, 132, 133, 134, 135, 136, 137, 138, 139, 140, 119, 120, 121, 122, 123, 124, 141, 142, 143, 144, 145, 146] (by decide +kernel) (by decide +kernel)
set_option maxRecDepth 20000 in
theorem gX7_endEasement_X2_remember : GoodIn wsX7_endEasement (wsV RX7 70 RX2 yX2_remember wsX2_remember) := goodIn_app (goodIn_of _ (by decide +kernel)) ggX7_endEasement_X2_remember
set_option maxRecDepth 20000 in
theorem ggX7_endEasement_X1_end : GoodIn wsX7_endEasement wsX1_end := goodIn_ca (goodIn_r _ [101, 21, 22, 6, 7, 8, 9, 10, 119, 120, 121, 122, 123, 124] (by decide +kernel) (by decide +kernel)) (goodIn_sub (fun _ h => List.mem_cons_of_mem _ (List.mem_append_left _ (List.mem_append_right _ h))) (by decide +kernel))
set_option maxRecDepth 20000 in
theorem gX7_endEasement_X1_end : GoodIn wsX7_endEasement (wsV RX7 233 RX1 yX1_end wsX1_end) := goodIn_app (goodIn_of _ (by decide +kernel)) ggX7_endEasement_X1_end
set_option maxRecDepth 20000 in
theorem ggX7_endEasement_X1_liveCount : GoodIn wsX7_endEasement wsX1_liveCount := goodIn_ca (goodIn_r _ [105, 10, 21, 119, 120, 121, 122, 123, 124] (by decide +kernel) (by decide +kernel)) (goodIn_sub (fun _ h => List.mem_cons_of_mem _ (List.mem_append_left _ (List.mem_append_right _ h))) (by decide +kernel))
set_option maxRecDepth 20000 in
theorem gX7_endEasement_X1_liveCount : GoodIn wsX7_endEasement (wsV RX7 236 RX1 yX1_liveCount wsX1_liveCount) := goodIn_app (goodIn_of _ (by decide +kernel)) ggX7_endEasement_X1_liveCount
theorem dX7_endEasement_0 : decode cX7_endEasement 0 = .ok (.aload_n 0, 1) := by decide +kernel
theorem dX7_endEasement_1 : decode cX7_endEasement 1 = .ok (.getfield 10, 3) := by decide +kernel
theorem dX7_endEasement_4 : decode cX7_endEasement 4 = .ok (.getfield 222, 3) := by decide +kernel
theorem dX7_endEasement_7 : decode cX7_endEasement 7 = .ok (.iload_n 1, 1) := by decide +kernel
theorem dX7_endEasement_8 : decode cX7_endEasement 8 = .ok (.invokevirtual 229, 3) := by decide +kernel
theorem dX7_endEasement_11 : decode cX7_endEasement 11 = .ok (.invokestatic 115, 3) := by decide +kernel
theorem dX7_endEasement_14 : decode cX7_endEasement 14 = .ok (.aload_n 0, 1) := by decide +kernel
theorem dX7_endEasement_15 : decode cX7_endEasement 15 = .ok (.getfield 10, 3) := by decide +kernel
theorem dX7_endEasement_18 : decode cX7_endEasement 18 = .ok (.getfield 222, 3) := by decide +kernel
theorem dX7_endEasement_21 : decode cX7_endEasement 21 = .ok (.iload_n 1, 1) := by decide +kernel
theorem dX7_endEasement_22 : decode cX7_endEasement 22 = .ok (.invokevirtual 230, 3) := by decide +kernel
theorem dX7_endEasement_25 : decode cX7_endEasement 25 = .ok (.invokestatic 171, 3) := by decide +kernel
theorem dX7_endEasement_28 : decode cX7_endEasement 28 = .ok (.aload_n 0, 1) := by decide +kernel
theorem dX7_endEasement_29 : decode cX7_endEasement 29 = .ok (.getfield 25, 3) := by decide +kernel
theorem dX7_endEasement_32 : decode cX7_endEasement 32 = .ok (.aload_n 0, 1) := by decide +kernel
theorem dX7_endEasement_33 : decode cX7_endEasement 33 = .ok (.getfield 10, 3) := by decide +kernel
theorem dX7_endEasement_36 : decode cX7_endEasement 36 = .ok (.invokevirtual 70, 3) := by decide +kernel
theorem dX7_endEasement_39 : decode cX7_endEasement 39 = .ok (.aload_n 0, 1) := by decide +kernel
theorem dX7_endEasement_40 : decode cX7_endEasement 40 = .ok (.getfield 10, 3) := by decide +kernel
theorem dX7_endEasement_43 : decode cX7_endEasement 43 = .ok (.getfield 222, 3) := by decide +kernel
theorem dX7_endEasement_46 : decode cX7_endEasement 46 = .ok (.iload_n 1, 1) := by decide +kernel
theorem dX7_endEasement_47 : decode cX7_endEasement 47 = .ok (.aload_n 0, 1) := by decide +kernel
theorem dX7_endEasement_48 : decode cX7_endEasement 48 = .ok (.getfield 10, 3) := by decide +kernel
theorem dX7_endEasement_51 : decode cX7_endEasement 51 = .ok (.getfield 74, 3) := by decide +kernel
theorem dX7_endEasement_54 : decode cX7_endEasement 54 = .ok (.invokevirtual 233, 3) := by decide +kernel
theorem dX7_endEasement_57 : decode cX7_endEasement 57 = .ok (.aload_n 0, 1) := by decide +kernel
theorem dX7_endEasement_58 : decode cX7_endEasement 58 = .ok (.getfield 10, 3) := by decide +kernel
theorem dX7_endEasement_61 : decode cX7_endEasement 61 = .ok (.getfield 222, 3) := by decide +kernel
theorem dX7_endEasement_64 : decode cX7_endEasement 64 = .ok (.invokevirtual 236, 3) := by decide +kernel
theorem dX7_endEasement_67 : decode cX7_endEasement 67 = .ok (.ireturn, 1) := by decide +kernel
set_option maxRecDepth 20000 in
theorem ggX7_easement_X1_has : GoodIn wsX7_easement wsX1_has := goodIn_r _ [12, 13, 41, 42, 43, 44, 45, 46] (by decide +kernel) (by decide +kernel)
set_option maxRecDepth 20000 in
theorem gX7_easement_X1_has : GoodIn wsX7_easement (wsV RX7 229 RX1 yX1_has wsX1_has) := goodIn_app (goodIn_of _ (by decide +kernel)) ggX7_easement_X1_has
set_option maxRecDepth 20000 in
theorem ggX7_easement_X7_checkNumber : GoodIn wsX7_easement wsX7_checkNumber := goodIn_ca (goodIn_r _ [17, 18, 19] (by decide +kernel) (by decide +kernel)) (goodIn_sub (fun _ h => List.mem_cons_of_mem _ (List.mem_append_left _ (List.mem_append_right _ h))) (by decide +kernel))
set_option maxRecDepth 20000 in
theorem gX7_easement_X7_checkNumber : GoodIn wsX7_easement (va_wsS RX7 115 yX7_checkNumber wsX7_checkNumber) := goodIn_app (goodIn_of _ (by decide +kernel)) ggX7_easement_X7_checkNumber
set_option maxRecDepth 20000 in
theorem ggX7_easement_X7_isFrom : GoodIn wsX7_easement wsX7_isFrom := goodIn_r _ [22] (by decide +kernel) (by decide +kernel)
set_option maxRecDepth 20000 in
theorem gX7_easement_X7_isFrom : GoodIn wsX7_easement (va_wsS RX7 119 yX7_isFrom wsX7_isFrom) := goodIn_app (goodIn_of _ (by decide +kernel)) ggX7_easement_X7_isFrom
set_option maxRecDepth 20000 in
theorem ggX7_easement_X7_checkArgument : GoodIn wsX7_easement wsX7_checkArgument := goodIn_ca (goodIn_r _ [25, 26, 27] (by decide +kernel) (by decide +kernel)) (goodIn_sub (fun _ h => List.mem_cons_of_mem _ (List.mem_append_right _ h)) (by decide +kernel))
set_option maxRecDepth 20000 in
theorem gX7_easement_X7_checkArgument : GoodIn wsX7_easement (va_wsS RX7 123 yX7_checkArgument wsX7_checkArgument) := goodIn_app (goodIn_of _ (by decide +kernel)) ggX7_easement_X7_checkArgument
theorem dX7_easement_0 : decode cX7_easement 0 = .ok (.aload_n 0, 1) := by decide +kernel
theorem dX7_easement_1 : decode cX7_easement 1 = .ok (.getfield 10, 3) := by decide +kernel
theorem dX7_easement_4 : decode cX7_easement 4 = .ok (.getfield 222, 3) := by decide +kernel
theorem dX7_easement_7 : decode cX7_easement 7 = .ok (.iload_n 1, 1) := by decide +kernel
theorem dX7_easement_8 : decode cX7_easement 8 = .ok (.invokevirtual 229, 3) := by decide +kernel
theorem dX7_easement_11 : decode cX7_easement 11 = .ok (.invokestatic 115, 3) := by decide +kernel
theorem dX7_easement_14 : decode cX7_easement 14 = .ok (.iload_n 2, 1) := by decide +kernel
theorem dX7_easement_15 : decode cX7_easement 15 = .ok (.iconst 0, 1) := by decide +kernel
theorem dX7_easement_16 : decode cX7_easement 16 = .ok (.iconst 4, 1) := by decide +kernel
theorem dX7_easement_17 : decode cX7_easement 17 = .ok (.invokestatic 119, 3) := by decide +kernel
theorem dX7_easement_20 : decode cX7_easement 20 = .ok (.invokestatic 123, 3) := by decide +kernel
theorem dX7_easement_23 : decode cX7_easement 23 = .ok (.iload_n 2, 1) := by decide +kernel
theorem dX7_easement_24 : decode cX7_easement 24 = .ok (.tableswitch 84 0 3 #[32, 45, 58, 71], 32) := by decide +kernel
theorem dX7_easement_56 : decode cX7_easement 56 = .ok (.aload_n 0, 1) := by decide +kernel
theorem dX7_easement_57 : decode cX7_easement 57 = .ok (.getfield 10, 3) := by decide +kernel
theorem dX7_easement_60 : decode cX7_easement 60 = .ok (.getfield 222, 3) := by decide +kernel
theorem dX7_easement_63 : decode cX7_easement 63 = .ok (.getfield 239, 3) := by decide +kernel
theorem dX7_easement_66 : decode cX7_easement 66 = .ok (.iload_n 1, 1) := by decide +kernel
theorem dX7_easement_67 : decode cX7_easement 67 = .ok (.iaload, 1) := by decide +kernel
theorem dX7_easement_68 : decode cX7_easement 68 = .ok (.ireturn, 1) := by decide +kernel
theorem dX7_easement_69 : decode cX7_easement 69 = .ok (.aload_n 0, 1) := by decide +kernel
theorem dX7_easement_70 : decode cX7_easement 70 = .ok (.getfield 10, 3) := by decide +kernel
theorem dX7_easement_73 : decode cX7_easement 73 = .ok (.getfield 222, 3) := by decide +kernel
theorem dX7_easement_76 : decode cX7_easement 76 = .ok (.getfield 242, 3) := by decide +kernel
theorem dX7_easement_79 : decode cX7_easement 79 = .ok (.iload_n 1, 1) := by decide +kernel
theorem dX7_easement_80 : decode cX7_easement 80 = .ok (.iaload, 1) := by decide +kernel
theorem dX7_easement_81 : decode cX7_easement 81 = .ok (.ireturn, 1) := by decide +kernel
theorem dX7_easement_82 : decode cX7_easement 82 = .ok (.aload_n 0, 1) := by decide +kernel
theorem dX7_easement_83 : decode cX7_easement 83 = .ok (.getfield 10, 3) := by decide +kernel
theorem dX7_easement_86 : decode cX7_easement 86 = .ok (.getfield 222, 3) := by decide +kernel
theorem dX7_easement_89 : decode cX7_easement 89 = .ok (.getfield 245, 3) := by decide +kernel
theorem dX7_easement_92 : decode cX7_easement 92 = .ok (.iload_n 1, 1) := by decide +kernel
theorem dX7_easement_93 : decode cX7_easement 93 = .ok (.iaload, 1) := by decide +kernel
theorem dX7_easement_94 : decode cX7_easement 94 = .ok (.ireturn, 1) := by decide +kernel
theorem dX7_easement_95 : decode cX7_easement 95 = .ok (.aload_n 0, 1) := by decide +kernel
theorem dX7_easement_96 : decode cX7_easement 96 = .ok (.getfield 10, 3) := by decide +kernel
theorem dX7_easement_99 : decode cX7_easement 99 = .ok (.getfield 222, 3) := by decide +kernel
theorem dX7_easement_102 : decode cX7_easement 102 = .ok (.getfield 248, 3) := by decide +kernel
theorem dX7_easement_105 : decode cX7_easement 105 = .ok (.iload_n 1, 1) := by decide +kernel
theorem dX7_easement_106 : decode cX7_easement 106 = .ok (.iaload, 1) := by decide +kernel
theorem dX7_easement_107 : decode cX7_easement 107 = .ok (.ireturn, 1) := by decide +kernel
theorem dX7_easement_108 : decode cX7_easement 108 = .ok (.aload_n 0, 1) := by decide +kernel
theorem dX7_easement_109 : decode cX7_easement 109 = .ok (.getfield 10, 3) := by decide +kernel
theorem dX7_easement_112 : decode cX7_easement 112 = .ok (.getfield 222, 3) := by decide +kernel
theorem dX7_easement_115 : decode cX7_easement 115 = .ok (.getfield 251, 3) := by decide +kernel
theorem dX7_easement_118 : decode cX7_easement 118 = .ok (.iload_n 1, 1) := by decide +kernel
theorem dX7_easement_119 : decode cX7_easement 119 = .ok (.iaload, 1) := by decide +kernel
theorem dX7_easement_120 : decode cX7_easement 120 = .ok (.ireturn, 1) := by decide +kernel
set_option maxRecDepth 20000 in
theorem ggX7_easements_X4_has : GoodIn wsX7_easements wsX4_has := goodIn_r _ [8, 9, 42, 43, 44, 45, 46, 47, 48] (by decide +kernel) (by decide +kernel)
set_option maxRecDepth 20000 in
theorem gX7_easements_X4_has : GoodIn wsX7_easements (wsV RX7 111 RX4 yX4_has wsX4_has) := goodIn_app (goodIn_of _ (by decide +kernel)) ggX7_easements_X4_has
set_option maxRecDepth 20000 in
theorem ggX7_easements_X7_checkNumber : GoodIn wsX7_easements wsX7_checkNumber := goodIn_ca (goodIn_r _ [13, 14, 15] (by decide +kernel) (by decide +kernel)) (goodIn_sub (fun _ h => List.mem_cons_of_mem _ (List.mem_append_left _ (List.mem_append_right _ h))) (by decide +kernel))
set_option maxRecDepth 20000 in
theorem gX7_easements_X7_checkNumber : GoodIn wsX7_easements (va_wsS RX7 115 yX7_checkNumber wsX7_checkNumber) := goodIn_app (goodIn_of _ (by decide +kernel)) ggX7_easements_X7_checkNumber
set_option maxRecDepth 20000 in
theorem ggX7_easements_X1_liveOn : GoodIn wsX7_easements wsX1_liveOn := goodIn_ca (goodIn_r _ [20, 21, 22, 23, 49, 50, 51, 52, 53, 54] (by decide +kernel) (by decide +kernel)) (goodIn_sub (fun _ h => List.mem_cons_of_mem _ (List.mem_append_right _ h)) (by decide +kernel))
set_option maxRecDepth 20000 in
theorem gX7_easements_X1_liveOn : GoodIn wsX7_easements (wsV RX7 254 RX1 yX1_liveOn wsX1_liveOn) := goodIn_app (goodIn_of _ (by decide +kernel)) ggX7_easements_X1_liveOn
set_option maxRecDepth 20000 in
theorem ggX7_easements_X1_liveFor : GoodIn wsX7_easements wsX1_liveFor := goodIn_ca (goodIn_r _ [27, 21, 22, 28, 49, 50, 51, 52, 53, 54] (by decide +kernel) (by decide +kernel)) (goodIn_sub (fun _ h => List.mem_cons_of_mem _ (List.mem_append_right _ h)) (by decide +kernel))
set_option maxRecDepth 20000 in
theorem gX7_easements_X1_liveFor : GoodIn wsX7_easements (wsV RX7 257 RX1 yX1_liveFor wsX1_liveFor) := goodIn_app (goodIn_of _ (by decide +kernel)) ggX7_easements_X1_liveFor
theorem dX7_easements_0 : decode cX7_easements 0 = .ok (.aload_n 0, 1) := by decide +kernel
theorem dX7_easements_1 : decode cX7_easements 1 = .ok (.getfield 10, 3) := by decide +kernel
theorem dX7_easements_4 : decode cX7_easements 4 = .ok (.getfield 47, 3) := by decide +kernel
theorem dX7_easements_7 : decode cX7_easements 7 = .ok (.iload_n 1, 1) := by decide +kernel
theorem dX7_easements_8 : decode cX7_easements 8 = .ok (.invokevirtual 111, 3) := by decide +kernel
theorem dX7_easements_11 : decode cX7_easements 11 = .ok (.invokestatic 115, 3) := by decide +kernel
theorem dX7_easements_14 : decode cX7_easements 14 = .ok (.iload_n 2, 1) := by decide +kernel
theorem dX7_easements_15 : decode cX7_easements 15 = .ok (.ifCond .eq 17, 3) := by decide +kernel
theorem dX7_easements_18 : decode cX7_easements 18 = .ok (.aload_n 0, 1) := by decide +kernel
theorem dX7_easements_19 : decode cX7_easements 19 = .ok (.getfield 10, 3) := by decide +kernel
theorem dX7_easements_22 : decode cX7_easements 22 = .ok (.getfield 222, 3) := by decide +kernel
theorem dX7_easements_25 : decode cX7_easements 25 = .ok (.iload_n 1, 1) := by decide +kernel
theorem dX7_easements_26 : decode cX7_easements 26 = .ok (.invokevirtual 254, 3) := by decide +kernel
theorem dX7_easements_29 : decode cX7_easements 29 = .ok (.goto 14, 3) := by decide +kernel
theorem dX7_easements_32 : decode cX7_easements 32 = .ok (.aload_n 0, 1) := by decide +kernel
theorem dX7_easements_33 : decode cX7_easements 33 = .ok (.getfield 10, 3) := by decide +kernel
theorem dX7_easements_36 : decode cX7_easements 36 = .ok (.getfield 222, 3) := by decide +kernel
theorem dX7_easements_39 : decode cX7_easements 39 = .ok (.iload_n 1, 1) := by decide +kernel
theorem dX7_easements_40 : decode cX7_easements 40 = .ok (.invokevirtual 257, 3) := by decide +kernel
theorem dX7_easements_43 : decode cX7_easements 43 = .ok (.ireturn, 1) := by decide +kernel
set_option maxRecDepth 20000 in
theorem ggX7_access_X4_has : GoodIn wsX7_access wsX4_has := goodIn_r _ [8, 9, 53, 54, 55, 56, 57, 58, 59] (by decide +kernel) (by decide +kernel)
set_option maxRecDepth 20000 in
theorem gX7_access_X4_has : GoodIn wsX7_access (wsV RX7 111 RX4 yX4_has wsX4_has) := goodIn_app (goodIn_of _ (by decide +kernel)) ggX7_access_X4_has
set_option maxRecDepth 20000 in
theorem ggX7_access_X7_checkNumber : GoodIn wsX7_access wsX7_checkNumber := goodIn_ca (goodIn_r _ [13, 14, 15] (by decide +kernel) (by decide +kernel)) (goodIn_sub (fun _ h => List.mem_cons_of_mem _ (List.mem_append_left _ (List.mem_append_left _ (List.mem_append_right _ h)))) (by decide +kernel))
set_option maxRecDepth 20000 in
theorem gX7_access_X7_checkNumber : GoodIn wsX7_access (va_wsS RX7 115 yX7_checkNumber wsX7_checkNumber) := goodIn_app (goodIn_of _ (by decide +kernel)) ggX7_access_X7_checkNumber
set_option maxRecDepth 20000 in
theorem ggX7_access_X7_isFrom : GoodIn wsX7_access wsX7_isFrom := goodIn_r _ [18] (by decide +kernel) (by decide +kernel)
set_option maxRecDepth 20000 in
theorem gX7_access_X7_isFrom : GoodIn wsX7_access (va_wsS RX7 119 yX7_isFrom wsX7_isFrom) := goodIn_app (goodIn_of _ (by decide +kernel)) ggX7_access_X7_isFrom
set_option maxRecDepth 20000 in
theorem ggX7_access_X7_checkArgument : GoodIn wsX7_access wsX7_checkArgument := goodIn_ca (goodIn_r _ [21, 22, 23] (by decide +kernel) (by decide +kernel)) (goodIn_sub (fun _ h => List.mem_cons_of_mem _ (List.mem_append_left _ (List.mem_append_right _ h))) (by decide +kernel))
set_option maxRecDepth 20000 in
theorem gX7_access_X7_checkArgument : GoodIn wsX7_access (va_wsS RX7 123 yX7_checkArgument wsX7_checkArgument) := goodIn_app (goodIn_of _ (by decide +kernel)) ggX7_access_X7_checkArgument
set_option maxRecDepth 20000 in
theorem ggX7_access_X1_reachedFrom : GoodIn wsX7_access wsX1_reachedFrom := goodIn_ca (goodIn_r _ [28, 29, 30, 31, 27, 32, 33, 34, 35, 36, 37, 38, 12, 39, 60, 61, 62, 63, 64, 65] (by decide +kernel) (by decide +kernel)) (goodIn_sub (fun _ h => List.mem_cons_of_mem _ (List.mem_append_right _ h)) (by decide +kernel))
set_option maxRecDepth 20000 in
theorem gX7_access_X1_reachedFrom : GoodIn wsX7_access (wsV RX7 260 RX1 yX1_reachedFrom wsX1_reachedFrom) := goodIn_app (goodIn_of _ (by decide +kernel)) ggX7_access_X1_reachedFrom
theorem dX7_access_0 : decode cX7_access 0 = .ok (.aload_n 0, 1) := by decide +kernel
theorem dX7_access_1 : decode cX7_access 1 = .ok (.getfield 10, 3) := by decide +kernel
theorem dX7_access_4 : decode cX7_access 4 = .ok (.getfield 47, 3) := by decide +kernel
theorem dX7_access_7 : decode cX7_access 7 = .ok (.iload_n 1, 1) := by decide +kernel
theorem dX7_access_8 : decode cX7_access 8 = .ok (.invokevirtual 111, 3) := by decide +kernel
theorem dX7_access_11 : decode cX7_access 11 = .ok (.invokestatic 115, 3) := by decide +kernel
theorem dX7_access_14 : decode cX7_access 14 = .ok (.iload_n 2, 1) := by decide +kernel
theorem dX7_access_15 : decode cX7_access 15 = .ok (.iconst 0, 1) := by decide +kernel
theorem dX7_access_16 : decode cX7_access 16 = .ok (.iconst 3, 1) := by decide +kernel
theorem dX7_access_17 : decode cX7_access 17 = .ok (.invokestatic 119, 3) := by decide +kernel
theorem dX7_access_20 : decode cX7_access 20 = .ok (.invokestatic 123, 3) := by decide +kernel
theorem dX7_access_23 : decode cX7_access 23 = .ok (.aload_n 0, 1) := by decide +kernel
theorem dX7_access_24 : decode cX7_access 24 = .ok (.getfield 10, 3) := by decide +kernel
theorem dX7_access_27 : decode cX7_access 27 = .ok (.getfield 222, 3) := by decide +kernel
theorem dX7_access_30 : decode cX7_access 30 = .ok (.iload_n 1, 1) := by decide +kernel
theorem dX7_access_31 : decode cX7_access 31 = .ok (.iload_n 2, 1) := by decide +kernel
theorem dX7_access_32 : decode cX7_access 32 = .ok (.invokevirtual 260, 3) := by decide +kernel
theorem dX7_access_35 : decode cX7_access 35 = .ok (.ireturn, 1) := by decide +kernel
set_option maxRecDepth 20000 in
theorem ggX7_addLien_X6_faultOfLien : GoodIn wsX7_addLien wsX6_faultOfLien := goodIn_ca (goodIn_r _ [8, 9, 10, 11, 12, 13, 14, 15, 16, 17, 18, 19, 20, 21, 22, 23, 24, 25, 26, 27, 28, 29, 132, 133, 134, 135, 136, 137, 138, 139, 140, 141, 142, 143, 144, 145, 146, 147, 148, 149] (by decide +kernel) (by decide +kernel)) (goodIn_sub (fun _ h => List.mem_cons_of_mem _ (List.mem_append_left _ (List.mem_append_left _ (List.mem_append_left _ (List.mem_append_left _ (List.mem_append_right _ h)))))) (by decide +kernel))
set_option maxRecDepth 20000 in
theorem gX7_addLien_X6_faultOfLien : GoodIn wsX7_addLien (wsV RX7 263 RX6 yX6_faultOfLien wsX6_faultOfLien) := goodIn_app (goodIn_of _ (by decide +kernel)) ggX7_addLien_X6_faultOfLien
set_option maxRecDepth 20000 in
theorem ggX7_addLien_X7_raise : GoodIn wsX7_addLien wsX7_raise := goodIn_ca (goodIn_ca (goodIn_ca (goodIn_ca (goodIn_r _ [32, 33, 34, 35, 36, 19, 37, 38, 39, 40, 41, 42, 43, 44, 45, 46, 47, 48, 49, 50, 51, 52, 21, 22, 23] (by decide +kernel) (by decide +kernel)) (goodIn_sub (fun _ h => List.mem_cons_of_mem _ (List.mem_append_left _ (List.mem_append_left _ (List.mem_append_left _ (List.mem_append_right _ h))))) (by decide +kernel))) (goodIn_sub (fun _ h => List.mem_cons_of_mem _ (List.mem_append_left _ (List.mem_append_left _ (List.mem_append_right _ h)))) (by decide +kernel))) (goodIn_sub (fun _ h => List.mem_cons_of_mem _ (List.mem_append_left _ (List.mem_append_right _ h))) (by decide +kernel))) (goodIn_sub (fun _ h => List.mem_cons_of_mem _ (List.mem_append_right _ h)) (by decide +kernel))
set_option maxRecDepth 20000 in
theorem gX7_addLien_X7_raise : GoodIn wsX7_addLien (va_wsS RX7 66 yX7_raise wsX7_raise) := goodIn_app (goodIn_of _ (by decide +kernel)) ggX7_addLien_X7_raise
set_option maxRecDepth 20000 in
theorem ggX7_addLien_X2_remember : GoodIn wsX7_addLien wsX2_remember := goodIn_r _ [57, 58, 59, 60, 61, 62, 63, 64, 65, 66, 67, 7, 68, 69, 9, 70, 71, 10, 72, 73, 74, 15, 75, 17, 76, 77, 78, 79, 80, 81, 28, 82, 83, 84, 85, 86, 87, 88, 89, 90, 91, 92, 93, 94, 95, 96, 97, 98, 99, 100, 101, 102, 103, 104, 105, 106, 107, 108, 109, 110, 111, 112, 113, 114, 115, 116, 117, 118, 119, 150, 151, 152, 132, 133, 134, 135, 136, 143, 144, 145, 146, 147, 148, 149, 153, 154, 155, 156, 157, 158, 159, 160, 161, 162, 163, 164, 137, 138, 139, 140, 141, 142] (by decide +kernel) (by decide +kernel)
set_option maxRecDepth 20000 in
theorem gX7_addLien_X2_remember : GoodIn wsX7_addLien (wsV RX7 70 RX2 yX2_remember wsX2_remember) := goodIn_app (goodIn_of _ (by decide +kernel)) ggX7_addLien_X2_remember
set_option maxRecDepth 20000 in
theorem ggX7_addLien_X3_come : GoodIn wsX7_addLien wsX3_come := goodIn_ca (goodIn_r _ [123, 113, 114, 115, 117, 118, 119, 137, 138, 139, 140, 141, 142] (by decide +kernel) (by decide +kernel)) (goodIn_sub (fun _ h => List.mem_cons_of_mem _ (List.mem_append_left _ (List.mem_append_left _ (List.mem_append_left _ (List.mem_append_left _ (List.mem_append_right _ h)))))) (by decide +kernel))
set_option maxRecDepth 20000 in
theorem gX7_addLien_X3_come : GoodIn wsX7_addLien (wsV RX7 266 RX3 yX3_come wsX3_come) := goodIn_app (goodIn_of _ (by decide +kernel)) ggX7_addLien_X3_come
theorem dX7_addLien_0 : decode cX7_addLien 0 = .ok (.aload_n 0, 1) := by decide +kernel
theorem dX7_addLien_1 : decode cX7_addLien 1 = .ok (.getfield 10, 3) := by decide +kernel
theorem dX7_addLien_4 : decode cX7_addLien 4 = .ok (.iload_n 1, 1) := by decide +kernel
theorem dX7_addLien_5 : decode cX7_addLien 5 = .ok (.iload_n 2, 1) := by decide +kernel
theorem dX7_addLien_6 : decode cX7_addLien 6 = .ok (.iload_n 3, 1) := by decide +kernel
theorem dX7_addLien_7 : decode cX7_addLien 7 = .ok (.invokevirtual 263, 3) := by decide +kernel
theorem dX7_addLien_10 : decode cX7_addLien 10 = .ok (.invokestatic 66, 3) := by decide +kernel
theorem dX7_addLien_13 : decode cX7_addLien 13 = .ok (.aload_n 0, 1) := by decide +kernel
theorem dX7_addLien_14 : decode cX7_addLien 14 = .ok (.getfield 25, 3) := by decide +kernel
theorem dX7_addLien_17 : decode cX7_addLien 17 = .ok (.aload_n 0, 1) := by decide +kernel
theorem dX7_addLien_18 : decode cX7_addLien 18 = .ok (.getfield 10, 3) := by decide +kernel
theorem dX7_addLien_21 : decode cX7_addLien 21 = .ok (.invokevirtual 70, 3) := by decide +kernel
theorem dX7_addLien_24 : decode cX7_addLien 24 = .ok (.aload_n 0, 1) := by decide +kernel
theorem dX7_addLien_25 : decode cX7_addLien 25 = .ok (.getfield 10, 3) := by decide +kernel
theorem dX7_addLien_28 : decode cX7_addLien 28 = .ok (.getfield 149, 3) := by decide +kernel
theorem dX7_addLien_31 : decode cX7_addLien 31 = .ok (.iload_n 1, 1) := by decide +kernel
theorem dX7_addLien_32 : decode cX7_addLien 32 = .ok (.iload_n 2, 1) := by decide +kernel
theorem dX7_addLien_33 : decode cX7_addLien 33 = .ok (.iload_n 3, 1) := by decide +kernel
theorem dX7_addLien_34 : decode cX7_addLien 34 = .ok (.invokevirtual 266, 3) := by decide +kernel
theorem dX7_addLien_37 : decode cX7_addLien 37 = .ok (.ireturn, 1) := by decide +kernel
set_option maxRecDepth 20000 in
theorem ggX7_release_X3_has : GoodIn wsX7_release wsX3_has := goodIn_r _ [8, 9, 117, 118, 119, 120, 121, 122] (by decide +kernel) (by decide +kernel)
set_option maxRecDepth 20000 in
theorem gX7_release_X3_has : GoodIn wsX7_release (wsV RX7 268 RX3 yX3_has wsX3_has) := goodIn_app (goodIn_of _ (by decide +kernel)) ggX7_release_X3_has
set_option maxRecDepth 20000 in
theorem ggX7_release_X7_checkNumber : GoodIn wsX7_release wsX7_checkNumber := goodIn_ca (goodIn_r _ [13, 14, 15] (by decide +kernel) (by decide +kernel)) (goodIn_sub (fun _ h => List.mem_cons_of_mem _ (List.mem_append_left _ (List.mem_append_left _ (List.mem_append_right _ h)))) (by decide +kernel))
set_option maxRecDepth 20000 in
theorem gX7_release_X7_checkNumber : GoodIn wsX7_release (va_wsS RX7 115 yX7_checkNumber wsX7_checkNumber) := goodIn_app (goodIn_of _ (by decide +kernel)) ggX7_release_X7_checkNumber
set_option maxRecDepth 20000 in
theorem ggX7_release_X3_placeOf : GoodIn wsX7_release wsX3_placeOf := goodIn_ca (goodIn_r _ [19, 20, 21, 117, 118, 119, 120, 121, 122] (by decide +kernel) (by decide +kernel)) (goodIn_sub (fun _ h => List.mem_cons_of_mem _ (List.mem_append_left _ (List.mem_append_right _ h))) (by decide +kernel))
set_option maxRecDepth 20000 in
theorem gX7_release_X3_placeOf : GoodIn wsX7_release (wsV RX7 269 RX3 yX3_placeOf wsX3_placeOf) := goodIn_app (goodIn_of _ (by decide +kernel)) ggX7_release_X3_placeOf
set_option maxRecDepth 20000 in
theorem ggX7_release_X7_checkState : GoodIn wsX7_release wsX7_checkState := goodIn_ca (goodIn_r _ [24, 25, 26] (by decide +kernel) (by decide +kernel)) (goodIn_sub (fun _ h => List.mem_cons_of_mem _ (List.mem_append_right _ h)) (by decide +kernel))
set_option maxRecDepth 20000 in
theorem gX7_release_X7_checkState : GoodIn wsX7_release (va_wsS RX7 171 yX7_checkState wsX7_checkState) := goodIn_app (goodIn_of _ (by decide +kernel)) ggX7_release_X7_checkState
set_option maxRecDepth 20000 in
theorem ggX7_release_X2_remember : GoodIn wsX7_release wsX2_remember := goodIn_r _ [31, 32, 33, 34, 35, 36, 37, 38, 39, 40, 41, 42, 43, 44, 45, 46, 47, 48, 49, 50, 51, 52, 53, 54, 55, 56, 57, 58, 59, 60, 61, 62, 63, 64, 65, 66, 67, 68, 69, 70, 71, 72, 73, 74, 75, 76, 77, 78, 79, 80, 81, 82, 83, 84, 85, 86, 87, 88, 89, 90, 7, 91, 9, 20, 92, 93, 94, 95, 21, 123, 124, 125, 112, 113, 114, 115, 116, 126, 127, 128, 129, 130, 131, 132, 133, 134, 135, 136, 137, 138, 139, 140, 141, 142, 143, 144, 117, 118, 119, 120, 121, 122] (by decide +kernel) (by decide +kernel)
set_option maxRecDepth 20000 in
theorem gX7_release_X2_remember : GoodIn wsX7_release (wsV RX7 70 RX2 yX2_remember wsX2_remember) := goodIn_app (goodIn_of _ (by decide +kernel)) ggX7_release_X2_remember
set_option maxRecDepth 20000 in
theorem ggX7_release_X3_dropPlace : GoodIn wsX7_release wsX3_dropPlace := goodIn_ca (goodIn_r _ [99, 20, 100, 101, 102, 7, 103, 21, 117, 118, 119, 120, 121, 122] (by decide +kernel) (by decide +kernel)) (goodIn_sub (fun _ h => List.mem_cons_of_mem _ (List.mem_append_left _ (List.mem_append_right _ h))) (by decide +kernel))
set_option maxRecDepth 20000 in
theorem gX7_release_X3_dropPlace : GoodIn wsX7_release (wsV RX7 272 RX3 yX3_dropPlace wsX3_dropPlace) := goodIn_app (goodIn_of _ (by decide +kernel)) ggX7_release_X3_dropPlace
theorem dX7_release_0 : decode cX7_release 0 = .ok (.aload_n 0, 1) := by decide +kernel
theorem dX7_release_1 : decode cX7_release 1 = .ok (.getfield 10, 3) := by decide +kernel
theorem dX7_release_4 : decode cX7_release 4 = .ok (.getfield 149, 3) := by decide +kernel
theorem dX7_release_7 : decode cX7_release 7 = .ok (.iload_n 1, 1) := by decide +kernel
theorem dX7_release_8 : decode cX7_release 8 = .ok (.invokevirtual 268, 3) := by decide +kernel
theorem dX7_release_11 : decode cX7_release 11 = .ok (.invokestatic 115, 3) := by decide +kernel
theorem dX7_release_14 : decode cX7_release 14 = .ok (.aload_n 0, 1) := by decide +kernel
theorem dX7_release_15 : decode cX7_release 15 = .ok (.getfield 10, 3) := by decide +kernel
theorem dX7_release_18 : decode cX7_release 18 = .ok (.getfield 149, 3) := by decide +kernel
theorem dX7_release_21 : decode cX7_release 21 = .ok (.iload_n 1, 1) := by decide +kernel
theorem dX7_release_22 : decode cX7_release 22 = .ok (.invokevirtual 269, 3) := by decide +kernel
theorem dX7_release_25 : decode cX7_release 25 = .ok (.istore_n 2, 1) := by decide +kernel
theorem dX7_release_26 : decode cX7_release 26 = .ok (.iload_n 2, 1) := by decide +kernel
theorem dX7_release_27 : decode cX7_release 27 = .ok (.iconst (-1), 1) := by decide +kernel
theorem dX7_release_28 : decode cX7_release 28 = .ok (.if_icmp .eq 7, 3) := by decide +kernel
theorem dX7_release_31 : decode cX7_release 31 = .ok (.iconst 1, 1) := by decide +kernel
theorem dX7_release_32 : decode cX7_release 32 = .ok (.goto 4, 3) := by decide +kernel
theorem dX7_release_35 : decode cX7_release 35 = .ok (.iconst 0, 1) := by decide +kernel
theorem dX7_release_36 : decode cX7_release 36 = .ok (.invokestatic 171, 3) := by decide +kernel
theorem dX7_release_39 : decode cX7_release 39 = .ok (.aload_n 0, 1) := by decide +kernel
theorem dX7_release_40 : decode cX7_release 40 = .ok (.getfield 25, 3) := by decide +kernel
theorem dX7_release_43 : decode cX7_release 43 = .ok (.aload_n 0, 1) := by decide +kernel
theorem dX7_release_44 : decode cX7_release 44 = .ok (.getfield 10, 3) := by decide +kernel
theorem dX7_release_47 : decode cX7_release 47 = .ok (.invokevirtual 70, 3) := by decide +kernel
theorem dX7_release_50 : decode cX7_release 50 = .ok (.aload_n 0, 1) := by decide +kernel
theorem dX7_release_51 : decode cX7_release 51 = .ok (.getfield 10, 3) := by decide +kernel
theorem dX7_release_54 : decode cX7_release 54 = .ok (.getfield 149, 3) := by decide +kernel
theorem dX7_release_57 : decode cX7_release 57 = .ok (.iload_n 2, 1) := by decide +kernel
theorem dX7_release_58 : decode cX7_release 58 = .ok (.invokevirtual 272, 3) := by decide +kernel
theorem dX7_release_61 : decode cX7_release 61 = .ok (.iload_n 2, 1) := by decide +kernel
theorem dX7_release_62 : decode cX7_release 62 = .ok (.ireturn, 1) := by decide +kernel
set_option maxRecDepth 20000 in
theorem ggX7_postpone_X3_has : GoodIn wsX7_postpone wsX3_has := goodIn_r _ [8, 9, 113, 114, 115, 116, 117, 118] (by decide +kernel) (by decide +kernel)
set_option maxRecDepth 20000 in
theorem gX7_postpone_X3_has : GoodIn wsX7_postpone (wsV RX7 268 RX3 yX3_has wsX3_has) := goodIn_app (goodIn_of _ (by decide +kernel)) ggX7_postpone_X3_has
set_option maxRecDepth 20000 in
theorem ggX7_postpone_X7_checkNumber : GoodIn wsX7_postpone wsX7_checkNumber := goodIn_ca (goodIn_r _ [13, 14, 15] (by decide +kernel) (by decide +kernel)) (goodIn_sub (fun _ h => List.mem_cons_of_mem _ (List.mem_append_left _ (List.mem_append_left _ (List.mem_append_right _ h)))) (by decide +kernel))
set_option maxRecDepth 20000 in
theorem gX7_postpone_X7_checkNumber : GoodIn wsX7_postpone (va_wsS RX7 115 yX7_checkNumber wsX7_checkNumber) := goodIn_app (goodIn_of _ (by decide +kernel)) ggX7_postpone_X7_checkNumber
set_option maxRecDepth 20000 in
theorem ggX7_postpone_X3_placeOf : GoodIn wsX7_postpone wsX3_placeOf := goodIn_ca (goodIn_r _ [19, 20, 21, 113, 114, 115, 116, 117, 118] (by decide +kernel) (by decide +kernel)) (goodIn_sub (fun _ h => List.mem_cons_of_mem _ (List.mem_append_left _ (List.mem_append_right _ h))) (by decide +kernel))
set_option maxRecDepth 20000 in
theorem gX7_postpone_X3_placeOf : GoodIn wsX7_postpone (wsV RX7 269 RX3 yX3_placeOf wsX3_placeOf) := goodIn_app (goodIn_of _ (by decide +kernel)) ggX7_postpone_X3_placeOf
set_option maxRecDepth 20000 in
theorem ggX7_postpone_X7_checkState : GoodIn wsX7_postpone wsX7_checkState := goodIn_ca (goodIn_r _ [24, 25, 26] (by decide +kernel) (by decide +kernel)) (goodIn_sub (fun _ h => List.mem_cons_of_mem _ (List.mem_append_right _ h)) (by decide +kernel))
set_option maxRecDepth 20000 in
theorem gX7_postpone_X7_checkState : GoodIn wsX7_postpone (va_wsS RX7 171 yX7_checkState wsX7_checkState) := goodIn_app (goodIn_of _ (by decide +kernel)) ggX7_postpone_X7_checkState
set_option maxRecDepth 20000 in
theorem ggX7_postpone_X2_remember : GoodIn wsX7_postpone wsX2_remember := goodIn_r _ [31, 32, 33, 34, 35, 36, 37, 38, 39, 40, 41, 42, 43, 44, 45, 46, 47, 48, 49, 50, 51, 52, 53, 54, 55, 56, 57, 58, 59, 60, 61, 62, 63, 64, 65, 66, 67, 68, 69, 70, 71, 72, 73, 74, 75, 76, 77, 78, 79, 80, 81, 82, 83, 84, 85, 86, 87, 88, 89, 90, 7, 91, 9, 20, 92, 93, 94, 95, 21, 119, 120, 121, 108, 109, 110, 111, 112, 122, 123, 124, 125, 126, 127, 128, 129, 130, 131, 132, 133, 134, 135, 136, 137, 138, 139, 140, 113, 114, 115, 116, 117, 118] (by decide +kernel) (by decide +kernel)
set_option maxRecDepth 20000 in
theorem gX7_postpone_X2_remember : GoodIn wsX7_postpone (wsV RX7 70 RX2 yX2_remember wsX2_remember) := goodIn_app (goodIn_of _ (by decide +kernel)) ggX7_postpone_X2_remember
set_option maxRecDepth 20000 in
theorem ggX7_postpone_X3_moveBack : GoodIn wsX7_postpone wsX3_moveBack := goodIn_ca (goodIn_r _ [99, 20, 21, 113, 114, 115, 116, 117, 118] (by decide +kernel) (by decide +kernel)) (goodIn_sub (fun _ h => List.mem_cons_of_mem _ (List.mem_append_left _ (List.mem_append_right _ h))) (by decide +kernel))
set_option maxRecDepth 20000 in
theorem gX7_postpone_X3_moveBack : GoodIn wsX7_postpone (wsV RX7 275 RX3 yX3_moveBack wsX3_moveBack) := goodIn_app (goodIn_of _ (by decide +kernel)) ggX7_postpone_X3_moveBack
theorem dX7_postpone_0 : decode cX7_postpone 0 = .ok (.aload_n 0, 1) := by decide +kernel
theorem dX7_postpone_1 : decode cX7_postpone 1 = .ok (.getfield 10, 3) := by decide +kernel
theorem dX7_postpone_4 : decode cX7_postpone 4 = .ok (.getfield 149, 3) := by decide +kernel
theorem dX7_postpone_7 : decode cX7_postpone 7 = .ok (.iload_n 1, 1) := by decide +kernel
theorem dX7_postpone_8 : decode cX7_postpone 8 = .ok (.invokevirtual 268, 3) := by decide +kernel
theorem dX7_postpone_11 : decode cX7_postpone 11 = .ok (.ifCond .eq 21, 3) := by decide +kernel
theorem dX7_postpone_14 : decode cX7_postpone 14 = .ok (.aload_n 0, 1) := by decide +kernel
theorem dX7_postpone_15 : decode cX7_postpone 15 = .ok (.getfield 10, 3) := by decide +kernel
theorem dX7_postpone_18 : decode cX7_postpone 18 = .ok (.getfield 149, 3) := by decide +kernel
theorem dX7_postpone_21 : decode cX7_postpone 21 = .ok (.iload_n 2, 1) := by decide +kernel
theorem dX7_postpone_22 : decode cX7_postpone 22 = .ok (.invokevirtual 268, 3) := by decide +kernel
theorem dX7_postpone_25 : decode cX7_postpone 25 = .ok (.ifCond .eq 7, 3) := by decide +kernel
theorem dX7_postpone_28 : decode cX7_postpone 28 = .ok (.iconst 1, 1) := by decide +kernel
theorem dX7_postpone_29 : decode cX7_postpone 29 = .ok (.goto 4, 3) := by decide +kernel
theorem dX7_postpone_32 : decode cX7_postpone 32 = .ok (.iconst 0, 1) := by decide +kernel
theorem dX7_postpone_33 : decode cX7_postpone 33 = .ok (.invokestatic 115, 3) := by decide +kernel
theorem dX7_postpone_36 : decode cX7_postpone 36 = .ok (.aload_n 0, 1) := by decide +kernel
theorem dX7_postpone_37 : decode cX7_postpone 37 = .ok (.getfield 10, 3) := by decide +kernel
theorem dX7_postpone_40 : decode cX7_postpone 40 = .ok (.getfield 149, 3) := by decide +kernel
theorem dX7_postpone_43 : decode cX7_postpone 43 = .ok (.iload_n 1, 1) := by decide +kernel
theorem dX7_postpone_44 : decode cX7_postpone 44 = .ok (.invokevirtual 269, 3) := by decide +kernel
theorem dX7_postpone_47 : decode cX7_postpone 47 = .ok (.istore_n 3, 1) := by decide +kernel
theorem dX7_postpone_48 : decode cX7_postpone 48 = .ok (.aload_n 0, 1) := by decide +kernel
theorem dX7_postpone_49 : decode cX7_postpone 49 = .ok (.getfield 10, 3) := by decide +kernel
theorem dX7_postpone_52 : decode cX7_postpone 52 = .ok (.getfield 149, 3) := by decide +kernel
theorem dX7_postpone_55 : decode cX7_postpone 55 = .ok (.iload_n 2, 1) := by decide +kernel
theorem dX7_postpone_56 : decode cX7_postpone 56 = .ok (.invokevirtual 269, 3) := by decide +kernel
theorem dX7_postpone_59 : decode cX7_postpone 59 = .ok (.istore 4, 2) := by decide +kernel
theorem dX7_postpone_61 : decode cX7_postpone 61 = .ok (.iload_n 3, 1) := by decide +kernel
theorem dX7_postpone_62 : decode cX7_postpone 62 = .ok (.iconst (-1), 1) := by decide +kernel
theorem dX7_postpone_63 : decode cX7_postpone 63 = .ok (.if_icmp .eq 13, 3) := by decide +kernel
theorem dX7_postpone_66 : decode cX7_postpone 66 = .ok (.iload 4, 2) := by decide +kernel
theorem dX7_postpone_68 : decode cX7_postpone 68 = .ok (.iload_n 3, 1) := by decide +kernel
theorem dX7_postpone_69 : decode cX7_postpone 69 = .ok (.if_icmp .le 7, 3) := by decide +kernel
theorem dX7_postpone_72 : decode cX7_postpone 72 = .ok (.iconst 1, 1) := by decide +kernel
theorem dX7_postpone_73 : decode cX7_postpone 73 = .ok (.goto 4, 3) := by decide +kernel
theorem dX7_postpone_76 : decode cX7_postpone 76 = .ok (.iconst 0, 1) := by decide +kernel
theorem dX7_postpone_77 : decode cX7_postpone 77 = .ok (.invokestatic 171, 3) := by decide +kernel
theorem dX7_postpone_80 : decode cX7_postpone 80 = .ok (.aload_n 0, 1) := by decide +kernel
theorem dX7_postpone_81 : decode cX7_postpone 81 = .ok (.getfield 25, 3) := by decide +kernel
theorem dX7_postpone_84 : decode cX7_postpone 84 = .ok (.aload_n 0, 1) := by decide +kernel
theorem dX7_postpone_85 : decode cX7_postpone 85 = .ok (.getfield 10, 3) := by decide +kernel
theorem dX7_postpone_88 : decode cX7_postpone 88 = .ok (.invokevirtual 70, 3) := by decide +kernel
theorem dX7_postpone_91 : decode cX7_postpone 91 = .ok (.aload_n 0, 1) := by decide +kernel
theorem dX7_postpone_92 : decode cX7_postpone 92 = .ok (.getfield 10, 3) := by decide +kernel
theorem dX7_postpone_95 : decode cX7_postpone 95 = .ok (.getfield 149, 3) := by decide +kernel
theorem dX7_postpone_98 : decode cX7_postpone 98 = .ok (.iload_n 3, 1) := by decide +kernel
theorem dX7_postpone_99 : decode cX7_postpone 99 = .ok (.iload 4, 2) := by decide +kernel
theorem dX7_postpone_101 : decode cX7_postpone 101 = .ok (.invokevirtual 275, 3) := by decide +kernel
theorem dX7_postpone_104 : decode cX7_postpone 104 = .ok (.iload 4, 2) := by decide +kernel
theorem dX7_postpone_106 : decode cX7_postpone 106 = .ok (.ireturn, 1) := by decide +kernel
set_option maxRecDepth 20000 in
theorem ggX7_lien_X3_has : GoodIn wsX7_lien wsX3_has := goodIn_r _ [10, 11, 45, 46, 47, 48, 49, 50] (by decide +kernel) (by decide +kernel)
set_option maxRecDepth 20000 in
theorem gX7_lien_X3_has : GoodIn wsX7_lien (wsV RX7 268 RX3 yX3_has wsX3_has) := goodIn_app (goodIn_of _ (by decide +kernel)) ggX7_lien_X3_has
set_option maxRecDepth 20000 in
theorem ggX7_lien_X7_checkNumber : GoodIn wsX7_lien wsX7_checkNumber := goodIn_ca (goodIn_r _ [15, 16, 17] (by decide +kernel) (by decide +kernel)) (goodIn_sub (fun _ h => List.mem_cons_of_mem _ (List.mem_append_left _ (List.mem_append_right _ h))) (by decide +kernel))
set_option maxRecDepth 20000 in
theorem gX7_lien_X7_checkNumber : GoodIn wsX7_lien (va_wsS RX7 115 yX7_checkNumber wsX7_checkNumber) := goodIn_app (goodIn_of _ (by decide +kernel)) ggX7_lien_X7_checkNumber
set_option maxRecDepth 20000 in
theorem ggX7_lien_X7_isFrom : GoodIn wsX7_lien wsX7_isFrom := goodIn_r _ [20] (by decide +kernel) (by decide +kernel)
set_option maxRecDepth 20000 in
theorem gX7_lien_X7_isFrom : GoodIn wsX7_lien (va_wsS RX7 119 yX7_isFrom wsX7_isFrom) := goodIn_app (goodIn_of _ (by decide +kernel)) ggX7_lien_X7_isFrom
set_option maxRecDepth 20000 in
theorem ggX7_lien_X7_checkArgument : GoodIn wsX7_lien wsX7_checkArgument := goodIn_ca (goodIn_r _ [23, 24, 25] (by decide +kernel) (by decide +kernel)) (goodIn_sub (fun _ h => List.mem_cons_of_mem _ (List.mem_append_right _ h)) (by decide +kernel))
set_option maxRecDepth 20000 in
theorem gX7_lien_X7_checkArgument : GoodIn wsX7_lien (va_wsS RX7 123 yX7_checkArgument wsX7_checkArgument) := goodIn_app (goodIn_of _ (by decide +kernel)) ggX7_lien_X7_checkArgument
set_option maxRecDepth 20000 in
theorem ggX7_lien_X3_placeOf : GoodIn wsX7_lien wsX3_placeOf := goodIn_ca (goodIn_r _ [29, 30, 31, 45, 46, 47, 48, 49, 50] (by decide +kernel) (by decide +kernel)) (goodIn_sub (fun _ h => List.mem_cons_of_mem _ (List.mem_append_left _ (List.mem_append_left _ (List.mem_append_right _ h)))) (by decide +kernel))
set_option maxRecDepth 20000 in
theorem gX7_lien_X3_placeOf : GoodIn wsX7_lien (wsV RX7 269 RX3 yX3_placeOf wsX3_placeOf) := goodIn_app (goodIn_of _ (by decide +kernel)) ggX7_lien_X3_placeOf
theorem dX7_lien_0 : decode cX7_lien 0 = .ok (.aload_n 0, 1) := by decide +kernel
theorem dX7_lien_1 : decode cX7_lien 1 = .ok (.getfield 10, 3) := by decide +kernel
theorem dX7_lien_4 : decode cX7_lien 4 = .ok (.getfield 149, 3) := by decide +kernel
theorem dX7_lien_7 : decode cX7_lien 7 = .ok (.iload_n 1, 1) := by decide +kernel
theorem dX7_lien_8 : decode cX7_lien 8 = .ok (.invokevirtual 268, 3) := by decide +kernel
theorem dX7_lien_11 : decode cX7_lien 11 = .ok (.invokestatic 115, 3) := by decide +kernel
theorem dX7_lien_14 : decode cX7_lien 14 = .ok (.iload_n 2, 1) := by decide +kernel
theorem dX7_lien_15 : decode cX7_lien 15 = .ok (.iconst 0, 1) := by decide +kernel
theorem dX7_lien_16 : decode cX7_lien 16 = .ok (.iconst 3, 1) := by decide +kernel
theorem dX7_lien_17 : decode cX7_lien 17 = .ok (.invokestatic 119, 3) := by decide +kernel
theorem dX7_lien_20 : decode cX7_lien 20 = .ok (.invokestatic 123, 3) := by decide +kernel
theorem dX7_lien_23 : decode cX7_lien 23 = .ok (.iload_n 2, 1) := by decide +kernel
theorem dX7_lien_24 : decode cX7_lien 24 = .ok (.tableswitch 67 0 2 #[28, 41, 54], 28) := by decide +kernel
theorem dX7_lien_52 : decode cX7_lien 52 = .ok (.aload_n 0, 1) := by decide +kernel
theorem dX7_lien_53 : decode cX7_lien 53 = .ok (.getfield 10, 3) := by decide +kernel
theorem dX7_lien_56 : decode cX7_lien 56 = .ok (.getfield 149, 3) := by decide +kernel
theorem dX7_lien_59 : decode cX7_lien 59 = .ok (.getfield 278, 3) := by decide +kernel
theorem dX7_lien_62 : decode cX7_lien 62 = .ok (.iload_n 1, 1) := by decide +kernel
theorem dX7_lien_63 : decode cX7_lien 63 = .ok (.iaload, 1) := by decide +kernel
theorem dX7_lien_64 : decode cX7_lien 64 = .ok (.ireturn, 1) := by decide +kernel
theorem dX7_lien_65 : decode cX7_lien 65 = .ok (.aload_n 0, 1) := by decide +kernel
theorem dX7_lien_66 : decode cX7_lien 66 = .ok (.getfield 10, 3) := by decide +kernel
theorem dX7_lien_69 : decode cX7_lien 69 = .ok (.getfield 149, 3) := by decide +kernel
theorem dX7_lien_72 : decode cX7_lien 72 = .ok (.getfield 281, 3) := by decide +kernel
theorem dX7_lien_75 : decode cX7_lien 75 = .ok (.iload_n 1, 1) := by decide +kernel
theorem dX7_lien_76 : decode cX7_lien 76 = .ok (.iaload, 1) := by decide +kernel
theorem dX7_lien_77 : decode cX7_lien 77 = .ok (.ireturn, 1) := by decide +kernel
theorem dX7_lien_78 : decode cX7_lien 78 = .ok (.aload_n 0, 1) := by decide +kernel
theorem dX7_lien_79 : decode cX7_lien 79 = .ok (.getfield 10, 3) := by decide +kernel
theorem dX7_lien_82 : decode cX7_lien 82 = .ok (.getfield 149, 3) := by decide +kernel
theorem dX7_lien_85 : decode cX7_lien 85 = .ok (.getfield 284, 3) := by decide +kernel
theorem dX7_lien_88 : decode cX7_lien 88 = .ok (.iload_n 1, 1) := by decide +kernel
theorem dX7_lien_89 : decode cX7_lien 89 = .ok (.iaload, 1) := by decide +kernel
theorem dX7_lien_90 : decode cX7_lien 90 = .ok (.ireturn, 1) := by decide +kernel
theorem dX7_lien_91 : decode cX7_lien 91 = .ok (.aload_n 0, 1) := by decide +kernel
theorem dX7_lien_92 : decode cX7_lien 92 = .ok (.getfield 10, 3) := by decide +kernel
theorem dX7_lien_95 : decode cX7_lien 95 = .ok (.getfield 149, 3) := by decide +kernel
theorem dX7_lien_98 : decode cX7_lien 98 = .ok (.iload_n 1, 1) := by decide +kernel
theorem dX7_lien_99 : decode cX7_lien 99 = .ok (.invokevirtual 269, 3) := by decide +kernel
theorem dX7_lien_102 : decode cX7_lien 102 = .ok (.ireturn, 1) := by decide +kernel
set_option maxRecDepth 20000 in
theorem ggX7_lienAt_X4_has : GoodIn wsX7_lienAt wsX4_has := goodIn_r _ [8, 9, 48, 49, 50, 51, 52, 53, 54] (by decide +kernel) (by decide +kernel)
set_option maxRecDepth 20000 in
theorem gX7_lienAt_X4_has : GoodIn wsX7_lienAt (wsV RX7 111 RX4 yX4_has wsX4_has) := goodIn_app (goodIn_of _ (by decide +kernel)) ggX7_lienAt_X4_has
set_option maxRecDepth 20000 in
theorem ggX7_lienAt_X7_checkNumber : GoodIn wsX7_lienAt wsX7_checkNumber := goodIn_ca (goodIn_r _ [13, 14, 15] (by decide +kernel) (by decide +kernel)) (goodIn_sub (fun _ h => List.mem_cons_of_mem _ (List.mem_append_left _ (List.mem_append_left _ (List.mem_append_right _ h)))) (by decide +kernel))
set_option maxRecDepth 20000 in
theorem gX7_lienAt_X7_checkNumber : GoodIn wsX7_lienAt (va_wsS RX7 115 yX7_checkNumber wsX7_checkNumber) := goodIn_app (goodIn_of _ (by decide +kernel)) ggX7_lienAt_X7_checkNumber
set_option maxRecDepth 20000 in
theorem ggX7_lienAt_X3_atPlace : GoodIn wsX7_lienAt wsX3_atPlace := goodIn_ca (goodIn_r _ [20, 21, 22, 23, 24, 25, 19, 26, 27, 28, 12, 29, 55, 56, 57, 58, 59, 60] (by decide +kernel) (by decide +kernel)) (goodIn_sub (fun _ h => List.mem_cons_of_mem _ (List.mem_append_left _ (List.mem_append_right _ h))) (by decide +kernel))
set_option maxRecDepth 20000 in
theorem gX7_lienAt_X3_atPlace : GoodIn wsX7_lienAt (wsV RX7 286 RX3 yX3_atPlace wsX3_atPlace) := goodIn_app (goodIn_of _ (by decide +kernel)) ggX7_lienAt_X3_atPlace
set_option maxRecDepth 20000 in
theorem ggX7_lienAt_X7_checkAnswer : GoodIn wsX7_lienAt wsX7_checkAnswer := goodIn_ca (goodIn_r _ [32, 33, 34] (by decide +kernel) (by decide +kernel)) (goodIn_sub (fun _ h => List.mem_cons_of_mem _ (List.mem_append_right _ h)) (by decide +kernel))
set_option maxRecDepth 20000 in
theorem gX7_lienAt_X7_checkAnswer : GoodIn wsX7_lienAt (va_wsS RX7 177 yX7_checkAnswer wsX7_checkAnswer) := goodIn_app (goodIn_of _ (by decide +kernel)) ggX7_lienAt_X7_checkAnswer
theorem dX7_lienAt_0 : decode cX7_lienAt 0 = .ok (.aload_n 0, 1) := by decide +kernel
theorem dX7_lienAt_1 : decode cX7_lienAt 1 = .ok (.getfield 10, 3) := by decide +kernel
theorem dX7_lienAt_4 : decode cX7_lienAt 4 = .ok (.getfield 47, 3) := by decide +kernel
theorem dX7_lienAt_7 : decode cX7_lienAt 7 = .ok (.iload_n 1, 1) := by decide +kernel
theorem dX7_lienAt_8 : decode cX7_lienAt 8 = .ok (.invokevirtual 111, 3) := by decide +kernel
theorem dX7_lienAt_11 : decode cX7_lienAt 11 = .ok (.invokestatic 115, 3) := by decide +kernel
theorem dX7_lienAt_14 : decode cX7_lienAt 14 = .ok (.aload_n 0, 1) := by decide +kernel
theorem dX7_lienAt_15 : decode cX7_lienAt 15 = .ok (.getfield 10, 3) := by decide +kernel
theorem dX7_lienAt_18 : decode cX7_lienAt 18 = .ok (.getfield 149, 3) := by decide +kernel
theorem dX7_lienAt_21 : decode cX7_lienAt 21 = .ok (.iload_n 1, 1) := by decide +kernel
theorem dX7_lienAt_22 : decode cX7_lienAt 22 = .ok (.iload_n 2, 1) := by decide +kernel
theorem dX7_lienAt_23 : decode cX7_lienAt 23 = .ok (.invokevirtual 286, 3) := by decide +kernel
theorem dX7_lienAt_26 : decode cX7_lienAt 26 = .ok (.istore_n 3, 1) := by decide +kernel
theorem dX7_lienAt_27 : decode cX7_lienAt 27 = .ok (.iload_n 3, 1) := by decide +kernel
theorem dX7_lienAt_28 : decode cX7_lienAt 28 = .ok (.iconst (-1), 1) := by decide +kernel
theorem dX7_lienAt_29 : decode cX7_lienAt 29 = .ok (.if_icmp .eq 7, 3) := by decide +kernel
theorem dX7_lienAt_32 : decode cX7_lienAt 32 = .ok (.iconst 1, 1) := by decide +kernel
theorem dX7_lienAt_33 : decode cX7_lienAt 33 = .ok (.goto 4, 3) := by decide +kernel
theorem dX7_lienAt_36 : decode cX7_lienAt 36 = .ok (.iconst 0, 1) := by decide +kernel
theorem dX7_lienAt_37 : decode cX7_lienAt 37 = .ok (.invokestatic 177, 3) := by decide +kernel
theorem dX7_lienAt_40 : decode cX7_lienAt 40 = .ok (.iload_n 3, 1) := by decide +kernel
theorem dX7_lienAt_41 : decode cX7_lienAt 41 = .ok (.ireturn, 1) := by decide +kernel
set_option maxRecDepth 20000 in
theorem ggX7_paid_X4_has : GoodIn wsX7_paid wsX4_has := goodIn_r _ [9, 10, 72, 73, 74, 75, 76, 77, 78] (by decide +kernel) (by decide +kernel)
set_option maxRecDepth 20000 in
theorem gX7_paid_X4_has : GoodIn wsX7_paid (wsV RX7 111 RX4 yX4_has wsX4_has) := goodIn_app (goodIn_of _ (by decide +kernel)) ggX7_paid_X4_has
set_option maxRecDepth 20000 in
theorem ggX7_paid_X7_isPerson : GoodIn wsX7_paid wsX7_isPerson := goodIn_r _ [14, 15, 16, 13, 17] (by decide +kernel) (by decide +kernel)
set_option maxRecDepth 20000 in
theorem gX7_paid_X7_isPerson : GoodIn wsX7_paid (va_wsS RX7 207 yX7_isPerson wsX7_isPerson) := goodIn_app (goodIn_of _ (by decide +kernel)) ggX7_paid_X7_isPerson
set_option maxRecDepth 20000 in
theorem ggX7_paid_X7_checkNumber : GoodIn wsX7_paid wsX7_checkNumber := goodIn_ca (goodIn_r _ [20, 21, 22] (by decide +kernel) (by decide +kernel)) (goodIn_sub (fun _ h => List.mem_cons_of_mem _ (List.mem_append_left _ (List.mem_append_left _ (List.mem_append_left _ (List.mem_append_right _ h))))) (by decide +kernel))
set_option maxRecDepth 20000 in
theorem gX7_paid_X7_checkNumber : GoodIn wsX7_paid (va_wsS RX7 115 yX7_checkNumber wsX7_checkNumber) := goodIn_app (goodIn_of _ (by decide +kernel)) ggX7_paid_X7_checkNumber
set_option maxRecDepth 20000 in
theorem ggX7_paid_X7_isFrom : GoodIn wsX7_paid wsX7_isFrom := goodIn_r _ [17] (by decide +kernel) (by decide +kernel)
set_option maxRecDepth 20000 in
theorem gX7_paid_X7_isFrom : GoodIn wsX7_paid (va_wsS RX7 119 yX7_isFrom wsX7_isFrom) := goodIn_app (goodIn_of _ (by decide +kernel)) ggX7_paid_X7_isFrom
set_option maxRecDepth 20000 in
theorem ggX7_paid_X7_checkArgument : GoodIn wsX7_paid wsX7_checkArgument := goodIn_ca (goodIn_r _ [25, 26, 27] (by decide +kernel) (by decide +kernel)) (goodIn_sub (fun _ h => List.mem_cons_of_mem _ (List.mem_append_left _ (List.mem_append_left _ (List.mem_append_right _ h)))) (by decide +kernel))
set_option maxRecDepth 20000 in
theorem gX7_paid_X7_checkArgument : GoodIn wsX7_paid (va_wsS RX7 123 yX7_checkArgument wsX7_checkArgument) := goodIn_app (goodIn_of _ (by decide +kernel)) ggX7_paid_X7_checkArgument
set_option maxRecDepth 20000 in
theorem ggX7_paid_X4_isPresent : GoodIn wsX7_paid wsX4_isPresent := goodIn_ca (goodIn_r _ [31, 32, 33, 6, 7, 8, 9, 10, 72, 73, 74, 75, 76, 77, 78] (by decide +kernel) (by decide +kernel)) (goodIn_sub (fun _ h => List.mem_cons_of_mem _ (List.mem_append_left _ (List.mem_append_right _ h))) (by decide +kernel))
set_option maxRecDepth 20000 in
theorem gX7_paid_X4_isPresent : GoodIn wsX7_paid (wsV RX7 168 RX4 yX4_isPresent wsX4_isPresent) := goodIn_app (goodIn_of _ (by decide +kernel)) ggX7_paid_X4_isPresent
set_option maxRecDepth 20000 in
theorem ggX7_paid_X7_checkState : GoodIn wsX7_paid wsX7_checkState := goodIn_ca (goodIn_r _ [36, 37, 38] (by decide +kernel) (by decide +kernel)) (goodIn_sub (fun _ h => List.mem_cons_of_mem _ (List.mem_append_right _ h)) (by decide +kernel))
set_option maxRecDepth 20000 in
theorem gX7_paid_X7_checkState : GoodIn wsX7_paid (va_wsS RX7 171 yX7_checkState wsX7_checkState) := goodIn_app (goodIn_of _ (by decide +kernel)) ggX7_paid_X7_checkState
set_option maxRecDepth 20000 in
theorem ggX7_paid_X3_paidTo : GoodIn wsX7_paid wsX3_paidTo := goodIn_ca (goodIn_r _ [43, 44, 45, 46, 47, 48, 49, 50, 51, 52, 53, 54, 42, 55, 56, 57, 13, 58, 79, 80, 81, 82, 83, 84] (by decide +kernel) (by decide +kernel)) (goodIn_sub (fun _ h => List.mem_cons_of_mem _ (List.mem_append_left _ (List.mem_append_right _ h))) (by decide +kernel))
set_option maxRecDepth 20000 in
theorem gX7_paid_X3_paidTo : GoodIn wsX7_paid (wsV RX7 290 RX3 yX3_paidTo wsX3_paidTo) := goodIn_app (goodIn_of _ (by decide +kernel)) ggX7_paid_X3_paidTo
theorem dX7_paid_0 : decode cX7_paid 0 = .ok (.aload_n 0, 1) := by decide +kernel
theorem dX7_paid_1 : decode cX7_paid 1 = .ok (.getfield 10, 3) := by decide +kernel
theorem dX7_paid_4 : decode cX7_paid 4 = .ok (.getfield 47, 3) := by decide +kernel
theorem dX7_paid_7 : decode cX7_paid 7 = .ok (.iload_n 1, 1) := by decide +kernel
theorem dX7_paid_8 : decode cX7_paid 8 = .ok (.invokevirtual 111, 3) := by decide +kernel
theorem dX7_paid_11 : decode cX7_paid 11 = .ok (.ifCond .eq 14, 3) := by decide +kernel
theorem dX7_paid_14 : decode cX7_paid 14 = .ok (.iload_n 3, 1) := by decide +kernel
theorem dX7_paid_15 : decode cX7_paid 15 = .ok (.invokestatic 207, 3) := by decide +kernel
theorem dX7_paid_18 : decode cX7_paid 18 = .ok (.ifCond .eq 7, 3) := by decide +kernel
theorem dX7_paid_21 : decode cX7_paid 21 = .ok (.iconst 1, 1) := by decide +kernel
theorem dX7_paid_22 : decode cX7_paid 22 = .ok (.goto 4, 3) := by decide +kernel
theorem dX7_paid_25 : decode cX7_paid 25 = .ok (.iconst 0, 1) := by decide +kernel
theorem dX7_paid_26 : decode cX7_paid 26 = .ok (.invokestatic 115, 3) := by decide +kernel
theorem dX7_paid_29 : decode cX7_paid 29 = .ok (.iload_n 2, 1) := by decide +kernel
theorem dX7_paid_30 : decode cX7_paid 30 = .ok (.iconst 0, 1) := by decide +kernel
theorem dX7_paid_31 : decode cX7_paid 31 = .ok (.ldc_w 289, 3) := by decide +kernel
theorem dX7_paid_34 : decode cX7_paid 34 = .ok (.invokestatic 119, 3) := by decide +kernel
theorem dX7_paid_37 : decode cX7_paid 37 = .ok (.invokestatic 123, 3) := by decide +kernel
theorem dX7_paid_40 : decode cX7_paid 40 = .ok (.aload_n 0, 1) := by decide +kernel
theorem dX7_paid_41 : decode cX7_paid 41 = .ok (.getfield 10, 3) := by decide +kernel
theorem dX7_paid_44 : decode cX7_paid 44 = .ok (.getfield 47, 3) := by decide +kernel
theorem dX7_paid_47 : decode cX7_paid 47 = .ok (.iload_n 1, 1) := by decide +kernel
theorem dX7_paid_48 : decode cX7_paid 48 = .ok (.invokevirtual 168, 3) := by decide +kernel
theorem dX7_paid_51 : decode cX7_paid 51 = .ok (.invokestatic 171, 3) := by decide +kernel
theorem dX7_paid_54 : decode cX7_paid 54 = .ok (.aload_n 0, 1) := by decide +kernel
theorem dX7_paid_55 : decode cX7_paid 55 = .ok (.getfield 10, 3) := by decide +kernel
theorem dX7_paid_58 : decode cX7_paid 58 = .ok (.getfield 149, 3) := by decide +kernel
theorem dX7_paid_61 : decode cX7_paid 61 = .ok (.iload_n 3, 1) := by decide +kernel
theorem dX7_paid_62 : decode cX7_paid 62 = .ok (.iload_n 1, 1) := by decide +kernel
theorem dX7_paid_63 : decode cX7_paid 63 = .ok (.iload_n 2, 1) := by decide +kernel
theorem dX7_paid_64 : decode cX7_paid 64 = .ok (.invokevirtual 290, 3) := by decide +kernel
theorem dX7_paid_67 : decode cX7_paid 67 = .ok (.ireturn, 1) := by decide +kernel
set_option maxRecDepth 20000 in
theorem ggX7_left_X4_has : GoodIn wsX7_left wsX4_has := goodIn_r _ [13, 14, 68, 69, 70, 71, 72, 73, 74] (by decide +kernel) (by decide +kernel)
set_option maxRecDepth 20000 in
theorem gX7_left_X4_has : GoodIn wsX7_left (wsV RX7 111 RX4 yX4_has wsX4_has) := goodIn_app (goodIn_of _ (by decide +kernel)) ggX7_left_X4_has
set_option maxRecDepth 20000 in
theorem ggX7_left_X7_checkNumber : GoodIn wsX7_left wsX7_checkNumber := goodIn_ca (goodIn_r _ [18, 19, 20] (by decide +kernel) (by decide +kernel)) (goodIn_sub (fun _ h => List.mem_cons_of_mem _ (List.mem_append_left _ (List.mem_append_left _ (List.mem_append_left _ (List.mem_append_right _ h))))) (by decide +kernel))
set_option maxRecDepth 20000 in
theorem gX7_left_X7_checkNumber : GoodIn wsX7_left (va_wsS RX7 115 yX7_checkNumber wsX7_checkNumber) := goodIn_app (goodIn_of _ (by decide +kernel)) ggX7_left_X7_checkNumber
set_option maxRecDepth 20000 in
theorem ggX7_left_X7_isFrom : GoodIn wsX7_left wsX7_isFrom := goodIn_r _ [23] (by decide +kernel) (by decide +kernel)
set_option maxRecDepth 20000 in
theorem gX7_left_X7_isFrom : GoodIn wsX7_left (va_wsS RX7 119 yX7_isFrom wsX7_isFrom) := goodIn_app (goodIn_of _ (by decide +kernel)) ggX7_left_X7_isFrom
set_option maxRecDepth 20000 in
theorem ggX7_left_X7_checkArgument : GoodIn wsX7_left wsX7_checkArgument := goodIn_ca (goodIn_r _ [26, 27, 28] (by decide +kernel) (by decide +kernel)) (goodIn_sub (fun _ h => List.mem_cons_of_mem _ (List.mem_append_left _ (List.mem_append_left _ (List.mem_append_right _ h)))) (by decide +kernel))
set_option maxRecDepth 20000 in
theorem gX7_left_X7_checkArgument : GoodIn wsX7_left (va_wsS RX7 123 yX7_checkArgument wsX7_checkArgument) := goodIn_app (goodIn_of _ (by decide +kernel)) ggX7_left_X7_checkArgument
set_option maxRecDepth 20000 in
theorem ggX7_left_X4_isPresent : GoodIn wsX7_left wsX4_isPresent := goodIn_ca (goodIn_r _ [32, 33, 34, 10, 11, 12, 13, 14, 68, 69, 70, 71, 72, 73, 74] (by decide +kernel) (by decide +kernel)) (goodIn_sub (fun _ h => List.mem_cons_of_mem _ (List.mem_append_left _ (List.mem_append_right _ h))) (by decide +kernel))
set_option maxRecDepth 20000 in
theorem gX7_left_X4_isPresent : GoodIn wsX7_left (wsV RX7 168 RX4 yX4_isPresent wsX4_isPresent) := goodIn_app (goodIn_of _ (by decide +kernel)) ggX7_left_X4_isPresent
set_option maxRecDepth 20000 in
theorem ggX7_left_X7_checkState : GoodIn wsX7_left wsX7_checkState := goodIn_ca (goodIn_r _ [37, 38, 39] (by decide +kernel) (by decide +kernel)) (goodIn_sub (fun _ h => List.mem_cons_of_mem _ (List.mem_append_right _ h)) (by decide +kernel))
set_option maxRecDepth 20000 in
theorem gX7_left_X7_checkState : GoodIn wsX7_left (va_wsS RX7 171 yX7_checkState wsX7_checkState) := goodIn_app (goodIn_of _ (by decide +kernel)) ggX7_left_X7_checkState
set_option maxRecDepth 20000 in
theorem ggX7_left_X3_sumOn : GoodIn wsX7_left wsX3_sumOn := goodIn_ca (goodIn_r _ [44, 45, 46, 47, 48, 49, 50, 43, 51, 52, 53, 17, 54, 75, 76, 77, 78, 79, 80] (by decide +kernel) (by decide +kernel)) (goodIn_sub (fun _ h => List.mem_cons_of_mem _ (List.mem_append_left _ (List.mem_append_right _ h))) (by decide +kernel))
set_option maxRecDepth 20000 in
theorem gX7_left_X3_sumOn : GoodIn wsX7_left (wsV RX7 293 RX3 yX3_sumOn wsX3_sumOn) := goodIn_app (goodIn_of _ (by decide +kernel)) ggX7_left_X3_sumOn
theorem dX7_left_0 : decode cX7_left 0 = .ok (.aload_n 0, 1) := by decide +kernel
theorem dX7_left_1 : decode cX7_left 1 = .ok (.getfield 10, 3) := by decide +kernel
theorem dX7_left_4 : decode cX7_left 4 = .ok (.getfield 47, 3) := by decide +kernel
theorem dX7_left_7 : decode cX7_left 7 = .ok (.iload_n 1, 1) := by decide +kernel
theorem dX7_left_8 : decode cX7_left 8 = .ok (.invokevirtual 111, 3) := by decide +kernel
theorem dX7_left_11 : decode cX7_left 11 = .ok (.invokestatic 115, 3) := by decide +kernel
theorem dX7_left_14 : decode cX7_left 14 = .ok (.iload_n 2, 1) := by decide +kernel
theorem dX7_left_15 : decode cX7_left 15 = .ok (.iconst 0, 1) := by decide +kernel
theorem dX7_left_16 : decode cX7_left 16 = .ok (.ldc_w 289, 3) := by decide +kernel
theorem dX7_left_19 : decode cX7_left 19 = .ok (.invokestatic 119, 3) := by decide +kernel
theorem dX7_left_22 : decode cX7_left 22 = .ok (.invokestatic 123, 3) := by decide +kernel
theorem dX7_left_25 : decode cX7_left 25 = .ok (.aload_n 0, 1) := by decide +kernel
theorem dX7_left_26 : decode cX7_left 26 = .ok (.getfield 10, 3) := by decide +kernel
theorem dX7_left_29 : decode cX7_left 29 = .ok (.getfield 47, 3) := by decide +kernel
theorem dX7_left_32 : decode cX7_left 32 = .ok (.iload_n 1, 1) := by decide +kernel
theorem dX7_left_33 : decode cX7_left 33 = .ok (.invokevirtual 168, 3) := by decide +kernel
theorem dX7_left_36 : decode cX7_left 36 = .ok (.invokestatic 171, 3) := by decide +kernel
theorem dX7_left_39 : decode cX7_left 39 = .ok (.iconst 0, 1) := by decide +kernel
theorem dX7_left_40 : decode cX7_left 40 = .ok (.iload_n 2, 1) := by decide +kernel
theorem dX7_left_41 : decode cX7_left 41 = .ok (.aload_n 0, 1) := by decide +kernel
theorem dX7_left_42 : decode cX7_left 42 = .ok (.getfield 10, 3) := by decide +kernel
theorem dX7_left_45 : decode cX7_left 45 = .ok (.getfield 149, 3) := by decide +kernel
theorem dX7_left_48 : decode cX7_left 48 = .ok (.iload_n 1, 1) := by decide +kernel
theorem dX7_left_49 : decode cX7_left 49 = .ok (.invokevirtual 293, 3) := by decide +kernel
theorem dX7_left_52 : decode cX7_left 52 = .ok (.isub, 1) := by decide +kernel
theorem dX7_left_53 : decode cX7_left 53 = .ok (.invokestatic 296, 3) := by decide +kernel
theorem dX7_left_56 : decode cX7_left 56 = .ok (.ireturn, 1) := by decide +kernel
set_option maxRecDepth 20000 in
theorem ggX7_needed_X3_has : GoodIn wsX7_needed wsX3_has := goodIn_r _ [8, 9, 66, 67, 68, 69, 70, 71] (by decide +kernel) (by decide +kernel)
set_option maxRecDepth 20000 in
theorem gX7_needed_X3_has : GoodIn wsX7_needed (wsV RX7 268 RX3 yX3_has wsX3_has) := goodIn_app (goodIn_of _ (by decide +kernel)) ggX7_needed_X3_has
set_option maxRecDepth 20000 in
theorem ggX7_needed_X4_has : GoodIn wsX7_needed wsX4_has := goodIn_r _ [14, 15, 72, 73, 74, 75, 76, 77, 78] (by decide +kernel) (by decide +kernel)
set_option maxRecDepth 20000 in
theorem gX7_needed_X4_has : GoodIn wsX7_needed (wsV RX7 111 RX4 yX4_has wsX4_has) := goodIn_app (goodIn_of _ (by decide +kernel)) ggX7_needed_X4_has
set_option maxRecDepth 20000 in
theorem ggX7_needed_X7_checkNumber : GoodIn wsX7_needed wsX7_checkNumber := goodIn_ca (goodIn_r _ [19, 20, 21] (by decide +kernel) (by decide +kernel)) (goodIn_sub (fun _ h => List.mem_cons_of_mem _ (List.mem_append_left _ (List.mem_append_left _ (List.mem_append_right _ h)))) (by decide +kernel))
set_option maxRecDepth 20000 in
theorem gX7_needed_X7_checkNumber : GoodIn wsX7_needed (va_wsS RX7 115 yX7_checkNumber wsX7_checkNumber) := goodIn_app (goodIn_of _ (by decide +kernel)) ggX7_needed_X7_checkNumber
set_option maxRecDepth 20000 in
theorem ggX7_needed_X3_isLiveOn : GoodIn wsX7_needed wsX3_isLiveOn := goodIn_ca (goodIn_r _ [25, 26, 27, 28, 7, 29, 30, 31, 32, 33, 34, 35, 36, 37, 18, 38, 66, 67, 68, 69, 70, 71] (by decide +kernel) (by decide +kernel)) (goodIn_sub (fun _ h => List.mem_cons_of_mem _ (List.mem_append_left _ (List.mem_append_right _ h))) (by decide +kernel))
set_option maxRecDepth 20000 in
theorem gX7_needed_X3_isLiveOn : GoodIn wsX7_needed (wsV RX7 301 RX3 yX3_isLiveOn wsX3_isLiveOn) := goodIn_app (goodIn_of _ (by decide +kernel)) ggX7_needed_X3_isLiveOn
set_option maxRecDepth 20000 in
theorem ggX7_needed_X7_checkAnswer : GoodIn wsX7_needed wsX7_checkAnswer := goodIn_ca (goodIn_r _ [41, 42, 43] (by decide +kernel) (by decide +kernel)) (goodIn_sub (fun _ h => List.mem_cons_of_mem _ (List.mem_append_right _ h)) (by decide +kernel))
set_option maxRecDepth 20000 in
theorem gX7_needed_X7_checkAnswer : GoodIn wsX7_needed (va_wsS RX7 177 yX7_checkAnswer wsX7_checkAnswer) := goodIn_app (goodIn_of _ (by decide +kernel)) ggX7_needed_X7_checkAnswer
set_option maxRecDepth 20000 in
theorem ggX7_needed_X3_sumUpTo : GoodIn wsX7_needed wsX3_sumUpTo := goodIn_ca (goodIn_r _ [47, 48, 31, 49, 50, 51, 7, 52, 30, 32, 33, 34, 35, 36, 37, 18, 38, 66, 67, 68, 69, 70, 71] (by decide +kernel) (by decide +kernel)) (goodIn_sub (fun _ h => List.mem_cons_of_mem _ (List.mem_append_left _ (List.mem_append_right _ h))) (by decide +kernel))
set_option maxRecDepth 20000 in
theorem gX7_needed_X3_sumUpTo : GoodIn wsX7_needed (wsV RX7 304 RX3 yX3_sumUpTo wsX3_sumUpTo) := goodIn_app (goodIn_of _ (by decide +kernel)) ggX7_needed_X3_sumUpTo
theorem dX7_needed_0 : decode cX7_needed 0 = .ok (.aload_n 0, 1) := by decide +kernel
theorem dX7_needed_1 : decode cX7_needed 1 = .ok (.getfield 10, 3) := by decide +kernel
theorem dX7_needed_4 : decode cX7_needed 4 = .ok (.getfield 149, 3) := by decide +kernel
theorem dX7_needed_7 : decode cX7_needed 7 = .ok (.iload_n 1, 1) := by decide +kernel
theorem dX7_needed_8 : decode cX7_needed 8 = .ok (.invokevirtual 268, 3) := by decide +kernel
theorem dX7_needed_11 : decode cX7_needed 11 = .ok (.ifCond .eq 21, 3) := by decide +kernel
theorem dX7_needed_14 : decode cX7_needed 14 = .ok (.aload_n 0, 1) := by decide +kernel
theorem dX7_needed_15 : decode cX7_needed 15 = .ok (.getfield 10, 3) := by decide +kernel
theorem dX7_needed_18 : decode cX7_needed 18 = .ok (.getfield 47, 3) := by decide +kernel
theorem dX7_needed_21 : decode cX7_needed 21 = .ok (.iload_n 2, 1) := by decide +kernel
theorem dX7_needed_22 : decode cX7_needed 22 = .ok (.invokevirtual 111, 3) := by decide +kernel
theorem dX7_needed_25 : decode cX7_needed 25 = .ok (.ifCond .eq 7, 3) := by decide +kernel
theorem dX7_needed_28 : decode cX7_needed 28 = .ok (.iconst 1, 1) := by decide +kernel
theorem dX7_needed_29 : decode cX7_needed 29 = .ok (.goto 4, 3) := by decide +kernel
theorem dX7_needed_32 : decode cX7_needed 32 = .ok (.iconst 0, 1) := by decide +kernel
theorem dX7_needed_33 : decode cX7_needed 33 = .ok (.invokestatic 115, 3) := by decide +kernel
theorem dX7_needed_36 : decode cX7_needed 36 = .ok (.aload_n 0, 1) := by decide +kernel
theorem dX7_needed_37 : decode cX7_needed 37 = .ok (.getfield 10, 3) := by decide +kernel
theorem dX7_needed_40 : decode cX7_needed 40 = .ok (.getfield 149, 3) := by decide +kernel
theorem dX7_needed_43 : decode cX7_needed 43 = .ok (.iload_n 1, 1) := by decide +kernel
theorem dX7_needed_44 : decode cX7_needed 44 = .ok (.iload_n 2, 1) := by decide +kernel
theorem dX7_needed_45 : decode cX7_needed 45 = .ok (.invokevirtual 301, 3) := by decide +kernel
theorem dX7_needed_48 : decode cX7_needed 48 = .ok (.invokestatic 177, 3) := by decide +kernel
theorem dX7_needed_51 : decode cX7_needed 51 = .ok (.aload_n 0, 1) := by decide +kernel
theorem dX7_needed_52 : decode cX7_needed 52 = .ok (.getfield 10, 3) := by decide +kernel
theorem dX7_needed_55 : decode cX7_needed 55 = .ok (.getfield 149, 3) := by decide +kernel
theorem dX7_needed_58 : decode cX7_needed 58 = .ok (.iload_n 1, 1) := by decide +kernel
theorem dX7_needed_59 : decode cX7_needed 59 = .ok (.iload_n 2, 1) := by decide +kernel
theorem dX7_needed_60 : decode cX7_needed 60 = .ok (.invokevirtual 304, 3) := by decide +kernel
theorem dX7_needed_63 : decode cX7_needed 63 = .ok (.ireturn, 1) := by decide +kernel
set_option maxRecDepth 20000 in
theorem ggX7_advance_X6_faultOfDays : GoodIn wsX7_advance wsX6_faultOfDays := goodIn_r _ [8, 9, 10, 11, 12, 116, 117, 118, 119, 120] (by decide +kernel) (by decide +kernel)
set_option maxRecDepth 20000 in
theorem gX7_advance_X6_faultOfDays : GoodIn wsX7_advance (wsV RX7 307 RX6 yX6_faultOfDays wsX6_faultOfDays) := goodIn_app (goodIn_of _ (by decide +kernel)) ggX7_advance_X6_faultOfDays
set_option maxRecDepth 20000 in
theorem ggX7_advance_X7_raise : GoodIn wsX7_advance wsX7_raise := goodIn_ca (goodIn_ca (goodIn_ca (goodIn_ca (goodIn_r _ [15, 16, 17, 18, 19, 11, 20, 21, 22, 23, 24, 25, 26, 27, 28, 29, 30, 31, 32, 33, 34, 35, 36, 10, 12] (by decide +kernel) (by decide +kernel)) (goodIn_sub (fun _ h => List.mem_cons_of_mem _ (List.mem_append_left _ (List.mem_append_left _ (List.mem_append_left _ (List.mem_append_right _ h))))) (by decide +kernel))) (goodIn_sub (fun _ h => List.mem_cons_of_mem _ (List.mem_append_left _ (List.mem_append_left _ (List.mem_append_right _ h)))) (by decide +kernel))) (goodIn_sub (fun _ h => List.mem_cons_of_mem _ (List.mem_append_left _ (List.mem_append_right _ h))) (by decide +kernel))) (goodIn_sub (fun _ h => List.mem_cons_of_mem _ (List.mem_append_right _ h)) (by decide +kernel))
set_option maxRecDepth 20000 in
theorem gX7_advance_X7_raise : GoodIn wsX7_advance (va_wsS RX7 66 yX7_raise wsX7_raise) := goodIn_app (goodIn_of _ (by decide +kernel)) ggX7_advance_X7_raise
set_option maxRecDepth 20000 in
theorem ggX7_advance_X2_remember : GoodIn wsX7_advance wsX2_remember := goodIn_r _ [41, 42, 43, 44, 45, 46, 47, 48, 49, 50, 51, 7, 52, 9, 53, 54, 55, 56, 57, 58, 59, 60, 61, 62, 63, 64, 65, 66, 67, 68, 69, 70, 71, 72, 73, 74, 75, 76, 77, 78, 79, 80, 81, 82, 83, 84, 85, 86, 87, 88, 89, 90, 91, 92, 93, 94, 95, 96, 97, 98, 99, 100, 101, 102, 103, 104, 105, 106, 107, 121, 122, 123, 116, 117, 118, 119, 120, 124, 125, 126, 127, 128, 129, 130, 131, 132, 133, 134, 135, 136, 137, 138, 139, 140, 141, 142, 143, 144, 145, 146, 147, 148] (by decide +kernel) (by decide +kernel)
set_option maxRecDepth 20000 in
theorem gX7_advance_X2_remember : GoodIn wsX7_advance (wsV RX7 70 RX2 yX2_remember wsX2_remember) := goodIn_app (goodIn_of _ (by decide +kernel)) ggX7_advance_X2_remember
theorem dX7_advance_0 : decode cX7_advance 0 = .ok (.aload_n 0, 1) := by decide +kernel
theorem dX7_advance_1 : decode cX7_advance 1 = .ok (.getfield 10, 3) := by decide +kernel
theorem dX7_advance_4 : decode cX7_advance 4 = .ok (.iload_n 1, 1) := by decide +kernel
theorem dX7_advance_5 : decode cX7_advance 5 = .ok (.invokevirtual 307, 3) := by decide +kernel
theorem dX7_advance_8 : decode cX7_advance 8 = .ok (.invokestatic 66, 3) := by decide +kernel
theorem dX7_advance_11 : decode cX7_advance 11 = .ok (.aload_n 0, 1) := by decide +kernel
theorem dX7_advance_12 : decode cX7_advance 12 = .ok (.getfield 25, 3) := by decide +kernel
theorem dX7_advance_15 : decode cX7_advance 15 = .ok (.aload_n 0, 1) := by decide +kernel
theorem dX7_advance_16 : decode cX7_advance 16 = .ok (.getfield 10, 3) := by decide +kernel
theorem dX7_advance_19 : decode cX7_advance 19 = .ok (.invokevirtual 70, 3) := by decide +kernel
theorem dX7_advance_22 : decode cX7_advance 22 = .ok (.aload_n 0, 1) := by decide +kernel
theorem dX7_advance_23 : decode cX7_advance 23 = .ok (.getfield 10, 3) := by decide +kernel
theorem dX7_advance_26 : decode cX7_advance 26 = .ok (.dup, 1) := by decide +kernel
theorem dX7_advance_27 : decode cX7_advance 27 = .ok (.getfield 74, 3) := by decide +kernel
theorem dX7_advance_30 : decode cX7_advance 30 = .ok (.iload_n 1, 1) := by decide +kernel
theorem dX7_advance_31 : decode cX7_advance 31 = .ok (.iadd, 1) := by decide +kernel
theorem dX7_advance_32 : decode cX7_advance 32 = .ok (.putfield 74, 3) := by decide +kernel
theorem dX7_advance_35 : decode cX7_advance 35 = .ok (.aload_n 0, 1) := by decide +kernel
theorem dX7_advance_36 : decode cX7_advance 36 = .ok (.getfield 10, 3) := by decide +kernel
theorem dX7_advance_39 : decode cX7_advance 39 = .ok (.getfield 74, 3) := by decide +kernel
theorem dX7_advance_42 : decode cX7_advance 42 = .ok (.ireturn, 1) := by decide +kernel
set_option maxRecDepth 20000 in
theorem ggX7_account_X7_isFrom : GoodIn wsX7_account wsX7_isFrom := goodIn_r _ [13] (by decide +kernel) (by decide +kernel)
set_option maxRecDepth 20000 in
theorem gX7_account_X7_isFrom : GoodIn wsX7_account (va_wsS RX7 119 yX7_isFrom wsX7_isFrom) := goodIn_app (goodIn_of _ (by decide +kernel)) ggX7_account_X7_isFrom
set_option maxRecDepth 20000 in
theorem ggX7_account_X7_checkArgument : GoodIn wsX7_account wsX7_checkArgument := goodIn_ca (goodIn_r _ [16, 17, 18] (by decide +kernel) (by decide +kernel)) (goodIn_sub (fun _ h => List.mem_cons_of_mem _ (List.mem_append_left _ (List.mem_append_right _ h))) (by decide +kernel))
set_option maxRecDepth 20000 in
theorem gX7_account_X7_checkArgument : GoodIn wsX7_account (va_wsS RX7 123 yX7_checkArgument wsX7_checkArgument) := goodIn_app (goodIn_of _ (by decide +kernel)) ggX7_account_X7_checkArgument
set_option maxRecDepth 20000 in
theorem ggX7_account_X4_presentOnes : GoodIn wsX7_account wsX4_presentOnes := goodIn_ca (goodIn_r _ [23, 24, 25, 97, 98, 99, 100, 101, 102, 103] (by decide +kernel) (by decide +kernel)) (goodIn_sub (fun _ h => List.mem_cons_of_mem _ (List.mem_append_right _ h)) (by decide +kernel))
set_option maxRecDepth 20000 in
theorem gX7_account_X4_presentOnes : GoodIn wsX7_account (wsV RX7 164 RX4 yX4_presentOnes wsX4_presentOnes) := goodIn_app (goodIn_of _ (by decide +kernel)) ggX7_account_X4_presentOnes
set_option maxRecDepth 20000 in
theorem ggX7_account_J6_bitCount_0f7a4 : GoodIn wsX7_account wsJ6_bitCount_0f7a4 := goodIn_r _ [29, 30, 31, 32] (by decide +kernel) (by decide +kernel)
set_option maxRecDepth 20000 in
theorem gX7_account_J6_bitCount_0f7a4 : GoodIn wsX7_account (va_wsS RX7 310 yJ6_bitCount_0f7a4 wsJ6_bitCount_0f7a4) := goodIn_app (goodIn_of _ (by decide +kernel)) ggX7_account_J6_bitCount_0f7a4
set_option maxRecDepth 20000 in
theorem ggX7_account_X4_areaOf : GoodIn wsX7_account wsX4_areaOf := goodIn_ca (goodIn_r _ [36, 24, 37, 38, 12, 39, 97, 98, 99, 100, 101, 102, 103] (by decide +kernel) (by decide +kernel)) (goodIn_sub (fun _ h => List.mem_cons_of_mem _ (List.mem_append_right _ h)) (by decide +kernel))
set_option maxRecDepth 20000 in
theorem gX7_account_X4_areaOf : GoodIn wsX7_account (wsV RX7 315 RX4 yX4_areaOf wsX4_areaOf) := goodIn_app (goodIn_of _ (by decide +kernel)) ggX7_account_X4_areaOf
set_option maxRecDepth 20000 in
theorem ggX7_account_X4_addedOnes : GoodIn wsX7_account wsX4_addedOnes := goodIn_ca (goodIn_r _ [43, 24, 44, 97, 98, 99, 100, 101, 102, 103] (by decide +kernel) (by decide +kernel)) (goodIn_sub (fun _ h => List.mem_cons_of_mem _ (List.mem_append_right _ h)) (by decide +kernel))
set_option maxRecDepth 20000 in
theorem gX7_account_X4_addedOnes : GoodIn wsX7_account (wsV RX7 318 RX4 yX4_addedOnes wsX4_addedOnes) := goodIn_app (goodIn_of _ (by decide +kernel)) ggX7_account_X4_addedOnes
set_option maxRecDepth 20000 in
theorem ggX7_account_X6_allGaps : GoodIn wsX7_account wsX6_allGaps := goodIn_ca (goodIn_r _ [49, 50, 51, 52, 53, 54, 55, 56, 57, 58, 59, 60, 61, 62, 92, 93, 94, 95, 96, 97, 98, 99, 100, 101, 102, 103, 104, 105, 106, 107, 108, 109] (by decide +kernel) (by decide +kernel)) (goodIn_sub (fun _ h => List.mem_cons_of_mem _ (List.mem_append_right _ h)) (by decide +kernel))
set_option maxRecDepth 20000 in
theorem gX7_account_X6_allGaps : GoodIn wsX7_account (wsV RX7 322 RX6 yX6_allGaps wsX6_allGaps) := goodIn_app (goodIn_of _ (by decide +kernel)) ggX7_account_X6_allGaps
set_option maxRecDepth 20000 in
theorem ggX7_account_X1_liveCount : GoodIn wsX7_account wsX1_liveCount := goodIn_ca (goodIn_r _ [67, 68, 69, 116, 117, 118, 119, 120, 121] (by decide +kernel) (by decide +kernel)) (goodIn_sub (fun _ h => List.mem_cons_of_mem _ (List.mem_append_right _ h)) (by decide +kernel))
set_option maxRecDepth 20000 in
theorem gX7_account_X1_liveCount : GoodIn wsX7_account (wsV RX7 236 RX1 yX1_liveCount wsX1_liveCount) := goodIn_app (goodIn_of _ (by decide +kernel)) ggX7_account_X1_liveCount
set_option maxRecDepth 20000 in
theorem ggX7_account_X3_sumOfAll : GoodIn wsX7_account wsX3_sumOfAll := goodIn_ca (goodIn_r _ [74, 75, 76, 77, 110, 111, 112, 113, 114, 115] (by decide +kernel) (by decide +kernel)) (goodIn_sub (fun _ h => List.mem_cons_of_mem _ (List.mem_append_right _ h)) (by decide +kernel))
set_option maxRecDepth 20000 in
theorem gX7_account_X3_sumOfAll : GoodIn wsX7_account (wsV RX7 328 RX3 yX3_sumOfAll wsX3_sumOfAll) := goodIn_app (goodIn_of _ (by decide +kernel)) ggX7_account_X3_sumOfAll
set_option maxRecDepth 20000 in
theorem ggX7_account_X4_pairs : GoodIn wsX7_account wsX4_pairs := goodIn_ca (goodIn_r _ [81, 24, 82, 83, 27, 28, 29, 30, 31, 32, 97, 98, 99, 100, 101, 102, 103] (by decide +kernel) (by decide +kernel)) (goodIn_sub (fun _ h => List.mem_cons_of_mem _ (List.mem_append_right _ h)) (by decide +kernel))
set_option maxRecDepth 20000 in
theorem gX7_account_X4_pairs : GoodIn wsX7_account (wsV RX7 331 RX4 yX4_pairs wsX4_pairs) := goodIn_app (goodIn_of _ (by decide +kernel)) ggX7_account_X4_pairs
theorem dX7_account_0 : decode cX7_account 0 = .ok (.iload_n 1, 1) := by decide +kernel
theorem dX7_account_1 : decode cX7_account 1 = .ok (.iconst 0, 1) := by decide +kernel
theorem dX7_account_2 : decode cX7_account 2 = .ok (.bipush 10, 2) := by decide +kernel
theorem dX7_account_4 : decode cX7_account 4 = .ok (.invokestatic 119, 3) := by decide +kernel
theorem dX7_account_7 : decode cX7_account 7 = .ok (.invokestatic 123, 3) := by decide +kernel
theorem dX7_account_10 : decode cX7_account 10 = .ok (.iload_n 1, 1) := by decide +kernel
theorem dX7_account_11 : decode cX7_account 11 = .ok (.tableswitch 180 0 9 #[53, 64, 78, 99, 120, 131, 139, 150, 161, 172], 53) := by decide +kernel
theorem dX7_account_64 : decode cX7_account 64 = .ok (.aload_n 0, 1) := by decide +kernel
theorem dX7_account_65 : decode cX7_account 65 = .ok (.getfield 10, 3) := by decide +kernel
theorem dX7_account_68 : decode cX7_account 68 = .ok (.getfield 47, 3) := by decide +kernel
theorem dX7_account_71 : decode cX7_account 71 = .ok (.getfield 51, 3) := by decide +kernel
theorem dX7_account_74 : decode cX7_account 74 = .ok (.ireturn, 1) := by decide +kernel
theorem dX7_account_75 : decode cX7_account 75 = .ok (.aload_n 0, 1) := by decide +kernel
theorem dX7_account_76 : decode cX7_account 76 = .ok (.getfield 10, 3) := by decide +kernel
theorem dX7_account_79 : decode cX7_account 79 = .ok (.getfield 47, 3) := by decide +kernel
theorem dX7_account_82 : decode cX7_account 82 = .ok (.invokevirtual 164, 3) := by decide +kernel
theorem dX7_account_85 : decode cX7_account 85 = .ok (.invokestatic 310, 3) := by decide +kernel
theorem dX7_account_88 : decode cX7_account 88 = .ok (.ireturn, 1) := by decide +kernel
theorem dX7_account_89 : decode cX7_account 89 = .ok (.aload_n 0, 1) := by decide +kernel
theorem dX7_account_90 : decode cX7_account 90 = .ok (.getfield 10, 3) := by decide +kernel
theorem dX7_account_93 : decode cX7_account 93 = .ok (.getfield 47, 3) := by decide +kernel
theorem dX7_account_96 : decode cX7_account 96 = .ok (.aload_n 0, 1) := by decide +kernel
theorem dX7_account_97 : decode cX7_account 97 = .ok (.getfield 10, 3) := by decide +kernel
theorem dX7_account_100 : decode cX7_account 100 = .ok (.getfield 47, 3) := by decide +kernel
theorem dX7_account_103 : decode cX7_account 103 = .ok (.invokevirtual 164, 3) := by decide +kernel
theorem dX7_account_106 : decode cX7_account 106 = .ok (.invokevirtual 315, 3) := by decide +kernel
theorem dX7_account_109 : decode cX7_account 109 = .ok (.ireturn, 1) := by decide +kernel
theorem dX7_account_110 : decode cX7_account 110 = .ok (.aload_n 0, 1) := by decide +kernel
theorem dX7_account_111 : decode cX7_account 111 = .ok (.getfield 10, 3) := by decide +kernel
theorem dX7_account_114 : decode cX7_account 114 = .ok (.getfield 47, 3) := by decide +kernel
theorem dX7_account_117 : decode cX7_account 117 = .ok (.aload_n 0, 1) := by decide +kernel
theorem dX7_account_118 : decode cX7_account 118 = .ok (.getfield 10, 3) := by decide +kernel
theorem dX7_account_121 : decode cX7_account 121 = .ok (.getfield 47, 3) := by decide +kernel
theorem dX7_account_124 : decode cX7_account 124 = .ok (.invokevirtual 318, 3) := by decide +kernel
theorem dX7_account_127 : decode cX7_account 127 = .ok (.invokevirtual 315, 3) := by decide +kernel
theorem dX7_account_130 : decode cX7_account 130 = .ok (.ireturn, 1) := by decide +kernel
theorem dX7_account_131 : decode cX7_account 131 = .ok (.aload_n 0, 1) := by decide +kernel
theorem dX7_account_132 : decode cX7_account 132 = .ok (.getfield 10, 3) := by decide +kernel
theorem dX7_account_135 : decode cX7_account 135 = .ok (.getfield 137, 3) := by decide +kernel
theorem dX7_account_138 : decode cX7_account 138 = .ok (.getfield 321, 3) := by decide +kernel
theorem dX7_account_141 : decode cX7_account 141 = .ok (.ireturn, 1) := by decide +kernel
theorem dX7_account_142 : decode cX7_account 142 = .ok (.aload_n 0, 1) := by decide +kernel
theorem dX7_account_143 : decode cX7_account 143 = .ok (.getfield 10, 3) := by decide +kernel
theorem dX7_account_146 : decode cX7_account 146 = .ok (.invokevirtual 322, 3) := by decide +kernel
theorem dX7_account_149 : decode cX7_account 149 = .ok (.ireturn, 1) := by decide +kernel
theorem dX7_account_150 : decode cX7_account 150 = .ok (.aload_n 0, 1) := by decide +kernel
theorem dX7_account_151 : decode cX7_account 151 = .ok (.getfield 10, 3) := by decide +kernel
theorem dX7_account_154 : decode cX7_account 154 = .ok (.getfield 222, 3) := by decide +kernel
theorem dX7_account_157 : decode cX7_account 157 = .ok (.invokevirtual 236, 3) := by decide +kernel
theorem dX7_account_160 : decode cX7_account 160 = .ok (.ireturn, 1) := by decide +kernel
theorem dX7_account_161 : decode cX7_account 161 = .ok (.aload_n 0, 1) := by decide +kernel
theorem dX7_account_162 : decode cX7_account 162 = .ok (.getfield 10, 3) := by decide +kernel
theorem dX7_account_165 : decode cX7_account 165 = .ok (.getfield 149, 3) := by decide +kernel
theorem dX7_account_168 : decode cX7_account 168 = .ok (.getfield 325, 3) := by decide +kernel
theorem dX7_account_171 : decode cX7_account 171 = .ok (.ireturn, 1) := by decide +kernel
theorem dX7_account_172 : decode cX7_account 172 = .ok (.aload_n 0, 1) := by decide +kernel
theorem dX7_account_173 : decode cX7_account 173 = .ok (.getfield 10, 3) := by decide +kernel
theorem dX7_account_176 : decode cX7_account 176 = .ok (.getfield 149, 3) := by decide +kernel
theorem dX7_account_179 : decode cX7_account 179 = .ok (.invokevirtual 328, 3) := by decide +kernel
theorem dX7_account_182 : decode cX7_account 182 = .ok (.ireturn, 1) := by decide +kernel
theorem dX7_account_183 : decode cX7_account 183 = .ok (.aload_n 0, 1) := by decide +kernel
theorem dX7_account_184 : decode cX7_account 184 = .ok (.getfield 10, 3) := by decide +kernel
theorem dX7_account_187 : decode cX7_account 187 = .ok (.getfield 74, 3) := by decide +kernel
theorem dX7_account_190 : decode cX7_account 190 = .ok (.ireturn, 1) := by decide +kernel
theorem dX7_account_191 : decode cX7_account 191 = .ok (.aload_n 0, 1) := by decide +kernel
theorem dX7_account_192 : decode cX7_account 192 = .ok (.getfield 10, 3) := by decide +kernel
theorem dX7_account_195 : decode cX7_account 195 = .ok (.getfield 47, 3) := by decide +kernel
theorem dX7_account_198 : decode cX7_account 198 = .ok (.invokevirtual 331, 3) := by decide +kernel
theorem dX7_account_201 : decode cX7_account 201 = .ok (.ireturn, 1) := by decide +kernel
set_option maxRecDepth 20000 in
theorem ggX7_meanArea_X7_isPerson : GoodIn wsX7_meanArea wsX7_isPerson := goodIn_r _ [8, 9, 10, 7, 11] (by decide +kernel) (by decide +kernel)
set_option maxRecDepth 20000 in
theorem gX7_meanArea_X7_isPerson : GoodIn wsX7_meanArea (va_wsS RX7 207 yX7_isPerson wsX7_isPerson) := goodIn_app (goodIn_of _ (by decide +kernel)) ggX7_meanArea_X7_isPerson
set_option maxRecDepth 20000 in
theorem ggX7_meanArea_X7_checkNumber : GoodIn wsX7_meanArea wsX7_checkNumber := goodIn_ca (goodIn_r _ [14, 15, 16] (by decide +kernel) (by decide +kernel)) (goodIn_sub (fun _ h => List.mem_cons_of_mem _ (List.mem_append_left _ (List.mem_append_right _ h))) (by decide +kernel))
set_option maxRecDepth 20000 in
theorem gX7_meanArea_X7_checkNumber : GoodIn wsX7_meanArea (va_wsS RX7 115 yX7_checkNumber wsX7_checkNumber) := goodIn_app (goodIn_of _ (by decide +kernel)) ggX7_meanArea_X7_checkNumber
set_option maxRecDepth 20000 in
theorem ggX7_meanArea_X6_presentOf : GoodIn wsX7_meanArea wsX6_presentOf := goodIn_ca (goodIn_r _ [21, 22, 23, 24, 25, 26, 27, 28, 29, 30, 31, 32, 33, 34, 35, 36, 37, 20, 38, 39, 40, 41, 42, 43, 44, 45, 46, 47, 48, 49, 50, 51, 52, 53, 54, 55, 56, 57, 58, 59, 82, 83, 84, 85, 86, 87, 88, 89, 90, 91, 92, 93, 94, 95, 96, 97, 98, 99] (by decide +kernel) (by decide +kernel)) (goodIn_sub (fun _ h => List.mem_cons_of_mem _ (List.mem_append_right _ h)) (by decide +kernel))
set_option maxRecDepth 20000 in
theorem gX7_meanArea_X6_presentOf : GoodIn wsX7_meanArea (wsV RX7 210 RX6 yX6_presentOf wsX6_presentOf) := goodIn_app (goodIn_of _ (by decide +kernel)) ggX7_meanArea_X6_presentOf
set_option maxRecDepth 20000 in
theorem ggX7_meanArea_X4_areaOf : GoodIn wsX7_meanArea wsX4_areaOf := goodIn_ca (goodIn_r _ [63, 34, 64, 65, 7, 66, 87, 88, 89, 90, 91, 92, 93] (by decide +kernel) (by decide +kernel)) (goodIn_sub (fun _ h => List.mem_cons_of_mem _ (List.mem_append_right _ h)) (by decide +kernel))
set_option maxRecDepth 20000 in
theorem gX7_meanArea_X4_areaOf : GoodIn wsX7_meanArea (wsV RX7 315 RX4 yX4_areaOf wsX4_areaOf) := goodIn_app (goodIn_of _ (by decide +kernel)) ggX7_meanArea_X4_areaOf
set_option maxRecDepth 20000 in
theorem ggX7_meanArea_J6_bitCount_0f7a4 : GoodIn wsX7_meanArea wsJ6_bitCount_0f7a4 := goodIn_r _ [70, 71, 72, 73] (by decide +kernel) (by decide +kernel)
set_option maxRecDepth 20000 in
theorem gX7_meanArea_J6_bitCount_0f7a4 : GoodIn wsX7_meanArea (va_wsS RX7 310 yJ6_bitCount_0f7a4 wsJ6_bitCount_0f7a4) := goodIn_app (goodIn_of _ (by decide +kernel)) ggX7_meanArea_J6_bitCount_0f7a4
theorem dX7_meanArea_0 : decode cX7_meanArea 0 = .ok (.iload_n 1, 1) := by decide +kernel
theorem dX7_meanArea_1 : decode cX7_meanArea 1 = .ok (.invokestatic 207, 3) := by decide +kernel
theorem dX7_meanArea_4 : decode cX7_meanArea 4 = .ok (.invokestatic 115, 3) := by decide +kernel
theorem dX7_meanArea_7 : decode cX7_meanArea 7 = .ok (.aload_n 0, 1) := by decide +kernel
theorem dX7_meanArea_8 : decode cX7_meanArea 8 = .ok (.getfield 10, 3) := by decide +kernel
theorem dX7_meanArea_11 : decode cX7_meanArea 11 = .ok (.iload_n 1, 1) := by decide +kernel
theorem dX7_meanArea_12 : decode cX7_meanArea 12 = .ok (.invokevirtual 210, 3) := by decide +kernel
theorem dX7_meanArea_15 : decode cX7_meanArea 15 = .ok (.istore_n 2, 1) := by decide +kernel
theorem dX7_meanArea_16 : decode cX7_meanArea 16 = .ok (.iload_n 2, 1) := by decide +kernel
theorem dX7_meanArea_17 : decode cX7_meanArea 17 = .ok (.ifCond .ne 14, 3) := by decide +kernel
theorem dX7_meanArea_20 : decode cX7_meanArea 20 = .ok (.new 334, 3) := by decide +kernel
theorem dX7_meanArea_23 : decode cX7_meanArea 23 = .ok (.dup, 1) := by decide +kernel
theorem dX7_meanArea_24 : decode cX7_meanArea 24 = .ok (.ldc_w 336, 3) := by decide +kernel
theorem dX7_meanArea_27 : decode cX7_meanArea 27 = .ok (.invokespecial 338, 3) := by decide +kernel
theorem dX7_meanArea_30 : decode cX7_meanArea 30 = .ok (.athrow, 1) := by decide +kernel
theorem dX7_meanArea_31 : decode cX7_meanArea 31 = .ok (.aload_n 0, 1) := by decide +kernel
theorem dX7_meanArea_32 : decode cX7_meanArea 32 = .ok (.getfield 10, 3) := by decide +kernel
theorem dX7_meanArea_35 : decode cX7_meanArea 35 = .ok (.getfield 47, 3) := by decide +kernel
theorem dX7_meanArea_38 : decode cX7_meanArea 38 = .ok (.iload_n 2, 1) := by decide +kernel
theorem dX7_meanArea_39 : decode cX7_meanArea 39 = .ok (.invokevirtual 315, 3) := by decide +kernel
theorem dX7_meanArea_42 : decode cX7_meanArea 42 = .ok (.i2d, 1) := by decide +kernel
theorem dX7_meanArea_43 : decode cX7_meanArea 43 = .ok (.iload_n 2, 1) := by decide +kernel
theorem dX7_meanArea_44 : decode cX7_meanArea 44 = .ok (.invokestatic 310, 3) := by decide +kernel
theorem dX7_meanArea_47 : decode cX7_meanArea 47 = .ok (.i2d, 1) := by decide +kernel
theorem dX7_meanArea_48 : decode cX7_meanArea 48 = .ok (.ddiv, 1) := by decide +kernel
theorem dX7_meanArea_49 : decode cX7_meanArea 49 = .ok (.dreturn, 1) := by decide +kernel
set_option maxRecDepth 20000 in
theorem ggX7_append_X7_checkArgument : GoodIn wsX7_append wsX7_checkArgument := goodIn_ca (goodIn_r _ [6, 7, 8] (by decide +kernel) (by decide +kernel)) (goodIn_sub (fun _ h => List.mem_cons_of_mem _ (List.mem_append_left _ (List.mem_append_left _ (List.mem_append_right _ h)))) (by decide +kernel))
set_option maxRecDepth 20000 in
theorem gX7_append_X7_checkArgument : GoodIn wsX7_append (va_wsS RX7 123 yX7_checkArgument wsX7_checkArgument) := goodIn_app (goodIn_of _ (by decide +kernel)) ggX7_append_X7_checkArgument
set_option maxRecDepth 20000 in
theorem ggX7_append_X7_checkState : GoodIn wsX7_append wsX7_checkState := goodIn_ca (goodIn_r _ [11, 12, 13] (by decide +kernel) (by decide +kernel)) (goodIn_sub (fun _ h => List.mem_cons_of_mem _ (List.mem_append_left _ (List.mem_append_right _ h))) (by decide +kernel))
set_option maxRecDepth 20000 in
theorem gX7_append_X7_checkState : GoodIn wsX7_append (va_wsS RX7 171 yX7_checkState wsX7_checkState) := goodIn_app (goodIn_of _ (by decide +kernel)) ggX7_append_X7_checkState
set_option maxRecDepth 20000 in
theorem ggX7_append_X5_put : GoodIn wsX7_append wsX5_put := goodIn_ca (goodIn_r _ [18, 19, 20, 29, 30, 31, 32, 33, 34] (by decide +kernel) (by decide +kernel)) (goodIn_sub (fun _ h => List.mem_cons_of_mem _ (List.mem_append_right _ h)) (by decide +kernel))
set_option maxRecDepth 20000 in
theorem gX7_append_X5_put : GoodIn wsX7_append (wsV RX7 344 RX5 yX5_put wsX5_put) := goodIn_app (goodIn_of _ (by decide +kernel)) ggX7_append_X5_put
theorem dX7_append_0 : decode cX7_append 0 = .ok (.iload_n 1, 1) := by decide +kernel
theorem dX7_append_1 : decode cX7_append 1 = .ok (.bipush 32, 2) := by decide +kernel
theorem dX7_append_3 : decode cX7_append 3 = .ok (.if_icmp .lt 13, 3) := by decide +kernel
theorem dX7_append_6 : decode cX7_append 6 = .ok (.iload_n 1, 1) := by decide +kernel
theorem dX7_append_7 : decode cX7_append 7 = .ok (.bipush 126, 2) := by decide +kernel
theorem dX7_append_9 : decode cX7_append 9 = .ok (.if_icmp .gt 7, 3) := by decide +kernel
theorem dX7_append_12 : decode cX7_append 12 = .ok (.iconst 1, 1) := by decide +kernel
theorem dX7_append_13 : decode cX7_append 13 = .ok (.goto 4, 3) := by decide +kernel
theorem dX7_append_16 : decode cX7_append 16 = .ok (.iconst 0, 1) := by decide +kernel
theorem dX7_append_17 : decode cX7_append 17 = .ok (.invokestatic 123, 3) := by decide +kernel
theorem dX7_append_20 : decode cX7_append 20 = .ok (.aload_n 0, 1) := by decide +kernel
theorem dX7_append_21 : decode cX7_append 21 = .ok (.getfield 32, 3) := by decide +kernel
theorem dX7_append_24 : decode cX7_append 24 = .ok (.getfield 341, 3) := by decide +kernel
theorem dX7_append_27 : decode cX7_append 27 = .ok (.bipush 80, 2) := by decide +kernel
theorem dX7_append_29 : decode cX7_append 29 = .ok (.if_icmp .ge 7, 3) := by decide +kernel
theorem dX7_append_32 : decode cX7_append 32 = .ok (.iconst 1, 1) := by decide +kernel
theorem dX7_append_33 : decode cX7_append 33 = .ok (.goto 4, 3) := by decide +kernel
theorem dX7_append_36 : decode cX7_append 36 = .ok (.iconst 0, 1) := by decide +kernel
theorem dX7_append_37 : decode cX7_append 37 = .ok (.invokestatic 171, 3) := by decide +kernel
theorem dX7_append_40 : decode cX7_append 40 = .ok (.aload_n 0, 1) := by decide +kernel
theorem dX7_append_41 : decode cX7_append 41 = .ok (.getfield 32, 3) := by decide +kernel
theorem dX7_append_44 : decode cX7_append 44 = .ok (.iload_n 1, 1) := by decide +kernel
theorem dX7_append_45 : decode cX7_append 45 = .ok (.invokevirtual 344, 3) := by decide +kernel
theorem dX7_append_48 : decode cX7_append 48 = .ok (.aload_n 0, 1) := by decide +kernel
theorem dX7_append_49 : decode cX7_append 49 = .ok (.getfield 32, 3) := by decide +kernel
theorem dX7_append_52 : decode cX7_append 52 = .ok (.getfield 341, 3) := by decide +kernel
theorem dX7_append_55 : decode cX7_append 55 = .ok (.ireturn, 1) := by decide +kernel
set_option maxRecDepth 20000 in
theorem ggX7_read_X5_scan : GoodIn wsX7_read wsX5_scan := goodIn_ca (goodIn_r _ [13, 14, 15, 16, 17, 18, 19, 12, 20, 21, 22, 23, 24, 25, 26, 27, 28, 29, 30, 31, 32, 33, 34, 35, 36, 37, 38, 39, 40, 41, 42, 43, 44, 45, 46, 47, 48, 49, 50, 51, 52, 53, 54, 55, 56, 57, 58, 59, 60, 61, 62, 63, 64, 65, 66, 67, 68, 69, 70, 71, 72, 73, 74, 75, 76, 77, 78, 79, 80, 81, 82, 83, 84, 85, 86, 87, 88, 89, 90, 91, 92, 93, 94, 95, 96, 97, 98, 99, 100, 101, 102, 103, 104, 105, 106, 373, 374, 375, 376, 377, 378, 379, 380] (by decide +kernel) (by decide +kernel)) (goodIn_sub (fun _ h => List.mem_cons_of_mem _ (List.mem_append_left _ (List.mem_append_left _ (List.mem_append_right _ h)))) (by decide +kernel))
set_option maxRecDepth 20000 in
theorem gX7_read_X5_scan : GoodIn wsX7_read (wsV RX7 348 RX5 yX5_scan wsX5_scan) := goodIn_app (goodIn_of _ (by decide +kernel)) ggX7_read_X5_scan
set_option maxRecDepth 20000 in
theorem ggX7_read_X7_checkArgument : GoodIn wsX7_read wsX7_checkArgument := goodIn_ca (goodIn_r _ [110, 111, 112] (by decide +kernel) (by decide +kernel)) (goodIn_sub (fun _ h => List.mem_cons_of_mem _ (List.mem_append_left _ (List.mem_append_right _ h))) (by decide +kernel))
set_option maxRecDepth 20000 in
theorem gX7_read_X7_checkArgument : GoodIn wsX7_read (va_wsS RX7 123 yX7_checkArgument wsX7_checkArgument) := goodIn_app (goodIn_of _ (by decide +kernel)) ggX7_read_X7_checkArgument
set_option maxRecDepth 20000 in
theorem ggX7_read_X6_copyFrom : GoodIn wsX7_read wsX6_copyFrom := goodIn_r _ [117, 118, 119, 120, 121, 122, 123, 124, 125, 126, 127, 128, 129, 130, 131, 132, 133, 134, 135, 136, 137, 138, 139, 140, 141, 142, 143, 144, 145, 146, 147, 148, 149, 150, 151, 152, 153, 154, 155, 156, 157, 158, 159, 160, 161, 162, 163, 164, 165, 166, 167, 168, 169, 170, 171, 172, 173, 381, 382, 383, 384, 385, 386, 387, 388, 389, 390, 391, 392, 393, 394, 395, 396, 397, 398, 399, 400, 401, 402, 403, 404, 405, 406, 407, 408, 409, 410] (by decide +kernel) (by decide +kernel)
set_option maxRecDepth 20000 in
theorem gX7_read_X6_copyFrom : GoodIn wsX7_read (wsV RX7 355 RX6 yX6_copyFrom wsX6_copyFrom) := goodIn_app (goodIn_of _ (by decide +kernel)) ggX7_read_X6_copyFrom
set_option maxRecDepth 20000 in
theorem ggX7_read_X7_carryOut : GoodIn wsX7_read wsX7_carryOut := goodIn_ca (goodIn_r _ [177, 1, 8, 178, 179, 180, 109, 181, 6, 182, 183, 184, 185, 186, 12, 187, 22, 188, 189, 190, 191, 21, 192, 193, 194, 126, 195, 136, 196, 197, 198, 199, 128, 200, 201, 202, 116, 203, 119, 204, 205, 206, 207, 208, 209, 210, 211, 135, 212, 213, 214, 215, 216, 217, 218, 219, 220, 221, 222, 223, 224, 225, 226, 227, 228, 229, 230, 231, 232, 120, 233, 234, 235, 236, 142, 237, 144, 149, 238, 239, 240, 241, 145, 147, 148, 242, 243, 244, 245, 246, 118, 247, 248, 249, 250, 251, 252, 253, 254, 121, 255, 256, 257, 258, 259, 122, 260, 261, 262, 263, 264, 265, 266, 267, 268, 269, 270, 271, 272, 273, 274, 275, 276, 277, 278, 279, 280, 281, 282, 283, 284, 285, 286, 287, 288, 129, 289, 290, 291, 292, 293, 294, 295, 296, 134, 137, 138, 297, 298, 299, 300, 301, 302, 303, 304, 305, 306, 307, 308, 153, 309, 155, 161, 158, 159, 156, 310, 311, 312, 313, 314, 315, 316, 317, 160, 318, 319, 320, 165, 321, 168, 173, 172, 322, 323, 324, 325, 326, 327, 328, 329, 330, 331, 332, 333, 334, 335, 336, 337, 338, 339, 340, 341, 342, 343, 344, 345, 346, 347, 167, 169, 171, 365, 366, 367, 368, 369, 370, 371, 372, 373, 374, 375, 376, 377, 378, 381, 382, 383, 384, 385, 386, 387, 388, 389, 390, 391, 392, 393, 394, 395, 396, 397, 398, 399, 400, 401, 402, 403, 404, 405, 406, 407, 408, 409, 410] (by decide +kernel) (by decide +kernel)) (goodIn_sub (fun _ h => List.mem_cons_of_mem _ (List.mem_append_left _ (List.mem_append_left _ (List.mem_append_right _ h)))) (by decide +kernel))
set_option maxRecDepth 20000 in
theorem gX7_read_X7_carryOut : GoodIn wsX7_read (wsV RX7 358 RX7 yX7_carryOut wsX7_carryOut) := goodIn_app (goodIn_of _ (by decide +kernel)) ggX7_read_X7_carryOut
set_option maxRecDepth 20000 in
theorem ggX7_read_X7_checkState : GoodIn wsX7_read wsX7_checkState := goodIn_ca (goodIn_r _ [350, 351, 352] (by decide +kernel) (by decide +kernel)) (goodIn_sub (fun _ h => List.mem_cons_of_mem _ (List.mem_append_right _ h)) (by decide +kernel))
set_option maxRecDepth 20000 in
theorem gX7_read_X7_checkState : GoodIn wsX7_read (va_wsS RX7 171 yX7_checkState wsX7_checkState) := goodIn_app (goodIn_of _ (by decide +kernel)) ggX7_read_X7_checkState
set_option maxRecDepth 20000 in
theorem ggX7_read_X2_remember : GoodIn wsX7_read wsX2_remember := goodIn_r _ [357, 358, 359, 360, 361, 362, 29, 363, 364, 114, 115, 116, 117, 118, 119, 120, 121, 122, 123, 124, 125, 126, 127, 128, 129, 130, 131, 132, 133, 134, 135, 136, 137, 138, 139, 140, 141, 142, 143, 144, 145, 146, 147, 148, 149, 150, 151, 152, 153, 154, 155, 156, 157, 158, 159, 160, 161, 162, 163, 164, 165, 166, 167, 168, 169, 170, 171, 172, 173, 411, 412, 413, 381, 382, 383, 384, 385, 386, 387, 388, 389, 390, 391, 392, 393, 394, 395, 396, 397, 398, 399, 400, 401, 402, 403, 404, 405, 406, 407, 408, 409, 410] (by decide +kernel) (by decide +kernel)
set_option maxRecDepth 20000 in
theorem gX7_read_X2_remember : GoodIn wsX7_read (wsV RX7 70 RX2 yX2_remember wsX2_remember) := goodIn_app (goodIn_of _ (by decide +kernel)) ggX7_read_X2_remember
theorem dX7_read_0 : decode cX7_read 0 = .ok (.aload_n 0, 1) := by decide +kernel
theorem dX7_read_1 : decode cX7_read 1 = .ok (.getfield 32, 3) := by decide +kernel
theorem dX7_read_4 : decode cX7_read 4 = .ok (.invokevirtual 348, 3) := by decide +kernel
theorem dX7_read_7 : decode cX7_read 7 = .ok (.istore_n 1, 1) := by decide +kernel
theorem dX7_read_8 : decode cX7_read 8 = .ok (.aload_n 0, 1) := by decide +kernel
theorem dX7_read_9 : decode cX7_read 9 = .ok (.getfield 32, 3) := by decide +kernel
theorem dX7_read_12 : decode cX7_read 12 = .ok (.iconst 0, 1) := by decide +kernel
theorem dX7_read_13 : decode cX7_read 13 = .ok (.putfield 341, 3) := by decide +kernel
theorem dX7_read_16 : decode cX7_read 16 = .ok (.iload_n 1, 1) := by decide +kernel
theorem dX7_read_17 : decode cX7_read 17 = .ok (.ifCond .ne 14, 3) := by decide +kernel
theorem dX7_read_20 : decode cX7_read 20 = .ok (.aload_n 0, 1) := by decide +kernel
theorem dX7_read_21 : decode cX7_read 21 = .ok (.aload_n 0, 1) := by decide +kernel
theorem dX7_read_22 : decode cX7_read 22 = .ok (.getfield 32, 3) := by decide +kernel
theorem dX7_read_25 : decode cX7_read 25 = .ok (.getfield 352, 3) := by decide +kernel
theorem dX7_read_28 : decode cX7_read 28 = .ok (.putfield 44, 3) := by decide +kernel
theorem dX7_read_31 : decode cX7_read 31 = .ok (.iload_n 1, 1) := by decide +kernel
theorem dX7_read_32 : decode cX7_read 32 = .ok (.invokestatic 123, 3) := by decide +kernel
theorem dX7_read_35 : decode cX7_read 35 = .ok (.aload_n 0, 1) := by decide +kernel
theorem dX7_read_36 : decode cX7_read 36 = .ok (.getfield 16, 3) := by decide +kernel
theorem dX7_read_39 : decode cX7_read 39 = .ok (.aload_n 0, 1) := by decide +kernel
theorem dX7_read_40 : decode cX7_read 40 = .ok (.getfield 10, 3) := by decide +kernel
theorem dX7_read_43 : decode cX7_read 43 = .ok (.invokevirtual 355, 3) := by decide +kernel
theorem dX7_read_46 : decode cX7_read 46 = .ok (.aload_n 0, 1) := by decide +kernel
theorem dX7_read_47 : decode cX7_read 47 = .ok (.invokevirtual 358, 3) := by decide +kernel
theorem dX7_read_50 : decode cX7_read 50 = .ok (.istore_n 2, 1) := by decide +kernel
theorem dX7_read_51 : decode cX7_read 51 = .ok (.iload_n 2, 1) := by decide +kernel
theorem dX7_read_52 : decode cX7_read 52 = .ok (.ifCond .ne 14, 3) := by decide +kernel
theorem dX7_read_55 : decode cX7_read 55 = .ok (.aload_n 0, 1) := by decide +kernel
theorem dX7_read_56 : decode cX7_read 56 = .ok (.getfield 10, 3) := by decide +kernel
theorem dX7_read_59 : decode cX7_read 59 = .ok (.aload_n 0, 1) := by decide +kernel
theorem dX7_read_60 : decode cX7_read 60 = .ok (.getfield 16, 3) := by decide +kernel
theorem dX7_read_63 : decode cX7_read 63 = .ok (.invokevirtual 355, 3) := by decide +kernel
theorem dX7_read_66 : decode cX7_read 66 = .ok (.iload_n 2, 1) := by decide +kernel
theorem dX7_read_67 : decode cX7_read 67 = .ok (.invokestatic 171, 3) := by decide +kernel
theorem dX7_read_70 : decode cX7_read 70 = .ok (.aload_n 0, 1) := by decide +kernel
theorem dX7_read_71 : decode cX7_read 71 = .ok (.getfield 25, 3) := by decide +kernel
theorem dX7_read_74 : decode cX7_read 74 = .ok (.aload_n 0, 1) := by decide +kernel
theorem dX7_read_75 : decode cX7_read 75 = .ok (.getfield 16, 3) := by decide +kernel
theorem dX7_read_78 : decode cX7_read 78 = .ok (.invokevirtual 70, 3) := by decide +kernel
theorem dX7_read_81 : decode cX7_read 81 = .ok (.aload_n 0, 1) := by decide +kernel
theorem dX7_read_82 : decode cX7_read 82 = .ok (.getfield 32, 3) := by decide +kernel
theorem dX7_read_85 : decode cX7_read 85 = .ok (.getfield 361, 3) := by decide +kernel
theorem dX7_read_88 : decode cX7_read 88 = .ok (.ireturn, 1) := by decide +kernel
set_option maxRecDepth 20000 in
theorem ggX7_errorPosition_X7_checkAnswer : GoodIn wsX7_errorPosition wsX7_checkAnswer := goodIn_ca (goodIn_r _ [5, 6, 7] (by decide +kernel) (by decide +kernel)) (goodIn_sub (fun _ h => List.mem_cons_of_mem _ (List.mem_append_right _ h)) (by decide +kernel))
set_option maxRecDepth 20000 in
theorem gX7_errorPosition_X7_checkAnswer : GoodIn wsX7_errorPosition (va_wsS RX7 177 yX7_checkAnswer wsX7_checkAnswer) := goodIn_app (goodIn_of _ (by decide +kernel)) ggX7_errorPosition_X7_checkAnswer
theorem dX7_errorPosition_0 : decode cX7_errorPosition 0 = .ok (.aload_n 0, 1) := by decide +kernel
theorem dX7_errorPosition_1 : decode cX7_errorPosition 1 = .ok (.getfield 44, 3) := by decide +kernel
theorem dX7_errorPosition_4 : decode cX7_errorPosition 4 = .ok (.iconst (-1), 1) := by decide +kernel
theorem dX7_errorPosition_5 : decode cX7_errorPosition 5 = .ok (.if_icmp .eq 7, 3) := by decide +kernel
theorem dX7_errorPosition_8 : decode cX7_errorPosition 8 = .ok (.iconst 1, 1) := by decide +kernel
theorem dX7_errorPosition_9 : decode cX7_errorPosition 9 = .ok (.goto 4, 3) := by decide +kernel
theorem dX7_errorPosition_12 : decode cX7_errorPosition 12 = .ok (.iconst 0, 1) := by decide +kernel
theorem dX7_errorPosition_13 : decode cX7_errorPosition 13 = .ok (.invokestatic 177, 3) := by decide +kernel
theorem dX7_errorPosition_16 : decode cX7_errorPosition 16 = .ok (.aload_n 0, 1) := by decide +kernel
theorem dX7_errorPosition_17 : decode cX7_errorPosition 17 = .ok (.getfield 44, 3) := by decide +kernel
theorem dX7_errorPosition_20 : decode cX7_errorPosition 20 = .ok (.ireturn, 1) := by decide +kernel
set_option maxRecDepth 20000 in
theorem ggX7_undo_X7_checkAnswer : GoodIn wsX7_undo wsX7_checkAnswer := goodIn_ca (goodIn_r _ [7, 8, 9] (by decide +kernel) (by decide +kernel)) (goodIn_sub (fun _ h => List.mem_cons_of_mem _ (List.mem_append_right _ h)) (by decide +kernel))
set_option maxRecDepth 20000 in
theorem gX7_undo_X7_checkAnswer : GoodIn wsX7_undo (va_wsS RX7 177 yX7_checkAnswer wsX7_checkAnswer) := goodIn_app (goodIn_of _ (by decide +kernel)) ggX7_undo_X7_checkAnswer
set_option maxRecDepth 20000 in
theorem ggX7_undo_X2_takeBack : GoodIn wsX7_undo wsX2_takeBack := goodIn_r _ [14, 15, 16, 17, 18, 19, 20, 21, 22, 23, 24, 25, 26, 27, 28, 29, 30, 31, 32, 33, 34, 35, 36, 37, 38, 39, 40, 41, 42, 43, 44, 45, 46, 47, 48, 49, 50, 51, 52, 53, 54, 55, 56, 57, 58, 59, 60, 61, 62, 63, 64, 65, 66, 67, 68, 69, 70, 71, 72, 73, 74, 75, 76, 77, 78, 87, 88, 89, 90, 91, 92, 93, 94, 95, 96, 97, 98, 99, 100, 101, 102, 103, 104, 105, 106, 107, 108, 109, 110, 111, 112, 113, 114, 115, 116, 117, 118, 119] (by decide +kernel) (by decide +kernel)
set_option maxRecDepth 20000 in
theorem gX7_undo_X2_takeBack : GoodIn wsX7_undo (wsV RX7 365 RX2 yX2_takeBack wsX2_takeBack) := goodIn_app (goodIn_of _ (by decide +kernel)) ggX7_undo_X2_takeBack
theorem dX7_undo_0 : decode cX7_undo 0 = .ok (.aload_n 0, 1) := by decide +kernel
theorem dX7_undo_1 : decode cX7_undo 1 = .ok (.getfield 25, 3) := by decide +kernel
theorem dX7_undo_4 : decode cX7_undo 4 = .ok (.getfield 364, 3) := by decide +kernel
theorem dX7_undo_7 : decode cX7_undo 7 = .ok (.ifCond .le 7, 3) := by decide +kernel
theorem dX7_undo_10 : decode cX7_undo 10 = .ok (.iconst 1, 1) := by decide +kernel
theorem dX7_undo_11 : decode cX7_undo 11 = .ok (.goto 4, 3) := by decide +kernel
theorem dX7_undo_14 : decode cX7_undo 14 = .ok (.iconst 0, 1) := by decide +kernel
theorem dX7_undo_15 : decode cX7_undo 15 = .ok (.invokestatic 177, 3) := by decide +kernel
theorem dX7_undo_18 : decode cX7_undo 18 = .ok (.aload_n 0, 1) := by decide +kernel
theorem dX7_undo_19 : decode cX7_undo 19 = .ok (.getfield 25, 3) := by decide +kernel
theorem dX7_undo_22 : decode cX7_undo 22 = .ok (.aload_n 0, 1) := by decide +kernel
theorem dX7_undo_23 : decode cX7_undo 23 = .ok (.getfield 10, 3) := by decide +kernel
theorem dX7_undo_26 : decode cX7_undo 26 = .ok (.invokevirtual 365, 3) := by decide +kernel
theorem dX7_undo_29 : decode cX7_undo 29 = .ok (.aload_n 0, 1) := by decide +kernel
theorem dX7_undo_30 : decode cX7_undo 30 = .ok (.getfield 25, 3) := by decide +kernel
theorem dX7_undo_33 : decode cX7_undo 33 = .ok (.getfield 364, 3) := by decide +kernel
theorem dX7_undo_36 : decode cX7_undo 36 = .ok (.ireturn, 1) := by decide +kernel
set_option maxRecDepth 20000 in
theorem ggX7_save_X6_copyFrom : GoodIn wsX7_save wsX6_copyFrom := goodIn_r _ [9, 10, 11, 12, 13, 14, 15, 16, 17, 18, 19, 20, 21, 22, 23, 24, 25, 26, 27, 28, 29, 30, 31, 32, 33, 34, 35, 36, 37, 38, 39, 40, 41, 42, 43, 44, 45, 46, 47, 48, 49, 50, 51, 52, 53, 54, 55, 56, 57, 58, 59, 60, 61, 62, 63, 64, 65, 85, 86, 87, 88, 89, 90, 91, 92, 93, 94, 95, 96, 97, 98, 99, 100, 101, 102, 103, 104, 105, 106, 107, 108, 109, 110, 111, 112, 113, 114] (by decide +kernel) (by decide +kernel)
set_option maxRecDepth 20000 in
theorem gX7_save_X6_copyFrom : GoodIn wsX7_save (wsV RX7 355 RX6 yX6_copyFrom wsX6_copyFrom) := goodIn_app (goodIn_of _ (by decide +kernel)) ggX7_save_X6_copyFrom
set_option maxRecDepth 20000 in
theorem ggX7_save_X4_presentOnes : GoodIn wsX7_save wsX4_presentOnes := goodIn_ca (goodIn_r _ [69, 20, 27, 90, 91, 92, 93, 94, 95, 96] (by decide +kernel) (by decide +kernel)) (goodIn_sub (fun _ h => List.mem_cons_of_mem _ (List.mem_append_right _ h)) (by decide +kernel))
set_option maxRecDepth 20000 in
theorem gX7_save_X4_presentOnes : GoodIn wsX7_save (wsV RX7 164 RX4 yX4_presentOnes wsX4_presentOnes) := goodIn_app (goodIn_of _ (by decide +kernel)) ggX7_save_X4_presentOnes
set_option maxRecDepth 20000 in
theorem ggX7_save_J6_bitCount_0f7a4 : GoodIn wsX7_save wsJ6_bitCount_0f7a4 := goodIn_r _ [73, 74, 75, 76] (by decide +kernel) (by decide +kernel)
set_option maxRecDepth 20000 in
theorem gX7_save_J6_bitCount_0f7a4 : GoodIn wsX7_save (va_wsS RX7 310 yJ6_bitCount_0f7a4 wsJ6_bitCount_0f7a4) := goodIn_app (goodIn_of _ (by decide +kernel)) ggX7_save_J6_bitCount_0f7a4
theorem dX7_save_0 : decode cX7_save 0 = .ok (.aload_n 0, 1) := by decide +kernel
theorem dX7_save_1 : decode cX7_save 1 = .ok (.getfield 19, 3) := by decide +kernel
theorem dX7_save_4 : decode cX7_save 4 = .ok (.aload_n 0, 1) := by decide +kernel
theorem dX7_save_5 : decode cX7_save 5 = .ok (.getfield 10, 3) := by decide +kernel
theorem dX7_save_8 : decode cX7_save 8 = .ok (.invokevirtual 355, 3) := by decide +kernel
theorem dX7_save_11 : decode cX7_save 11 = .ok (.aload_n 0, 1) := by decide +kernel
theorem dX7_save_12 : decode cX7_save 12 = .ok (.iconst 1, 1) := by decide +kernel
theorem dX7_save_13 : decode cX7_save 13 = .ok (.putfield 36, 3) := by decide +kernel
theorem dX7_save_16 : decode cX7_save 16 = .ok (.aload_n 0, 1) := by decide +kernel
theorem dX7_save_17 : decode cX7_save 17 = .ok (.getfield 10, 3) := by decide +kernel
theorem dX7_save_20 : decode cX7_save 20 = .ok (.getfield 47, 3) := by decide +kernel
theorem dX7_save_23 : decode cX7_save 23 = .ok (.invokevirtual 164, 3) := by decide +kernel
theorem dX7_save_26 : decode cX7_save 26 = .ok (.invokestatic 310, 3) := by decide +kernel
theorem dX7_save_29 : decode cX7_save 29 = .ok (.ireturn, 1) := by decide +kernel
set_option maxRecDepth 20000 in
theorem ggX7_restore_X7_checkState : GoodIn wsX7_restore wsX7_checkState := goodIn_ca (goodIn_r _ [9, 10, 11] (by decide +kernel) (by decide +kernel)) (goodIn_sub (fun _ h => List.mem_cons_of_mem _ (List.mem_append_left _ (List.mem_append_right _ h))) (by decide +kernel))
set_option maxRecDepth 20000 in
theorem gX7_restore_X7_checkState : GoodIn wsX7_restore (va_wsS RX7 171 yX7_checkState wsX7_checkState) := goodIn_app (goodIn_of _ (by decide +kernel)) ggX7_restore_X7_checkState
set_option maxRecDepth 20000 in
theorem ggX7_restore_X6_copyFrom : GoodIn wsX7_restore wsX6_copyFrom := goodIn_r _ [16, 17, 18, 19, 20, 21, 22, 23, 24, 25, 26, 27, 28, 29, 30, 31, 32, 33, 34, 35, 36, 37, 38, 39, 40, 41, 42, 43, 44, 45, 46, 47, 48, 49, 50, 51, 52, 53, 54, 55, 56, 57, 58, 59, 60, 61, 62, 63, 64, 65, 66, 67, 68, 69, 70, 71, 72, 98, 99, 100, 101, 102, 103, 104, 105, 106, 107, 108, 109, 110, 111, 112, 113, 114, 115, 116, 117, 118, 119, 120, 121, 122, 123, 124, 125, 126, 127] (by decide +kernel) (by decide +kernel)
set_option maxRecDepth 20000 in
theorem gX7_restore_X6_copyFrom : GoodIn wsX7_restore (wsV RX7 355 RX6 yX6_copyFrom wsX6_copyFrom) := goodIn_app (goodIn_of _ (by decide +kernel)) ggX7_restore_X6_copyFrom
set_option maxRecDepth 20000 in
theorem ggX7_restore_X2_forget : GoodIn wsX7_restore wsX2_forget := goodIn_r _ [77, 78, 128, 129, 130] (by decide +kernel) (by decide +kernel)
set_option maxRecDepth 20000 in
theorem gX7_restore_X2_forget : GoodIn wsX7_restore (wsV RX7 59 RX2 yX2_forget wsX2_forget) := goodIn_app (goodIn_of _ (by decide +kernel)) ggX7_restore_X2_forget
set_option maxRecDepth 20000 in
theorem ggX7_restore_X4_presentOnes : GoodIn wsX7_restore wsX4_presentOnes := goodIn_ca (goodIn_r _ [82, 27, 34, 103, 104, 105, 106, 107, 108, 109] (by decide +kernel) (by decide +kernel)) (goodIn_sub (fun _ h => List.mem_cons_of_mem _ (List.mem_append_right _ h)) (by decide +kernel))
set_option maxRecDepth 20000 in
theorem gX7_restore_X4_presentOnes : GoodIn wsX7_restore (wsV RX7 164 RX4 yX4_presentOnes wsX4_presentOnes) := goodIn_app (goodIn_of _ (by decide +kernel)) ggX7_restore_X4_presentOnes
set_option maxRecDepth 20000 in
theorem ggX7_restore_J6_bitCount_0f7a4 : GoodIn wsX7_restore wsJ6_bitCount_0f7a4 := goodIn_r _ [86, 87, 88, 89] (by decide +kernel) (by decide +kernel)
set_option maxRecDepth 20000 in
theorem gX7_restore_J6_bitCount_0f7a4 : GoodIn wsX7_restore (va_wsS RX7 310 yJ6_bitCount_0f7a4 wsJ6_bitCount_0f7a4) := goodIn_app (goodIn_of _ (by decide +kernel)) ggX7_restore_J6_bitCount_0f7a4
theorem dX7_restore_0 : decode cX7_restore 0 = .ok (.aload_n 0, 1) := by decide +kernel
theorem dX7_restore_1 : decode cX7_restore 1 = .ok (.getfield 36, 3) := by decide +kernel
theorem dX7_restore_4 : decode cX7_restore 4 = .ok (.invokestatic 171, 3) := by decide +kernel
theorem dX7_restore_7 : decode cX7_restore 7 = .ok (.aload_n 0, 1) := by decide +kernel
theorem dX7_restore_8 : decode cX7_restore 8 = .ok (.getfield 10, 3) := by decide +kernel
theorem dX7_restore_11 : decode cX7_restore 11 = .ok (.aload_n 0, 1) := by decide +kernel
theorem dX7_restore_12 : decode cX7_restore 12 = .ok (.getfield 19, 3) := by decide +kernel
theorem dX7_restore_15 : decode cX7_restore 15 = .ok (.invokevirtual 355, 3) := by decide +kernel
theorem dX7_restore_18 : decode cX7_restore 18 = .ok (.aload_n 0, 1) := by decide +kernel
theorem dX7_restore_19 : decode cX7_restore 19 = .ok (.getfield 25, 3) := by decide +kernel
theorem dX7_restore_22 : decode cX7_restore 22 = .ok (.invokevirtual 59, 3) := by decide +kernel
theorem dX7_restore_25 : decode cX7_restore 25 = .ok (.aload_n 0, 1) := by decide +kernel
theorem dX7_restore_26 : decode cX7_restore 26 = .ok (.getfield 10, 3) := by decide +kernel
theorem dX7_restore_29 : decode cX7_restore 29 = .ok (.getfield 47, 3) := by decide +kernel
theorem dX7_restore_32 : decode cX7_restore 32 = .ok (.invokevirtual 164, 3) := by decide +kernel
theorem dX7_restore_35 : decode cX7_restore 35 = .ok (.invokestatic 310, 3) := by decide +kernel
theorem dX7_restore_38 : decode cX7_restore 38 = .ok (.ireturn, 1) := by decide +kernel
theorem dX7_checkNumber_0 : decode cX7_checkNumber 0 = .ok (.iload_n 0, 1) := by decide +kernel
theorem dX7_checkNumber_1 : decode cX7_checkNumber 1 = .ok (.ifCond .ne 14, 3) := by decide +kernel
theorem dX7_checkNumber_4 : decode cX7_checkNumber 4 = .ok (.new 368, 3) := by decide +kernel
theorem dX7_checkNumber_7 : decode cX7_checkNumber 7 = .ok (.dup, 1) := by decide +kernel
theorem dX7_checkNumber_8 : decode cX7_checkNumber 8 = .ok (.ldc_w 370, 3) := by decide +kernel
theorem dX7_checkNumber_11 : decode cX7_checkNumber 11 = .ok (.invokespecial 372, 3) := by decide +kernel
theorem dX7_checkNumber_14 : decode cX7_checkNumber 14 = .ok (.athrow, 1) := by decide +kernel
theorem dX7_checkNumber_15 : decode cX7_checkNumber 15 = .ok (.return_, 1) := by decide +kernel
theorem dX7_checkArgument_0 : decode cX7_checkArgument 0 = .ok (.iload_n 0, 1) := by decide +kernel
theorem dX7_checkArgument_1 : decode cX7_checkArgument 1 = .ok (.ifCond .ne 14, 3) := by decide +kernel
theorem dX7_checkArgument_4 : decode cX7_checkArgument 4 = .ok (.new 373, 3) := by decide +kernel
theorem dX7_checkArgument_7 : decode cX7_checkArgument 7 = .ok (.dup, 1) := by decide +kernel
theorem dX7_checkArgument_8 : decode cX7_checkArgument 8 = .ok (.ldc_w 375, 3) := by decide +kernel
theorem dX7_checkArgument_11 : decode cX7_checkArgument 11 = .ok (.invokespecial 377, 3) := by decide +kernel
theorem dX7_checkArgument_14 : decode cX7_checkArgument 14 = .ok (.athrow, 1) := by decide +kernel
theorem dX7_checkArgument_15 : decode cX7_checkArgument 15 = .ok (.return_, 1) := by decide +kernel
theorem dX7_checkState_0 : decode cX7_checkState 0 = .ok (.iload_n 0, 1) := by decide +kernel
theorem dX7_checkState_1 : decode cX7_checkState 1 = .ok (.ifCond .ne 14, 3) := by decide +kernel
theorem dX7_checkState_4 : decode cX7_checkState 4 = .ok (.new 378, 3) := by decide +kernel
theorem dX7_checkState_7 : decode cX7_checkState 7 = .ok (.dup, 1) := by decide +kernel
theorem dX7_checkState_8 : decode cX7_checkState 8 = .ok (.ldc_w 380, 3) := by decide +kernel
theorem dX7_checkState_11 : decode cX7_checkState 11 = .ok (.invokespecial 382, 3) := by decide +kernel
theorem dX7_checkState_14 : decode cX7_checkState 14 = .ok (.athrow, 1) := by decide +kernel
theorem dX7_checkState_15 : decode cX7_checkState 15 = .ok (.return_, 1) := by decide +kernel
theorem dX7_checkAnswer_0 : decode cX7_checkAnswer 0 = .ok (.iload_n 0, 1) := by decide +kernel
theorem dX7_checkAnswer_1 : decode cX7_checkAnswer 1 = .ok (.ifCond .ne 14, 3) := by decide +kernel
theorem dX7_checkAnswer_4 : decode cX7_checkAnswer 4 = .ok (.new 383, 3) := by decide +kernel
theorem dX7_checkAnswer_7 : decode cX7_checkAnswer 7 = .ok (.dup, 1) := by decide +kernel
theorem dX7_checkAnswer_8 : decode cX7_checkAnswer 8 = .ok (.ldc_w 385, 3) := by decide +kernel
theorem dX7_checkAnswer_11 : decode cX7_checkAnswer 11 = .ok (.invokespecial 387, 3) := by decide +kernel
theorem dX7_checkAnswer_14 : decode cX7_checkAnswer 14 = .ok (.athrow, 1) := by decide +kernel
theorem dX7_checkAnswer_15 : decode cX7_checkAnswer 15 = .ok (.return_, 1) := by decide +kernel
set_option maxRecDepth 20000 in
theorem ggX7_isRefusal_X7_isFrom : GoodIn wsX7_isRefusal wsX7_isFrom := goodIn_r _ [4] (by decide +kernel) (by decide +kernel)
set_option maxRecDepth 20000 in
theorem gX7_isRefusal_X7_isFrom : GoodIn wsX7_isRefusal (va_wsS RX7 119 yX7_isFrom wsX7_isFrom) := goodIn_app (goodIn_of _ (by decide +kernel)) ggX7_isRefusal_X7_isFrom
theorem dX7_isRefusal_0 : decode cX7_isRefusal 0 = .ok (.iload_n 0, 1) := by decide +kernel
theorem dX7_isRefusal_1 : decode cX7_isRefusal 1 = .ok (.iconst 1, 1) := by decide +kernel
theorem dX7_isRefusal_2 : decode cX7_isRefusal 2 = .ok (.bipush 6, 2) := by decide +kernel
theorem dX7_isRefusal_4 : decode cX7_isRefusal 4 = .ok (.invokestatic 119, 3) := by decide +kernel
theorem dX7_isRefusal_7 : decode cX7_isRefusal 7 = .ok (.ireturn, 1) := by decide +kernel
set_option maxRecDepth 20000 in
theorem ggX7_raise_X7_checkNumber : GoodIn wsX7_raise wsX7_checkNumber := goodIn_ca (goodIn_r _ [6, 7, 8] (by decide +kernel) (by decide +kernel)) (goodIn_sub (fun _ h => List.mem_cons_of_mem _ (List.mem_append_left _ (List.mem_append_left _ (List.mem_append_right _ h)))) (by decide +kernel))
set_option maxRecDepth 20000 in
theorem gX7_raise_X7_checkNumber : GoodIn wsX7_raise (va_wsS RX7 115 yX7_checkNumber wsX7_checkNumber) := goodIn_app (goodIn_of _ (by decide +kernel)) ggX7_raise_X7_checkNumber
set_option maxRecDepth 20000 in
theorem ggX7_raise_X7_checkArgument : GoodIn wsX7_raise wsX7_checkArgument := goodIn_ca (goodIn_r _ [11, 12, 13] (by decide +kernel) (by decide +kernel)) (goodIn_sub (fun _ h => List.mem_cons_of_mem _ (List.mem_append_left _ (List.mem_append_right _ h))) (by decide +kernel))
set_option maxRecDepth 20000 in
theorem gX7_raise_X7_checkArgument : GoodIn wsX7_raise (va_wsS RX7 123 yX7_checkArgument wsX7_checkArgument) := goodIn_app (goodIn_of _ (by decide +kernel)) ggX7_raise_X7_checkArgument
set_option maxRecDepth 20000 in
theorem ggX7_raise_X7_checkState : GoodIn wsX7_raise wsX7_checkState := goodIn_ca (goodIn_r _ [16, 17, 18] (by decide +kernel) (by decide +kernel)) (goodIn_sub (fun _ h => List.mem_cons_of_mem _ (List.mem_append_right _ h)) (by decide +kernel))
set_option maxRecDepth 20000 in
theorem gX7_raise_X7_checkState : GoodIn wsX7_raise (va_wsS RX7 171 yX7_checkState wsX7_checkState) := goodIn_app (goodIn_of _ (by decide +kernel)) ggX7_raise_X7_checkState
set_option maxRecDepth 20000 in
theorem ggX7_raise_X7_isRefusal : GoodIn wsX7_raise wsX7_isRefusal := goodIn_r _ [21, 22, 23, 5, 24] (by decide +kernel) (by decide +kernel)
set_option maxRecDepth 20000 in
theorem gX7_raise_X7_isRefusal : GoodIn wsX7_raise (va_wsS RX7 388 yX7_isRefusal wsX7_isRefusal) := goodIn_app (goodIn_of _ (by decide +kernel)) ggX7_raise_X7_isRefusal
theorem dX7_raise_0 : decode cX7_raise 0 = .ok (.iload_n 0, 1) := by decide +kernel
theorem dX7_raise_1 : decode cX7_raise 1 = .ok (.bipush 7, 2) := by decide +kernel
theorem dX7_raise_3 : decode cX7_raise 3 = .ok (.if_icmp .eq 7, 3) := by decide +kernel
theorem dX7_raise_6 : decode cX7_raise 6 = .ok (.iconst 1, 1) := by decide +kernel
theorem dX7_raise_7 : decode cX7_raise 7 = .ok (.goto 4, 3) := by decide +kernel
theorem dX7_raise_10 : decode cX7_raise 10 = .ok (.iconst 0, 1) := by decide +kernel
theorem dX7_raise_11 : decode cX7_raise 11 = .ok (.invokestatic 115, 3) := by decide +kernel
theorem dX7_raise_14 : decode cX7_raise 14 = .ok (.iload_n 0, 1) := by decide +kernel
theorem dX7_raise_15 : decode cX7_raise 15 = .ok (.bipush 8, 2) := by decide +kernel
theorem dX7_raise_17 : decode cX7_raise 17 = .ok (.if_icmp .eq 7, 3) := by decide +kernel
theorem dX7_raise_20 : decode cX7_raise 20 = .ok (.iconst 1, 1) := by decide +kernel
theorem dX7_raise_21 : decode cX7_raise 21 = .ok (.goto 4, 3) := by decide +kernel
theorem dX7_raise_24 : decode cX7_raise 24 = .ok (.iconst 0, 1) := by decide +kernel
theorem dX7_raise_25 : decode cX7_raise 25 = .ok (.invokestatic 123, 3) := by decide +kernel
theorem dX7_raise_28 : decode cX7_raise 28 = .ok (.iload_n 0, 1) := by decide +kernel
theorem dX7_raise_29 : decode cX7_raise 29 = .ok (.bipush 9, 2) := by decide +kernel
theorem dX7_raise_31 : decode cX7_raise 31 = .ok (.if_icmp .eq 7, 3) := by decide +kernel
theorem dX7_raise_34 : decode cX7_raise 34 = .ok (.iconst 1, 1) := by decide +kernel
theorem dX7_raise_35 : decode cX7_raise 35 = .ok (.goto 4, 3) := by decide +kernel
theorem dX7_raise_38 : decode cX7_raise 38 = .ok (.iconst 0, 1) := by decide +kernel
theorem dX7_raise_39 : decode cX7_raise 39 = .ok (.invokestatic 171, 3) := by decide +kernel
theorem dX7_raise_42 : decode cX7_raise 42 = .ok (.iload_n 0, 1) := by decide +kernel
theorem dX7_raise_43 : decode cX7_raise 43 = .ok (.invokestatic 388, 3) := by decide +kernel
theorem dX7_raise_46 : decode cX7_raise 46 = .ok (.ifCond .eq 14, 3) := by decide +kernel
theorem dX7_raise_49 : decode cX7_raise 49 = .ok (.new 391, 3) := by decide +kernel
theorem dX7_raise_52 : decode cX7_raise 52 = .ok (.dup, 1) := by decide +kernel
theorem dX7_raise_53 : decode cX7_raise 53 = .ok (.ldc_w 393, 3) := by decide +kernel
theorem dX7_raise_56 : decode cX7_raise 56 = .ok (.invokespecial 395, 3) := by decide +kernel
theorem dX7_raise_59 : decode cX7_raise 59 = .ok (.athrow, 1) := by decide +kernel
theorem dX7_raise_60 : decode cX7_raise 60 = .ok (.return_, 1) := by decide +kernel
set_option maxRecDepth 20000 in
theorem ggX7_keepReason_X7_isRefusal : GoodIn wsX7_keepReason wsX7_isRefusal := goodIn_r _ [5, 6, 7, 4, 8] (by decide +kernel) (by decide +kernel)
set_option maxRecDepth 20000 in
theorem gX7_keepReason_X7_isRefusal : GoodIn wsX7_keepReason (va_wsS RX7 388 yX7_isRefusal wsX7_isRefusal) := goodIn_app (goodIn_of _ (by decide +kernel)) ggX7_keepReason_X7_isRefusal
theorem dX7_keepReason_0 : decode cX7_keepReason 0 = .ok (.iload_n 1, 1) := by decide +kernel
theorem dX7_keepReason_1 : decode cX7_keepReason 1 = .ok (.invokestatic 388, 3) := by decide +kernel
theorem dX7_keepReason_4 : decode cX7_keepReason 4 = .ok (.ifCond .eq 8, 3) := by decide +kernel
theorem dX7_keepReason_7 : decode cX7_keepReason 7 = .ok (.aload_n 0, 1) := by decide +kernel
theorem dX7_keepReason_8 : decode cX7_keepReason 8 = .ok (.iload_n 1, 1) := by decide +kernel
theorem dX7_keepReason_9 : decode cX7_keepReason 9 = .ok (.putfield 40, 3) := by decide +kernel
theorem dX7_keepReason_12 : decode cX7_keepReason 12 = .ok (.return_, 1) := by decide +kernel
set_option maxRecDepth 20000 in
theorem ggX7_carryOut_X7_faultOfCommand : GoodIn wsX7_carryOut wsX7_faultOfCommand := goodIn_ca (goodIn_r _ [7, 1, 8, 9, 10, 11, 12, 13, 14, 15, 16, 17, 18, 19, 20, 21, 22, 23, 24, 25, 26, 27, 28, 29, 30, 31, 32, 33, 34, 35, 36, 37, 38, 39, 40, 41, 42, 43, 44, 45, 46, 47, 48, 6, 49, 50, 51, 52, 53, 54, 55, 56, 57, 58, 59, 60, 61, 62, 63, 64, 65, 66, 67, 68, 69, 70, 71, 72, 73, 74, 75, 76, 77, 78, 79, 80, 81, 82, 83, 84, 85, 86, 87, 88, 89, 90, 91, 92, 93, 94, 95, 96, 97, 98, 99, 100, 101, 102, 103, 104, 105, 106, 107, 108, 109, 110, 212, 213, 214, 215, 216, 217, 218, 219, 226, 227, 228, 229, 230, 220, 221, 222, 223, 224, 225, 231, 232, 233, 234, 235, 236, 237, 238, 239, 240, 241, 242, 243, 244, 245, 246, 247, 248, 249, 250, 251, 252, 253, 254, 255] (by decide +kernel) (by decide +kernel)) (goodIn_sub (fun _ h => List.mem_cons_of_mem _ (List.mem_append_right _ h)) (by decide +kernel))
set_option maxRecDepth 20000 in
theorem gX7_carryOut_X7_faultOfCommand : GoodIn wsX7_carryOut (wsV RX7 396 RX7 yX7_faultOfCommand wsX7_faultOfCommand) := goodIn_app (goodIn_of _ (by decide +kernel)) ggX7_carryOut_X7_faultOfCommand
set_option maxRecDepth 20000 in
theorem ggX7_carryOut_X7_keepReason : GoodIn wsX7_carryOut wsX7_keepReason := goodIn_r _ [114, 115, 116, 117, 6, 118, 94, 48, 49, 212, 213, 214, 215, 216, 217, 218, 219] (by decide +kernel) (by decide +kernel)
set_option maxRecDepth 20000 in
theorem gX7_carryOut_X7_keepReason : GoodIn wsX7_carryOut (wsV RX7 99 RX7 yX7_keepReason wsX7_keepReason) := goodIn_app (goodIn_of _ (by decide +kernel)) ggX7_carryOut_X7_keepReason
set_option maxRecDepth 20000 in
theorem ggX7_carryOut_X7_doCommand : GoodIn wsX7_carryOut wsX7_doCommand := goodIn_ca (goodIn_r _ [122, 1, 8, 9, 123, 10, 124, 125, 11, 12, 13, 14, 15, 16, 17, 18, 19, 20, 21, 22, 23, 24, 25, 26, 27, 28, 29, 30, 31, 32, 126, 127, 128, 36, 129, 38, 90, 99, 105, 61, 62, 63, 64, 65, 66, 67, 68, 69, 70, 42, 71, 72, 73, 74, 75, 76, 77, 78, 79, 80, 81, 82, 83, 84, 130, 131, 132, 133, 134, 135, 59, 6, 60, 136, 137, 138, 139, 47, 140, 141, 142, 143, 144, 145, 146, 147, 148, 149, 150, 151, 152, 153, 154, 155, 156, 157, 158, 159, 160, 161, 162, 163, 164, 165, 166, 167, 168, 169, 170, 171, 172, 173, 174, 175, 176, 177, 178, 179, 180, 181, 182, 183, 184, 185, 186, 187, 188, 189, 190, 191, 192, 193, 194, 195, 196, 197, 198, 199, 200, 201, 202, 203, 204, 205, 206, 207, 208, 209, 210, 211, 212, 213, 214, 215, 216, 217, 218, 219, 226, 227, 228, 229, 230, 220, 221, 222, 223, 224, 225, 231, 232, 233, 234, 235, 236, 237, 238, 239, 240, 241, 242, 243, 244, 245, 246, 247, 248, 249, 250, 251, 252, 253, 254, 255] (by decide +kernel) (by decide +kernel)) (goodIn_sub (fun _ h => List.mem_cons_of_mem _ (List.mem_append_right _ h)) (by decide +kernel))
set_option maxRecDepth 20000 in
theorem gX7_carryOut_X7_doCommand : GoodIn wsX7_carryOut (wsV RX7 399 RX7 yX7_doCommand wsX7_doCommand) := goodIn_app (goodIn_of _ (by decide +kernel)) ggX7_carryOut_X7_doCommand
theorem dX7_carryOut_0 : decode cX7_carryOut 0 = .ok (.iconst 0, 1) := by decide +kernel
theorem dX7_carryOut_1 : decode cX7_carryOut 1 = .ok (.istore_n 1, 1) := by decide +kernel
theorem dX7_carryOut_2 : decode cX7_carryOut 2 = .ok (.iload_n 1, 1) := by decide +kernel
theorem dX7_carryOut_3 : decode cX7_carryOut 3 = .ok (.aload_n 0, 1) := by decide +kernel
theorem dX7_carryOut_4 : decode cX7_carryOut 4 = .ok (.getfield 32, 3) := by decide +kernel
theorem dX7_carryOut_7 : decode cX7_carryOut 7 = .ok (.getfield 361, 3) := by decide +kernel
theorem dX7_carryOut_10 : decode cX7_carryOut 10 = .ok (.if_icmp .ge 31, 3) := by decide +kernel
theorem dX7_carryOut_13 : decode cX7_carryOut 13 = .ok (.aload_n 0, 1) := by decide +kernel
theorem dX7_carryOut_14 : decode cX7_carryOut 14 = .ok (.iload_n 1, 1) := by decide +kernel
theorem dX7_carryOut_15 : decode cX7_carryOut 15 = .ok (.invokevirtual 396, 3) := by decide +kernel
theorem dX7_carryOut_18 : decode cX7_carryOut 18 = .ok (.istore_n 2, 1) := by decide +kernel
theorem dX7_carryOut_19 : decode cX7_carryOut 19 = .ok (.iload_n 2, 1) := by decide +kernel
theorem dX7_carryOut_20 : decode cX7_carryOut 20 = .ok (.ifCond .eq 10, 3) := by decide +kernel
theorem dX7_carryOut_23 : decode cX7_carryOut 23 = .ok (.aload_n 0, 1) := by decide +kernel
theorem dX7_carryOut_24 : decode cX7_carryOut 24 = .ok (.iload_n 2, 1) := by decide +kernel
theorem dX7_carryOut_25 : decode cX7_carryOut 25 = .ok (.invokevirtual 99, 3) := by decide +kernel
theorem dX7_carryOut_28 : decode cX7_carryOut 28 = .ok (.iconst 0, 1) := by decide +kernel
theorem dX7_carryOut_29 : decode cX7_carryOut 29 = .ok (.ireturn, 1) := by decide +kernel
theorem dX7_carryOut_30 : decode cX7_carryOut 30 = .ok (.aload_n 0, 1) := by decide +kernel
theorem dX7_carryOut_31 : decode cX7_carryOut 31 = .ok (.iload_n 1, 1) := by decide +kernel
theorem dX7_carryOut_32 : decode cX7_carryOut 32 = .ok (.invokevirtual 399, 3) := by decide +kernel
theorem dX7_carryOut_35 : decode cX7_carryOut 35 = .ok (.iinc 1 1, 3) := by decide +kernel
theorem dX7_carryOut_38 : decode cX7_carryOut 38 = .ok (.goto (-36), 3) := by decide +kernel
theorem dX7_carryOut_41 : decode cX7_carryOut 41 = .ok (.iconst 1, 1) := by decide +kernel
theorem dX7_carryOut_42 : decode cX7_carryOut 42 = .ok (.ireturn, 1) := by decide +kernel
set_option maxRecDepth 20000 in
theorem ggX7_faultOfCommand_X5_numberOf : GoodIn wsX7_faultOfCommand wsX5_numberOf := goodIn_ca (goodIn_r _ [9, 10, 119, 120, 121, 122, 123, 124] (by decide +kernel) (by decide +kernel)) (goodIn_sub (fun _ h => List.mem_cons_of_mem _ (List.mem_append_right _ h)) (by decide +kernel))
set_option maxRecDepth 20000 in
theorem gX7_faultOfCommand_X5_numberOf : GoodIn wsX7_faultOfCommand (wsV RX7 402 RX5 yX5_numberOf wsX5_numberOf) := goodIn_app (goodIn_of _ (by decide +kernel)) ggX7_faultOfCommand_X5_numberOf
set_option maxRecDepth 20000 in
theorem ggX7_faultOfCommand_X5_wordOf : GoodIn wsX7_faultOfCommand wsX5_wordOf := goodIn_ca (goodIn_r _ [14, 15, 119, 120, 121, 122, 123, 124] (by decide +kernel) (by decide +kernel)) (goodIn_sub (fun _ h => List.mem_cons_of_mem _ (List.mem_append_right _ h)) (by decide +kernel))
set_option maxRecDepth 20000 in
theorem gX7_faultOfCommand_X5_wordOf : GoodIn wsX7_faultOfCommand (wsV RX7 405 RX5 yX5_wordOf wsX5_wordOf) := goodIn_app (goodIn_of _ (by decide +kernel)) ggX7_faultOfCommand_X5_wordOf
set_option maxRecDepth 20000 in
theorem ggX7_faultOfCommand_X4_neighboursOf : GoodIn wsX7_faultOfCommand wsX4_neighboursOf := goodIn_ca (goodIn_r _ [20, 21, 22, 23, 24, 19, 25, 26, 125, 126, 127, 128, 129, 130, 131] (by decide +kernel) (by decide +kernel)) (goodIn_sub (fun _ h => List.mem_cons_of_mem _ (List.mem_append_right _ h)) (by decide +kernel))
set_option maxRecDepth 20000 in
theorem gX7_faultOfCommand_X4_neighboursOf : GoodIn wsX7_faultOfCommand (wsV RX7 408 RX4 yX4_neighboursOf wsX4_neighboursOf) := goodIn_app (goodIn_of _ (by decide +kernel)) ggX7_faultOfCommand_X4_neighboursOf
set_option maxRecDepth 20000 in
theorem ggX7_faultOfCommand_X6_faultOfSplit : GoodIn wsX7_faultOfCommand wsX6_faultOfSplit := goodIn_ca (goodIn_r _ [31, 32, 33, 34, 35, 36, 23, 24, 19, 25, 26, 37, 38, 39, 40, 41, 22, 42, 43, 44, 114, 115, 116, 117, 118, 125, 126, 127, 128, 129, 130, 131] (by decide +kernel) (by decide +kernel)) (goodIn_sub (fun _ h => List.mem_cons_of_mem _ (List.mem_append_right _ h)) (by decide +kernel))
set_option maxRecDepth 20000 in
theorem gX7_faultOfCommand_X6_faultOfSplit : GoodIn wsX7_faultOfCommand (wsV RX7 95 RX6 yX6_faultOfSplit wsX6_faultOfSplit) := goodIn_app (goodIn_of _ (by decide +kernel)) ggX7_faultOfCommand_X6_faultOfSplit
set_option maxRecDepth 20000 in
theorem ggX7_faultOfCommand_X6_faultOfMerge : GoodIn wsX7_faultOfCommand wsX6_faultOfMerge := goodIn_ca (goodIn_r _ [48, 32, 33, 35, 36, 23, 24, 19, 25, 26, 37, 38, 39, 40, 41, 22, 49, 50, 51, 52, 53, 17, 18, 20, 21, 54, 43, 55, 56, 57, 58, 30, 59, 60, 61, 62, 63, 64, 65, 66, 67, 68, 69, 70, 71, 72, 73, 74, 75, 76, 77, 78, 79, 114, 115, 116, 117, 118, 125, 126, 127, 128, 129, 130, 131, 132, 133, 134, 135, 136, 137] (by decide +kernel) (by decide +kernel)) (goodIn_sub (fun _ h => List.mem_cons_of_mem _ (List.mem_append_right _ h)) (by decide +kernel))
set_option maxRecDepth 20000 in
theorem gX7_faultOfCommand_X6_faultOfMerge : GoodIn wsX7_faultOfCommand (wsV RX7 105 RX6 yX6_faultOfMerge wsX6_faultOfMerge) := goodIn_app (goodIn_of _ (by decide +kernel)) ggX7_faultOfCommand_X6_faultOfMerge
set_option maxRecDepth 20000 in
theorem ggX7_faultOfCommand_X6_faultOfDeed : GoodIn wsX7_faultOfCommand wsX6_faultOfDeed := goodIn_ca (goodIn_r _ [83, 32, 84, 85, 64, 86, 36, 23, 24, 19, 25, 26, 87, 43, 88, 89, 42, 44, 37, 38, 39, 40, 41, 22, 114, 115, 116, 117, 118, 125, 126, 127, 128, 129, 130, 131, 132, 133, 134, 135, 136, 137] (by decide +kernel) (by decide +kernel)) (goodIn_sub (fun _ h => List.mem_cons_of_mem _ (List.mem_append_right _ h)) (by decide +kernel))
set_option maxRecDepth 20000 in
theorem gX7_faultOfCommand_X6_faultOfDeed : GoodIn wsX7_faultOfCommand (wsV RX7 180 RX6 yX6_faultOfDeed wsX6_faultOfDeed) := goodIn_app (goodIn_of _ (by decide +kernel)) ggX7_faultOfCommand_X6_faultOfDeed
set_option maxRecDepth 20000 in
theorem ggX7_faultOfCommand_X6_faultOfEasement : GoodIn wsX7_faultOfCommand wsX6_faultOfEasement := goodIn_ca (goodIn_r _ [93, 32, 94, 95, 36, 23, 24, 19, 25, 26, 42, 43, 44, 37, 38, 39, 40, 41, 22, 114, 115, 116, 117, 118, 138, 139, 140, 141, 142, 143, 125, 126, 127, 128, 129, 130, 131] (by decide +kernel) (by decide +kernel)) (goodIn_sub (fun _ h => List.mem_cons_of_mem _ (List.mem_append_right _ h)) (by decide +kernel))
set_option maxRecDepth 20000 in
theorem gX7_faultOfCommand_X6_faultOfEasement : GoodIn wsX7_faultOfCommand (wsV RX7 219 RX6 yX6_faultOfEasement wsX6_faultOfEasement) := goodIn_app (goodIn_of _ (by decide +kernel)) ggX7_faultOfCommand_X6_faultOfEasement
set_option maxRecDepth 20000 in
theorem ggX7_faultOfCommand_X6_faultOfLien : GoodIn wsX7_faultOfCommand wsX6_faultOfLien := goodIn_ca (goodIn_r _ [99, 32, 100, 101, 36, 23, 24, 19, 25, 26, 87, 43, 88, 89, 42, 44, 37, 38, 39, 40, 41, 22, 114, 115, 116, 117, 118, 144, 145, 146, 147, 148, 149, 125, 126, 127, 128, 129, 130, 131] (by decide +kernel) (by decide +kernel)) (goodIn_sub (fun _ h => List.mem_cons_of_mem _ (List.mem_append_right _ h)) (by decide +kernel))
set_option maxRecDepth 20000 in
theorem gX7_faultOfCommand_X6_faultOfLien : GoodIn wsX7_faultOfCommand (wsV RX7 263 RX6 yX6_faultOfLien wsX6_faultOfLien) := goodIn_app (goodIn_of _ (by decide +kernel)) ggX7_faultOfCommand_X6_faultOfLien
set_option maxRecDepth 20000 in
theorem ggX7_faultOfCommand_X6_faultOfDays : GoodIn wsX7_faultOfCommand wsX6_faultOfDays := goodIn_r _ [105, 85, 42, 43, 44, 114, 115, 116, 117, 118] (by decide +kernel) (by decide +kernel)
set_option maxRecDepth 20000 in
theorem gX7_faultOfCommand_X6_faultOfDays : GoodIn wsX7_faultOfCommand (wsV RX7 307 RX6 yX6_faultOfDays wsX6_faultOfDays) := goodIn_app (goodIn_of _ (by decide +kernel)) ggX7_faultOfCommand_X6_faultOfDays
theorem dX7_faultOfCommand_0 : decode cX7_faultOfCommand 0 = .ok (.aload_n 0, 1) := by decide +kernel
theorem dX7_faultOfCommand_1 : decode cX7_faultOfCommand 1 = .ok (.getfield 32, 3) := by decide +kernel
theorem dX7_faultOfCommand_4 : decode cX7_faultOfCommand 4 = .ok (.iload_n 1, 1) := by decide +kernel
theorem dX7_faultOfCommand_5 : decode cX7_faultOfCommand 5 = .ok (.iconst 0, 1) := by decide +kernel
theorem dX7_faultOfCommand_6 : decode cX7_faultOfCommand 6 = .ok (.invokevirtual 402, 3) := by decide +kernel
theorem dX7_faultOfCommand_9 : decode cX7_faultOfCommand 9 = .ok (.istore_n 2, 1) := by decide +kernel
theorem dX7_faultOfCommand_10 : decode cX7_faultOfCommand 10 = .ok (.aload_n 0, 1) := by decide +kernel
theorem dX7_faultOfCommand_11 : decode cX7_faultOfCommand 11 = .ok (.getfield 32, 3) := by decide +kernel
theorem dX7_faultOfCommand_14 : decode cX7_faultOfCommand 14 = .ok (.iload_n 1, 1) := by decide +kernel
theorem dX7_faultOfCommand_15 : decode cX7_faultOfCommand 15 = .ok (.iconst 1, 1) := by decide +kernel
theorem dX7_faultOfCommand_16 : decode cX7_faultOfCommand 16 = .ok (.invokevirtual 402, 3) := by decide +kernel
theorem dX7_faultOfCommand_19 : decode cX7_faultOfCommand 19 = .ok (.istore_n 3, 1) := by decide +kernel
theorem dX7_faultOfCommand_20 : decode cX7_faultOfCommand 20 = .ok (.aload_n 0, 1) := by decide +kernel
theorem dX7_faultOfCommand_21 : decode cX7_faultOfCommand 21 = .ok (.getfield 32, 3) := by decide +kernel
theorem dX7_faultOfCommand_24 : decode cX7_faultOfCommand 24 = .ok (.iload_n 1, 1) := by decide +kernel
theorem dX7_faultOfCommand_25 : decode cX7_faultOfCommand 25 = .ok (.iconst 2, 1) := by decide +kernel
theorem dX7_faultOfCommand_26 : decode cX7_faultOfCommand 26 = .ok (.invokevirtual 402, 3) := by decide +kernel
theorem dX7_faultOfCommand_29 : decode cX7_faultOfCommand 29 = .ok (.istore 4, 2) := by decide +kernel
theorem dX7_faultOfCommand_31 : decode cX7_faultOfCommand 31 = .ok (.aload_n 0, 1) := by decide +kernel
theorem dX7_faultOfCommand_32 : decode cX7_faultOfCommand 32 = .ok (.getfield 32, 3) := by decide +kernel
theorem dX7_faultOfCommand_35 : decode cX7_faultOfCommand 35 = .ok (.iload_n 1, 1) := by decide +kernel
theorem dX7_faultOfCommand_36 : decode cX7_faultOfCommand 36 = .ok (.invokevirtual 405, 3) := by decide +kernel
theorem dX7_faultOfCommand_39 : decode cX7_faultOfCommand 39 = .ok (.tableswitch 106 0 4 #[33, 54, 64, 83, 94], 33) := by decide +kernel
theorem dX7_faultOfCommand_72 : decode cX7_faultOfCommand 72 = .ok (.aload_n 0, 1) := by decide +kernel
theorem dX7_faultOfCommand_73 : decode cX7_faultOfCommand 73 = .ok (.getfield 10, 3) := by decide +kernel
theorem dX7_faultOfCommand_76 : decode cX7_faultOfCommand 76 = .ok (.iload_n 2, 1) := by decide +kernel
theorem dX7_faultOfCommand_77 : decode cX7_faultOfCommand 77 = .ok (.iload_n 3, 1) := by decide +kernel
theorem dX7_faultOfCommand_78 : decode cX7_faultOfCommand 78 = .ok (.aload_n 0, 1) := by decide +kernel
theorem dX7_faultOfCommand_79 : decode cX7_faultOfCommand 79 = .ok (.getfield 10, 3) := by decide +kernel
theorem dX7_faultOfCommand_82 : decode cX7_faultOfCommand 82 = .ok (.getfield 47, 3) := by decide +kernel
theorem dX7_faultOfCommand_85 : decode cX7_faultOfCommand 85 = .ok (.iload_n 2, 1) := by decide +kernel
theorem dX7_faultOfCommand_86 : decode cX7_faultOfCommand 86 = .ok (.invokevirtual 408, 3) := by decide +kernel
theorem dX7_faultOfCommand_89 : decode cX7_faultOfCommand 89 = .ok (.invokevirtual 95, 3) := by decide +kernel
theorem dX7_faultOfCommand_92 : decode cX7_faultOfCommand 92 = .ok (.ireturn, 1) := by decide +kernel
theorem dX7_faultOfCommand_93 : decode cX7_faultOfCommand 93 = .ok (.aload_n 0, 1) := by decide +kernel
theorem dX7_faultOfCommand_94 : decode cX7_faultOfCommand 94 = .ok (.getfield 10, 3) := by decide +kernel
theorem dX7_faultOfCommand_97 : decode cX7_faultOfCommand 97 = .ok (.iload_n 2, 1) := by decide +kernel
theorem dX7_faultOfCommand_98 : decode cX7_faultOfCommand 98 = .ok (.iload_n 3, 1) := by decide +kernel
theorem dX7_faultOfCommand_99 : decode cX7_faultOfCommand 99 = .ok (.invokevirtual 105, 3) := by decide +kernel
theorem dX7_faultOfCommand_102 : decode cX7_faultOfCommand 102 = .ok (.ireturn, 1) := by decide +kernel
theorem dX7_faultOfCommand_103 : decode cX7_faultOfCommand 103 = .ok (.aload_n 0, 1) := by decide +kernel
theorem dX7_faultOfCommand_104 : decode cX7_faultOfCommand 104 = .ok (.getfield 10, 3) := by decide +kernel
theorem dX7_faultOfCommand_107 : decode cX7_faultOfCommand 107 = .ok (.iload_n 2, 1) := by decide +kernel
theorem dX7_faultOfCommand_108 : decode cX7_faultOfCommand 108 = .ok (.iload_n 3, 1) := by decide +kernel
theorem dX7_faultOfCommand_109 : decode cX7_faultOfCommand 109 = .ok (.iload 4, 2) := by decide +kernel
theorem dX7_faultOfCommand_111 : decode cX7_faultOfCommand 111 = .ok (.aload_n 0, 1) := by decide +kernel
theorem dX7_faultOfCommand_112 : decode cX7_faultOfCommand 112 = .ok (.getfield 10, 3) := by decide +kernel
theorem dX7_faultOfCommand_115 : decode cX7_faultOfCommand 115 = .ok (.getfield 74, 3) := by decide +kernel
theorem dX7_faultOfCommand_118 : decode cX7_faultOfCommand 118 = .ok (.invokevirtual 180, 3) := by decide +kernel
theorem dX7_faultOfCommand_121 : decode cX7_faultOfCommand 121 = .ok (.ireturn, 1) := by decide +kernel
theorem dX7_faultOfCommand_122 : decode cX7_faultOfCommand 122 = .ok (.aload_n 0, 1) := by decide +kernel
theorem dX7_faultOfCommand_123 : decode cX7_faultOfCommand 123 = .ok (.getfield 10, 3) := by decide +kernel
theorem dX7_faultOfCommand_126 : decode cX7_faultOfCommand 126 = .ok (.iconst 0, 1) := by decide +kernel
theorem dX7_faultOfCommand_127 : decode cX7_faultOfCommand 127 = .ok (.iload_n 2, 1) := by decide +kernel
theorem dX7_faultOfCommand_128 : decode cX7_faultOfCommand 128 = .ok (.iload_n 3, 1) := by decide +kernel
theorem dX7_faultOfCommand_129 : decode cX7_faultOfCommand 129 = .ok (.invokevirtual 219, 3) := by decide +kernel
theorem dX7_faultOfCommand_132 : decode cX7_faultOfCommand 132 = .ok (.ireturn, 1) := by decide +kernel
theorem dX7_faultOfCommand_133 : decode cX7_faultOfCommand 133 = .ok (.aload_n 0, 1) := by decide +kernel
theorem dX7_faultOfCommand_134 : decode cX7_faultOfCommand 134 = .ok (.getfield 10, 3) := by decide +kernel
theorem dX7_faultOfCommand_137 : decode cX7_faultOfCommand 137 = .ok (.iload_n 2, 1) := by decide +kernel
theorem dX7_faultOfCommand_138 : decode cX7_faultOfCommand 138 = .ok (.iload_n 3, 1) := by decide +kernel
theorem dX7_faultOfCommand_139 : decode cX7_faultOfCommand 139 = .ok (.iload 4, 2) := by decide +kernel
theorem dX7_faultOfCommand_141 : decode cX7_faultOfCommand 141 = .ok (.invokevirtual 263, 3) := by decide +kernel
theorem dX7_faultOfCommand_144 : decode cX7_faultOfCommand 144 = .ok (.ireturn, 1) := by decide +kernel
theorem dX7_faultOfCommand_145 : decode cX7_faultOfCommand 145 = .ok (.aload_n 0, 1) := by decide +kernel
theorem dX7_faultOfCommand_146 : decode cX7_faultOfCommand 146 = .ok (.getfield 10, 3) := by decide +kernel
theorem dX7_faultOfCommand_149 : decode cX7_faultOfCommand 149 = .ok (.iload_n 2, 1) := by decide +kernel
theorem dX7_faultOfCommand_150 : decode cX7_faultOfCommand 150 = .ok (.invokevirtual 307, 3) := by decide +kernel
theorem dX7_faultOfCommand_153 : decode cX7_faultOfCommand 153 = .ok (.ireturn, 1) := by decide +kernel
set_option maxRecDepth 20000 in
theorem ggX7_doCommand_X5_numberOf : GoodIn wsX7_doCommand wsX5_numberOf := goodIn_ca (goodIn_r _ [12, 13, 163, 164, 165, 166, 167, 168] (by decide +kernel) (by decide +kernel)) (goodIn_sub (fun _ h => List.mem_cons_of_mem _ (List.mem_append_right _ h)) (by decide +kernel))
set_option maxRecDepth 20000 in
theorem gX7_doCommand_X5_numberOf : GoodIn wsX7_doCommand (wsV RX7 402 RX5 yX5_numberOf wsX5_numberOf) := goodIn_app (goodIn_of _ (by decide +kernel)) ggX7_doCommand_X5_numberOf
set_option maxRecDepth 20000 in
theorem ggX7_doCommand_X5_wordOf : GoodIn wsX7_doCommand wsX5_wordOf := goodIn_ca (goodIn_r _ [17, 18, 163, 164, 165, 166, 167, 168] (by decide +kernel) (by decide +kernel)) (goodIn_sub (fun _ h => List.mem_cons_of_mem _ (List.mem_append_right _ h)) (by decide +kernel))
set_option maxRecDepth 20000 in
theorem gX7_doCommand_X5_wordOf : GoodIn wsX7_doCommand (wsV RX7 405 RX5 yX5_wordOf wsX5_wordOf) := goodIn_app (goodIn_of _ (by decide +kernel)) ggX7_doCommand_X5_wordOf
set_option maxRecDepth 20000 in
theorem ggX7_doCommand_X4_neighboursOf : GoodIn wsX7_doCommand wsX4_neighboursOf := goodIn_ca (goodIn_r _ [23, 24, 25, 26, 27, 22, 28, 29, 169, 170, 171, 172, 173, 174, 175] (by decide +kernel) (by decide +kernel)) (goodIn_sub (fun _ h => List.mem_cons_of_mem _ (List.mem_append_right _ h)) (by decide +kernel))
set_option maxRecDepth 20000 in
theorem gX7_doCommand_X4_neighboursOf : GoodIn wsX7_doCommand (wsV RX7 408 RX4 yX4_neighboursOf wsX4_neighboursOf) := goodIn_app (goodIn_of _ (by decide +kernel)) ggX7_doCommand_X4_neighboursOf
set_option maxRecDepth 20000 in
theorem ggX7_doCommand_X6_divide : GoodIn wsX7_doCommand wsX6_divide := goodIn_ca (goodIn_r _ [34, 35, 36, 37, 38, 39, 40, 41, 33, 42, 43, 44, 45, 46, 47, 48, 49, 26, 27, 22, 28, 29, 50, 51, 52, 53, 54, 55, 56, 57, 58, 59, 60, 61, 62, 63, 64, 20, 21, 23, 24, 25, 65, 66, 67, 68, 69, 70, 71, 72, 73, 74, 75, 76, 77, 78, 79, 80, 81, 82, 83, 84, 85, 86, 87, 88, 89, 90, 91, 92, 93, 94, 95, 96, 97, 98, 99, 100, 101, 102, 103, 104, 105, 106, 107, 108, 109, 110, 111, 112, 113, 114, 115, 116, 117, 118, 119, 120, 158, 159, 160, 161, 162, 169, 170, 171, 172, 173, 174, 175, 176, 177, 178, 179, 180, 181, 182, 183, 184, 185, 186, 187, 188, 189, 190, 191, 192, 193] (by decide +kernel) (by decide +kernel)) (goodIn_sub (fun _ h => List.mem_cons_of_mem _ (List.mem_append_right _ h)) (by decide +kernel))
set_option maxRecDepth 20000 in
theorem gX7_doCommand_X6_divide : GoodIn wsX7_doCommand (wsV RX7 102 RX6 yX6_divide wsX6_divide) := goodIn_app (goodIn_of _ (by decide +kernel)) ggX7_doCommand_X6_divide
set_option maxRecDepth 20000 in
theorem ggX7_doCommand_X6_unite : GoodIn wsX7_doCommand wsX6_unite := goodIn_ca (goodIn_r _ [124, 35, 36, 37, 38, 39, 40, 41, 33, 42, 43, 44, 45, 46, 47, 48, 49, 26, 27, 22, 28, 29, 50, 51, 52, 53, 54, 55, 56, 57, 58, 59, 60, 61, 62, 63, 64, 20, 21, 23, 24, 25, 73, 74, 75, 76, 77, 65, 66, 67, 68, 69, 70, 71, 72, 78, 79, 80, 81, 82, 83, 84, 89, 90, 91, 92, 93, 86, 87, 88, 125, 126, 127, 97, 128, 99, 100, 101, 102, 129, 130, 131, 132, 104, 105, 106, 107, 133, 134, 135, 136, 103, 113, 114, 115, 116, 117, 118, 119, 120, 158, 159, 160, 161, 162, 169, 170, 171, 172, 173, 174, 175, 176, 177, 178, 179, 180, 181, 182, 183, 184, 185, 186, 187, 188, 189, 190, 191, 192, 193] (by decide +kernel) (by decide +kernel)) (goodIn_sub (fun _ h => List.mem_cons_of_mem _ (List.mem_append_right _ h)) (by decide +kernel))
set_option maxRecDepth 20000 in
theorem gX7_doCommand_X6_unite : GoodIn wsX7_doCommand (wsV RX7 108 RX6 yX6_unite wsX6_unite) := goodIn_app (goodIn_of _ (by decide +kernel)) ggX7_doCommand_X6_unite
set_option maxRecDepth 20000 in
theorem ggX7_doCommand_X0_record : GoodIn wsX7_doCommand wsX0_record := goodIn_ca (goodIn_r _ [140, 55, 61, 62, 63, 56, 141, 51, 52, 53, 54, 176, 177, 178, 179, 180, 181] (by decide +kernel) (by decide +kernel)) (goodIn_sub (fun _ h => List.mem_cons_of_mem _ (List.mem_append_right _ h)) (by decide +kernel))
set_option maxRecDepth 20000 in
theorem gX7_doCommand_X0_record : GoodIn wsX7_doCommand (wsV RX7 183 RX0 yX0_record wsX0_record) := goodIn_app (goodIn_of _ (by decide +kernel)) ggX7_doCommand_X0_record
set_option maxRecDepth 20000 in
theorem ggX7_doCommand_X1_come : GoodIn wsX7_doCommand wsX1_come := goodIn_ca (goodIn_r _ [111, 99, 103, 101, 102, 112, 100, 182, 183, 184, 185, 186, 187] (by decide +kernel) (by decide +kernel)) (goodIn_sub (fun _ h => List.mem_cons_of_mem _ (List.mem_append_right _ h)) (by decide +kernel))
set_option maxRecDepth 20000 in
theorem gX7_doCommand_X1_come : GoodIn wsX7_doCommand (wsV RX7 226 RX1 yX1_come wsX1_come) := goodIn_app (goodIn_of _ (by decide +kernel)) ggX7_doCommand_X1_come
set_option maxRecDepth 20000 in
theorem ggX7_doCommand_X3_come : GoodIn wsX7_doCommand wsX3_come := goodIn_ca (goodIn_r _ [146, 147, 118, 148, 149, 120, 119, 188, 189, 190, 191, 192, 193] (by decide +kernel) (by decide +kernel)) (goodIn_sub (fun _ h => List.mem_cons_of_mem _ (List.mem_append_right _ h)) (by decide +kernel))
set_option maxRecDepth 20000 in
theorem gX7_doCommand_X3_come : GoodIn wsX7_doCommand (wsV RX7 266 RX3 yX3_come wsX3_come) := goodIn_app (goodIn_of _ (by decide +kernel)) ggX7_doCommand_X3_come
theorem dX7_doCommand_0 : decode cX7_doCommand 0 = .ok (.aload_n 0, 1) := by decide +kernel
theorem dX7_doCommand_1 : decode cX7_doCommand 1 = .ok (.getfield 32, 3) := by decide +kernel
theorem dX7_doCommand_4 : decode cX7_doCommand 4 = .ok (.iload_n 1, 1) := by decide +kernel
theorem dX7_doCommand_5 : decode cX7_doCommand 5 = .ok (.iconst 0, 1) := by decide +kernel
theorem dX7_doCommand_6 : decode cX7_doCommand 6 = .ok (.invokevirtual 402, 3) := by decide +kernel
theorem dX7_doCommand_9 : decode cX7_doCommand 9 = .ok (.istore_n 2, 1) := by decide +kernel
theorem dX7_doCommand_10 : decode cX7_doCommand 10 = .ok (.aload_n 0, 1) := by decide +kernel
theorem dX7_doCommand_11 : decode cX7_doCommand 11 = .ok (.getfield 32, 3) := by decide +kernel
theorem dX7_doCommand_14 : decode cX7_doCommand 14 = .ok (.iload_n 1, 1) := by decide +kernel
theorem dX7_doCommand_15 : decode cX7_doCommand 15 = .ok (.iconst 1, 1) := by decide +kernel
theorem dX7_doCommand_16 : decode cX7_doCommand 16 = .ok (.invokevirtual 402, 3) := by decide +kernel
theorem dX7_doCommand_19 : decode cX7_doCommand 19 = .ok (.istore_n 3, 1) := by decide +kernel
theorem dX7_doCommand_20 : decode cX7_doCommand 20 = .ok (.aload_n 0, 1) := by decide +kernel
theorem dX7_doCommand_21 : decode cX7_doCommand 21 = .ok (.getfield 32, 3) := by decide +kernel
theorem dX7_doCommand_24 : decode cX7_doCommand 24 = .ok (.iload_n 1, 1) := by decide +kernel
theorem dX7_doCommand_25 : decode cX7_doCommand 25 = .ok (.iconst 2, 1) := by decide +kernel
theorem dX7_doCommand_26 : decode cX7_doCommand 26 = .ok (.invokevirtual 402, 3) := by decide +kernel
theorem dX7_doCommand_29 : decode cX7_doCommand 29 = .ok (.istore 4, 2) := by decide +kernel
theorem dX7_doCommand_31 : decode cX7_doCommand 31 = .ok (.aload_n 0, 1) := by decide +kernel
theorem dX7_doCommand_32 : decode cX7_doCommand 32 = .ok (.getfield 32, 3) := by decide +kernel
theorem dX7_doCommand_35 : decode cX7_doCommand 35 = .ok (.iload_n 1, 1) := by decide +kernel
theorem dX7_doCommand_36 : decode cX7_doCommand 36 = .ok (.invokevirtual 405, 3) := by decide +kernel
theorem dX7_doCommand_39 : decode cX7_doCommand 39 = .ok (.tableswitch 137 0 4 #[33, 57, 70, 95, 119], 33) := by decide +kernel
theorem dX7_doCommand_72 : decode cX7_doCommand 72 = .ok (.aload_n 0, 1) := by decide +kernel
theorem dX7_doCommand_73 : decode cX7_doCommand 73 = .ok (.getfield 10, 3) := by decide +kernel
theorem dX7_doCommand_76 : decode cX7_doCommand 76 = .ok (.iload_n 2, 1) := by decide +kernel
theorem dX7_doCommand_77 : decode cX7_doCommand 77 = .ok (.iload_n 3, 1) := by decide +kernel
theorem dX7_doCommand_78 : decode cX7_doCommand 78 = .ok (.aload_n 0, 1) := by decide +kernel
theorem dX7_doCommand_79 : decode cX7_doCommand 79 = .ok (.getfield 10, 3) := by decide +kernel
theorem dX7_doCommand_82 : decode cX7_doCommand 82 = .ok (.getfield 47, 3) := by decide +kernel
theorem dX7_doCommand_85 : decode cX7_doCommand 85 = .ok (.iload_n 2, 1) := by decide +kernel
theorem dX7_doCommand_86 : decode cX7_doCommand 86 = .ok (.invokevirtual 408, 3) := by decide +kernel
theorem dX7_doCommand_89 : decode cX7_doCommand 89 = .ok (.invokevirtual 102, 3) := by decide +kernel
theorem dX7_doCommand_92 : decode cX7_doCommand 92 = .ok (.pop, 1) := by decide +kernel
theorem dX7_doCommand_93 : decode cX7_doCommand 93 = .ok (.goto 96, 3) := by decide +kernel
theorem dX7_doCommand_96 : decode cX7_doCommand 96 = .ok (.aload_n 0, 1) := by decide +kernel
theorem dX7_doCommand_97 : decode cX7_doCommand 97 = .ok (.getfield 10, 3) := by decide +kernel
theorem dX7_doCommand_100 : decode cX7_doCommand 100 = .ok (.iload_n 2, 1) := by decide +kernel
theorem dX7_doCommand_101 : decode cX7_doCommand 101 = .ok (.iload_n 3, 1) := by decide +kernel
theorem dX7_doCommand_102 : decode cX7_doCommand 102 = .ok (.invokevirtual 108, 3) := by decide +kernel
theorem dX7_doCommand_105 : decode cX7_doCommand 105 = .ok (.pop, 1) := by decide +kernel
theorem dX7_doCommand_106 : decode cX7_doCommand 106 = .ok (.goto 83, 3) := by decide +kernel
theorem dX7_doCommand_109 : decode cX7_doCommand 109 = .ok (.aload_n 0, 1) := by decide +kernel
theorem dX7_doCommand_110 : decode cX7_doCommand 110 = .ok (.getfield 10, 3) := by decide +kernel
theorem dX7_doCommand_113 : decode cX7_doCommand 113 = .ok (.getfield 137, 3) := by decide +kernel
theorem dX7_doCommand_116 : decode cX7_doCommand 116 = .ok (.iload_n 2, 1) := by decide +kernel
theorem dX7_doCommand_117 : decode cX7_doCommand 117 = .ok (.iload_n 3, 1) := by decide +kernel
theorem dX7_doCommand_118 : decode cX7_doCommand 118 = .ok (.iload 4, 2) := by decide +kernel
theorem dX7_doCommand_120 : decode cX7_doCommand 120 = .ok (.aload_n 0, 1) := by decide +kernel
theorem dX7_doCommand_121 : decode cX7_doCommand 121 = .ok (.getfield 10, 3) := by decide +kernel
theorem dX7_doCommand_124 : decode cX7_doCommand 124 = .ok (.getfield 74, 3) := by decide +kernel
theorem dX7_doCommand_127 : decode cX7_doCommand 127 = .ok (.invokevirtual 183, 3) := by decide +kernel
theorem dX7_doCommand_130 : decode cX7_doCommand 130 = .ok (.pop, 1) := by decide +kernel
theorem dX7_doCommand_131 : decode cX7_doCommand 131 = .ok (.goto 58, 3) := by decide +kernel
theorem dX7_doCommand_134 : decode cX7_doCommand 134 = .ok (.aload_n 0, 1) := by decide +kernel
theorem dX7_doCommand_135 : decode cX7_doCommand 135 = .ok (.getfield 10, 3) := by decide +kernel
theorem dX7_doCommand_138 : decode cX7_doCommand 138 = .ok (.getfield 222, 3) := by decide +kernel
theorem dX7_doCommand_141 : decode cX7_doCommand 141 = .ok (.iconst 0, 1) := by decide +kernel
theorem dX7_doCommand_142 : decode cX7_doCommand 142 = .ok (.iload_n 2, 1) := by decide +kernel
theorem dX7_doCommand_143 : decode cX7_doCommand 143 = .ok (.iload_n 3, 1) := by decide +kernel
theorem dX7_doCommand_144 : decode cX7_doCommand 144 = .ok (.aload_n 0, 1) := by decide +kernel
theorem dX7_doCommand_145 : decode cX7_doCommand 145 = .ok (.getfield 10, 3) := by decide +kernel
theorem dX7_doCommand_148 : decode cX7_doCommand 148 = .ok (.getfield 74, 3) := by decide +kernel
theorem dX7_doCommand_151 : decode cX7_doCommand 151 = .ok (.invokevirtual 226, 3) := by decide +kernel
theorem dX7_doCommand_154 : decode cX7_doCommand 154 = .ok (.pop, 1) := by decide +kernel
theorem dX7_doCommand_155 : decode cX7_doCommand 155 = .ok (.goto 34, 3) := by decide +kernel
theorem dX7_doCommand_158 : decode cX7_doCommand 158 = .ok (.aload_n 0, 1) := by decide +kernel
theorem dX7_doCommand_159 : decode cX7_doCommand 159 = .ok (.getfield 10, 3) := by decide +kernel
theorem dX7_doCommand_162 : decode cX7_doCommand 162 = .ok (.getfield 149, 3) := by decide +kernel
theorem dX7_doCommand_165 : decode cX7_doCommand 165 = .ok (.iload_n 2, 1) := by decide +kernel
theorem dX7_doCommand_166 : decode cX7_doCommand 166 = .ok (.iload_n 3, 1) := by decide +kernel
theorem dX7_doCommand_167 : decode cX7_doCommand 167 = .ok (.iload 4, 2) := by decide +kernel
theorem dX7_doCommand_169 : decode cX7_doCommand 169 = .ok (.invokevirtual 266, 3) := by decide +kernel
theorem dX7_doCommand_172 : decode cX7_doCommand 172 = .ok (.pop, 1) := by decide +kernel
theorem dX7_doCommand_173 : decode cX7_doCommand 173 = .ok (.goto 16, 3) := by decide +kernel
theorem dX7_doCommand_176 : decode cX7_doCommand 176 = .ok (.aload_n 0, 1) := by decide +kernel
theorem dX7_doCommand_177 : decode cX7_doCommand 177 = .ok (.getfield 10, 3) := by decide +kernel
theorem dX7_doCommand_180 : decode cX7_doCommand 180 = .ok (.dup, 1) := by decide +kernel
theorem dX7_doCommand_181 : decode cX7_doCommand 181 = .ok (.getfield 74, 3) := by decide +kernel
theorem dX7_doCommand_184 : decode cX7_doCommand 184 = .ok (.iload_n 2, 1) := by decide +kernel
theorem dX7_doCommand_185 : decode cX7_doCommand 185 = .ok (.iadd, 1) := by decide +kernel
theorem dX7_doCommand_186 : decode cX7_doCommand 186 = .ok (.putfield 74, 3) := by decide +kernel
theorem dX7_doCommand_189 : decode cX7_doCommand 189 = .ok (.return_, 1) := by decide +kernel
