theorem dX5_put_0 : decode cX5_put 0 = .ok (.aload_n 0, 1) := by decide +kernel
theorem dX5_put_1 : decode cX5_put 1 = .ok (.getfield 9, 3) := by decide +kernel
theorem dX5_put_4 : decode cX5_put 4 = .ok (.bipush 80, 2) := by decide +kernel
theorem dX5_put_6 : decode cX5_put 6 = .ok (.if_icmp .ge 23, 3) := by decide +kernel
theorem dX5_put_9 : decode cX5_put 9 = .ok (.aload_n 0, 1) := by decide +kernel
theorem dX5_put_10 : decode cX5_put 10 = .ok (.getfield 21, 3) := by decide +kernel
theorem dX5_put_13 : decode cX5_put 13 = .ok (.aload_n 0, 1) := by decide +kernel
theorem dX5_put_14 : decode cX5_put 14 = .ok (.getfield 9, 3) := by decide +kernel
theorem dX5_put_17 : decode cX5_put 17 = .ok (.iload_n 1, 1) := by decide +kernel
theorem dX5_put_18 : decode cX5_put 18 = .ok (.castore, 1) := by decide +kernel
theorem dX5_put_19 : decode cX5_put 19 = .ok (.aload_n 0, 1) := by decide +kernel
theorem dX5_put_20 : decode cX5_put 20 = .ok (.dup, 1) := by decide +kernel
theorem dX5_put_21 : decode cX5_put 21 = .ok (.getfield 9, 3) := by decide +kernel
theorem dX5_put_24 : decode cX5_put 24 = .ok (.iconst 1, 1) := by decide +kernel
theorem dX5_put_25 : decode cX5_put 25 = .ok (.iadd, 1) := by decide +kernel
theorem dX5_put_26 : decode cX5_put 26 = .ok (.putfield 9, 3) := by decide +kernel
theorem dX5_put_29 : decode cX5_put 29 = .ok (.return_, 1) := by decide +kernel
theorem dX5_wordOf_0 : decode cX5_wordOf 0 = .ok (.iload_n 1, 1) := by decide +kernel
theorem dX5_wordOf_1 : decode cX5_wordOf 1 = .ok (.ifCond .lt 18, 3) := by decide +kernel
theorem dX5_wordOf_4 : decode cX5_wordOf 4 = .ok (.iload_n 1, 1) := by decide +kernel
theorem dX5_wordOf_5 : decode cX5_wordOf 5 = .ok (.bipush 12, 2) := by decide +kernel
theorem dX5_wordOf_7 : decode cX5_wordOf 7 = .ok (.if_icmp .ge 12, 3) := by decide +kernel
theorem dX5_wordOf_10 : decode cX5_wordOf 10 = .ok (.aload_n 0, 1) := by decide +kernel
theorem dX5_wordOf_11 : decode cX5_wordOf 11 = .ok (.getfield 25, 3) := by decide +kernel
theorem dX5_wordOf_14 : decode cX5_wordOf 14 = .ok (.iload_n 1, 1) := by decide +kernel
theorem dX5_wordOf_15 : decode cX5_wordOf 15 = .ok (.iaload, 1) := by decide +kernel
theorem dX5_wordOf_16 : decode cX5_wordOf 16 = .ok (.goto 4, 3) := by decide +kernel
theorem dX5_wordOf_19 : decode cX5_wordOf 19 = .ok (.iconst (-1), 1) := by decide +kernel
theorem dX5_wordOf_20 : decode cX5_wordOf 20 = .ok (.ireturn, 1) := by decide +kernel
theorem dX5_numberOf_0 : decode cX5_numberOf 0 = .ok (.iload_n 1, 1) := by decide +kernel
theorem dX5_numberOf_1 : decode cX5_numberOf 1 = .ok (.iconst 3, 1) := by decide +kernel
theorem dX5_numberOf_2 : decode cX5_numberOf 2 = .ok (.imul, 1) := by decide +kernel
theorem dX5_numberOf_3 : decode cX5_numberOf 3 = .ok (.iload_n 2, 1) := by decide +kernel
theorem dX5_numberOf_4 : decode cX5_numberOf 4 = .ok (.iadd, 1) := by decide +kernel
theorem dX5_numberOf_5 : decode cX5_numberOf 5 = .ok (.istore_n 3, 1) := by decide +kernel
theorem dX5_numberOf_6 : decode cX5_numberOf 6 = .ok (.iload_n 3, 1) := by decide +kernel
theorem dX5_numberOf_7 : decode cX5_numberOf 7 = .ok (.ifCond .lt 21, 3) := by decide +kernel
theorem dX5_numberOf_10 : decode cX5_numberOf 10 = .ok (.iload_n 3, 1) := by decide +kernel
theorem dX5_numberOf_11 : decode cX5_numberOf 11 = .ok (.aload_n 0, 1) := by decide +kernel
theorem dX5_numberOf_12 : decode cX5_numberOf 12 = .ok (.getfield 29, 3) := by decide +kernel
theorem dX5_numberOf_15 : decode cX5_numberOf 15 = .ok (.arraylength, 1) := by decide +kernel
theorem dX5_numberOf_16 : decode cX5_numberOf 16 = .ok (.if_icmp .ge 12, 3) := by decide +kernel
theorem dX5_numberOf_19 : decode cX5_numberOf 19 = .ok (.aload_n 0, 1) := by decide +kernel
theorem dX5_numberOf_20 : decode cX5_numberOf 20 = .ok (.getfield 29, 3) := by decide +kernel
theorem dX5_numberOf_23 : decode cX5_numberOf 23 = .ok (.iload_n 3, 1) := by decide +kernel
theorem dX5_numberOf_24 : decode cX5_numberOf 24 = .ok (.iaload, 1) := by decide +kernel
theorem dX5_numberOf_25 : decode cX5_numberOf 25 = .ok (.goto 4, 3) := by decide +kernel
theorem dX5_numberOf_28 : decode cX5_numberOf 28 = .ok (.iconst 0, 1) := by decide +kernel
theorem dX5_numberOf_29 : decode cX5_numberOf 29 = .ok (.ireturn, 1) := by decide +kernel
set_option maxRecDepth 20000 in
theorem ggX5_scan_X5_scanCommand : GoodIn wsX5_scan wsX5_scanCommand := goodIn_ca (goodIn_r _ [8, 9, 10, 11, 12, 13, 7, 14, 15, 16, 17, 18, 1, 19, 20, 21, 22, 23, 24, 25, 26, 27, 28, 29, 30, 31, 32, 33, 34, 35, 36, 37, 38, 39, 40, 41, 42, 43, 44, 45, 46, 47, 48, 49, 50, 51, 52, 53, 54, 55, 56, 57, 58, 59, 60, 61, 62, 63, 64, 65, 66, 67, 68, 69, 70, 71, 72, 73, 74, 75, 76, 77, 78, 3, 79, 80, 81, 82, 83, 84, 85, 86, 87, 88, 89, 90, 91, 92, 93, 94, 95, 96, 97, 98, 99, 100, 101, 102] (by decide +kernel) (by decide +kernel)) (goodIn_sub (fun _ h => List.mem_cons_of_mem _ (List.mem_append_right _ h)) (by decide +kernel))
set_option maxRecDepth 20000 in
theorem gX5_scan_X5_scanCommand : GoodIn wsX5_scan (wsV RX5 32 RX5 yX5_scanCommand wsX5_scanCommand) := goodIn_app (goodIn_of _ (by decide +kernel)) ggX5_scan_X5_scanCommand
theorem dX5_scan_0 : decode cX5_scan 0 = .ok (.aload_n 0, 1) := by decide +kernel
theorem dX5_scan_1 : decode cX5_scan 1 = .ok (.iconst 0, 1) := by decide +kernel
theorem dX5_scan_2 : decode cX5_scan 2 = .ok (.putfield 15, 3) := by decide +kernel
theorem dX5_scan_5 : decode cX5_scan 5 = .ok (.aload_n 0, 1) := by decide +kernel
theorem dX5_scan_6 : decode cX5_scan 6 = .ok (.iconst 0, 1) := by decide +kernel
theorem dX5_scan_7 : decode cX5_scan 7 = .ok (.putfield 18, 3) := by decide +kernel
theorem dX5_scan_10 : decode cX5_scan 10 = .ok (.iconst 0, 1) := by decide +kernel
theorem dX5_scan_11 : decode cX5_scan 11 = .ok (.istore_n 1, 1) := by decide +kernel
theorem dX5_scan_12 : decode cX5_scan 12 = .ok (.iload_n 1, 1) := by decide +kernel
theorem dX5_scan_13 : decode cX5_scan 13 = .ok (.bipush 12, 2) := by decide +kernel
theorem dX5_scan_15 : decode cX5_scan 15 = .ok (.if_icmp .ge 40, 3) := by decide +kernel
theorem dX5_scan_18 : decode cX5_scan 18 = .ok (.aload_n 0, 1) := by decide +kernel
theorem dX5_scan_19 : decode cX5_scan 19 = .ok (.getfield 15, 3) := by decide +kernel
theorem dX5_scan_22 : decode cX5_scan 22 = .ok (.aload_n 0, 1) := by decide +kernel
theorem dX5_scan_23 : decode cX5_scan 23 = .ok (.getfield 9, 3) := by decide +kernel
theorem dX5_scan_26 : decode cX5_scan 26 = .ok (.if_icmp .ge 29, 3) := by decide +kernel
theorem dX5_scan_29 : decode cX5_scan 29 = .ok (.aload_n 0, 1) := by decide +kernel
theorem dX5_scan_30 : decode cX5_scan 30 = .ok (.iload_n 1, 1) := by decide +kernel
theorem dX5_scan_31 : decode cX5_scan 31 = .ok (.invokevirtual 32, 3) := by decide +kernel
theorem dX5_scan_34 : decode cX5_scan 34 = .ok (.ifCond .ne 5, 3) := by decide +kernel
theorem dX5_scan_37 : decode cX5_scan 37 = .ok (.iconst 0, 1) := by decide +kernel
theorem dX5_scan_38 : decode cX5_scan 38 = .ok (.ireturn, 1) := by decide +kernel
theorem dX5_scan_39 : decode cX5_scan 39 = .ok (.aload_n 0, 1) := by decide +kernel
theorem dX5_scan_40 : decode cX5_scan 40 = .ok (.dup, 1) := by decide +kernel
theorem dX5_scan_41 : decode cX5_scan 41 = .ok (.getfield 18, 3) := by decide +kernel
theorem dX5_scan_44 : decode cX5_scan 44 = .ok (.iconst 1, 1) := by decide +kernel
theorem dX5_scan_45 : decode cX5_scan 45 = .ok (.iadd, 1) := by decide +kernel
theorem dX5_scan_46 : decode cX5_scan 46 = .ok (.putfield 18, 3) := by decide +kernel
theorem dX5_scan_49 : decode cX5_scan 49 = .ok (.iinc 1 1, 3) := by decide +kernel
theorem dX5_scan_52 : decode cX5_scan 52 = .ok (.goto (-40), 3) := by decide +kernel
theorem dX5_scan_55 : decode cX5_scan 55 = .ok (.aload_n 0, 1) := by decide +kernel
theorem dX5_scan_56 : decode cX5_scan 56 = .ok (.getfield 18, 3) := by decide +kernel
theorem dX5_scan_59 : decode cX5_scan 59 = .ok (.ifCond .le 18, 3) := by decide +kernel
theorem dX5_scan_62 : decode cX5_scan 62 = .ok (.aload_n 0, 1) := by decide +kernel
theorem dX5_scan_63 : decode cX5_scan 63 = .ok (.getfield 15, 3) := by decide +kernel
theorem dX5_scan_66 : decode cX5_scan 66 = .ok (.aload_n 0, 1) := by decide +kernel
theorem dX5_scan_67 : decode cX5_scan 67 = .ok (.getfield 9, 3) := by decide +kernel
theorem dX5_scan_70 : decode cX5_scan 70 = .ok (.if_icmp .ne 7, 3) := by decide +kernel
theorem dX5_scan_73 : decode cX5_scan 73 = .ok (.iconst 1, 1) := by decide +kernel
theorem dX5_scan_74 : decode cX5_scan 74 = .ok (.goto 4, 3) := by decide +kernel
theorem dX5_scan_77 : decode cX5_scan 77 = .ok (.iconst 0, 1) := by decide +kernel
theorem dX5_scan_78 : decode cX5_scan 78 = .ok (.ireturn, 1) := by decide +kernel
set_option maxRecDepth 20000 in
theorem ggX5_scanCommand_X5_scanWord : GoodIn wsX5_scanCommand wsX5_scanWord := goodIn_ca (goodIn_r _ [7, 8, 9, 10, 11, 12, 13, 14, 6, 15, 16, 17, 18, 19, 20, 21, 22, 23, 24, 25, 26, 27, 28, 29, 30, 31, 32, 33, 34, 35, 36, 37, 38, 39, 40, 41, 42, 43, 44, 45, 46, 47, 48, 49, 50, 51, 52, 53, 54, 55, 56, 57, 58, 59, 60, 61, 62, 63, 64, 65, 66, 67, 68, 69, 70, 71, 72, 73, 74, 90, 91, 92, 93, 94, 95, 96, 97] (by decide +kernel) (by decide +kernel)) (goodIn_sub (fun _ h => List.mem_cons_of_mem _ (List.mem_append_right _ h)) (by decide +kernel))
set_option maxRecDepth 20000 in
theorem gX5_scanCommand_X5_scanWord : GoodIn wsX5_scanCommand (wsV RX5 36 RX5 yX5_scanWord wsX5_scanWord) := goodIn_app (goodIn_of _ (by decide +kernel)) ggX5_scanCommand_X5_scanWord
set_option maxRecDepth 20000 in
theorem ggX5_scanCommand_X5_numbersOf : GoodIn wsX5_scanCommand wsX5_numbersOf := goodIn_r _ [77] (by decide +kernel) (by decide +kernel)
set_option maxRecDepth 20000 in
theorem gX5_scanCommand_X5_numbersOf : GoodIn wsX5_scanCommand (va_wsS RX5 40 yX5_numbersOf wsX5_numbersOf) := goodIn_app (goodIn_of _ (by decide +kernel)) ggX5_scanCommand_X5_numbersOf
set_option maxRecDepth 20000 in
theorem ggX5_scanCommand_X5_scanSign : GoodIn wsX5_scanCommand wsX5_scanSign := goodIn_ca (goodIn_r _ [81, 12, 69, 70, 71, 6, 72, 73, 74, 90, 91, 92, 93, 94, 95] (by decide +kernel) (by decide +kernel)) (goodIn_sub (fun _ h => List.mem_cons_of_mem _ (List.mem_append_right _ h)) (by decide +kernel))
set_option maxRecDepth 20000 in
theorem gX5_scanCommand_X5_scanSign : GoodIn wsX5_scanCommand (wsV RX5 44 RX5 yX5_scanSign wsX5_scanSign) := goodIn_app (goodIn_of _ (by decide +kernel)) ggX5_scanCommand_X5_scanSign
set_option maxRecDepth 20000 in
theorem ggX5_scanCommand_X5_scanNumber : GoodIn wsX5_scanCommand wsX5_scanNumber := goodIn_ca (goodIn_r _ [85, 12, 74, 86, 87, 88, 6, 89, 73, 90, 91, 92, 93, 94, 95] (by decide +kernel) (by decide +kernel)) (goodIn_sub (fun _ h => List.mem_cons_of_mem _ (List.mem_append_right _ h)) (by decide +kernel))
set_option maxRecDepth 20000 in
theorem gX5_scanCommand_X5_scanNumber : GoodIn wsX5_scanCommand (wsV RX5 48 RX5 yX5_scanNumber wsX5_scanNumber) := goodIn_app (goodIn_of _ (by decide +kernel)) ggX5_scanCommand_X5_scanNumber
theorem dX5_scanCommand_0 : decode cX5_scanCommand 0 = .ok (.aload_n 0, 1) := by decide +kernel
theorem dX5_scanCommand_1 : decode cX5_scanCommand 1 = .ok (.invokevirtual 36, 3) := by decide +kernel
theorem dX5_scanCommand_4 : decode cX5_scanCommand 4 = .ok (.istore_n 2, 1) := by decide +kernel
theorem dX5_scanCommand_5 : decode cX5_scanCommand 5 = .ok (.iload_n 2, 1) := by decide +kernel
theorem dX5_scanCommand_6 : decode cX5_scanCommand 6 = .ok (.iconst (-1), 1) := by decide +kernel
theorem dX5_scanCommand_7 : decode cX5_scanCommand 7 = .ok (.if_icmp .ne 5, 3) := by decide +kernel
theorem dX5_scanCommand_10 : decode cX5_scanCommand 10 = .ok (.iconst 0, 1) := by decide +kernel
theorem dX5_scanCommand_11 : decode cX5_scanCommand 11 = .ok (.ireturn, 1) := by decide +kernel
theorem dX5_scanCommand_12 : decode cX5_scanCommand 12 = .ok (.aload_n 0, 1) := by decide +kernel
theorem dX5_scanCommand_13 : decode cX5_scanCommand 13 = .ok (.getfield 25, 3) := by decide +kernel
theorem dX5_scanCommand_16 : decode cX5_scanCommand 16 = .ok (.iload_n 1, 1) := by decide +kernel
theorem dX5_scanCommand_17 : decode cX5_scanCommand 17 = .ok (.iload_n 2, 1) := by decide +kernel
theorem dX5_scanCommand_18 : decode cX5_scanCommand 18 = .ok (.iastore, 1) := by decide +kernel
theorem dX5_scanCommand_19 : decode cX5_scanCommand 19 = .ok (.iconst 0, 1) := by decide +kernel
theorem dX5_scanCommand_20 : decode cX5_scanCommand 20 = .ok (.istore_n 3, 1) := by decide +kernel
theorem dX5_scanCommand_21 : decode cX5_scanCommand 21 = .ok (.iload_n 3, 1) := by decide +kernel
theorem dX5_scanCommand_22 : decode cX5_scanCommand 22 = .ok (.iload_n 2, 1) := by decide +kernel
theorem dX5_scanCommand_23 : decode cX5_scanCommand 23 = .ok (.invokestatic 40, 3) := by decide +kernel
theorem dX5_scanCommand_26 : decode cX5_scanCommand 26 = .ok (.if_icmp .ge 48, 3) := by decide +kernel
theorem dX5_scanCommand_29 : decode cX5_scanCommand 29 = .ok (.aload_n 0, 1) := by decide +kernel
theorem dX5_scanCommand_30 : decode cX5_scanCommand 30 = .ok (.bipush 32, 2) := by decide +kernel
theorem dX5_scanCommand_32 : decode cX5_scanCommand 32 = .ok (.invokevirtual 44, 3) := by decide +kernel
theorem dX5_scanCommand_35 : decode cX5_scanCommand 35 = .ok (.ifCond .eq 10, 3) := by decide +kernel
theorem dX5_scanCommand_38 : decode cX5_scanCommand 38 = .ok (.aload_n 0, 1) := by decide +kernel
theorem dX5_scanCommand_39 : decode cX5_scanCommand 39 = .ok (.invokevirtual 48, 3) := by decide +kernel
theorem dX5_scanCommand_42 : decode cX5_scanCommand 42 = .ok (.goto 4, 3) := by decide +kernel
theorem dX5_scanCommand_45 : decode cX5_scanCommand 45 = .ok (.iconst (-1), 1) := by decide +kernel
theorem dX5_scanCommand_46 : decode cX5_scanCommand 46 = .ok (.istore 4, 2) := by decide +kernel
theorem dX5_scanCommand_48 : decode cX5_scanCommand 48 = .ok (.iload 4, 2) := by decide +kernel
theorem dX5_scanCommand_50 : decode cX5_scanCommand 50 = .ok (.iconst (-1), 1) := by decide +kernel
theorem dX5_scanCommand_51 : decode cX5_scanCommand 51 = .ok (.if_icmp .ne 5, 3) := by decide +kernel
theorem dX5_scanCommand_54 : decode cX5_scanCommand 54 = .ok (.iconst 0, 1) := by decide +kernel
theorem dX5_scanCommand_55 : decode cX5_scanCommand 55 = .ok (.ireturn, 1) := by decide +kernel
theorem dX5_scanCommand_56 : decode cX5_scanCommand 56 = .ok (.aload_n 0, 1) := by decide +kernel
theorem dX5_scanCommand_57 : decode cX5_scanCommand 57 = .ok (.getfield 29, 3) := by decide +kernel
theorem dX5_scanCommand_60 : decode cX5_scanCommand 60 = .ok (.iload_n 1, 1) := by decide +kernel
theorem dX5_scanCommand_61 : decode cX5_scanCommand 61 = .ok (.iconst 3, 1) := by decide +kernel
theorem dX5_scanCommand_62 : decode cX5_scanCommand 62 = .ok (.imul, 1) := by decide +kernel
theorem dX5_scanCommand_63 : decode cX5_scanCommand 63 = .ok (.iload_n 3, 1) := by decide +kernel
theorem dX5_scanCommand_64 : decode cX5_scanCommand 64 = .ok (.iadd, 1) := by decide +kernel
theorem dX5_scanCommand_65 : decode cX5_scanCommand 65 = .ok (.iload 4, 2) := by decide +kernel
theorem dX5_scanCommand_67 : decode cX5_scanCommand 67 = .ok (.iastore, 1) := by decide +kernel
theorem dX5_scanCommand_68 : decode cX5_scanCommand 68 = .ok (.iinc 3 1, 3) := by decide +kernel
theorem dX5_scanCommand_71 : decode cX5_scanCommand 71 = .ok (.goto (-50), 3) := by decide +kernel
theorem dX5_scanCommand_74 : decode cX5_scanCommand 74 = .ok (.aload_n 0, 1) := by decide +kernel
theorem dX5_scanCommand_75 : decode cX5_scanCommand 75 = .ok (.bipush 59, 2) := by decide +kernel
theorem dX5_scanCommand_77 : decode cX5_scanCommand 77 = .ok (.invokevirtual 44, 3) := by decide +kernel
theorem dX5_scanCommand_80 : decode cX5_scanCommand 80 = .ok (.ireturn, 1) := by decide +kernel
set_option maxRecDepth 20000 in
theorem ggX5_scanWord_X5_lettering : GoodIn wsX5_scanWord wsX5_lettering := goodIn_r _ [9] (by decide +kernel) (by decide +kernel)
set_option maxRecDepth 20000 in
theorem gX5_scanWord_X5_lettering : GoodIn wsX5_scanWord (va_wsS RX5 51 yX5_lettering wsX5_lettering) := goodIn_app (goodIn_of _ (by decide +kernel)) ggX5_scanWord_X5_lettering
set_option maxRecDepth 20000 in
theorem ggX5_scanWord_X5_lettersOf : GoodIn wsX5_scanWord wsX5_lettersOf := goodIn_ca (goodIn_r _ [13, 5, 14, 15, 16, 17, 18, 19, 20, 21, 22, 23, 24, 25, 26, 27, 28, 29, 30, 31, 32, 33, 34, 35, 36, 37, 38, 39, 40, 41, 42, 43, 44, 45, 46, 47, 48, 49, 50, 51, 52, 53, 54, 55, 56, 57, 58, 59, 60, 61, 62, 63, 64, 65, 8, 66, 67, 68, 69, 70, 71, 72, 73, 74, 75, 76] (by decide +kernel) (by decide +kernel)) (goodIn_sub (fun _ h => List.mem_cons_of_mem _ (List.mem_append_right _ h)) (by decide +kernel))
set_option maxRecDepth 20000 in
theorem gX5_scanWord_X5_lettersOf : GoodIn wsX5_scanWord (wsV RX5 55 RX5 yX5_lettersOf wsX5_lettersOf) := goodIn_app (goodIn_of _ (by decide +kernel)) ggX5_scanWord_X5_lettersOf
set_option maxRecDepth 20000 in
theorem ggX5_scanWord_J0_length_8abf5 : GoodIn wsX5_scanWord wsJ0_length_8abf5 := goodIn_r _ [18, 19, 20, 21, 22, 17, 23, 24, 25, 75, 76] (by decide +kernel) (by decide +kernel)
set_option maxRecDepth 20000 in
theorem gX5_scanWord_J0_length_8abf5 : GoodIn wsX5_scanWord (wsV RX5 65 RJ0 yJ0_length_8abf5 wsJ0_length_8abf5) := goodIn_app (goodIn_of _ (by decide +kernel)) ggX5_scanWord_J0_length_8abf5
theorem dX5_scanWord_0 : decode cX5_scanWord 0 = .ok (.iconst 0, 1) := by decide +kernel
theorem dX5_scanWord_1 : decode cX5_scanWord 1 = .ok (.istore_n 1, 1) := by decide +kernel
theorem dX5_scanWord_2 : decode cX5_scanWord 2 = .ok (.iconst 0, 1) := by decide +kernel
theorem dX5_scanWord_3 : decode cX5_scanWord 3 = .ok (.istore_n 2, 1) := by decide +kernel
theorem dX5_scanWord_4 : decode cX5_scanWord 4 = .ok (.iload_n 2, 1) := by decide +kernel
theorem dX5_scanWord_5 : decode cX5_scanWord 5 = .ok (.bipush 6, 2) := by decide +kernel
theorem dX5_scanWord_7 : decode cX5_scanWord 7 = .ok (.if_icmp .ge 47, 3) := by decide +kernel
theorem dX5_scanWord_10 : decode cX5_scanWord 10 = .ok (.aload_n 0, 1) := by decide +kernel
theorem dX5_scanWord_11 : decode cX5_scanWord 11 = .ok (.iload_n 2, 1) := by decide +kernel
theorem dX5_scanWord_12 : decode cX5_scanWord 12 = .ok (.invokestatic 51, 3) := by decide +kernel
theorem dX5_scanWord_15 : decode cX5_scanWord 15 = .ok (.invokevirtual 55, 3) := by decide +kernel
theorem dX5_scanWord_18 : decode cX5_scanWord 18 = .ok (.istore_n 3, 1) := by decide +kernel
theorem dX5_scanWord_19 : decode cX5_scanWord 19 = .ok (.iload_n 1, 1) := by decide +kernel
theorem dX5_scanWord_20 : decode cX5_scanWord 20 = .ok (.iload_n 3, 1) := by decide +kernel
theorem dX5_scanWord_21 : decode cX5_scanWord 21 = .ok (.invokestatic 59, 3) := by decide +kernel
theorem dX5_scanWord_24 : decode cX5_scanWord 24 = .ok (.istore_n 1, 1) := by decide +kernel
theorem dX5_scanWord_25 : decode cX5_scanWord 25 = .ok (.iload_n 3, 1) := by decide +kernel
theorem dX5_scanWord_26 : decode cX5_scanWord 26 = .ok (.iload_n 2, 1) := by decide +kernel
theorem dX5_scanWord_27 : decode cX5_scanWord 27 = .ok (.invokestatic 51, 3) := by decide +kernel
theorem dX5_scanWord_30 : decode cX5_scanWord 30 = .ok (.invokevirtual 65, 3) := by decide +kernel
theorem dX5_scanWord_33 : decode cX5_scanWord 33 = .ok (.if_icmp .ne 15, 3) := by decide +kernel
theorem dX5_scanWord_36 : decode cX5_scanWord 36 = .ok (.aload_n 0, 1) := by decide +kernel
theorem dX5_scanWord_37 : decode cX5_scanWord 37 = .ok (.dup, 1) := by decide +kernel
theorem dX5_scanWord_38 : decode cX5_scanWord 38 = .ok (.getfield 15, 3) := by decide +kernel
theorem dX5_scanWord_41 : decode cX5_scanWord 41 = .ok (.iload_n 3, 1) := by decide +kernel
theorem dX5_scanWord_42 : decode cX5_scanWord 42 = .ok (.iadd, 1) := by decide +kernel
theorem dX5_scanWord_43 : decode cX5_scanWord 43 = .ok (.putfield 15, 3) := by decide +kernel
theorem dX5_scanWord_46 : decode cX5_scanWord 46 = .ok (.iload_n 2, 1) := by decide +kernel
theorem dX5_scanWord_47 : decode cX5_scanWord 47 = .ok (.ireturn, 1) := by decide +kernel
theorem dX5_scanWord_48 : decode cX5_scanWord 48 = .ok (.iinc 2 1, 3) := by decide +kernel
theorem dX5_scanWord_51 : decode cX5_scanWord 51 = .ok (.goto (-47), 3) := by decide +kernel
theorem dX5_scanWord_54 : decode cX5_scanWord 54 = .ok (.aload_n 0, 1) := by decide +kernel
theorem dX5_scanWord_55 : decode cX5_scanWord 55 = .ok (.dup, 1) := by decide +kernel
theorem dX5_scanWord_56 : decode cX5_scanWord 56 = .ok (.getfield 15, 3) := by decide +kernel
theorem dX5_scanWord_59 : decode cX5_scanWord 59 = .ok (.iload_n 1, 1) := by decide +kernel
theorem dX5_scanWord_60 : decode cX5_scanWord 60 = .ok (.iadd, 1) := by decide +kernel
theorem dX5_scanWord_61 : decode cX5_scanWord 61 = .ok (.putfield 15, 3) := by decide +kernel
theorem dX5_scanWord_64 : decode cX5_scanWord 64 = .ok (.iconst (-1), 1) := by decide +kernel
theorem dX5_scanWord_65 : decode cX5_scanWord 65 = .ok (.ireturn, 1) := by decide +kernel
set_option maxRecDepth 20000 in
theorem ggX5_lettersOf_J0_length_8abf5 : GoodIn wsX5_lettersOf wsJ0_length_8abf5 := goodIn_r _ [6, 7, 8, 9, 10, 5, 11, 12, 13, 64, 65] (by decide +kernel) (by decide +kernel)
set_option maxRecDepth 20000 in
theorem gX5_lettersOf_J0_length_8abf5 : GoodIn wsX5_lettersOf (wsV RX5 65 RJ0 yJ0_length_8abf5 wsJ0_length_8abf5) := goodIn_app (goodIn_of _ (by decide +kernel)) ggX5_lettersOf_J0_length_8abf5
set_option maxRecDepth 20000 in
theorem ggX5_lettersOf_J0_charAt_5068e : GoodIn wsX5_lettersOf wsJ0_charAt_5068e := goodIn_r _ [17, 7, 18, 19, 20, 5, 21, 12, 13, 22, 23, 24, 25, 26, 27, 28, 29, 30, 31, 32, 33, 34, 35, 36, 37, 38, 39, 40, 41, 42, 43, 44, 45, 46, 47, 48, 49, 50, 64, 65] (by decide +kernel) (by decide +kernel)
set_option maxRecDepth 20000 in
theorem gX5_lettersOf_J0_charAt_5068e : GoodIn wsX5_lettersOf (wsV RX5 69 RJ0 yJ0_charAt_5068e wsJ0_charAt_5068e) := goodIn_app (goodIn_of _ (by decide +kernel)) ggX5_lettersOf_J0_charAt_5068e
set_option maxRecDepth 20000 in
theorem ggX5_lettersOf_X5_isAt : GoodIn wsX5_lettersOf wsX5_isAt := goodIn_ca (goodIn_r _ [55, 56, 57, 58, 59, 60, 61, 62, 63] (by decide +kernel) (by decide +kernel)) (goodIn_sub (fun _ h => List.mem_cons_of_mem _ (List.mem_append_right _ h)) (by decide +kernel))
set_option maxRecDepth 20000 in
theorem gX5_lettersOf_X5_isAt : GoodIn wsX5_lettersOf (wsV RX5 73 RX5 yX5_isAt wsX5_isAt) := goodIn_app (goodIn_of _ (by decide +kernel)) ggX5_lettersOf_X5_isAt
theorem dX5_lettersOf_0 : decode cX5_lettersOf 0 = .ok (.iconst 0, 1) := by decide +kernel
theorem dX5_lettersOf_1 : decode cX5_lettersOf 1 = .ok (.istore_n 2, 1) := by decide +kernel
theorem dX5_lettersOf_2 : decode cX5_lettersOf 2 = .ok (.iload_n 2, 1) := by decide +kernel
theorem dX5_lettersOf_3 : decode cX5_lettersOf 3 = .ok (.aload_n 1, 1) := by decide +kernel
theorem dX5_lettersOf_4 : decode cX5_lettersOf 4 = .ok (.invokevirtual 65, 3) := by decide +kernel
theorem dX5_lettersOf_7 : decode cX5_lettersOf 7 = .ok (.if_icmp .ge 29, 3) := by decide +kernel
theorem dX5_lettersOf_10 : decode cX5_lettersOf 10 = .ok (.aload_n 0, 1) := by decide +kernel
theorem dX5_lettersOf_11 : decode cX5_lettersOf 11 = .ok (.aload_n 0, 1) := by decide +kernel
theorem dX5_lettersOf_12 : decode cX5_lettersOf 12 = .ok (.getfield 15, 3) := by decide +kernel
theorem dX5_lettersOf_15 : decode cX5_lettersOf 15 = .ok (.iload_n 2, 1) := by decide +kernel
theorem dX5_lettersOf_16 : decode cX5_lettersOf 16 = .ok (.iadd, 1) := by decide +kernel
theorem dX5_lettersOf_17 : decode cX5_lettersOf 17 = .ok (.aload_n 1, 1) := by decide +kernel
theorem dX5_lettersOf_18 : decode cX5_lettersOf 18 = .ok (.iload_n 2, 1) := by decide +kernel
theorem dX5_lettersOf_19 : decode cX5_lettersOf 19 = .ok (.invokevirtual 69, 3) := by decide +kernel
theorem dX5_lettersOf_22 : decode cX5_lettersOf 22 = .ok (.invokevirtual 73, 3) := by decide +kernel
theorem dX5_lettersOf_25 : decode cX5_lettersOf 25 = .ok (.ifCond .ne 5, 3) := by decide +kernel
theorem dX5_lettersOf_28 : decode cX5_lettersOf 28 = .ok (.iload_n 2, 1) := by decide +kernel
theorem dX5_lettersOf_29 : decode cX5_lettersOf 29 = .ok (.ireturn, 1) := by decide +kernel
theorem dX5_lettersOf_30 : decode cX5_lettersOf 30 = .ok (.iinc 2 1, 3) := by decide +kernel
theorem dX5_lettersOf_33 : decode cX5_lettersOf 33 = .ok (.goto (-31), 3) := by decide +kernel
theorem dX5_lettersOf_36 : decode cX5_lettersOf 36 = .ok (.aload_n 1, 1) := by decide +kernel
theorem dX5_lettersOf_37 : decode cX5_lettersOf 37 = .ok (.invokevirtual 65, 3) := by decide +kernel
theorem dX5_lettersOf_40 : decode cX5_lettersOf 40 = .ok (.ireturn, 1) := by decide +kernel
theorem dX5_isAt_0 : decode cX5_isAt 0 = .ok (.iload_n 1, 1) := by decide +kernel
theorem dX5_isAt_1 : decode cX5_isAt 1 = .ok (.ifCond .lt 31, 3) := by decide +kernel
theorem dX5_isAt_4 : decode cX5_isAt 4 = .ok (.iload_n 1, 1) := by decide +kernel
theorem dX5_isAt_5 : decode cX5_isAt 5 = .ok (.aload_n 0, 1) := by decide +kernel
theorem dX5_isAt_6 : decode cX5_isAt 6 = .ok (.getfield 9, 3) := by decide +kernel
theorem dX5_isAt_9 : decode cX5_isAt 9 = .ok (.if_icmp .ge 23, 3) := by decide +kernel
theorem dX5_isAt_12 : decode cX5_isAt 12 = .ok (.iload_n 1, 1) := by decide +kernel
theorem dX5_isAt_13 : decode cX5_isAt 13 = .ok (.bipush 80, 2) := by decide +kernel
theorem dX5_isAt_15 : decode cX5_isAt 15 = .ok (.if_icmp .ge 17, 3) := by decide +kernel
theorem dX5_isAt_18 : decode cX5_isAt 18 = .ok (.aload_n 0, 1) := by decide +kernel
theorem dX5_isAt_19 : decode cX5_isAt 19 = .ok (.getfield 21, 3) := by decide +kernel
theorem dX5_isAt_22 : decode cX5_isAt 22 = .ok (.iload_n 1, 1) := by decide +kernel
theorem dX5_isAt_23 : decode cX5_isAt 23 = .ok (.caload, 1) := by decide +kernel
theorem dX5_isAt_24 : decode cX5_isAt 24 = .ok (.iload_n 2, 1) := by decide +kernel
theorem dX5_isAt_25 : decode cX5_isAt 25 = .ok (.if_icmp .ne 7, 3) := by decide +kernel
theorem dX5_isAt_28 : decode cX5_isAt 28 = .ok (.iconst 1, 1) := by decide +kernel
theorem dX5_isAt_29 : decode cX5_isAt 29 = .ok (.goto 4, 3) := by decide +kernel
theorem dX5_isAt_32 : decode cX5_isAt 32 = .ok (.iconst 0, 1) := by decide +kernel
theorem dX5_isAt_33 : decode cX5_isAt 33 = .ok (.ireturn, 1) := by decide +kernel
set_option maxRecDepth 20000 in
theorem ggX5_scanSign_X5_isAt : GoodIn wsX5_scanSign wsX5_isAt := goodIn_ca (goodIn_r _ [6, 7, 8, 9, 10, 11, 12, 13, 14] (by decide +kernel) (by decide +kernel)) (goodIn_sub (fun _ h => List.mem_cons_of_mem _ (List.mem_append_right _ h)) (by decide +kernel))
set_option maxRecDepth 20000 in
theorem gX5_scanSign_X5_isAt : GoodIn wsX5_scanSign (wsV RX5 73 RX5 yX5_isAt wsX5_isAt) := goodIn_app (goodIn_of _ (by decide +kernel)) ggX5_scanSign_X5_isAt
theorem dX5_scanSign_0 : decode cX5_scanSign 0 = .ok (.aload_n 0, 1) := by decide +kernel
theorem dX5_scanSign_1 : decode cX5_scanSign 1 = .ok (.aload_n 0, 1) := by decide +kernel
theorem dX5_scanSign_2 : decode cX5_scanSign 2 = .ok (.getfield 15, 3) := by decide +kernel
theorem dX5_scanSign_5 : decode cX5_scanSign 5 = .ok (.iload_n 1, 1) := by decide +kernel
theorem dX5_scanSign_6 : decode cX5_scanSign 6 = .ok (.invokevirtual 73, 3) := by decide +kernel
theorem dX5_scanSign_9 : decode cX5_scanSign 9 = .ok (.ifCond .ne 5, 3) := by decide +kernel
theorem dX5_scanSign_12 : decode cX5_scanSign 12 = .ok (.iconst 0, 1) := by decide +kernel
theorem dX5_scanSign_13 : decode cX5_scanSign 13 = .ok (.ireturn, 1) := by decide +kernel
theorem dX5_scanSign_14 : decode cX5_scanSign 14 = .ok (.aload_n 0, 1) := by decide +kernel
theorem dX5_scanSign_15 : decode cX5_scanSign 15 = .ok (.dup, 1) := by decide +kernel
theorem dX5_scanSign_16 : decode cX5_scanSign 16 = .ok (.getfield 15, 3) := by decide +kernel
theorem dX5_scanSign_19 : decode cX5_scanSign 19 = .ok (.iconst 1, 1) := by decide +kernel
theorem dX5_scanSign_20 : decode cX5_scanSign 20 = .ok (.iadd, 1) := by decide +kernel
theorem dX5_scanSign_21 : decode cX5_scanSign 21 = .ok (.putfield 15, 3) := by decide +kernel
theorem dX5_scanSign_24 : decode cX5_scanSign 24 = .ok (.iconst 1, 1) := by decide +kernel
theorem dX5_scanSign_25 : decode cX5_scanSign 25 = .ok (.ireturn, 1) := by decide +kernel
set_option maxRecDepth 20000 in
theorem ggX5_scanNumber_X5_isDigitAt : GoodIn wsX5_scanNumber wsX5_isDigitAt := goodIn_ca (goodIn_r _ [7, 8, 2, 9, 10, 11, 12, 13, 14] (by decide +kernel) (by decide +kernel)) (goodIn_sub (fun _ h => List.mem_cons_of_mem _ (List.mem_append_right _ h)) (by decide +kernel))
set_option maxRecDepth 20000 in
theorem gX5_scanNumber_X5_isDigitAt : GoodIn wsX5_scanNumber (wsV RX5 77 RX5 yX5_isDigitAt wsX5_isDigitAt) := goodIn_app (goodIn_of _ (by decide +kernel)) ggX5_scanNumber_X5_isDigitAt
theorem dX5_scanNumber_0 : decode cX5_scanNumber 0 = .ok (.iconst (-1), 1) := by decide +kernel
theorem dX5_scanNumber_1 : decode cX5_scanNumber 1 = .ok (.istore_n 1, 1) := by decide +kernel
theorem dX5_scanNumber_2 : decode cX5_scanNumber 2 = .ok (.iconst 0, 1) := by decide +kernel
theorem dX5_scanNumber_3 : decode cX5_scanNumber 3 = .ok (.istore_n 2, 1) := by decide +kernel
theorem dX5_scanNumber_4 : decode cX5_scanNumber 4 = .ok (.iload_n 2, 1) := by decide +kernel
theorem dX5_scanNumber_5 : decode cX5_scanNumber 5 = .ok (.iconst 4, 1) := by decide +kernel
theorem dX5_scanNumber_6 : decode cX5_scanNumber 6 = .ok (.if_icmp .ge 56, 3) := by decide +kernel
theorem dX5_scanNumber_9 : decode cX5_scanNumber 9 = .ok (.aload_n 0, 1) := by decide +kernel
theorem dX5_scanNumber_10 : decode cX5_scanNumber 10 = .ok (.aload_n 0, 1) := by decide +kernel
theorem dX5_scanNumber_11 : decode cX5_scanNumber 11 = .ok (.getfield 15, 3) := by decide +kernel
theorem dX5_scanNumber_14 : decode cX5_scanNumber 14 = .ok (.invokevirtual 77, 3) := by decide +kernel
theorem dX5_scanNumber_17 : decode cX5_scanNumber 17 = .ok (.ifCond .eq 45, 3) := by decide +kernel
theorem dX5_scanNumber_20 : decode cX5_scanNumber 20 = .ok (.iload_n 2, 1) := by decide +kernel
theorem dX5_scanNumber_21 : decode cX5_scanNumber 21 = .ok (.ifCond .ne 7, 3) := by decide +kernel
theorem dX5_scanNumber_24 : decode cX5_scanNumber 24 = .ok (.iconst 0, 1) := by decide +kernel
theorem dX5_scanNumber_25 : decode cX5_scanNumber 25 = .ok (.goto 7, 3) := by decide +kernel
theorem dX5_scanNumber_28 : decode cX5_scanNumber 28 = .ok (.iload_n 1, 1) := by decide +kernel
theorem dX5_scanNumber_29 : decode cX5_scanNumber 29 = .ok (.bipush 10, 2) := by decide +kernel
theorem dX5_scanNumber_31 : decode cX5_scanNumber 31 = .ok (.imul, 1) := by decide +kernel
theorem dX5_scanNumber_32 : decode cX5_scanNumber 32 = .ok (.aload_n 0, 1) := by decide +kernel
theorem dX5_scanNumber_33 : decode cX5_scanNumber 33 = .ok (.getfield 21, 3) := by decide +kernel
theorem dX5_scanNumber_36 : decode cX5_scanNumber 36 = .ok (.aload_n 0, 1) := by decide +kernel
theorem dX5_scanNumber_37 : decode cX5_scanNumber 37 = .ok (.getfield 15, 3) := by decide +kernel
theorem dX5_scanNumber_40 : decode cX5_scanNumber 40 = .ok (.caload, 1) := by decide +kernel
theorem dX5_scanNumber_41 : decode cX5_scanNumber 41 = .ok (.bipush 48, 2) := by decide +kernel
theorem dX5_scanNumber_43 : decode cX5_scanNumber 43 = .ok (.isub, 1) := by decide +kernel
theorem dX5_scanNumber_44 : decode cX5_scanNumber 44 = .ok (.iadd, 1) := by decide +kernel
theorem dX5_scanNumber_45 : decode cX5_scanNumber 45 = .ok (.istore_n 1, 1) := by decide +kernel
theorem dX5_scanNumber_46 : decode cX5_scanNumber 46 = .ok (.aload_n 0, 1) := by decide +kernel
theorem dX5_scanNumber_47 : decode cX5_scanNumber 47 = .ok (.dup, 1) := by decide +kernel
theorem dX5_scanNumber_48 : decode cX5_scanNumber 48 = .ok (.getfield 15, 3) := by decide +kernel
theorem dX5_scanNumber_51 : decode cX5_scanNumber 51 = .ok (.iconst 1, 1) := by decide +kernel
theorem dX5_scanNumber_52 : decode cX5_scanNumber 52 = .ok (.iadd, 1) := by decide +kernel
theorem dX5_scanNumber_53 : decode cX5_scanNumber 53 = .ok (.putfield 15, 3) := by decide +kernel
theorem dX5_scanNumber_56 : decode cX5_scanNumber 56 = .ok (.iinc 2 1, 3) := by decide +kernel
theorem dX5_scanNumber_59 : decode cX5_scanNumber 59 = .ok (.goto (-55), 3) := by decide +kernel
theorem dX5_scanNumber_62 : decode cX5_scanNumber 62 = .ok (.iload_n 1, 1) := by decide +kernel
theorem dX5_scanNumber_63 : decode cX5_scanNumber 63 = .ok (.ireturn, 1) := by decide +kernel
theorem dX5_isDigitAt_0 : decode cX5_isDigitAt 0 = .ok (.iload_n 1, 1) := by decide +kernel
theorem dX5_isDigitAt_1 : decode cX5_isDigitAt 1 = .ok (.ifCond .lt 43, 3) := by decide +kernel
theorem dX5_isDigitAt_4 : decode cX5_isDigitAt 4 = .ok (.iload_n 1, 1) := by decide +kernel
theorem dX5_isDigitAt_5 : decode cX5_isDigitAt 5 = .ok (.aload_n 0, 1) := by decide +kernel
theorem dX5_isDigitAt_6 : decode cX5_isDigitAt 6 = .ok (.getfield 9, 3) := by decide +kernel
theorem dX5_isDigitAt_9 : decode cX5_isDigitAt 9 = .ok (.if_icmp .ge 35, 3) := by decide +kernel
theorem dX5_isDigitAt_12 : decode cX5_isDigitAt 12 = .ok (.iload_n 1, 1) := by decide +kernel
theorem dX5_isDigitAt_13 : decode cX5_isDigitAt 13 = .ok (.bipush 80, 2) := by decide +kernel
theorem dX5_isDigitAt_15 : decode cX5_isDigitAt 15 = .ok (.if_icmp .ge 29, 3) := by decide +kernel
theorem dX5_isDigitAt_18 : decode cX5_isDigitAt 18 = .ok (.aload_n 0, 1) := by decide +kernel
theorem dX5_isDigitAt_19 : decode cX5_isDigitAt 19 = .ok (.getfield 21, 3) := by decide +kernel
theorem dX5_isDigitAt_22 : decode cX5_isDigitAt 22 = .ok (.iload_n 1, 1) := by decide +kernel
theorem dX5_isDigitAt_23 : decode cX5_isDigitAt 23 = .ok (.caload, 1) := by decide +kernel
theorem dX5_isDigitAt_24 : decode cX5_isDigitAt 24 = .ok (.bipush 48, 2) := by decide +kernel
theorem dX5_isDigitAt_26 : decode cX5_isDigitAt 26 = .ok (.if_icmp .lt 18, 3) := by decide +kernel
theorem dX5_isDigitAt_29 : decode cX5_isDigitAt 29 = .ok (.aload_n 0, 1) := by decide +kernel
theorem dX5_isDigitAt_30 : decode cX5_isDigitAt 30 = .ok (.getfield 21, 3) := by decide +kernel
theorem dX5_isDigitAt_33 : decode cX5_isDigitAt 33 = .ok (.iload_n 1, 1) := by decide +kernel
theorem dX5_isDigitAt_34 : decode cX5_isDigitAt 34 = .ok (.caload, 1) := by decide +kernel
theorem dX5_isDigitAt_35 : decode cX5_isDigitAt 35 = .ok (.bipush 57, 2) := by decide +kernel
theorem dX5_isDigitAt_37 : decode cX5_isDigitAt 37 = .ok (.if_icmp .gt 7, 3) := by decide +kernel
theorem dX5_isDigitAt_40 : decode cX5_isDigitAt 40 = .ok (.iconst 1, 1) := by decide +kernel
theorem dX5_isDigitAt_41 : decode cX5_isDigitAt 41 = .ok (.goto 4, 3) := by decide +kernel
theorem dX5_isDigitAt_44 : decode cX5_isDigitAt 44 = .ok (.iconst 0, 1) := by decide +kernel
theorem dX5_isDigitAt_45 : decode cX5_isDigitAt 45 = .ok (.ireturn, 1) := by decide +kernel
theorem dX5_lettering_0 : decode cX5_lettering 0 = .ok (.iload_n 0, 1) := by decide +kernel
theorem dX5_lettering_1 : decode cX5_lettering 1 = .ok (.tableswitch 50 0 4 #[35, 38, 41, 44, 47], 35) := by decide +kernel
theorem dX5_lettering_36 : decode cX5_lettering 36 = .ok (.ldc 80, 2) := by decide +kernel
theorem dX5_lettering_38 : decode cX5_lettering 38 = .ok (.areturn, 1) := by decide +kernel
theorem dX5_lettering_39 : decode cX5_lettering 39 = .ok (.ldc 82, 2) := by decide +kernel
theorem dX5_lettering_41 : decode cX5_lettering 41 = .ok (.areturn, 1) := by decide +kernel
theorem dX5_lettering_42 : decode cX5_lettering 42 = .ok (.ldc 84, 2) := by decide +kernel
theorem dX5_lettering_44 : decode cX5_lettering 44 = .ok (.areturn, 1) := by decide +kernel
theorem dX5_lettering_45 : decode cX5_lettering 45 = .ok (.ldc 86, 2) := by decide +kernel
theorem dX5_lettering_47 : decode cX5_lettering 47 = .ok (.areturn, 1) := by decide +kernel
theorem dX5_lettering_48 : decode cX5_lettering 48 = .ok (.ldc 88, 2) := by decide +kernel
theorem dX5_lettering_50 : decode cX5_lettering 50 = .ok (.areturn, 1) := by decide +kernel
theorem dX5_lettering_51 : decode cX5_lettering 51 = .ok (.ldc 90, 2) := by decide +kernel
theorem dX5_lettering_53 : decode cX5_lettering 53 = .ok (.areturn, 1) := by decide +kernel
theorem dX5_numbersOf_0 : decode cX5_numbersOf 0 = .ok (.iload_n 0, 1) := by decide +kernel
theorem dX5_numbersOf_1 : decode cX5_numbersOf 1 = .ok (.tableswitch 35 2 5 #[31, 35, 31, 33], 31) := by decide +kernel
theorem dX5_numbersOf_32 : decode cX5_numbersOf 32 = .ok (.iconst 3, 1) := by decide +kernel
theorem dX5_numbersOf_33 : decode cX5_numbersOf 33 = .ok (.ireturn, 1) := by decide +kernel
theorem dX5_numbersOf_34 : decode cX5_numbersOf 34 = .ok (.iconst 1, 1) := by decide +kernel
theorem dX5_numbersOf_35 : decode cX5_numbersOf 35 = .ok (.ireturn, 1) := by decide +kernel
theorem dX5_numbersOf_36 : decode cX5_numbersOf 36 = .ok (.iconst 2, 1) := by decide +kernel
theorem dX5_numbersOf_37 : decode cX5_numbersOf 37 = .ok (.ireturn, 1) := by decide +kernel
