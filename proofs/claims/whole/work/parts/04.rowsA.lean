theorem dX7_isFrom_0 : decode cX7_isFrom 0 = .ok (.iload_n 0, 1) := by decide +kernel
theorem dX7_isFrom_1 : decode cX7_isFrom 1 = .ok (.iload_n 1, 1) := by decide +kernel
theorem dX7_isFrom_2 : decode cX7_isFrom 2 = .ok (.if_icmp .lt 12, 3) := by decide +kernel
theorem dX7_isFrom_5 : decode cX7_isFrom 5 = .ok (.iload_n 0, 1) := by decide +kernel
theorem dX7_isFrom_6 : decode cX7_isFrom 6 = .ok (.iload_n 2, 1) := by decide +kernel
theorem dX7_isFrom_7 : decode cX7_isFrom 7 = .ok (.if_icmp .gt 7, 3) := by decide +kernel
theorem dX7_isFrom_10 : decode cX7_isFrom 10 = .ok (.iconst 1, 1) := by decide +kernel
theorem dX7_isFrom_11 : decode cX7_isFrom 11 = .ok (.goto 4, 3) := by decide +kernel
theorem dX7_isFrom_14 : decode cX7_isFrom 14 = .ok (.iconst 0, 1) := by decide +kernel
theorem dX7_isFrom_15 : decode cX7_isFrom 15 = .ok (.ireturn, 1) := by decide +kernel
set_option maxRecDepth 20000 in
theorem ggX7_isPerson_X7_isFrom : GoodIn wsX7_isPerson wsX7_isFrom := goodIn_r _ [4] (by decide +kernel) (by decide +kernel)
set_option maxRecDepth 20000 in
theorem gX7_isPerson_X7_isFrom : GoodIn wsX7_isPerson (va_wsS RX7 119 yX7_isFrom wsX7_isFrom) := goodIn_app (goodIn_of _ (by decide +kernel)) ggX7_isPerson_X7_isFrom
theorem dX7_isPerson_0 : decode cX7_isPerson 0 = .ok (.iload_n 0, 1) := by decide +kernel
theorem dX7_isPerson_1 : decode cX7_isPerson 1 = .ok (.iconst 0, 1) := by decide +kernel
theorem dX7_isPerson_2 : decode cX7_isPerson 2 = .ok (.bipush 9, 2) := by decide +kernel
theorem dX7_isPerson_4 : decode cX7_isPerson 4 = .ok (.invokestatic 119, 3) := by decide +kernel
theorem dX7_isPerson_7 : decode cX7_isPerson 7 = .ok (.ireturn, 1) := by decide +kernel
theorem dX7_isIn_0 : decode cX7_isIn 0 = .ok (.iload_n 0, 1) := by decide +kernel
theorem dX7_isIn_1 : decode cX7_isIn 1 = .ok (.iload_n 1, 1) := by decide +kernel
theorem dX7_isIn_2 : decode cX7_isIn 2 = .ok (.iushr, 1) := by decide +kernel
theorem dX7_isIn_3 : decode cX7_isIn 3 = .ok (.iconst 1, 1) := by decide +kernel
theorem dX7_isIn_4 : decode cX7_isIn 4 = .ok (.iand, 1) := by decide +kernel
theorem dX7_isIn_5 : decode cX7_isIn 5 = .ok (.ifCond .eq 7, 3) := by decide +kernel
theorem dX7_isIn_8 : decode cX7_isIn 8 = .ok (.iconst 1, 1) := by decide +kernel
theorem dX7_isIn_9 : decode cX7_isIn 9 = .ok (.goto 4, 3) := by decide +kernel
theorem dX7_isIn_12 : decode cX7_isIn 12 = .ok (.iconst 0, 1) := by decide +kernel
theorem dX7_isIn_13 : decode cX7_isIn 13 = .ok (.ireturn, 1) := by decide +kernel
theorem dX4_copyFrom_0 : decode cX4_copyFrom 0 = .ok (.aload_n 0, 1) := by decide +kernel
theorem dX4_copyFrom_1 : decode cX4_copyFrom 1 = .ok (.aload_n 1, 1) := by decide +kernel
theorem dX4_copyFrom_2 : decode cX4_copyFrom 2 = .ok (.getfield 9, 3) := by decide +kernel
theorem dX4_copyFrom_5 : decode cX4_copyFrom 5 = .ok (.putfield 9, 3) := by decide +kernel
theorem dX4_copyFrom_8 : decode cX4_copyFrom 8 = .ok (.aload_n 1, 1) := by decide +kernel
theorem dX4_copyFrom_9 : decode cX4_copyFrom 9 = .ok (.getfield 15, 3) := by decide +kernel
theorem dX4_copyFrom_12 : decode cX4_copyFrom 12 = .ok (.iconst 0, 1) := by decide +kernel
theorem dX4_copyFrom_13 : decode cX4_copyFrom 13 = .ok (.aload_n 0, 1) := by decide +kernel
theorem dX4_copyFrom_14 : decode cX4_copyFrom 14 = .ok (.getfield 15, 3) := by decide +kernel
theorem dX4_copyFrom_17 : decode cX4_copyFrom 17 = .ok (.iconst 0, 1) := by decide +kernel
theorem dX4_copyFrom_18 : decode cX4_copyFrom 18 = .ok (.bipush 24, 2) := by decide +kernel
theorem dX4_copyFrom_20 : decode cX4_copyFrom 20 = .ok (.invokestatic 34, 3) := by decide +kernel
theorem dX4_copyFrom_23 : decode cX4_copyFrom 23 = .ok (.aload_n 1, 1) := by decide +kernel
theorem dX4_copyFrom_24 : decode cX4_copyFrom 24 = .ok (.getfield 19, 3) := by decide +kernel
theorem dX4_copyFrom_27 : decode cX4_copyFrom 27 = .ok (.iconst 0, 1) := by decide +kernel
theorem dX4_copyFrom_28 : decode cX4_copyFrom 28 = .ok (.aload_n 0, 1) := by decide +kernel
theorem dX4_copyFrom_29 : decode cX4_copyFrom 29 = .ok (.getfield 19, 3) := by decide +kernel
theorem dX4_copyFrom_32 : decode cX4_copyFrom 32 = .ok (.iconst 0, 1) := by decide +kernel
theorem dX4_copyFrom_33 : decode cX4_copyFrom 33 = .ok (.bipush 24, 2) := by decide +kernel
theorem dX4_copyFrom_35 : decode cX4_copyFrom 35 = .ok (.invokestatic 34, 3) := by decide +kernel
theorem dX4_copyFrom_38 : decode cX4_copyFrom 38 = .ok (.aload_n 1, 1) := by decide +kernel
theorem dX4_copyFrom_39 : decode cX4_copyFrom 39 = .ok (.getfield 22, 3) := by decide +kernel
theorem dX4_copyFrom_42 : decode cX4_copyFrom 42 = .ok (.iconst 0, 1) := by decide +kernel
theorem dX4_copyFrom_43 : decode cX4_copyFrom 43 = .ok (.aload_n 0, 1) := by decide +kernel
theorem dX4_copyFrom_44 : decode cX4_copyFrom 44 = .ok (.getfield 22, 3) := by decide +kernel
theorem dX4_copyFrom_47 : decode cX4_copyFrom 47 = .ok (.iconst 0, 1) := by decide +kernel
theorem dX4_copyFrom_48 : decode cX4_copyFrom 48 = .ok (.bipush 24, 2) := by decide +kernel
theorem dX4_copyFrom_50 : decode cX4_copyFrom 50 = .ok (.invokestatic 34, 3) := by decide +kernel
theorem dX4_copyFrom_53 : decode cX4_copyFrom 53 = .ok (.aload_n 1, 1) := by decide +kernel
theorem dX4_copyFrom_54 : decode cX4_copyFrom 54 = .ok (.getfield 25, 3) := by decide +kernel
theorem dX4_copyFrom_57 : decode cX4_copyFrom 57 = .ok (.iconst 0, 1) := by decide +kernel
theorem dX4_copyFrom_58 : decode cX4_copyFrom 58 = .ok (.aload_n 0, 1) := by decide +kernel
theorem dX4_copyFrom_59 : decode cX4_copyFrom 59 = .ok (.getfield 25, 3) := by decide +kernel
theorem dX4_copyFrom_62 : decode cX4_copyFrom 62 = .ok (.iconst 0, 1) := by decide +kernel
theorem dX4_copyFrom_63 : decode cX4_copyFrom 63 = .ok (.bipush 24, 2) := by decide +kernel
theorem dX4_copyFrom_65 : decode cX4_copyFrom 65 = .ok (.invokestatic 34, 3) := by decide +kernel
theorem dX4_copyFrom_68 : decode cX4_copyFrom 68 = .ok (.aload_n 1, 1) := by decide +kernel
theorem dX4_copyFrom_69 : decode cX4_copyFrom 69 = .ok (.getfield 28, 3) := by decide +kernel
theorem dX4_copyFrom_72 : decode cX4_copyFrom 72 = .ok (.iconst 0, 1) := by decide +kernel
theorem dX4_copyFrom_73 : decode cX4_copyFrom 73 = .ok (.aload_n 0, 1) := by decide +kernel
theorem dX4_copyFrom_74 : decode cX4_copyFrom 74 = .ok (.getfield 28, 3) := by decide +kernel
theorem dX4_copyFrom_77 : decode cX4_copyFrom 77 = .ok (.iconst 0, 1) := by decide +kernel
theorem dX4_copyFrom_78 : decode cX4_copyFrom 78 = .ok (.bipush 24, 2) := by decide +kernel
theorem dX4_copyFrom_80 : decode cX4_copyFrom 80 = .ok (.invokestatic 34, 3) := by decide +kernel
theorem dX4_copyFrom_83 : decode cX4_copyFrom 83 = .ok (.aload_n 1, 1) := by decide +kernel
theorem dX4_copyFrom_84 : decode cX4_copyFrom 84 = .ok (.getfield 31, 3) := by decide +kernel
theorem dX4_copyFrom_87 : decode cX4_copyFrom 87 = .ok (.iconst 0, 1) := by decide +kernel
theorem dX4_copyFrom_88 : decode cX4_copyFrom 88 = .ok (.aload_n 0, 1) := by decide +kernel
theorem dX4_copyFrom_89 : decode cX4_copyFrom 89 = .ok (.getfield 31, 3) := by decide +kernel
theorem dX4_copyFrom_92 : decode cX4_copyFrom 92 = .ok (.iconst 0, 1) := by decide +kernel
theorem dX4_copyFrom_93 : decode cX4_copyFrom 93 = .ok (.bipush 24, 2) := by decide +kernel
theorem dX4_copyFrom_95 : decode cX4_copyFrom 95 = .ok (.invokestatic 34, 3) := by decide +kernel
theorem dX4_copyFrom_98 : decode cX4_copyFrom 98 = .ok (.return_, 1) := by decide +kernel
theorem dX4_has_0 : decode cX4_has 0 = .ok (.iload_n 1, 1) := by decide +kernel
theorem dX4_has_1 : decode cX4_has 1 = .ok (.ifCond .lt 15, 3) := by decide +kernel
theorem dX4_has_4 : decode cX4_has 4 = .ok (.iload_n 1, 1) := by decide +kernel
theorem dX4_has_5 : decode cX4_has 5 = .ok (.aload_n 0, 1) := by decide +kernel
theorem dX4_has_6 : decode cX4_has 6 = .ok (.getfield 9, 3) := by decide +kernel
theorem dX4_has_9 : decode cX4_has 9 = .ok (.if_icmp .ge 7, 3) := by decide +kernel
theorem dX4_has_12 : decode cX4_has 12 = .ok (.iconst 1, 1) := by decide +kernel
theorem dX4_has_13 : decode cX4_has 13 = .ok (.goto 4, 3) := by decide +kernel
theorem dX4_has_16 : decode cX4_has 16 = .ok (.iconst 0, 1) := by decide +kernel
theorem dX4_has_17 : decode cX4_has 17 = .ok (.ireturn, 1) := by decide +kernel
set_option maxRecDepth 20000 in
theorem ggX4_isPresent_X4_has : GoodIn wsX4_isPresent wsX4_has := goodIn_r _ [6, 7, 8, 9, 10, 11, 12, 13, 14] (by decide +kernel) (by decide +kernel)
set_option maxRecDepth 20000 in
theorem gX4_isPresent_X4_has : GoodIn wsX4_isPresent (wsV RX4 40 RX4 yX4_has wsX4_has) := goodIn_app (goodIn_of _ (by decide +kernel)) ggX4_isPresent_X4_has
theorem dX4_isPresent_0 : decode cX4_isPresent 0 = .ok (.aload_n 0, 1) := by decide +kernel
theorem dX4_isPresent_1 : decode cX4_isPresent 1 = .ok (.iload_n 1, 1) := by decide +kernel
theorem dX4_isPresent_2 : decode cX4_isPresent 2 = .ok (.invokevirtual 40, 3) := by decide +kernel
theorem dX4_isPresent_5 : decode cX4_isPresent 5 = .ok (.ifCond .eq 17, 3) := by decide +kernel
theorem dX4_isPresent_8 : decode cX4_isPresent 8 = .ok (.aload_n 0, 1) := by decide +kernel
theorem dX4_isPresent_9 : decode cX4_isPresent 9 = .ok (.getfield 22, 3) := by decide +kernel
theorem dX4_isPresent_12 : decode cX4_isPresent 12 = .ok (.iload_n 1, 1) := by decide +kernel
theorem dX4_isPresent_13 : decode cX4_isPresent 13 = .ok (.iaload, 1) := by decide +kernel
theorem dX4_isPresent_14 : decode cX4_isPresent 14 = .ok (.iconst (-1), 1) := by decide +kernel
theorem dX4_isPresent_15 : decode cX4_isPresent 15 = .ok (.if_icmp .ne 7, 3) := by decide +kernel
theorem dX4_isPresent_18 : decode cX4_isPresent 18 = .ok (.iconst 1, 1) := by decide +kernel
theorem dX4_isPresent_19 : decode cX4_isPresent 19 = .ok (.goto 4, 3) := by decide +kernel
theorem dX4_isPresent_22 : decode cX4_isPresent 22 = .ok (.iconst 0, 1) := by decide +kernel
theorem dX4_isPresent_23 : decode cX4_isPresent 23 = .ok (.ireturn, 1) := by decide +kernel
theorem dX4_come_0 : decode cX4_come 0 = .ok (.aload_n 0, 1) := by decide +kernel
theorem dX4_come_1 : decode cX4_come 1 = .ok (.getfield 9, 3) := by decide +kernel
theorem dX4_come_4 : decode cX4_come 4 = .ok (.bipush 24, 2) := by decide +kernel
theorem dX4_come_6 : decode cX4_come 6 = .ok (.if_icmp .lt 5, 3) := by decide +kernel
theorem dX4_come_9 : decode cX4_come 9 = .ok (.iconst (-1), 1) := by decide +kernel
theorem dX4_come_10 : decode cX4_come 10 = .ok (.ireturn, 1) := by decide +kernel
theorem dX4_come_11 : decode cX4_come 11 = .ok (.aload_n 0, 1) := by decide +kernel
theorem dX4_come_12 : decode cX4_come 12 = .ok (.getfield 15, 3) := by decide +kernel
theorem dX4_come_15 : decode cX4_come 15 = .ok (.aload_n 0, 1) := by decide +kernel
theorem dX4_come_16 : decode cX4_come 16 = .ok (.getfield 9, 3) := by decide +kernel
theorem dX4_come_19 : decode cX4_come 19 = .ok (.iload_n 1, 1) := by decide +kernel
theorem dX4_come_20 : decode cX4_come 20 = .ok (.iastore, 1) := by decide +kernel
theorem dX4_come_21 : decode cX4_come 21 = .ok (.aload_n 0, 1) := by decide +kernel
theorem dX4_come_22 : decode cX4_come 22 = .ok (.getfield 19, 3) := by decide +kernel
theorem dX4_come_25 : decode cX4_come 25 = .ok (.aload_n 0, 1) := by decide +kernel
theorem dX4_come_26 : decode cX4_come 26 = .ok (.getfield 9, 3) := by decide +kernel
theorem dX4_come_29 : decode cX4_come 29 = .ok (.iload 4, 2) := by decide +kernel
theorem dX4_come_31 : decode cX4_come 31 = .ok (.iastore, 1) := by decide +kernel
theorem dX4_come_32 : decode cX4_come 32 = .ok (.aload_n 0, 1) := by decide +kernel
theorem dX4_come_33 : decode cX4_come 33 = .ok (.getfield 22, 3) := by decide +kernel
theorem dX4_come_36 : decode cX4_come 36 = .ok (.aload_n 0, 1) := by decide +kernel
theorem dX4_come_37 : decode cX4_come 37 = .ok (.getfield 9, 3) := by decide +kernel
theorem dX4_come_40 : decode cX4_come 40 = .ok (.iconst (-1), 1) := by decide +kernel
theorem dX4_come_41 : decode cX4_come 41 = .ok (.iastore, 1) := by decide +kernel
theorem dX4_come_42 : decode cX4_come 42 = .ok (.aload_n 0, 1) := by decide +kernel
theorem dX4_come_43 : decode cX4_come 43 = .ok (.getfield 25, 3) := by decide +kernel
theorem dX4_come_46 : decode cX4_come 46 = .ok (.aload_n 0, 1) := by decide +kernel
theorem dX4_come_47 : decode cX4_come 47 = .ok (.getfield 9, 3) := by decide +kernel
theorem dX4_come_50 : decode cX4_come 50 = .ok (.iconst 0, 1) := by decide +kernel
theorem dX4_come_51 : decode cX4_come 51 = .ok (.iastore, 1) := by decide +kernel
theorem dX4_come_52 : decode cX4_come 52 = .ok (.aload_n 0, 1) := by decide +kernel
theorem dX4_come_53 : decode cX4_come 53 = .ok (.getfield 28, 3) := by decide +kernel
theorem dX4_come_56 : decode cX4_come 56 = .ok (.aload_n 0, 1) := by decide +kernel
theorem dX4_come_57 : decode cX4_come 57 = .ok (.getfield 9, 3) := by decide +kernel
theorem dX4_come_60 : decode cX4_come 60 = .ok (.iload_n 3, 1) := by decide +kernel
theorem dX4_come_61 : decode cX4_come 61 = .ok (.iastore, 1) := by decide +kernel
theorem dX4_come_62 : decode cX4_come 62 = .ok (.aload_n 0, 1) := by decide +kernel
theorem dX4_come_63 : decode cX4_come 63 = .ok (.getfield 31, 3) := by decide +kernel
theorem dX4_come_66 : decode cX4_come 66 = .ok (.aload_n 0, 1) := by decide +kernel
theorem dX4_come_67 : decode cX4_come 67 = .ok (.getfield 9, 3) := by decide +kernel
theorem dX4_come_70 : decode cX4_come 70 = .ok (.iload_n 2, 1) := by decide +kernel
theorem dX4_come_71 : decode cX4_come 71 = .ok (.iastore, 1) := by decide +kernel
theorem dX4_come_72 : decode cX4_come 72 = .ok (.aload_n 0, 1) := by decide +kernel
theorem dX4_come_73 : decode cX4_come 73 = .ok (.dup, 1) := by decide +kernel
theorem dX4_come_74 : decode cX4_come 74 = .ok (.getfield 9, 3) := by decide +kernel
theorem dX4_come_77 : decode cX4_come 77 = .ok (.iconst 1, 1) := by decide +kernel
theorem dX4_come_78 : decode cX4_come 78 = .ok (.iadd, 1) := by decide +kernel
theorem dX4_come_79 : decode cX4_come 79 = .ok (.putfield 9, 3) := by decide +kernel
theorem dX4_come_82 : decode cX4_come 82 = .ok (.aload_n 0, 1) := by decide +kernel
theorem dX4_come_83 : decode cX4_come 83 = .ok (.getfield 9, 3) := by decide +kernel
theorem dX4_come_86 : decode cX4_come 86 = .ok (.iconst 1, 1) := by decide +kernel
theorem dX4_come_87 : decode cX4_come 87 = .ok (.isub, 1) := by decide +kernel
theorem dX4_come_88 : decode cX4_come 88 = .ok (.ireturn, 1) := by decide +kernel
set_option maxRecDepth 20000 in
theorem ggX4_end_X4_has : GoodIn wsX4_end wsX4_has := goodIn_r _ [8, 1, 9, 10, 11, 12, 13, 14, 15] (by decide +kernel) (by decide +kernel)
set_option maxRecDepth 20000 in
theorem gX4_end_X4_has : GoodIn wsX4_end (wsV RX4 40 RX4 yX4_has wsX4_has) := goodIn_app (goodIn_of _ (by decide +kernel)) ggX4_end_X4_has
theorem dX4_end_0 : decode cX4_end 0 = .ok (.aload_n 0, 1) := by decide +kernel
theorem dX4_end_1 : decode cX4_end 1 = .ok (.iload_n 1, 1) := by decide +kernel
theorem dX4_end_2 : decode cX4_end 2 = .ok (.invokevirtual 40, 3) := by decide +kernel
theorem dX4_end_5 : decode cX4_end 5 = .ok (.ifCond .ne 4, 3) := by decide +kernel
theorem dX4_end_8 : decode cX4_end 8 = .ok (.return_, 1) := by decide +kernel
theorem dX4_end_9 : decode cX4_end 9 = .ok (.iconst 0, 1) := by decide +kernel
theorem dX4_end_10 : decode cX4_end 10 = .ok (.istore_n 3, 1) := by decide +kernel
theorem dX4_end_11 : decode cX4_end 11 = .ok (.iload_n 3, 1) := by decide +kernel
theorem dX4_end_12 : decode cX4_end 12 = .ok (.aload_n 0, 1) := by decide +kernel
theorem dX4_end_13 : decode cX4_end 13 = .ok (.getfield 9, 3) := by decide +kernel
theorem dX4_end_16 : decode cX4_end 16 = .ok (.if_icmp .ge 23, 3) := by decide +kernel
theorem dX4_end_19 : decode cX4_end 19 = .ok (.aload_n 0, 1) := by decide +kernel
theorem dX4_end_20 : decode cX4_end 20 = .ok (.getfield 25, 3) := by decide +kernel
theorem dX4_end_23 : decode cX4_end 23 = .ok (.iload_n 3, 1) := by decide +kernel
theorem dX4_end_24 : decode cX4_end 24 = .ok (.dup2, 1) := by decide +kernel
theorem dX4_end_25 : decode cX4_end 25 = .ok (.iaload, 1) := by decide +kernel
theorem dX4_end_26 : decode cX4_end 26 = .ok (.iconst 1, 1) := by decide +kernel
theorem dX4_end_27 : decode cX4_end 27 = .ok (.iload_n 1, 1) := by decide +kernel
theorem dX4_end_28 : decode cX4_end 28 = .ok (.ishl, 1) := by decide +kernel
theorem dX4_end_29 : decode cX4_end 29 = .ok (.iconst (-1), 1) := by decide +kernel
theorem dX4_end_30 : decode cX4_end 30 = .ok (.ixor, 1) := by decide +kernel
theorem dX4_end_31 : decode cX4_end 31 = .ok (.iand, 1) := by decide +kernel
theorem dX4_end_32 : decode cX4_end 32 = .ok (.iastore, 1) := by decide +kernel
theorem dX4_end_33 : decode cX4_end 33 = .ok (.iinc 3 1, 3) := by decide +kernel
theorem dX4_end_36 : decode cX4_end 36 = .ok (.goto (-25), 3) := by decide +kernel
theorem dX4_end_39 : decode cX4_end 39 = .ok (.aload_n 0, 1) := by decide +kernel
theorem dX4_end_40 : decode cX4_end 40 = .ok (.getfield 25, 3) := by decide +kernel
theorem dX4_end_43 : decode cX4_end 43 = .ok (.iload_n 1, 1) := by decide +kernel
theorem dX4_end_44 : decode cX4_end 44 = .ok (.iconst 0, 1) := by decide +kernel
theorem dX4_end_45 : decode cX4_end 45 = .ok (.iastore, 1) := by decide +kernel
theorem dX4_end_46 : decode cX4_end 46 = .ok (.aload_n 0, 1) := by decide +kernel
theorem dX4_end_47 : decode cX4_end 47 = .ok (.getfield 22, 3) := by decide +kernel
theorem dX4_end_50 : decode cX4_end 50 = .ok (.iload_n 1, 1) := by decide +kernel
theorem dX4_end_51 : decode cX4_end 51 = .ok (.iload_n 2, 1) := by decide +kernel
theorem dX4_end_52 : decode cX4_end 52 = .ok (.iastore, 1) := by decide +kernel
theorem dX4_end_53 : decode cX4_end 53 = .ok (.return_, 1) := by decide +kernel
set_option maxRecDepth 20000 in
theorem ggX4_rowOf_X4_has : GoodIn wsX4_rowOf wsX4_has := goodIn_r _ [11, 12, 13, 14, 15, 16, 17, 18, 19] (by decide +kernel) (by decide +kernel)
set_option maxRecDepth 20000 in
theorem gX4_rowOf_X4_has : GoodIn wsX4_rowOf (wsV RX4 40 RX4 yX4_has wsX4_has) := goodIn_app (goodIn_of _ (by decide +kernel)) ggX4_rowOf_X4_has
theorem dX4_rowOf_0 : decode cX4_rowOf 0 = .ok (.aload_n 0, 1) := by decide +kernel
theorem dX4_rowOf_1 : decode cX4_rowOf 1 = .ok (.iload_n 1, 1) := by decide +kernel
theorem dX4_rowOf_2 : decode cX4_rowOf 2 = .ok (.invokevirtual 40, 3) := by decide +kernel
theorem dX4_rowOf_5 : decode cX4_rowOf 5 = .ok (.ifCond .ne 5, 3) := by decide +kernel
theorem dX4_rowOf_8 : decode cX4_rowOf 8 = .ok (.iconst (-1), 1) := by decide +kernel
theorem dX4_rowOf_9 : decode cX4_rowOf 9 = .ok (.ireturn, 1) := by decide +kernel
theorem dX4_rowOf_10 : decode cX4_rowOf 10 = .ok (.iload_n 2, 1) := by decide +kernel
theorem dX4_rowOf_11 : decode cX4_rowOf 11 = .ok (.tableswitch 68 0 4 #[33, 40, 47, 54, 61], 33) := by decide +kernel
theorem dX4_rowOf_44 : decode cX4_rowOf 44 = .ok (.aload_n 0, 1) := by decide +kernel
theorem dX4_rowOf_45 : decode cX4_rowOf 45 = .ok (.getfield 15, 3) := by decide +kernel
theorem dX4_rowOf_48 : decode cX4_rowOf 48 = .ok (.iload_n 1, 1) := by decide +kernel
theorem dX4_rowOf_49 : decode cX4_rowOf 49 = .ok (.iaload, 1) := by decide +kernel
theorem dX4_rowOf_50 : decode cX4_rowOf 50 = .ok (.ireturn, 1) := by decide +kernel
theorem dX4_rowOf_51 : decode cX4_rowOf 51 = .ok (.aload_n 0, 1) := by decide +kernel
theorem dX4_rowOf_52 : decode cX4_rowOf 52 = .ok (.getfield 19, 3) := by decide +kernel
theorem dX4_rowOf_55 : decode cX4_rowOf 55 = .ok (.iload_n 1, 1) := by decide +kernel
theorem dX4_rowOf_56 : decode cX4_rowOf 56 = .ok (.iaload, 1) := by decide +kernel
theorem dX4_rowOf_57 : decode cX4_rowOf 57 = .ok (.ireturn, 1) := by decide +kernel
theorem dX4_rowOf_58 : decode cX4_rowOf 58 = .ok (.aload_n 0, 1) := by decide +kernel
theorem dX4_rowOf_59 : decode cX4_rowOf 59 = .ok (.getfield 22, 3) := by decide +kernel
theorem dX4_rowOf_62 : decode cX4_rowOf 62 = .ok (.iload_n 1, 1) := by decide +kernel
theorem dX4_rowOf_63 : decode cX4_rowOf 63 = .ok (.iaload, 1) := by decide +kernel
theorem dX4_rowOf_64 : decode cX4_rowOf 64 = .ok (.ireturn, 1) := by decide +kernel
theorem dX4_rowOf_65 : decode cX4_rowOf 65 = .ok (.aload_n 0, 1) := by decide +kernel
theorem dX4_rowOf_66 : decode cX4_rowOf 66 = .ok (.getfield 25, 3) := by decide +kernel
theorem dX4_rowOf_69 : decode cX4_rowOf 69 = .ok (.iload_n 1, 1) := by decide +kernel
theorem dX4_rowOf_70 : decode cX4_rowOf 70 = .ok (.iaload, 1) := by decide +kernel
theorem dX4_rowOf_71 : decode cX4_rowOf 71 = .ok (.ireturn, 1) := by decide +kernel
theorem dX4_rowOf_72 : decode cX4_rowOf 72 = .ok (.aload_n 0, 1) := by decide +kernel
theorem dX4_rowOf_73 : decode cX4_rowOf 73 = .ok (.getfield 28, 3) := by decide +kernel
theorem dX4_rowOf_76 : decode cX4_rowOf 76 = .ok (.iload_n 1, 1) := by decide +kernel
theorem dX4_rowOf_77 : decode cX4_rowOf 77 = .ok (.iaload, 1) := by decide +kernel
theorem dX4_rowOf_78 : decode cX4_rowOf 78 = .ok (.ireturn, 1) := by decide +kernel
theorem dX4_rowOf_79 : decode cX4_rowOf 79 = .ok (.aload_n 0, 1) := by decide +kernel
theorem dX4_rowOf_80 : decode cX4_rowOf 80 = .ok (.getfield 31, 3) := by decide +kernel
theorem dX4_rowOf_83 : decode cX4_rowOf 83 = .ok (.iload_n 1, 1) := by decide +kernel
theorem dX4_rowOf_84 : decode cX4_rowOf 84 = .ok (.iaload, 1) := by decide +kernel
theorem dX4_rowOf_85 : decode cX4_rowOf 85 = .ok (.ireturn, 1) := by decide +kernel
set_option maxRecDepth 20000 in
theorem ggX4_neighboursOf_X4_has : GoodIn wsX4_neighboursOf wsX4_has := goodIn_r _ [6, 7, 8, 9, 10, 11, 12, 13, 14] (by decide +kernel) (by decide +kernel)
set_option maxRecDepth 20000 in
theorem gX4_neighboursOf_X4_has : GoodIn wsX4_neighboursOf (wsV RX4 40 RX4 yX4_has wsX4_has) := goodIn_app (goodIn_of _ (by decide +kernel)) ggX4_neighboursOf_X4_has
theorem dX4_neighboursOf_0 : decode cX4_neighboursOf 0 = .ok (.aload_n 0, 1) := by decide +kernel
theorem dX4_neighboursOf_1 : decode cX4_neighboursOf 1 = .ok (.iload_n 1, 1) := by decide +kernel
theorem dX4_neighboursOf_2 : decode cX4_neighboursOf 2 = .ok (.invokevirtual 40, 3) := by decide +kernel
theorem dX4_neighboursOf_5 : decode cX4_neighboursOf 5 = .ok (.ifCond .eq 12, 3) := by decide +kernel
theorem dX4_neighboursOf_8 : decode cX4_neighboursOf 8 = .ok (.aload_n 0, 1) := by decide +kernel
theorem dX4_neighboursOf_9 : decode cX4_neighboursOf 9 = .ok (.getfield 25, 3) := by decide +kernel
theorem dX4_neighboursOf_12 : decode cX4_neighboursOf 12 = .ok (.iload_n 1, 1) := by decide +kernel
theorem dX4_neighboursOf_13 : decode cX4_neighboursOf 13 = .ok (.iaload, 1) := by decide +kernel
theorem dX4_neighboursOf_14 : decode cX4_neighboursOf 14 = .ok (.goto 4, 3) := by decide +kernel
theorem dX4_neighboursOf_17 : decode cX4_neighboursOf 17 = .ok (.iconst 0, 1) := by decide +kernel
theorem dX4_neighboursOf_18 : decode cX4_neighboursOf 18 = .ok (.ireturn, 1) := by decide +kernel
set_option maxRecDepth 20000 in
theorem ggX4_areNeighbours_X4_neighboursOf : GoodIn wsX4_areNeighbours wsX4_neighboursOf := goodIn_ca (goodIn_r _ [5, 6, 7, 8, 9, 4, 10, 11, 15, 16, 17, 18, 19, 20, 21] (by decide +kernel) (by decide +kernel)) (goodIn_sub (fun _ h => List.mem_cons_of_mem _ (List.mem_append_right _ h)) (by decide +kernel))
set_option maxRecDepth 20000 in
theorem gX4_areNeighbours_X4_neighboursOf : GoodIn wsX4_areNeighbours (wsV RX4 44 RX4 yX4_neighboursOf wsX4_neighboursOf) := goodIn_app (goodIn_of _ (by decide +kernel)) ggX4_areNeighbours_X4_neighboursOf
set_option maxRecDepth 20000 in
theorem ggX4_areNeighbours_X7_isIn : GoodIn wsX4_areNeighbours wsX7_isIn := goodIn_r _ [14] (by decide +kernel) (by decide +kernel)
set_option maxRecDepth 20000 in
theorem gX4_areNeighbours_X7_isIn_n48 : GoodIn wsX4_areNeighbours (wsX7_isIn) := ggX4_areNeighbours_X7_isIn
theorem dX4_areNeighbours_0 : decode cX4_areNeighbours 0 = .ok (.aload_n 0, 1) := by decide +kernel
theorem dX4_areNeighbours_1 : decode cX4_areNeighbours 1 = .ok (.iload_n 1, 1) := by decide +kernel
theorem dX4_areNeighbours_2 : decode cX4_areNeighbours 2 = .ok (.invokevirtual 44, 3) := by decide +kernel
theorem dX4_areNeighbours_5 : decode cX4_areNeighbours 5 = .ok (.iload_n 2, 1) := by decide +kernel
theorem dX4_areNeighbours_6 : decode cX4_areNeighbours 6 = .ok (.invokestatic 48, 3) := by decide +kernel
theorem dX4_areNeighbours_9 : decode cX4_areNeighbours 9 = .ok (.ireturn, 1) := by decide +kernel
set_option maxRecDepth 20000 in
theorem ggX4_link_X4_has : GoodIn wsX4_link wsX4_has := goodIn_r _ [6, 7, 8, 9, 10, 11, 12, 13, 14] (by decide +kernel) (by decide +kernel)
set_option maxRecDepth 20000 in
theorem gX4_link_X4_has : GoodIn wsX4_link (wsV RX4 40 RX4 yX4_has wsX4_has) := goodIn_app (goodIn_of _ (by decide +kernel)) ggX4_link_X4_has
theorem dX4_link_0 : decode cX4_link 0 = .ok (.aload_n 0, 1) := by decide +kernel
theorem dX4_link_1 : decode cX4_link 1 = .ok (.iload_n 1, 1) := by decide +kernel
theorem dX4_link_2 : decode cX4_link 2 = .ok (.invokevirtual 40, 3) := by decide +kernel
theorem dX4_link_5 : decode cX4_link 5 = .ok (.ifCond .eq 35, 3) := by decide +kernel
theorem dX4_link_8 : decode cX4_link 8 = .ok (.aload_n 0, 1) := by decide +kernel
theorem dX4_link_9 : decode cX4_link 9 = .ok (.iload_n 2, 1) := by decide +kernel
theorem dX4_link_10 : decode cX4_link 10 = .ok (.invokevirtual 40, 3) := by decide +kernel
theorem dX4_link_13 : decode cX4_link 13 = .ok (.ifCond .eq 27, 3) := by decide +kernel
theorem dX4_link_16 : decode cX4_link 16 = .ok (.aload_n 0, 1) := by decide +kernel
theorem dX4_link_17 : decode cX4_link 17 = .ok (.getfield 25, 3) := by decide +kernel
theorem dX4_link_20 : decode cX4_link 20 = .ok (.iload_n 1, 1) := by decide +kernel
theorem dX4_link_21 : decode cX4_link 21 = .ok (.dup2, 1) := by decide +kernel
theorem dX4_link_22 : decode cX4_link 22 = .ok (.iaload, 1) := by decide +kernel
theorem dX4_link_23 : decode cX4_link 23 = .ok (.iconst 1, 1) := by decide +kernel
theorem dX4_link_24 : decode cX4_link 24 = .ok (.iload_n 2, 1) := by decide +kernel
theorem dX4_link_25 : decode cX4_link 25 = .ok (.ishl, 1) := by decide +kernel
theorem dX4_link_26 : decode cX4_link 26 = .ok (.ior, 1) := by decide +kernel
theorem dX4_link_27 : decode cX4_link 27 = .ok (.iastore, 1) := by decide +kernel
theorem dX4_link_28 : decode cX4_link 28 = .ok (.aload_n 0, 1) := by decide +kernel
theorem dX4_link_29 : decode cX4_link 29 = .ok (.getfield 25, 3) := by decide +kernel
theorem dX4_link_32 : decode cX4_link 32 = .ok (.iload_n 2, 1) := by decide +kernel
theorem dX4_link_33 : decode cX4_link 33 = .ok (.dup2, 1) := by decide +kernel
theorem dX4_link_34 : decode cX4_link 34 = .ok (.iaload, 1) := by decide +kernel
theorem dX4_link_35 : decode cX4_link 35 = .ok (.iconst 1, 1) := by decide +kernel
theorem dX4_link_36 : decode cX4_link 36 = .ok (.iload_n 1, 1) := by decide +kernel
theorem dX4_link_37 : decode cX4_link 37 = .ok (.ishl, 1) := by decide +kernel
theorem dX4_link_38 : decode cX4_link 38 = .ok (.ior, 1) := by decide +kernel
theorem dX4_link_39 : decode cX4_link 39 = .ok (.iastore, 1) := by decide +kernel
theorem dX4_link_40 : decode cX4_link 40 = .ok (.return_, 1) := by decide +kernel
set_option maxRecDepth 20000 in
theorem ggX4_linkAll_X7_isIn : GoodIn wsX4_linkAll wsX7_isIn := goodIn_r _ [4] (by decide +kernel) (by decide +kernel)
set_option maxRecDepth 20000 in
theorem gX4_linkAll_X7_isIn_n48 : GoodIn wsX4_linkAll (wsX7_isIn) := ggX4_linkAll_X7_isIn
set_option maxRecDepth 20000 in
theorem ggX4_linkAll_X4_link : GoodIn wsX4_linkAll wsX4_link := goodIn_ca (goodIn_r _ [9, 10, 11, 12, 13, 8, 14, 1, 15, 16, 17, 18, 19, 20, 21] (by decide +kernel) (by decide +kernel)) (goodIn_sub (fun _ h => List.mem_cons_of_mem _ (List.mem_append_right _ h)) (by decide +kernel))
set_option maxRecDepth 20000 in
theorem gX4_linkAll_X4_link : GoodIn wsX4_linkAll (wsV RX4 52 RX4 yX4_link wsX4_link) := goodIn_app (goodIn_of _ (by decide +kernel)) ggX4_linkAll_X4_link
theorem dX4_linkAll_0 : decode cX4_linkAll 0 = .ok (.iconst 0, 1) := by decide +kernel
theorem dX4_linkAll_1 : decode cX4_linkAll 1 = .ok (.istore_n 3, 1) := by decide +kernel
theorem dX4_linkAll_2 : decode cX4_linkAll 2 = .ok (.iload_n 3, 1) := by decide +kernel
theorem dX4_linkAll_3 : decode cX4_linkAll 3 = .ok (.aload_n 0, 1) := by decide +kernel
theorem dX4_linkAll_4 : decode cX4_linkAll 4 = .ok (.getfield 9, 3) := by decide +kernel
theorem dX4_linkAll_7 : decode cX4_linkAll 7 = .ok (.if_icmp .ge 23, 3) := by decide +kernel
theorem dX4_linkAll_10 : decode cX4_linkAll 10 = .ok (.iload_n 2, 1) := by decide +kernel
theorem dX4_linkAll_11 : decode cX4_linkAll 11 = .ok (.iload_n 3, 1) := by decide +kernel
theorem dX4_linkAll_12 : decode cX4_linkAll 12 = .ok (.invokestatic 48, 3) := by decide +kernel
theorem dX4_linkAll_15 : decode cX4_linkAll 15 = .ok (.ifCond .eq 9, 3) := by decide +kernel
theorem dX4_linkAll_18 : decode cX4_linkAll 18 = .ok (.aload_n 0, 1) := by decide +kernel
theorem dX4_linkAll_19 : decode cX4_linkAll 19 = .ok (.iload_n 1, 1) := by decide +kernel
theorem dX4_linkAll_20 : decode cX4_linkAll 20 = .ok (.iload_n 3, 1) := by decide +kernel
theorem dX4_linkAll_21 : decode cX4_linkAll 21 = .ok (.invokevirtual 52, 3) := by decide +kernel
theorem dX4_linkAll_24 : decode cX4_linkAll 24 = .ok (.iinc 3 1, 3) := by decide +kernel
theorem dX4_linkAll_27 : decode cX4_linkAll 27 = .ok (.goto (-25), 3) := by decide +kernel
theorem dX4_linkAll_30 : decode cX4_linkAll 30 = .ok (.return_, 1) := by decide +kernel
set_option maxRecDepth 20000 in
theorem ggX4_unlink_X4_has : GoodIn wsX4_unlink wsX4_has := goodIn_r _ [6, 7, 8, 9, 10, 11, 12, 13, 14] (by decide +kernel) (by decide +kernel)
set_option maxRecDepth 20000 in
theorem gX4_unlink_X4_has : GoodIn wsX4_unlink (wsV RX4 40 RX4 yX4_has wsX4_has) := goodIn_app (goodIn_of _ (by decide +kernel)) ggX4_unlink_X4_has
theorem dX4_unlink_0 : decode cX4_unlink 0 = .ok (.aload_n 0, 1) := by decide +kernel
theorem dX4_unlink_1 : decode cX4_unlink 1 = .ok (.iload_n 1, 1) := by decide +kernel
theorem dX4_unlink_2 : decode cX4_unlink 2 = .ok (.invokevirtual 40, 3) := by decide +kernel
theorem dX4_unlink_5 : decode cX4_unlink 5 = .ok (.ifCond .eq 39, 3) := by decide +kernel
theorem dX4_unlink_8 : decode cX4_unlink 8 = .ok (.aload_n 0, 1) := by decide +kernel
theorem dX4_unlink_9 : decode cX4_unlink 9 = .ok (.iload_n 2, 1) := by decide +kernel
theorem dX4_unlink_10 : decode cX4_unlink 10 = .ok (.invokevirtual 40, 3) := by decide +kernel
theorem dX4_unlink_13 : decode cX4_unlink 13 = .ok (.ifCond .eq 31, 3) := by decide +kernel
theorem dX4_unlink_16 : decode cX4_unlink 16 = .ok (.aload_n 0, 1) := by decide +kernel
theorem dX4_unlink_17 : decode cX4_unlink 17 = .ok (.getfield 25, 3) := by decide +kernel
theorem dX4_unlink_20 : decode cX4_unlink 20 = .ok (.iload_n 1, 1) := by decide +kernel
theorem dX4_unlink_21 : decode cX4_unlink 21 = .ok (.dup2, 1) := by decide +kernel
theorem dX4_unlink_22 : decode cX4_unlink 22 = .ok (.iaload, 1) := by decide +kernel
theorem dX4_unlink_23 : decode cX4_unlink 23 = .ok (.iconst 1, 1) := by decide +kernel
theorem dX4_unlink_24 : decode cX4_unlink 24 = .ok (.iload_n 2, 1) := by decide +kernel
theorem dX4_unlink_25 : decode cX4_unlink 25 = .ok (.ishl, 1) := by decide +kernel
theorem dX4_unlink_26 : decode cX4_unlink 26 = .ok (.iconst (-1), 1) := by decide +kernel
theorem dX4_unlink_27 : decode cX4_unlink 27 = .ok (.ixor, 1) := by decide +kernel
theorem dX4_unlink_28 : decode cX4_unlink 28 = .ok (.iand, 1) := by decide +kernel
theorem dX4_unlink_29 : decode cX4_unlink 29 = .ok (.iastore, 1) := by decide +kernel
theorem dX4_unlink_30 : decode cX4_unlink 30 = .ok (.aload_n 0, 1) := by decide +kernel
theorem dX4_unlink_31 : decode cX4_unlink 31 = .ok (.getfield 25, 3) := by decide +kernel
theorem dX4_unlink_34 : decode cX4_unlink 34 = .ok (.iload_n 2, 1) := by decide +kernel
theorem dX4_unlink_35 : decode cX4_unlink 35 = .ok (.dup2, 1) := by decide +kernel
theorem dX4_unlink_36 : decode cX4_unlink 36 = .ok (.iaload, 1) := by decide +kernel
theorem dX4_unlink_37 : decode cX4_unlink 37 = .ok (.iconst 1, 1) := by decide +kernel
theorem dX4_unlink_38 : decode cX4_unlink 38 = .ok (.iload_n 1, 1) := by decide +kernel
theorem dX4_unlink_39 : decode cX4_unlink 39 = .ok (.ishl, 1) := by decide +kernel
theorem dX4_unlink_40 : decode cX4_unlink 40 = .ok (.iconst (-1), 1) := by decide +kernel
theorem dX4_unlink_41 : decode cX4_unlink 41 = .ok (.ixor, 1) := by decide +kernel
theorem dX4_unlink_42 : decode cX4_unlink 42 = .ok (.iand, 1) := by decide +kernel
theorem dX4_unlink_43 : decode cX4_unlink 43 = .ok (.iastore, 1) := by decide +kernel
theorem dX4_unlink_44 : decode cX4_unlink 44 = .ok (.return_, 1) := by decide +kernel
theorem dX4_presentOnes_0 : decode cX4_presentOnes 0 = .ok (.iconst 0, 1) := by decide +kernel
theorem dX4_presentOnes_1 : decode cX4_presentOnes 1 = .ok (.istore_n 1, 1) := by decide +kernel
theorem dX4_presentOnes_2 : decode cX4_presentOnes 2 = .ok (.iconst 0, 1) := by decide +kernel
theorem dX4_presentOnes_3 : decode cX4_presentOnes 3 = .ok (.istore_n 2, 1) := by decide +kernel
theorem dX4_presentOnes_4 : decode cX4_presentOnes 4 = .ok (.iload_n 2, 1) := by decide +kernel
theorem dX4_presentOnes_5 : decode cX4_presentOnes 5 = .ok (.aload_n 0, 1) := by decide +kernel
theorem dX4_presentOnes_6 : decode cX4_presentOnes 6 = .ok (.getfield 9, 3) := by decide +kernel
theorem dX4_presentOnes_9 : decode cX4_presentOnes 9 = .ok (.if_icmp .ge 25, 3) := by decide +kernel
theorem dX4_presentOnes_12 : decode cX4_presentOnes 12 = .ok (.aload_n 0, 1) := by decide +kernel
theorem dX4_presentOnes_13 : decode cX4_presentOnes 13 = .ok (.getfield 22, 3) := by decide +kernel
theorem dX4_presentOnes_16 : decode cX4_presentOnes 16 = .ok (.iload_n 2, 1) := by decide +kernel
theorem dX4_presentOnes_17 : decode cX4_presentOnes 17 = .ok (.iaload, 1) := by decide +kernel
theorem dX4_presentOnes_18 : decode cX4_presentOnes 18 = .ok (.iconst (-1), 1) := by decide +kernel
theorem dX4_presentOnes_19 : decode cX4_presentOnes 19 = .ok (.if_icmp .ne 9, 3) := by decide +kernel
theorem dX4_presentOnes_22 : decode cX4_presentOnes 22 = .ok (.iload_n 1, 1) := by decide +kernel
theorem dX4_presentOnes_23 : decode cX4_presentOnes 23 = .ok (.iconst 1, 1) := by decide +kernel
theorem dX4_presentOnes_24 : decode cX4_presentOnes 24 = .ok (.iload_n 2, 1) := by decide +kernel
theorem dX4_presentOnes_25 : decode cX4_presentOnes 25 = .ok (.ishl, 1) := by decide +kernel
theorem dX4_presentOnes_26 : decode cX4_presentOnes 26 = .ok (.ior, 1) := by decide +kernel
theorem dX4_presentOnes_27 : decode cX4_presentOnes 27 = .ok (.istore_n 1, 1) := by decide +kernel
theorem dX4_presentOnes_28 : decode cX4_presentOnes 28 = .ok (.iinc 2 1, 3) := by decide +kernel
theorem dX4_presentOnes_31 : decode cX4_presentOnes 31 = .ok (.goto (-27), 3) := by decide +kernel
theorem dX4_presentOnes_34 : decode cX4_presentOnes 34 = .ok (.iload_n 1, 1) := by decide +kernel
theorem dX4_presentOnes_35 : decode cX4_presentOnes 35 = .ok (.ireturn, 1) := by decide +kernel
theorem dX4_addedOnes_0 : decode cX4_addedOnes 0 = .ok (.iconst 0, 1) := by decide +kernel
theorem dX4_addedOnes_1 : decode cX4_addedOnes 1 = .ok (.istore_n 1, 1) := by decide +kernel
theorem dX4_addedOnes_2 : decode cX4_addedOnes 2 = .ok (.iconst 0, 1) := by decide +kernel
theorem dX4_addedOnes_3 : decode cX4_addedOnes 3 = .ok (.istore_n 2, 1) := by decide +kernel
theorem dX4_addedOnes_4 : decode cX4_addedOnes 4 = .ok (.iload_n 2, 1) := by decide +kernel
theorem dX4_addedOnes_5 : decode cX4_addedOnes 5 = .ok (.aload_n 0, 1) := by decide +kernel
theorem dX4_addedOnes_6 : decode cX4_addedOnes 6 = .ok (.getfield 9, 3) := by decide +kernel
theorem dX4_addedOnes_9 : decode cX4_addedOnes 9 = .ok (.if_icmp .ge 24, 3) := by decide +kernel
theorem dX4_addedOnes_12 : decode cX4_addedOnes 12 = .ok (.aload_n 0, 1) := by decide +kernel
theorem dX4_addedOnes_13 : decode cX4_addedOnes 13 = .ok (.getfield 28, 3) := by decide +kernel
theorem dX4_addedOnes_16 : decode cX4_addedOnes 16 = .ok (.iload_n 2, 1) := by decide +kernel
theorem dX4_addedOnes_17 : decode cX4_addedOnes 17 = .ok (.iaload, 1) := by decide +kernel
theorem dX4_addedOnes_18 : decode cX4_addedOnes 18 = .ok (.ifCond .ne 9, 3) := by decide +kernel
theorem dX4_addedOnes_21 : decode cX4_addedOnes 21 = .ok (.iload_n 1, 1) := by decide +kernel
theorem dX4_addedOnes_22 : decode cX4_addedOnes 22 = .ok (.iconst 1, 1) := by decide +kernel
theorem dX4_addedOnes_23 : decode cX4_addedOnes 23 = .ok (.iload_n 2, 1) := by decide +kernel
theorem dX4_addedOnes_24 : decode cX4_addedOnes 24 = .ok (.ishl, 1) := by decide +kernel
theorem dX4_addedOnes_25 : decode cX4_addedOnes 25 = .ok (.ior, 1) := by decide +kernel
theorem dX4_addedOnes_26 : decode cX4_addedOnes 26 = .ok (.istore_n 1, 1) := by decide +kernel
theorem dX4_addedOnes_27 : decode cX4_addedOnes 27 = .ok (.iinc 2 1, 3) := by decide +kernel
theorem dX4_addedOnes_30 : decode cX4_addedOnes 30 = .ok (.goto (-26), 3) := by decide +kernel
theorem dX4_addedOnes_33 : decode cX4_addedOnes 33 = .ok (.iload_n 1, 1) := by decide +kernel
theorem dX4_addedOnes_34 : decode cX4_addedOnes 34 = .ok (.ireturn, 1) := by decide +kernel
set_option maxRecDepth 20000 in
theorem ggX4_areaOf_X7_isIn : GoodIn wsX4_areaOf wsX7_isIn := goodIn_r _ [5] (by decide +kernel) (by decide +kernel)
set_option maxRecDepth 20000 in
theorem gX4_areaOf_X7_isIn_n48 : GoodIn wsX4_areaOf (wsX7_isIn) := ggX4_areaOf_X7_isIn
theorem dX4_areaOf_0 : decode cX4_areaOf 0 = .ok (.iconst 0, 1) := by decide +kernel
theorem dX4_areaOf_1 : decode cX4_areaOf 1 = .ok (.istore_n 2, 1) := by decide +kernel
theorem dX4_areaOf_2 : decode cX4_areaOf 2 = .ok (.iconst 0, 1) := by decide +kernel
theorem dX4_areaOf_3 : decode cX4_areaOf 3 = .ok (.istore_n 3, 1) := by decide +kernel
theorem dX4_areaOf_4 : decode cX4_areaOf 4 = .ok (.iload_n 3, 1) := by decide +kernel
theorem dX4_areaOf_5 : decode cX4_areaOf 5 = .ok (.aload_n 0, 1) := by decide +kernel
theorem dX4_areaOf_6 : decode cX4_areaOf 6 = .ok (.getfield 9, 3) := by decide +kernel
theorem dX4_areaOf_9 : decode cX4_areaOf 9 = .ok (.if_icmp .ge 26, 3) := by decide +kernel
theorem dX4_areaOf_12 : decode cX4_areaOf 12 = .ok (.iload_n 1, 1) := by decide +kernel
theorem dX4_areaOf_13 : decode cX4_areaOf 13 = .ok (.iload_n 3, 1) := by decide +kernel
theorem dX4_areaOf_14 : decode cX4_areaOf 14 = .ok (.invokestatic 48, 3) := by decide +kernel
theorem dX4_areaOf_17 : decode cX4_areaOf 17 = .ok (.ifCond .eq 12, 3) := by decide +kernel
theorem dX4_areaOf_20 : decode cX4_areaOf 20 = .ok (.iload_n 2, 1) := by decide +kernel
theorem dX4_areaOf_21 : decode cX4_areaOf 21 = .ok (.aload_n 0, 1) := by decide +kernel
theorem dX4_areaOf_22 : decode cX4_areaOf 22 = .ok (.getfield 15, 3) := by decide +kernel
theorem dX4_areaOf_25 : decode cX4_areaOf 25 = .ok (.iload_n 3, 1) := by decide +kernel
theorem dX4_areaOf_26 : decode cX4_areaOf 26 = .ok (.iaload, 1) := by decide +kernel
theorem dX4_areaOf_27 : decode cX4_areaOf 27 = .ok (.iadd, 1) := by decide +kernel
theorem dX4_areaOf_28 : decode cX4_areaOf 28 = .ok (.istore_n 2, 1) := by decide +kernel
theorem dX4_areaOf_29 : decode cX4_areaOf 29 = .ok (.iinc 3 1, 3) := by decide +kernel
theorem dX4_areaOf_32 : decode cX4_areaOf 32 = .ok (.goto (-28), 3) := by decide +kernel
theorem dX4_areaOf_35 : decode cX4_areaOf 35 = .ok (.iload_n 2, 1) := by decide +kernel
theorem dX4_areaOf_36 : decode cX4_areaOf 36 = .ok (.ireturn, 1) := by decide +kernel
set_option maxRecDepth 20000 in
theorem ggX4_ancestorsOf_X4_has : GoodIn wsX4_ancestorsOf wsX4_has := goodIn_r _ [6, 7, 11, 12, 13, 14, 15, 16, 17] (by decide +kernel) (by decide +kernel)
set_option maxRecDepth 20000 in
theorem gX4_ancestorsOf_X4_has : GoodIn wsX4_ancestorsOf (wsV RX4 40 RX4 yX4_has wsX4_has) := goodIn_app (goodIn_of _ (by decide +kernel)) ggX4_ancestorsOf_X4_has
set_option maxRecDepth 20000 in
theorem ggX4_ancestorsOf_X7_isIn : GoodIn wsX4_ancestorsOf wsX7_isIn := goodIn_r _ [10] (by decide +kernel) (by decide +kernel)
set_option maxRecDepth 20000 in
theorem gX4_ancestorsOf_X7_isIn_n48 : GoodIn wsX4_ancestorsOf (wsX7_isIn) := ggX4_ancestorsOf_X7_isIn
theorem dX4_ancestorsOf_0 : decode cX4_ancestorsOf 0 = .ok (.aload_n 0, 1) := by decide +kernel
theorem dX4_ancestorsOf_1 : decode cX4_ancestorsOf 1 = .ok (.iload_n 1, 1) := by decide +kernel
theorem dX4_ancestorsOf_2 : decode cX4_ancestorsOf 2 = .ok (.invokevirtual 40, 3) := by decide +kernel
theorem dX4_ancestorsOf_5 : decode cX4_ancestorsOf 5 = .ok (.ifCond .ne 5, 3) := by decide +kernel
theorem dX4_ancestorsOf_8 : decode cX4_ancestorsOf 8 = .ok (.iconst 0, 1) := by decide +kernel
theorem dX4_ancestorsOf_9 : decode cX4_ancestorsOf 9 = .ok (.ireturn, 1) := by decide +kernel
theorem dX4_ancestorsOf_10 : decode cX4_ancestorsOf 10 = .ok (.aload_n 0, 1) := by decide +kernel
theorem dX4_ancestorsOf_11 : decode cX4_ancestorsOf 11 = .ok (.getfield 28, 3) := by decide +kernel
theorem dX4_ancestorsOf_14 : decode cX4_ancestorsOf 14 = .ok (.iload_n 1, 1) := by decide +kernel
theorem dX4_ancestorsOf_15 : decode cX4_ancestorsOf 15 = .ok (.iaload, 1) := by decide +kernel
theorem dX4_ancestorsOf_16 : decode cX4_ancestorsOf 16 = .ok (.istore_n 2, 1) := by decide +kernel
theorem dX4_ancestorsOf_17 : decode cX4_ancestorsOf 17 = .ok (.iload_n 1, 1) := by decide +kernel
theorem dX4_ancestorsOf_18 : decode cX4_ancestorsOf 18 = .ok (.iconst 1, 1) := by decide +kernel
theorem dX4_ancestorsOf_19 : decode cX4_ancestorsOf 19 = .ok (.isub, 1) := by decide +kernel
theorem dX4_ancestorsOf_20 : decode cX4_ancestorsOf 20 = .ok (.istore_n 3, 1) := by decide +kernel
theorem dX4_ancestorsOf_21 : decode cX4_ancestorsOf 21 = .ok (.iload_n 3, 1) := by decide +kernel
theorem dX4_ancestorsOf_22 : decode cX4_ancestorsOf 22 = .ok (.ifCond .lt 26, 3) := by decide +kernel
theorem dX4_ancestorsOf_25 : decode cX4_ancestorsOf 25 = .ok (.iload_n 2, 1) := by decide +kernel
theorem dX4_ancestorsOf_26 : decode cX4_ancestorsOf 26 = .ok (.iload_n 3, 1) := by decide +kernel
theorem dX4_ancestorsOf_27 : decode cX4_ancestorsOf 27 = .ok (.invokestatic 48, 3) := by decide +kernel
theorem dX4_ancestorsOf_30 : decode cX4_ancestorsOf 30 = .ok (.ifCond .eq 12, 3) := by decide +kernel
theorem dX4_ancestorsOf_33 : decode cX4_ancestorsOf 33 = .ok (.iload_n 2, 1) := by decide +kernel
theorem dX4_ancestorsOf_34 : decode cX4_ancestorsOf 34 = .ok (.aload_n 0, 1) := by decide +kernel
theorem dX4_ancestorsOf_35 : decode cX4_ancestorsOf 35 = .ok (.getfield 28, 3) := by decide +kernel
theorem dX4_ancestorsOf_38 : decode cX4_ancestorsOf 38 = .ok (.iload_n 3, 1) := by decide +kernel
theorem dX4_ancestorsOf_39 : decode cX4_ancestorsOf 39 = .ok (.iaload, 1) := by decide +kernel
theorem dX4_ancestorsOf_40 : decode cX4_ancestorsOf 40 = .ok (.ior, 1) := by decide +kernel
theorem dX4_ancestorsOf_41 : decode cX4_ancestorsOf 41 = .ok (.istore_n 2, 1) := by decide +kernel
theorem dX4_ancestorsOf_42 : decode cX4_ancestorsOf 42 = .ok (.iinc 3 (-1), 3) := by decide +kernel
theorem dX4_ancestorsOf_45 : decode cX4_ancestorsOf 45 = .ok (.goto (-24), 3) := by decide +kernel
theorem dX4_ancestorsOf_48 : decode cX4_ancestorsOf 48 = .ok (.iload_n 2, 1) := by decide +kernel
theorem dX4_ancestorsOf_49 : decode cX4_ancestorsOf 49 = .ok (.ireturn, 1) := by decide +kernel
set_option maxRecDepth 20000 in
theorem ggX4_heirsOf_X4_has : GoodIn wsX4_heirsOf wsX4_has := goodIn_r _ [7, 1, 8, 9, 10, 11, 12, 13, 14] (by decide +kernel) (by decide +kernel)
set_option maxRecDepth 20000 in
theorem gX4_heirsOf_X4_has : GoodIn wsX4_heirsOf (wsV RX4 40 RX4 yX4_has wsX4_has) := goodIn_app (goodIn_of _ (by decide +kernel)) ggX4_heirsOf_X4_has
theorem dX4_heirsOf_0 : decode cX4_heirsOf 0 = .ok (.aload_n 0, 1) := by decide +kernel
theorem dX4_heirsOf_1 : decode cX4_heirsOf 1 = .ok (.iload_n 1, 1) := by decide +kernel
theorem dX4_heirsOf_2 : decode cX4_heirsOf 2 = .ok (.invokevirtual 40, 3) := by decide +kernel
theorem dX4_heirsOf_5 : decode cX4_heirsOf 5 = .ok (.ifCond .ne 5, 3) := by decide +kernel
theorem dX4_heirsOf_8 : decode cX4_heirsOf 8 = .ok (.iconst 0, 1) := by decide +kernel
theorem dX4_heirsOf_9 : decode cX4_heirsOf 9 = .ok (.ireturn, 1) := by decide +kernel
theorem dX4_heirsOf_10 : decode cX4_heirsOf 10 = .ok (.iconst 1, 1) := by decide +kernel
theorem dX4_heirsOf_11 : decode cX4_heirsOf 11 = .ok (.iload_n 1, 1) := by decide +kernel
theorem dX4_heirsOf_12 : decode cX4_heirsOf 12 = .ok (.ishl, 1) := by decide +kernel
theorem dX4_heirsOf_13 : decode cX4_heirsOf 13 = .ok (.istore_n 2, 1) := by decide +kernel
theorem dX4_heirsOf_14 : decode cX4_heirsOf 14 = .ok (.iload_n 1, 1) := by decide +kernel
theorem dX4_heirsOf_15 : decode cX4_heirsOf 15 = .ok (.iconst 1, 1) := by decide +kernel
theorem dX4_heirsOf_16 : decode cX4_heirsOf 16 = .ok (.iadd, 1) := by decide +kernel
theorem dX4_heirsOf_17 : decode cX4_heirsOf 17 = .ok (.istore_n 3, 1) := by decide +kernel
theorem dX4_heirsOf_18 : decode cX4_heirsOf 18 = .ok (.iload_n 3, 1) := by decide +kernel
theorem dX4_heirsOf_19 : decode cX4_heirsOf 19 = .ok (.aload_n 0, 1) := by decide +kernel
theorem dX4_heirsOf_20 : decode cX4_heirsOf 20 = .ok (.getfield 9, 3) := by decide +kernel
theorem dX4_heirsOf_23 : decode cX4_heirsOf 23 = .ok (.if_icmp .ge 26, 3) := by decide +kernel
theorem dX4_heirsOf_26 : decode cX4_heirsOf 26 = .ok (.aload_n 0, 1) := by decide +kernel
theorem dX4_heirsOf_27 : decode cX4_heirsOf 27 = .ok (.getfield 28, 3) := by decide +kernel
theorem dX4_heirsOf_30 : decode cX4_heirsOf 30 = .ok (.iload_n 3, 1) := by decide +kernel
theorem dX4_heirsOf_31 : decode cX4_heirsOf 31 = .ok (.iaload, 1) := by decide +kernel
theorem dX4_heirsOf_32 : decode cX4_heirsOf 32 = .ok (.iload_n 2, 1) := by decide +kernel
theorem dX4_heirsOf_33 : decode cX4_heirsOf 33 = .ok (.iand, 1) := by decide +kernel
theorem dX4_heirsOf_34 : decode cX4_heirsOf 34 = .ok (.ifCond .eq 9, 3) := by decide +kernel
theorem dX4_heirsOf_37 : decode cX4_heirsOf 37 = .ok (.iload_n 2, 1) := by decide +kernel
theorem dX4_heirsOf_38 : decode cX4_heirsOf 38 = .ok (.iconst 1, 1) := by decide +kernel
theorem dX4_heirsOf_39 : decode cX4_heirsOf 39 = .ok (.iload_n 3, 1) := by decide +kernel
theorem dX4_heirsOf_40 : decode cX4_heirsOf 40 = .ok (.ishl, 1) := by decide +kernel
theorem dX4_heirsOf_41 : decode cX4_heirsOf 41 = .ok (.ior, 1) := by decide +kernel
theorem dX4_heirsOf_42 : decode cX4_heirsOf 42 = .ok (.istore_n 2, 1) := by decide +kernel
theorem dX4_heirsOf_43 : decode cX4_heirsOf 43 = .ok (.iinc 3 1, 3) := by decide +kernel
theorem dX4_heirsOf_46 : decode cX4_heirsOf 46 = .ok (.goto (-28), 3) := by decide +kernel
theorem dX4_heirsOf_49 : decode cX4_heirsOf 49 = .ok (.iload_n 2, 1) := by decide +kernel
theorem dX4_heirsOf_50 : decode cX4_heirsOf 50 = .ok (.ireturn, 1) := by decide +kernel
set_option maxRecDepth 20000 in
theorem ggX4_stepsBetween_X7_isIn : GoodIn wsX4_stepsBetween wsX7_isIn := goodIn_r _ [3] (by decide +kernel) (by decide +kernel)
set_option maxRecDepth 20000 in
theorem gX4_stepsBetween_X7_isIn_n48 : GoodIn wsX4_stepsBetween (wsX7_isIn) := ggX4_stepsBetween_X7_isIn
set_option maxRecDepth 20000 in
theorem ggX4_stepsBetween_X4_neighboursOfAll : GoodIn wsX4_stepsBetween wsX4_neighboursOfAll := goodIn_ca (goodIn_r _ [8, 9, 10, 1, 2, 3, 11, 12, 13, 14, 15, 16, 17] (by decide +kernel) (by decide +kernel)) (goodIn_sub (fun _ h => List.mem_cons_of_mem _ (List.mem_append_right _ h)) (by decide +kernel))
set_option maxRecDepth 20000 in
theorem gX4_stepsBetween_X4_neighboursOfAll : GoodIn wsX4_stepsBetween (wsV RX4 56 RX4 yX4_neighboursOfAll wsX4_neighboursOfAll) := goodIn_app (goodIn_of _ (by decide +kernel)) ggX4_stepsBetween_X4_neighboursOfAll
theorem dX4_stepsBetween_0 : decode cX4_stepsBetween 0 = .ok (.iconst 1, 1) := by decide +kernel
theorem dX4_stepsBetween_1 : decode cX4_stepsBetween 1 = .ok (.iload_n 1, 1) := by decide +kernel
theorem dX4_stepsBetween_2 : decode cX4_stepsBetween 2 = .ok (.ishl, 1) := by decide +kernel
theorem dX4_stepsBetween_3 : decode cX4_stepsBetween 3 = .ok (.istore_n 3, 1) := by decide +kernel
theorem dX4_stepsBetween_4 : decode cX4_stepsBetween 4 = .ok (.iconst 0, 1) := by decide +kernel
theorem dX4_stepsBetween_5 : decode cX4_stepsBetween 5 = .ok (.istore 4, 2) := by decide +kernel
theorem dX4_stepsBetween_7 : decode cX4_stepsBetween 7 = .ok (.iload 4, 2) := by decide +kernel
theorem dX4_stepsBetween_9 : decode cX4_stepsBetween 9 = .ok (.bipush 24, 2) := by decide +kernel
theorem dX4_stepsBetween_11 : decode cX4_stepsBetween 11 = .ok (.if_icmp .ge 28, 3) := by decide +kernel
theorem dX4_stepsBetween_14 : decode cX4_stepsBetween 14 = .ok (.iload_n 3, 1) := by decide +kernel
theorem dX4_stepsBetween_15 : decode cX4_stepsBetween 15 = .ok (.iload_n 2, 1) := by decide +kernel
theorem dX4_stepsBetween_16 : decode cX4_stepsBetween 16 = .ok (.invokestatic 48, 3) := by decide +kernel
theorem dX4_stepsBetween_19 : decode cX4_stepsBetween 19 = .ok (.ifCond .eq 6, 3) := by decide +kernel
theorem dX4_stepsBetween_22 : decode cX4_stepsBetween 22 = .ok (.iload 4, 2) := by decide +kernel
theorem dX4_stepsBetween_24 : decode cX4_stepsBetween 24 = .ok (.ireturn, 1) := by decide +kernel
theorem dX4_stepsBetween_25 : decode cX4_stepsBetween 25 = .ok (.iload_n 3, 1) := by decide +kernel
theorem dX4_stepsBetween_26 : decode cX4_stepsBetween 26 = .ok (.aload_n 0, 1) := by decide +kernel
theorem dX4_stepsBetween_27 : decode cX4_stepsBetween 27 = .ok (.iload_n 3, 1) := by decide +kernel
theorem dX4_stepsBetween_28 : decode cX4_stepsBetween 28 = .ok (.invokevirtual 56, 3) := by decide +kernel
theorem dX4_stepsBetween_31 : decode cX4_stepsBetween 31 = .ok (.ior, 1) := by decide +kernel
theorem dX4_stepsBetween_32 : decode cX4_stepsBetween 32 = .ok (.istore_n 3, 1) := by decide +kernel
theorem dX4_stepsBetween_33 : decode cX4_stepsBetween 33 = .ok (.iinc 4 1, 3) := by decide +kernel
theorem dX4_stepsBetween_36 : decode cX4_stepsBetween 36 = .ok (.goto (-29), 3) := by decide +kernel
theorem dX4_stepsBetween_39 : decode cX4_stepsBetween 39 = .ok (.iconst (-1), 1) := by decide +kernel
theorem dX4_stepsBetween_40 : decode cX4_stepsBetween 40 = .ok (.ireturn, 1) := by decide +kernel
set_option maxRecDepth 20000 in
theorem ggX4_neighboursOfAll_X7_isIn : GoodIn wsX4_neighboursOfAll wsX7_isIn := goodIn_r _ [5] (by decide +kernel) (by decide +kernel)
set_option maxRecDepth 20000 in
theorem gX4_neighboursOfAll_X7_isIn_n48 : GoodIn wsX4_neighboursOfAll (wsX7_isIn) := ggX4_neighboursOfAll_X7_isIn
theorem dX4_neighboursOfAll_0 : decode cX4_neighboursOfAll 0 = .ok (.iconst 0, 1) := by decide +kernel
theorem dX4_neighboursOfAll_1 : decode cX4_neighboursOfAll 1 = .ok (.istore_n 2, 1) := by decide +kernel
theorem dX4_neighboursOfAll_2 : decode cX4_neighboursOfAll 2 = .ok (.iconst 0, 1) := by decide +kernel
theorem dX4_neighboursOfAll_3 : decode cX4_neighboursOfAll 3 = .ok (.istore_n 3, 1) := by decide +kernel
theorem dX4_neighboursOfAll_4 : decode cX4_neighboursOfAll 4 = .ok (.iload_n 3, 1) := by decide +kernel
theorem dX4_neighboursOfAll_5 : decode cX4_neighboursOfAll 5 = .ok (.aload_n 0, 1) := by decide +kernel
theorem dX4_neighboursOfAll_6 : decode cX4_neighboursOfAll 6 = .ok (.getfield 9, 3) := by decide +kernel
theorem dX4_neighboursOfAll_9 : decode cX4_neighboursOfAll 9 = .ok (.if_icmp .ge 26, 3) := by decide +kernel
theorem dX4_neighboursOfAll_12 : decode cX4_neighboursOfAll 12 = .ok (.iload_n 1, 1) := by decide +kernel
theorem dX4_neighboursOfAll_13 : decode cX4_neighboursOfAll 13 = .ok (.iload_n 3, 1) := by decide +kernel
theorem dX4_neighboursOfAll_14 : decode cX4_neighboursOfAll 14 = .ok (.invokestatic 48, 3) := by decide +kernel
theorem dX4_neighboursOfAll_17 : decode cX4_neighboursOfAll 17 = .ok (.ifCond .eq 12, 3) := by decide +kernel
theorem dX4_neighboursOfAll_20 : decode cX4_neighboursOfAll 20 = .ok (.iload_n 2, 1) := by decide +kernel
theorem dX4_neighboursOfAll_21 : decode cX4_neighboursOfAll 21 = .ok (.aload_n 0, 1) := by decide +kernel
theorem dX4_neighboursOfAll_22 : decode cX4_neighboursOfAll 22 = .ok (.getfield 25, 3) := by decide +kernel
theorem dX4_neighboursOfAll_25 : decode cX4_neighboursOfAll 25 = .ok (.iload_n 3, 1) := by decide +kernel
theorem dX4_neighboursOfAll_26 : decode cX4_neighboursOfAll 26 = .ok (.iaload, 1) := by decide +kernel
theorem dX4_neighboursOfAll_27 : decode cX4_neighboursOfAll 27 = .ok (.ior, 1) := by decide +kernel
theorem dX4_neighboursOfAll_28 : decode cX4_neighboursOfAll 28 = .ok (.istore_n 2, 1) := by decide +kernel
theorem dX4_neighboursOfAll_29 : decode cX4_neighboursOfAll 29 = .ok (.iinc 3 1, 3) := by decide +kernel
theorem dX4_neighboursOfAll_32 : decode cX4_neighboursOfAll 32 = .ok (.goto (-28), 3) := by decide +kernel
theorem dX4_neighboursOfAll_35 : decode cX4_neighboursOfAll 35 = .ok (.iload_n 2, 1) := by decide +kernel
theorem dX4_neighboursOfAll_36 : decode cX4_neighboursOfAll 36 = .ok (.ireturn, 1) := by decide +kernel
set_option maxRecDepth 20000 in
theorem ggX4_pairs_J6_bitCount_0f7a4 : GoodIn wsX4_pairs wsJ6_bitCount_0f7a4 := goodIn_r _ [6, 7, 8, 9] (by decide +kernel) (by decide +kernel)
set_option maxRecDepth 20000 in
theorem gX4_pairs_J6_bitCount_0f7a4 : GoodIn wsX4_pairs (va_wsS RX4 59 yJ6_bitCount_0f7a4 wsJ6_bitCount_0f7a4) := goodIn_app (goodIn_of _ (by decide +kernel)) ggX4_pairs_J6_bitCount_0f7a4
theorem dX4_pairs_0 : decode cX4_pairs 0 = .ok (.iconst 0, 1) := by decide +kernel
theorem dX4_pairs_1 : decode cX4_pairs 1 = .ok (.istore_n 1, 1) := by decide +kernel
theorem dX4_pairs_2 : decode cX4_pairs 2 = .ok (.iconst 0, 1) := by decide +kernel
theorem dX4_pairs_3 : decode cX4_pairs 3 = .ok (.istore_n 2, 1) := by decide +kernel
theorem dX4_pairs_4 : decode cX4_pairs 4 = .ok (.iload_n 2, 1) := by decide +kernel
theorem dX4_pairs_5 : decode cX4_pairs 5 = .ok (.aload_n 0, 1) := by decide +kernel
theorem dX4_pairs_6 : decode cX4_pairs 6 = .ok (.getfield 9, 3) := by decide +kernel
theorem dX4_pairs_9 : decode cX4_pairs 9 = .ok (.if_icmp .ge 21, 3) := by decide +kernel
theorem dX4_pairs_12 : decode cX4_pairs 12 = .ok (.iload_n 1, 1) := by decide +kernel
theorem dX4_pairs_13 : decode cX4_pairs 13 = .ok (.aload_n 0, 1) := by decide +kernel
theorem dX4_pairs_14 : decode cX4_pairs 14 = .ok (.getfield 25, 3) := by decide +kernel
theorem dX4_pairs_17 : decode cX4_pairs 17 = .ok (.iload_n 2, 1) := by decide +kernel
theorem dX4_pairs_18 : decode cX4_pairs 18 = .ok (.iaload, 1) := by decide +kernel
theorem dX4_pairs_19 : decode cX4_pairs 19 = .ok (.invokestatic 59, 3) := by decide +kernel
theorem dX4_pairs_22 : decode cX4_pairs 22 = .ok (.iadd, 1) := by decide +kernel
theorem dX4_pairs_23 : decode cX4_pairs 23 = .ok (.istore_n 1, 1) := by decide +kernel
theorem dX4_pairs_24 : decode cX4_pairs 24 = .ok (.iinc 2 1, 3) := by decide +kernel
theorem dX4_pairs_27 : decode cX4_pairs 27 = .ok (.goto (-23), 3) := by decide +kernel
theorem dX4_pairs_30 : decode cX4_pairs 30 = .ok (.iload_n 1, 1) := by decide +kernel
theorem dX4_pairs_31 : decode cX4_pairs 31 = .ok (.iconst 2, 1) := by decide +kernel
theorem dX4_pairs_32 : decode cX4_pairs 32 = .ok (.idiv, 1) := by decide +kernel
theorem dX4_pairs_33 : decode cX4_pairs 33 = .ok (.ireturn, 1) := by decide +kernel
