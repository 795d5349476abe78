theorem dX7_isFrom_0 : decode cX7_isFrom 0 = .ok (.iload_n 0, 1) := by decide +kernel
theorem dX7_isFrom_1 : decode cX7_isFrom 1 = .ok (.iload_n 1, 1) := by decide +kernel
theorem dX7_isFrom_2 : decode cX7_isFrom 2 = .ok (.if_icmp .lt 12, 3) := by decide +kernel
theorem dX7_isFrom_5 : decode cX7_isFrom 5 = .ok (.iload_n 0, 1) := by decide +kernel
theorem dX7_isFrom_6 : decode cX7_isFrom 6 = .ok (.iload_n 2, 1) := by decide +kernel
theorem dX7_isFrom_7 : decode cX7_isFrom 7 = .ok (.if_icmp .gt 7, 3) := by decide +kernel
theorem dX7_isFrom_10 : decode cX7_isFrom 10 = .ok (.iconst 1, 1) := by decide +kernel
theorem dX7_isFrom_11 : decode cX7_isFrom 11 = .ok (.goto 4, 3) := by decide +kernel
theorem dX7_isFrom_14 : decode cX7_isFrom 14 = .ok (.iconst 0, 1) := by decide +kernel
theorem dX7_isFrom_15 : decode cX7_isFrom 15 = .ok (.ireturn, 1) := by decide +kernel
set_option maxRecDepth 20000 in
theorem ggX7_isPerson_X7_isFrom : GoodIn wsX7_isPerson wsX7_isFrom := goodIn_r _ [4] (by decide +kernel) (by decide +kernel)
set_option maxRecDepth 20000 in
theorem gX7_isPerson_X7_isFrom : GoodIn wsX7_isPerson (va_wsS RX7 119 yX7_isFrom wsX7_isFrom) := goodIn_app (goodIn_of _ (by decide +kernel)) ggX7_isPerson_X7_isFrom
theorem dX7_isPerson_0 : decode cX7_isPerson 0 = .ok (.iload_n 0, 1) := by decide +kernel
theorem dX7_isPerson_1 : decode cX7_isPerson 1 = .ok (.iconst 0, 1) := by decide +kernel
theorem dX7_isPerson_2 : decode cX7_isPerson 2 = .ok (.bipush 9, 2) := by decide +kernel
theorem dX7_isPerson_4 : decode cX7_isPerson 4 = .ok (.invokestatic 119, 3) := by decide +kernel
theorem dX7_isPerson_7 : decode cX7_isPerson 7 = .ok (.ireturn, 1) := by decide +kernel
theorem dX7_isIn_0 : decode cX7_isIn 0 = .ok (.iload_n 0, 1) := by decide +kernel
theorem dX7_isIn_1 : decode cX7_isIn 1 = .ok (.iload_n 1, 1) := by decide +kernel
theorem dX7_isIn_2 : decode cX7_isIn 2 = .ok (.iushr, 1) := by decide +kernel
theorem dX7_isIn_3 : decode cX7_isIn 3 = .ok (.iconst 1, 1) := by decide +kernel
theorem dX7_isIn_4 : decode cX7_isIn 4 = .ok (.iand, 1) := by decide +kernel
theorem dX7_isIn_5 : decode cX7_isIn 5 = .ok (.ifCond .eq 7, 3) := by decide +kernel
theorem dX7_isIn_8 : decode cX7_isIn 8 = .ok (.iconst 1, 1) := by decide +kernel
theorem dX7_isIn_9 : decode cX7_isIn 9 = .ok (.goto 4, 3) := by decide +kernel
theorem dX7_isIn_12 : decode cX7_isIn 12 = .ok (.iconst 0, 1) := by decide +kernel
theorem dX7_isIn_13 : decode cX7_isIn 13 = .ok (.ireturn, 1) := by decide +kernel
theorem dX0_copyFrom_0 : decode cX0_copyFrom 0 = .ok (.aload_n 0, 1) := by decide +kernel
theorem dX0_copyFrom_1 : decode cX0_copyFrom 1 = .ok (.aload_n 1, 1) := by decide +kernel
theorem dX0_copyFrom_2 : decode cX0_copyFrom 2 = .ok (.getfield 9, 3) := by decide +kernel
theorem dX0_copyFrom_5 : decode cX0_copyFrom 5 = .ok (.putfield 9, 3) := by decide +kernel
theorem dX0_copyFrom_8 : decode cX0_copyFrom 8 = .ok (.aload_n 1, 1) := by decide +kernel
theorem dX0_copyFrom_9 : decode cX0_copyFrom 9 = .ok (.getfield 15, 3) := by decide +kernel
theorem dX0_copyFrom_12 : decode cX0_copyFrom 12 = .ok (.iconst 0, 1) := by decide +kernel
theorem dX0_copyFrom_13 : decode cX0_copyFrom 13 = .ok (.aload_n 0, 1) := by decide +kernel
theorem dX0_copyFrom_14 : decode cX0_copyFrom 14 = .ok (.getfield 15, 3) := by decide +kernel
theorem dX0_copyFrom_17 : decode cX0_copyFrom 17 = .ok (.iconst 0, 1) := by decide +kernel
theorem dX0_copyFrom_18 : decode cX0_copyFrom 18 = .ok (.bipush 60, 2) := by decide +kernel
theorem dX0_copyFrom_20 : decode cX0_copyFrom 20 = .ok (.invokestatic 31, 3) := by decide +kernel
theorem dX0_copyFrom_23 : decode cX0_copyFrom 23 = .ok (.aload_n 1, 1) := by decide +kernel
theorem dX0_copyFrom_24 : decode cX0_copyFrom 24 = .ok (.getfield 19, 3) := by decide +kernel
theorem dX0_copyFrom_27 : decode cX0_copyFrom 27 = .ok (.iconst 0, 1) := by decide +kernel
theorem dX0_copyFrom_28 : decode cX0_copyFrom 28 = .ok (.aload_n 0, 1) := by decide +kernel
theorem dX0_copyFrom_29 : decode cX0_copyFrom 29 = .ok (.getfield 19, 3) := by decide +kernel
theorem dX0_copyFrom_32 : decode cX0_copyFrom 32 = .ok (.iconst 0, 1) := by decide +kernel
theorem dX0_copyFrom_33 : decode cX0_copyFrom 33 = .ok (.bipush 60, 2) := by decide +kernel
theorem dX0_copyFrom_35 : decode cX0_copyFrom 35 = .ok (.invokestatic 31, 3) := by decide +kernel
theorem dX0_copyFrom_38 : decode cX0_copyFrom 38 = .ok (.aload_n 1, 1) := by decide +kernel
theorem dX0_copyFrom_39 : decode cX0_copyFrom 39 = .ok (.getfield 22, 3) := by decide +kernel
theorem dX0_copyFrom_42 : decode cX0_copyFrom 42 = .ok (.iconst 0, 1) := by decide +kernel
theorem dX0_copyFrom_43 : decode cX0_copyFrom 43 = .ok (.aload_n 0, 1) := by decide +kernel
theorem dX0_copyFrom_44 : decode cX0_copyFrom 44 = .ok (.getfield 22, 3) := by decide +kernel
theorem dX0_copyFrom_47 : decode cX0_copyFrom 47 = .ok (.iconst 0, 1) := by decide +kernel
theorem dX0_copyFrom_48 : decode cX0_copyFrom 48 = .ok (.bipush 60, 2) := by decide +kernel
theorem dX0_copyFrom_50 : decode cX0_copyFrom 50 = .ok (.invokestatic 31, 3) := by decide +kernel
theorem dX0_copyFrom_53 : decode cX0_copyFrom 53 = .ok (.aload_n 1, 1) := by decide +kernel
theorem dX0_copyFrom_54 : decode cX0_copyFrom 54 = .ok (.getfield 25, 3) := by decide +kernel
theorem dX0_copyFrom_57 : decode cX0_copyFrom 57 = .ok (.iconst 0, 1) := by decide +kernel
theorem dX0_copyFrom_58 : decode cX0_copyFrom 58 = .ok (.aload_n 0, 1) := by decide +kernel
theorem dX0_copyFrom_59 : decode cX0_copyFrom 59 = .ok (.getfield 25, 3) := by decide +kernel
theorem dX0_copyFrom_62 : decode cX0_copyFrom 62 = .ok (.iconst 0, 1) := by decide +kernel
theorem dX0_copyFrom_63 : decode cX0_copyFrom 63 = .ok (.bipush 60, 2) := by decide +kernel
theorem dX0_copyFrom_65 : decode cX0_copyFrom 65 = .ok (.invokestatic 31, 3) := by decide +kernel
theorem dX0_copyFrom_68 : decode cX0_copyFrom 68 = .ok (.return_, 1) := by decide +kernel
set_option maxRecDepth 20000 in
theorem ggX0_record_X0_rowsUpTo : GoodIn wsX0_record wsX0_rowsUpTo := goodIn_ca (goodIn_r _ [10, 1, 5, 11, 12, 13, 14, 15, 16] (by decide +kernel) (by decide +kernel)) (goodIn_sub (fun _ h => List.mem_cons_of_mem _ (List.mem_append_right _ h)) (by decide +kernel))
set_option maxRecDepth 20000 in
theorem gX0_record_X0_rowsUpTo : GoodIn wsX0_record (wsV RX0 37 RX0 yX0_rowsUpTo wsX0_rowsUpTo) := goodIn_app (goodIn_of _ (by decide +kernel)) ggX0_record_X0_rowsUpTo
theorem dX0_record_0 : decode cX0_record 0 = .ok (.aload_n 0, 1) := by decide +kernel
theorem dX0_record_1 : decode cX0_record 1 = .ok (.getfield 9, 3) := by decide +kernel
theorem dX0_record_4 : decode cX0_record 4 = .ok (.bipush 60, 2) := by decide +kernel
theorem dX0_record_6 : decode cX0_record 6 = .ok (.if_icmp .lt 5, 3) := by decide +kernel
theorem dX0_record_9 : decode cX0_record 9 = .ok (.iconst (-1), 1) := by decide +kernel
theorem dX0_record_10 : decode cX0_record 10 = .ok (.ireturn, 1) := by decide +kernel
theorem dX0_record_11 : decode cX0_record 11 = .ok (.aload_n 0, 1) := by decide +kernel
theorem dX0_record_12 : decode cX0_record 12 = .ok (.iload 4, 2) := by decide +kernel
theorem dX0_record_14 : decode cX0_record 14 = .ok (.invokevirtual 37, 3) := by decide +kernel
theorem dX0_record_17 : decode cX0_record 17 = .ok (.istore 5, 2) := by decide +kernel
theorem dX0_record_19 : decode cX0_record 19 = .ok (.aload_n 0, 1) := by decide +kernel
theorem dX0_record_20 : decode cX0_record 20 = .ok (.getfield 9, 3) := by decide +kernel
theorem dX0_record_23 : decode cX0_record 23 = .ok (.istore 6, 2) := by decide +kernel
theorem dX0_record_25 : decode cX0_record 25 = .ok (.iload 6, 2) := by decide +kernel
theorem dX0_record_27 : decode cX0_record 27 = .ok (.iload 5, 2) := by decide +kernel
theorem dX0_record_29 : decode cX0_record 29 = .ok (.if_icmp .le 73, 3) := by decide +kernel
theorem dX0_record_32 : decode cX0_record 32 = .ok (.aload_n 0, 1) := by decide +kernel
theorem dX0_record_33 : decode cX0_record 33 = .ok (.getfield 15, 3) := by decide +kernel
theorem dX0_record_36 : decode cX0_record 36 = .ok (.iload 6, 2) := by decide +kernel
theorem dX0_record_38 : decode cX0_record 38 = .ok (.aload_n 0, 1) := by decide +kernel
theorem dX0_record_39 : decode cX0_record 39 = .ok (.getfield 15, 3) := by decide +kernel
theorem dX0_record_42 : decode cX0_record 42 = .ok (.iload 6, 2) := by decide +kernel
theorem dX0_record_44 : decode cX0_record 44 = .ok (.iconst 1, 1) := by decide +kernel
theorem dX0_record_45 : decode cX0_record 45 = .ok (.isub, 1) := by decide +kernel
theorem dX0_record_46 : decode cX0_record 46 = .ok (.iaload, 1) := by decide +kernel
theorem dX0_record_47 : decode cX0_record 47 = .ok (.iastore, 1) := by decide +kernel
theorem dX0_record_48 : decode cX0_record 48 = .ok (.aload_n 0, 1) := by decide +kernel
theorem dX0_record_49 : decode cX0_record 49 = .ok (.getfield 19, 3) := by decide +kernel
theorem dX0_record_52 : decode cX0_record 52 = .ok (.iload 6, 2) := by decide +kernel
theorem dX0_record_54 : decode cX0_record 54 = .ok (.aload_n 0, 1) := by decide +kernel
theorem dX0_record_55 : decode cX0_record 55 = .ok (.getfield 19, 3) := by decide +kernel
theorem dX0_record_58 : decode cX0_record 58 = .ok (.iload 6, 2) := by decide +kernel
theorem dX0_record_60 : decode cX0_record 60 = .ok (.iconst 1, 1) := by decide +kernel
theorem dX0_record_61 : decode cX0_record 61 = .ok (.isub, 1) := by decide +kernel
theorem dX0_record_62 : decode cX0_record 62 = .ok (.iaload, 1) := by decide +kernel
theorem dX0_record_63 : decode cX0_record 63 = .ok (.iastore, 1) := by decide +kernel
theorem dX0_record_64 : decode cX0_record 64 = .ok (.aload_n 0, 1) := by decide +kernel
theorem dX0_record_65 : decode cX0_record 65 = .ok (.getfield 22, 3) := by decide +kernel
theorem dX0_record_68 : decode cX0_record 68 = .ok (.iload 6, 2) := by decide +kernel
theorem dX0_record_70 : decode cX0_record 70 = .ok (.aload_n 0, 1) := by decide +kernel
theorem dX0_record_71 : decode cX0_record 71 = .ok (.getfield 22, 3) := by decide +kernel
theorem dX0_record_74 : decode cX0_record 74 = .ok (.iload 6, 2) := by decide +kernel
theorem dX0_record_76 : decode cX0_record 76 = .ok (.iconst 1, 1) := by decide +kernel
theorem dX0_record_77 : decode cX0_record 77 = .ok (.isub, 1) := by decide +kernel
theorem dX0_record_78 : decode cX0_record 78 = .ok (.iaload, 1) := by decide +kernel
theorem dX0_record_79 : decode cX0_record 79 = .ok (.iastore, 1) := by decide +kernel
theorem dX0_record_80 : decode cX0_record 80 = .ok (.aload_n 0, 1) := by decide +kernel
theorem dX0_record_81 : decode cX0_record 81 = .ok (.getfield 25, 3) := by decide +kernel
theorem dX0_record_84 : decode cX0_record 84 = .ok (.iload 6, 2) := by decide +kernel
theorem dX0_record_86 : decode cX0_record 86 = .ok (.aload_n 0, 1) := by decide +kernel
theorem dX0_record_87 : decode cX0_record 87 = .ok (.getfield 25, 3) := by decide +kernel
theorem dX0_record_90 : decode cX0_record 90 = .ok (.iload 6, 2) := by decide +kernel
theorem dX0_record_92 : decode cX0_record 92 = .ok (.iconst 1, 1) := by decide +kernel
theorem dX0_record_93 : decode cX0_record 93 = .ok (.isub, 1) := by decide +kernel
theorem dX0_record_94 : decode cX0_record 94 = .ok (.iaload, 1) := by decide +kernel
theorem dX0_record_95 : decode cX0_record 95 = .ok (.iastore, 1) := by decide +kernel
theorem dX0_record_96 : decode cX0_record 96 = .ok (.iinc 6 (-1), 3) := by decide +kernel
theorem dX0_record_99 : decode cX0_record 99 = .ok (.goto (-74), 3) := by decide +kernel
theorem dX0_record_102 : decode cX0_record 102 = .ok (.aload_n 0, 1) := by decide +kernel
theorem dX0_record_103 : decode cX0_record 103 = .ok (.getfield 15, 3) := by decide +kernel
theorem dX0_record_106 : decode cX0_record 106 = .ok (.iload 5, 2) := by decide +kernel
theorem dX0_record_108 : decode cX0_record 108 = .ok (.iload_n 1, 1) := by decide +kernel
theorem dX0_record_109 : decode cX0_record 109 = .ok (.iastore, 1) := by decide +kernel
theorem dX0_record_110 : decode cX0_record 110 = .ok (.aload_n 0, 1) := by decide +kernel
theorem dX0_record_111 : decode cX0_record 111 = .ok (.getfield 19, 3) := by decide +kernel
theorem dX0_record_114 : decode cX0_record 114 = .ok (.iload 5, 2) := by decide +kernel
theorem dX0_record_116 : decode cX0_record 116 = .ok (.iload_n 2, 1) := by decide +kernel
theorem dX0_record_117 : decode cX0_record 117 = .ok (.iastore, 1) := by decide +kernel
theorem dX0_record_118 : decode cX0_record 118 = .ok (.aload_n 0, 1) := by decide +kernel
theorem dX0_record_119 : decode cX0_record 119 = .ok (.getfield 22, 3) := by decide +kernel
theorem dX0_record_122 : decode cX0_record 122 = .ok (.iload 5, 2) := by decide +kernel
theorem dX0_record_124 : decode cX0_record 124 = .ok (.iload_n 3, 1) := by decide +kernel
theorem dX0_record_125 : decode cX0_record 125 = .ok (.iastore, 1) := by decide +kernel
theorem dX0_record_126 : decode cX0_record 126 = .ok (.aload_n 0, 1) := by decide +kernel
theorem dX0_record_127 : decode cX0_record 127 = .ok (.getfield 25, 3) := by decide +kernel
theorem dX0_record_130 : decode cX0_record 130 = .ok (.iload 5, 2) := by decide +kernel
theorem dX0_record_132 : decode cX0_record 132 = .ok (.iload 4, 2) := by decide +kernel
theorem dX0_record_134 : decode cX0_record 134 = .ok (.iastore, 1) := by decide +kernel
theorem dX0_record_135 : decode cX0_record 135 = .ok (.aload_n 0, 1) := by decide +kernel
theorem dX0_record_136 : decode cX0_record 136 = .ok (.dup, 1) := by decide +kernel
theorem dX0_record_137 : decode cX0_record 137 = .ok (.getfield 9, 3) := by decide +kernel
theorem dX0_record_140 : decode cX0_record 140 = .ok (.iconst 1, 1) := by decide +kernel
theorem dX0_record_141 : decode cX0_record 141 = .ok (.iadd, 1) := by decide +kernel
theorem dX0_record_142 : decode cX0_record 142 = .ok (.putfield 9, 3) := by decide +kernel
theorem dX0_record_145 : decode cX0_record 145 = .ok (.iload 5, 2) := by decide +kernel
theorem dX0_record_147 : decode cX0_record 147 = .ok (.ireturn, 1) := by decide +kernel
theorem dX0_rowsUpTo_0 : decode cX0_rowsUpTo 0 = .ok (.iconst 0, 1) := by decide +kernel
theorem dX0_rowsUpTo_1 : decode cX0_rowsUpTo 1 = .ok (.istore_n 2, 1) := by decide +kernel
theorem dX0_rowsUpTo_2 : decode cX0_rowsUpTo 2 = .ok (.iconst 0, 1) := by decide +kernel
theorem dX0_rowsUpTo_3 : decode cX0_rowsUpTo 3 = .ok (.istore_n 3, 1) := by decide +kernel
theorem dX0_rowsUpTo_4 : decode cX0_rowsUpTo 4 = .ok (.iload_n 3, 1) := by decide +kernel
theorem dX0_rowsUpTo_5 : decode cX0_rowsUpTo 5 = .ok (.aload_n 0, 1) := by decide +kernel
theorem dX0_rowsUpTo_6 : decode cX0_rowsUpTo 6 = .ok (.getfield 9, 3) := by decide +kernel
theorem dX0_rowsUpTo_9 : decode cX0_rowsUpTo 9 = .ok (.if_icmp .ge 22, 3) := by decide +kernel
theorem dX0_rowsUpTo_12 : decode cX0_rowsUpTo 12 = .ok (.aload_n 0, 1) := by decide +kernel
theorem dX0_rowsUpTo_13 : decode cX0_rowsUpTo 13 = .ok (.getfield 25, 3) := by decide +kernel
theorem dX0_rowsUpTo_16 : decode cX0_rowsUpTo 16 = .ok (.iload_n 3, 1) := by decide +kernel
theorem dX0_rowsUpTo_17 : decode cX0_rowsUpTo 17 = .ok (.iaload, 1) := by decide +kernel
theorem dX0_rowsUpTo_18 : decode cX0_rowsUpTo 18 = .ok (.iload_n 1, 1) := by decide +kernel
theorem dX0_rowsUpTo_19 : decode cX0_rowsUpTo 19 = .ok (.if_icmp .gt 6, 3) := by decide +kernel
theorem dX0_rowsUpTo_22 : decode cX0_rowsUpTo 22 = .ok (.iinc 2 1, 3) := by decide +kernel
theorem dX0_rowsUpTo_25 : decode cX0_rowsUpTo 25 = .ok (.iinc 3 1, 3) := by decide +kernel
theorem dX0_rowsUpTo_28 : decode cX0_rowsUpTo 28 = .ok (.goto (-24), 3) := by decide +kernel
theorem dX0_rowsUpTo_31 : decode cX0_rowsUpTo 31 = .ok (.iload_n 2, 1) := by decide +kernel
theorem dX0_rowsUpTo_32 : decode cX0_rowsUpTo 32 = .ok (.ireturn, 1) := by decide +kernel
theorem dX0_holderBehind_0 : decode cX0_holderBehind 0 = .ok (.iload_n 2, 1) := by decide +kernel
theorem dX0_holderBehind_1 : decode cX0_holderBehind 1 = .ok (.istore 4, 2) := by decide +kernel
theorem dX0_holderBehind_3 : decode cX0_holderBehind 3 = .ok (.iconst 0, 1) := by decide +kernel
theorem dX0_holderBehind_4 : decode cX0_holderBehind 4 = .ok (.istore 5, 2) := by decide +kernel
theorem dX0_holderBehind_6 : decode cX0_holderBehind 6 = .ok (.iload 5, 2) := by decide +kernel
theorem dX0_holderBehind_8 : decode cX0_holderBehind 8 = .ok (.iload_n 3, 1) := by decide +kernel
theorem dX0_holderBehind_9 : decode cX0_holderBehind 9 = .ok (.if_icmp .ge 50, 3) := by decide +kernel
theorem dX0_holderBehind_12 : decode cX0_holderBehind 12 = .ok (.iload 5, 2) := by decide +kernel
theorem dX0_holderBehind_14 : decode cX0_holderBehind 14 = .ok (.aload_n 0, 1) := by decide +kernel
theorem dX0_holderBehind_15 : decode cX0_holderBehind 15 = .ok (.getfield 9, 3) := by decide +kernel
theorem dX0_holderBehind_18 : decode cX0_holderBehind 18 = .ok (.if_icmp .ge 41, 3) := by decide +kernel
theorem dX0_holderBehind_21 : decode cX0_holderBehind 21 = .ok (.aload_n 0, 1) := by decide +kernel
theorem dX0_holderBehind_22 : decode cX0_holderBehind 22 = .ok (.getfield 15, 3) := by decide +kernel
theorem dX0_holderBehind_25 : decode cX0_holderBehind 25 = .ok (.iload 5, 2) := by decide +kernel
theorem dX0_holderBehind_27 : decode cX0_holderBehind 27 = .ok (.iaload, 1) := by decide +kernel
theorem dX0_holderBehind_28 : decode cX0_holderBehind 28 = .ok (.iload_n 1, 1) := by decide +kernel
theorem dX0_holderBehind_29 : decode cX0_holderBehind 29 = .ok (.if_icmp .ne 24, 3) := by decide +kernel
theorem dX0_holderBehind_32 : decode cX0_holderBehind 32 = .ok (.aload_n 0, 1) := by decide +kernel
theorem dX0_holderBehind_33 : decode cX0_holderBehind 33 = .ok (.getfield 19, 3) := by decide +kernel
theorem dX0_holderBehind_36 : decode cX0_holderBehind 36 = .ok (.iload 5, 2) := by decide +kernel
theorem dX0_holderBehind_38 : decode cX0_holderBehind 38 = .ok (.iaload, 1) := by decide +kernel
theorem dX0_holderBehind_39 : decode cX0_holderBehind 39 = .ok (.iload 4, 2) := by decide +kernel
theorem dX0_holderBehind_41 : decode cX0_holderBehind 41 = .ok (.if_icmp .ne 12, 3) := by decide +kernel
theorem dX0_holderBehind_44 : decode cX0_holderBehind 44 = .ok (.aload_n 0, 1) := by decide +kernel
theorem dX0_holderBehind_45 : decode cX0_holderBehind 45 = .ok (.getfield 22, 3) := by decide +kernel
theorem dX0_holderBehind_48 : decode cX0_holderBehind 48 = .ok (.iload 5, 2) := by decide +kernel
theorem dX0_holderBehind_50 : decode cX0_holderBehind 50 = .ok (.iaload, 1) := by decide +kernel
theorem dX0_holderBehind_51 : decode cX0_holderBehind 51 = .ok (.istore 4, 2) := by decide +kernel
theorem dX0_holderBehind_53 : decode cX0_holderBehind 53 = .ok (.iinc 5 1, 3) := by decide +kernel
theorem dX0_holderBehind_56 : decode cX0_holderBehind 56 = .ok (.goto (-50), 3) := by decide +kernel
theorem dX0_holderBehind_59 : decode cX0_holderBehind 59 = .ok (.iload 4, 2) := by decide +kernel
theorem dX0_holderBehind_61 : decode cX0_holderBehind 61 = .ok (.ireturn, 1) := by decide +kernel
set_option maxRecDepth 20000 in
theorem ggX0_isGood_X0_holderBehind : GoodIn wsX0_isGood wsX0_holderBehind := goodIn_ca (goodIn_r _ [8, 1, 2, 3, 9, 10, 11, 12, 13, 14, 15] (by decide +kernel) (by decide +kernel)) (goodIn_sub (fun _ h => List.mem_cons_of_mem _ (List.mem_append_right _ h)) (by decide +kernel))
set_option maxRecDepth 20000 in
theorem gX0_isGood_X0_holderBehind : GoodIn wsX0_isGood (wsV RX0 41 RX0 yX0_holderBehind wsX0_holderBehind) := goodIn_app (goodIn_of _ (by decide +kernel)) ggX0_isGood_X0_holderBehind
theorem dX0_isGood_0 : decode cX0_isGood 0 = .ok (.iload_n 1, 1) := by decide +kernel
theorem dX0_isGood_1 : decode cX0_isGood 1 = .ok (.ifCond .lt 11, 3) := by decide +kernel
theorem dX0_isGood_4 : decode cX0_isGood 4 = .ok (.iload_n 1, 1) := by decide +kernel
theorem dX0_isGood_5 : decode cX0_isGood 5 = .ok (.aload_n 0, 1) := by decide +kernel
theorem dX0_isGood_6 : decode cX0_isGood 6 = .ok (.getfield 9, 3) := by decide +kernel
theorem dX0_isGood_9 : decode cX0_isGood 9 = .ok (.if_icmp .lt 5, 3) := by decide +kernel
theorem dX0_isGood_12 : decode cX0_isGood 12 = .ok (.iconst 0, 1) := by decide +kernel
theorem dX0_isGood_13 : decode cX0_isGood 13 = .ok (.ireturn, 1) := by decide +kernel
theorem dX0_isGood_14 : decode cX0_isGood 14 = .ok (.aload_n 0, 1) := by decide +kernel
theorem dX0_isGood_15 : decode cX0_isGood 15 = .ok (.aload_n 0, 1) := by decide +kernel
theorem dX0_isGood_16 : decode cX0_isGood 16 = .ok (.getfield 15, 3) := by decide +kernel
theorem dX0_isGood_19 : decode cX0_isGood 19 = .ok (.iload_n 1, 1) := by decide +kernel
theorem dX0_isGood_20 : decode cX0_isGood 20 = .ok (.iaload, 1) := by decide +kernel
theorem dX0_isGood_21 : decode cX0_isGood 21 = .ok (.iload_n 2, 1) := by decide +kernel
theorem dX0_isGood_22 : decode cX0_isGood 22 = .ok (.iload_n 1, 1) := by decide +kernel
theorem dX0_isGood_23 : decode cX0_isGood 23 = .ok (.invokevirtual 41, 3) := by decide +kernel
theorem dX0_isGood_26 : decode cX0_isGood 26 = .ok (.aload_n 0, 1) := by decide +kernel
theorem dX0_isGood_27 : decode cX0_isGood 27 = .ok (.getfield 19, 3) := by decide +kernel
theorem dX0_isGood_30 : decode cX0_isGood 30 = .ok (.iload_n 1, 1) := by decide +kernel
theorem dX0_isGood_31 : decode cX0_isGood 31 = .ok (.iaload, 1) := by decide +kernel
theorem dX0_isGood_32 : decode cX0_isGood 32 = .ok (.if_icmp .ne 7, 3) := by decide +kernel
theorem dX0_isGood_35 : decode cX0_isGood 35 = .ok (.iconst 1, 1) := by decide +kernel
theorem dX0_isGood_36 : decode cX0_isGood 36 = .ok (.goto 4, 3) := by decide +kernel
theorem dX0_isGood_39 : decode cX0_isGood 39 = .ok (.iconst 0, 1) := by decide +kernel
theorem dX0_isGood_40 : decode cX0_isGood 40 = .ok (.ireturn, 1) := by decide +kernel
theorem dX0_countOf_0 : decode cX0_countOf 0 = .ok (.iconst 0, 1) := by decide +kernel
theorem dX0_countOf_1 : decode cX0_countOf 1 = .ok (.istore_n 2, 1) := by decide +kernel
theorem dX0_countOf_2 : decode cX0_countOf 2 = .ok (.iconst 0, 1) := by decide +kernel
theorem dX0_countOf_3 : decode cX0_countOf 3 = .ok (.istore_n 3, 1) := by decide +kernel
theorem dX0_countOf_4 : decode cX0_countOf 4 = .ok (.iload_n 3, 1) := by decide +kernel
theorem dX0_countOf_5 : decode cX0_countOf 5 = .ok (.aload_n 0, 1) := by decide +kernel
theorem dX0_countOf_6 : decode cX0_countOf 6 = .ok (.getfield 9, 3) := by decide +kernel
theorem dX0_countOf_9 : decode cX0_countOf 9 = .ok (.if_icmp .ge 22, 3) := by decide +kernel
theorem dX0_countOf_12 : decode cX0_countOf 12 = .ok (.aload_n 0, 1) := by decide +kernel
theorem dX0_countOf_13 : decode cX0_countOf 13 = .ok (.getfield 15, 3) := by decide +kernel
theorem dX0_countOf_16 : decode cX0_countOf 16 = .ok (.iload_n 3, 1) := by decide +kernel
theorem dX0_countOf_17 : decode cX0_countOf 17 = .ok (.iaload, 1) := by decide +kernel
theorem dX0_countOf_18 : decode cX0_countOf 18 = .ok (.iload_n 1, 1) := by decide +kernel
theorem dX0_countOf_19 : decode cX0_countOf 19 = .ok (.if_icmp .ne 6, 3) := by decide +kernel
theorem dX0_countOf_22 : decode cX0_countOf 22 = .ok (.iinc 2 1, 3) := by decide +kernel
theorem dX0_countOf_25 : decode cX0_countOf 25 = .ok (.iinc 3 1, 3) := by decide +kernel
theorem dX0_countOf_28 : decode cX0_countOf 28 = .ok (.goto (-24), 3) := by decide +kernel
theorem dX0_countOf_31 : decode cX0_countOf 31 = .ok (.iload_n 2, 1) := by decide +kernel
theorem dX0_countOf_32 : decode cX0_countOf 32 = .ok (.ireturn, 1) := by decide +kernel
theorem dX0_gapsOf_0 : decode cX0_gapsOf 0 = .ok (.iconst 0, 1) := by decide +kernel
theorem dX0_gapsOf_1 : decode cX0_gapsOf 1 = .ok (.istore_n 3, 1) := by decide +kernel
theorem dX0_gapsOf_2 : decode cX0_gapsOf 2 = .ok (.iload_n 2, 1) := by decide +kernel
theorem dX0_gapsOf_3 : decode cX0_gapsOf 3 = .ok (.istore 4, 2) := by decide +kernel
theorem dX0_gapsOf_5 : decode cX0_gapsOf 5 = .ok (.iconst 0, 1) := by decide +kernel
theorem dX0_gapsOf_6 : decode cX0_gapsOf 6 = .ok (.istore 5, 2) := by decide +kernel
theorem dX0_gapsOf_8 : decode cX0_gapsOf 8 = .ok (.iload 5, 2) := by decide +kernel
theorem dX0_gapsOf_10 : decode cX0_gapsOf 10 = .ok (.aload_n 0, 1) := by decide +kernel
theorem dX0_gapsOf_11 : decode cX0_gapsOf 11 = .ok (.getfield 9, 3) := by decide +kernel
theorem dX0_gapsOf_14 : decode cX0_gapsOf 14 = .ok (.if_icmp .ge 47, 3) := by decide +kernel
theorem dX0_gapsOf_17 : decode cX0_gapsOf 17 = .ok (.aload_n 0, 1) := by decide +kernel
theorem dX0_gapsOf_18 : decode cX0_gapsOf 18 = .ok (.getfield 15, 3) := by decide +kernel
theorem dX0_gapsOf_21 : decode cX0_gapsOf 21 = .ok (.iload 5, 2) := by decide +kernel
theorem dX0_gapsOf_23 : decode cX0_gapsOf 23 = .ok (.iaload, 1) := by decide +kernel
theorem dX0_gapsOf_24 : decode cX0_gapsOf 24 = .ok (.iload_n 1, 1) := by decide +kernel
theorem dX0_gapsOf_25 : decode cX0_gapsOf 25 = .ok (.if_icmp .ne 30, 3) := by decide +kernel
theorem dX0_gapsOf_28 : decode cX0_gapsOf 28 = .ok (.aload_n 0, 1) := by decide +kernel
theorem dX0_gapsOf_29 : decode cX0_gapsOf 29 = .ok (.getfield 19, 3) := by decide +kernel
theorem dX0_gapsOf_32 : decode cX0_gapsOf 32 = .ok (.iload 5, 2) := by decide +kernel
theorem dX0_gapsOf_34 : decode cX0_gapsOf 34 = .ok (.iaload, 1) := by decide +kernel
theorem dX0_gapsOf_35 : decode cX0_gapsOf 35 = .ok (.iload 4, 2) := by decide +kernel
theorem dX0_gapsOf_37 : decode cX0_gapsOf 37 = .ok (.if_icmp .ne 15, 3) := by decide +kernel
theorem dX0_gapsOf_40 : decode cX0_gapsOf 40 = .ok (.aload_n 0, 1) := by decide +kernel
theorem dX0_gapsOf_41 : decode cX0_gapsOf 41 = .ok (.getfield 22, 3) := by decide +kernel
theorem dX0_gapsOf_44 : decode cX0_gapsOf 44 = .ok (.iload 5, 2) := by decide +kernel
theorem dX0_gapsOf_46 : decode cX0_gapsOf 46 = .ok (.iaload, 1) := by decide +kernel
theorem dX0_gapsOf_47 : decode cX0_gapsOf 47 = .ok (.istore 4, 2) := by decide +kernel
theorem dX0_gapsOf_49 : decode cX0_gapsOf 49 = .ok (.goto 6, 3) := by decide +kernel
theorem dX0_gapsOf_52 : decode cX0_gapsOf 52 = .ok (.iinc 3 1, 3) := by decide +kernel
theorem dX0_gapsOf_55 : decode cX0_gapsOf 55 = .ok (.iinc 5 1, 3) := by decide +kernel
theorem dX0_gapsOf_58 : decode cX0_gapsOf 58 = .ok (.goto (-50), 3) := by decide +kernel
theorem dX0_gapsOf_61 : decode cX0_gapsOf 61 = .ok (.iload_n 3, 1) := by decide +kernel
theorem dX0_gapsOf_62 : decode cX0_gapsOf 62 = .ok (.ireturn, 1) := by decide +kernel
theorem dX0_rowAt_0 : decode cX0_rowAt 0 = .ok (.iconst 0, 1) := by decide +kernel
theorem dX0_rowAt_1 : decode cX0_rowAt 1 = .ok (.istore_n 3, 1) := by decide +kernel
theorem dX0_rowAt_2 : decode cX0_rowAt 2 = .ok (.iconst 0, 1) := by decide +kernel
theorem dX0_rowAt_3 : decode cX0_rowAt 3 = .ok (.istore 4, 2) := by decide +kernel
theorem dX0_rowAt_5 : decode cX0_rowAt 5 = .ok (.iload 4, 2) := by decide +kernel
theorem dX0_rowAt_7 : decode cX0_rowAt 7 = .ok (.aload_n 0, 1) := by decide +kernel
theorem dX0_rowAt_8 : decode cX0_rowAt 8 = .ok (.getfield 9, 3) := by decide +kernel
theorem dX0_rowAt_11 : decode cX0_rowAt 11 = .ok (.if_icmp .ge 31, 3) := by decide +kernel
theorem dX0_rowAt_14 : decode cX0_rowAt 14 = .ok (.aload_n 0, 1) := by decide +kernel
theorem dX0_rowAt_15 : decode cX0_rowAt 15 = .ok (.getfield 15, 3) := by decide +kernel
theorem dX0_rowAt_18 : decode cX0_rowAt 18 = .ok (.iload 4, 2) := by decide +kernel
theorem dX0_rowAt_20 : decode cX0_rowAt 20 = .ok (.iaload, 1) := by decide +kernel
theorem dX0_rowAt_21 : decode cX0_rowAt 21 = .ok (.iload_n 1, 1) := by decide +kernel
theorem dX0_rowAt_22 : decode cX0_rowAt 22 = .ok (.if_icmp .ne 14, 3) := by decide +kernel
theorem dX0_rowAt_25 : decode cX0_rowAt 25 = .ok (.iload_n 3, 1) := by decide +kernel
theorem dX0_rowAt_26 : decode cX0_rowAt 26 = .ok (.iload_n 2, 1) := by decide +kernel
theorem dX0_rowAt_27 : decode cX0_rowAt 27 = .ok (.if_icmp .ne 6, 3) := by decide +kernel
theorem dX0_rowAt_30 : decode cX0_rowAt 30 = .ok (.iload 4, 2) := by decide +kernel
theorem dX0_rowAt_32 : decode cX0_rowAt 32 = .ok (.ireturn, 1) := by decide +kernel
theorem dX0_rowAt_33 : decode cX0_rowAt 33 = .ok (.iinc 3 1, 3) := by decide +kernel
theorem dX0_rowAt_36 : decode cX0_rowAt 36 = .ok (.iinc 4 1, 3) := by decide +kernel
theorem dX0_rowAt_39 : decode cX0_rowAt 39 = .ok (.goto (-34), 3) := by decide +kernel
theorem dX0_rowAt_42 : decode cX0_rowAt 42 = .ok (.iconst (-1), 1) := by decide +kernel
theorem dX0_rowAt_43 : decode cX0_rowAt 43 = .ok (.ireturn, 1) := by decide +kernel
theorem dX0_everHolding_0 : decode cX0_everHolding 0 = .ok (.iconst 1, 1) := by decide +kernel
theorem dX0_everHolding_1 : decode cX0_everHolding 1 = .ok (.iload_n 2, 1) := by decide +kernel
theorem dX0_everHolding_2 : decode cX0_everHolding 2 = .ok (.ishl, 1) := by decide +kernel
theorem dX0_everHolding_3 : decode cX0_everHolding 3 = .ok (.istore_n 3, 1) := by decide +kernel
theorem dX0_everHolding_4 : decode cX0_everHolding 4 = .ok (.iload_n 2, 1) := by decide +kernel
theorem dX0_everHolding_5 : decode cX0_everHolding 5 = .ok (.istore 4, 2) := by decide +kernel
theorem dX0_everHolding_7 : decode cX0_everHolding 7 = .ok (.iconst 0, 1) := by decide +kernel
theorem dX0_everHolding_8 : decode cX0_everHolding 8 = .ok (.istore 5, 2) := by decide +kernel
theorem dX0_everHolding_10 : decode cX0_everHolding 10 = .ok (.iload 5, 2) := by decide +kernel
theorem dX0_everHolding_12 : decode cX0_everHolding 12 = .ok (.aload_n 0, 1) := by decide +kernel
theorem dX0_everHolding_13 : decode cX0_everHolding 13 = .ok (.getfield 9, 3) := by decide +kernel
theorem dX0_everHolding_16 : decode cX0_everHolding 16 = .ok (.if_icmp .ge 48, 3) := by decide +kernel
theorem dX0_everHolding_19 : decode cX0_everHolding 19 = .ok (.aload_n 0, 1) := by decide +kernel
theorem dX0_everHolding_20 : decode cX0_everHolding 20 = .ok (.getfield 15, 3) := by decide +kernel
theorem dX0_everHolding_23 : decode cX0_everHolding 23 = .ok (.iload 5, 2) := by decide +kernel
theorem dX0_everHolding_25 : decode cX0_everHolding 25 = .ok (.iaload, 1) := by decide +kernel
theorem dX0_everHolding_26 : decode cX0_everHolding 26 = .ok (.iload_n 1, 1) := by decide +kernel
theorem dX0_everHolding_27 : decode cX0_everHolding 27 = .ok (.if_icmp .ne 31, 3) := by decide +kernel
theorem dX0_everHolding_30 : decode cX0_everHolding 30 = .ok (.aload_n 0, 1) := by decide +kernel
theorem dX0_everHolding_31 : decode cX0_everHolding 31 = .ok (.getfield 19, 3) := by decide +kernel
theorem dX0_everHolding_34 : decode cX0_everHolding 34 = .ok (.iload 5, 2) := by decide +kernel
theorem dX0_everHolding_36 : decode cX0_everHolding 36 = .ok (.iaload, 1) := by decide +kernel
theorem dX0_everHolding_37 : decode cX0_everHolding 37 = .ok (.iload 4, 2) := by decide +kernel
theorem dX0_everHolding_39 : decode cX0_everHolding 39 = .ok (.if_icmp .ne 19, 3) := by decide +kernel
theorem dX0_everHolding_42 : decode cX0_everHolding 42 = .ok (.aload_n 0, 1) := by decide +kernel
theorem dX0_everHolding_43 : decode cX0_everHolding 43 = .ok (.getfield 22, 3) := by decide +kernel
theorem dX0_everHolding_46 : decode cX0_everHolding 46 = .ok (.iload 5, 2) := by decide +kernel
theorem dX0_everHolding_48 : decode cX0_everHolding 48 = .ok (.iaload, 1) := by decide +kernel
theorem dX0_everHolding_49 : decode cX0_everHolding 49 = .ok (.istore 4, 2) := by decide +kernel
theorem dX0_everHolding_51 : decode cX0_everHolding 51 = .ok (.iload_n 3, 1) := by decide +kernel
theorem dX0_everHolding_52 : decode cX0_everHolding 52 = .ok (.iconst 1, 1) := by decide +kernel
theorem dX0_everHolding_53 : decode cX0_everHolding 53 = .ok (.iload 4, 2) := by decide +kernel
theorem dX0_everHolding_55 : decode cX0_everHolding 55 = .ok (.ishl, 1) := by decide +kernel
theorem dX0_everHolding_56 : decode cX0_everHolding 56 = .ok (.ior, 1) := by decide +kernel
theorem dX0_everHolding_57 : decode cX0_everHolding 57 = .ok (.istore_n 3, 1) := by decide +kernel
theorem dX0_everHolding_58 : decode cX0_everHolding 58 = .ok (.iinc 5 1, 3) := by decide +kernel
theorem dX0_everHolding_61 : decode cX0_everHolding 61 = .ok (.goto (-51), 3) := by decide +kernel
theorem dX0_everHolding_64 : decode cX0_everHolding 64 = .ok (.iload_n 3, 1) := by decide +kernel
theorem dX0_everHolding_65 : decode cX0_everHolding 65 = .ok (.ireturn, 1) := by decide +kernel
set_option maxRecDepth 20000 in
theorem ggX0_mostWithoutGap_X7_isPerson : GoodIn wsX0_mostWithoutGap wsX7_isPerson := goodIn_r _ [12, 13, 14, 11, 15] (by decide +kernel) (by decide +kernel)
set_option maxRecDepth 20000 in
theorem gX0_mostWithoutGap_X7_isPerson_n45 : GoodIn wsX0_mostWithoutGap (wsX7_isPerson) := ggX0_mostWithoutGap_X7_isPerson
set_option maxRecDepth 20000 in
theorem ggX0_mostWithoutGap_X0_holderBehind : GoodIn wsX0_mostWithoutGap wsX0_holderBehind := goodIn_ca (goodIn_r _ [20, 2, 5, 3, 4, 21, 22, 23, 24, 25, 26] (by decide +kernel) (by decide +kernel)) (goodIn_sub (fun _ h => List.mem_cons_of_mem _ (List.mem_append_right _ h)) (by decide +kernel))
set_option maxRecDepth 20000 in
theorem gX0_mostWithoutGap_X0_holderBehind : GoodIn wsX0_mostWithoutGap (wsV RX0 41 RX0 yX0_holderBehind wsX0_holderBehind) := goodIn_app (goodIn_of _ (by decide +kernel)) ggX0_mostWithoutGap_X0_holderBehind
theorem dX0_mostWithoutGap_0 : decode cX0_mostWithoutGap 0 = .ok (.iconst 0, 1) := by decide +kernel
theorem dX0_mostWithoutGap_1 : decode cX0_mostWithoutGap 1 = .ok (.istore_n 3, 1) := by decide +kernel
theorem dX0_mostWithoutGap_2 : decode cX0_mostWithoutGap 2 = .ok (.iload_n 3, 1) := by decide +kernel
theorem dX0_mostWithoutGap_3 : decode cX0_mostWithoutGap 3 = .ok (.bipush 10, 2) := by decide +kernel
theorem dX0_mostWithoutGap_5 : decode cX0_mostWithoutGap 5 = .ok (.if_icmp .ge 25, 3) := by decide +kernel
theorem dX0_mostWithoutGap_8 : decode cX0_mostWithoutGap 8 = .ok (.aload_n 0, 1) := by decide +kernel
theorem dX0_mostWithoutGap_9 : decode cX0_mostWithoutGap 9 = .ok (.getfield 28, 3) := by decide +kernel
theorem dX0_mostWithoutGap_12 : decode cX0_mostWithoutGap 12 = .ok (.iload_n 3, 1) := by decide +kernel
theorem dX0_mostWithoutGap_13 : decode cX0_mostWithoutGap 13 = .ok (.iload_n 3, 1) := by decide +kernel
theorem dX0_mostWithoutGap_14 : decode cX0_mostWithoutGap 14 = .ok (.iload_n 2, 1) := by decide +kernel
theorem dX0_mostWithoutGap_15 : decode cX0_mostWithoutGap 15 = .ok (.if_icmp .ne 7, 3) := by decide +kernel
theorem dX0_mostWithoutGap_18 : decode cX0_mostWithoutGap 18 = .ok (.iconst 0, 1) := by decide +kernel
theorem dX0_mostWithoutGap_19 : decode cX0_mostWithoutGap 19 = .ok (.goto 4, 3) := by decide +kernel
theorem dX0_mostWithoutGap_22 : decode cX0_mostWithoutGap 22 = .ok (.iconst (-1), 1) := by decide +kernel
theorem dX0_mostWithoutGap_23 : decode cX0_mostWithoutGap 23 = .ok (.iastore, 1) := by decide +kernel
theorem dX0_mostWithoutGap_24 : decode cX0_mostWithoutGap 24 = .ok (.iinc 3 1, 3) := by decide +kernel
theorem dX0_mostWithoutGap_27 : decode cX0_mostWithoutGap 27 = .ok (.goto (-25), 3) := by decide +kernel
theorem dX0_mostWithoutGap_30 : decode cX0_mostWithoutGap 30 = .ok (.iconst 0, 1) := by decide +kernel
theorem dX0_mostWithoutGap_31 : decode cX0_mostWithoutGap 31 = .ok (.istore_n 3, 1) := by decide +kernel
theorem dX0_mostWithoutGap_32 : decode cX0_mostWithoutGap 32 = .ok (.iload_n 3, 1) := by decide +kernel
theorem dX0_mostWithoutGap_33 : decode cX0_mostWithoutGap 33 = .ok (.aload_n 0, 1) := by decide +kernel
theorem dX0_mostWithoutGap_34 : decode cX0_mostWithoutGap 34 = .ok (.getfield 9, 3) := by decide +kernel
theorem dX0_mostWithoutGap_37 : decode cX0_mostWithoutGap 37 = .ok (.if_icmp .ge 88, 3) := by decide +kernel
theorem dX0_mostWithoutGap_40 : decode cX0_mostWithoutGap 40 = .ok (.aload_n 0, 1) := by decide +kernel
theorem dX0_mostWithoutGap_41 : decode cX0_mostWithoutGap 41 = .ok (.getfield 19, 3) := by decide +kernel
theorem dX0_mostWithoutGap_44 : decode cX0_mostWithoutGap 44 = .ok (.iload_n 3, 1) := by decide +kernel
theorem dX0_mostWithoutGap_45 : decode cX0_mostWithoutGap 45 = .ok (.iaload, 1) := by decide +kernel
theorem dX0_mostWithoutGap_46 : decode cX0_mostWithoutGap 46 = .ok (.istore 4, 2) := by decide +kernel
theorem dX0_mostWithoutGap_48 : decode cX0_mostWithoutGap 48 = .ok (.aload_n 0, 1) := by decide +kernel
theorem dX0_mostWithoutGap_49 : decode cX0_mostWithoutGap 49 = .ok (.getfield 22, 3) := by decide +kernel
theorem dX0_mostWithoutGap_52 : decode cX0_mostWithoutGap 52 = .ok (.iload_n 3, 1) := by decide +kernel
theorem dX0_mostWithoutGap_53 : decode cX0_mostWithoutGap 53 = .ok (.iaload, 1) := by decide +kernel
theorem dX0_mostWithoutGap_54 : decode cX0_mostWithoutGap 54 = .ok (.istore 5, 2) := by decide +kernel
theorem dX0_mostWithoutGap_56 : decode cX0_mostWithoutGap 56 = .ok (.aload_n 0, 1) := by decide +kernel
theorem dX0_mostWithoutGap_57 : decode cX0_mostWithoutGap 57 = .ok (.getfield 15, 3) := by decide +kernel
theorem dX0_mostWithoutGap_60 : decode cX0_mostWithoutGap 60 = .ok (.iload_n 3, 1) := by decide +kernel
theorem dX0_mostWithoutGap_61 : decode cX0_mostWithoutGap 61 = .ok (.iaload, 1) := by decide +kernel
theorem dX0_mostWithoutGap_62 : decode cX0_mostWithoutGap 62 = .ok (.iload_n 1, 1) := by decide +kernel
theorem dX0_mostWithoutGap_63 : decode cX0_mostWithoutGap 63 = .ok (.if_icmp .ne 56, 3) := by decide +kernel
theorem dX0_mostWithoutGap_66 : decode cX0_mostWithoutGap 66 = .ok (.iload 4, 2) := by decide +kernel
theorem dX0_mostWithoutGap_68 : decode cX0_mostWithoutGap 68 = .ok (.invokestatic 45, 3) := by decide +kernel
theorem dX0_mostWithoutGap_71 : decode cX0_mostWithoutGap 71 = .ok (.ifCond .eq 48, 3) := by decide +kernel
theorem dX0_mostWithoutGap_74 : decode cX0_mostWithoutGap 74 = .ok (.iload 5, 2) := by decide +kernel
theorem dX0_mostWithoutGap_76 : decode cX0_mostWithoutGap 76 = .ok (.invokestatic 45, 3) := by decide +kernel
theorem dX0_mostWithoutGap_79 : decode cX0_mostWithoutGap 79 = .ok (.ifCond .eq 40, 3) := by decide +kernel
theorem dX0_mostWithoutGap_82 : decode cX0_mostWithoutGap 82 = .ok (.aload_n 0, 1) := by decide +kernel
theorem dX0_mostWithoutGap_83 : decode cX0_mostWithoutGap 83 = .ok (.getfield 28, 3) := by decide +kernel
theorem dX0_mostWithoutGap_86 : decode cX0_mostWithoutGap 86 = .ok (.iload 4, 2) := by decide +kernel
theorem dX0_mostWithoutGap_88 : decode cX0_mostWithoutGap 88 = .ok (.iaload, 1) := by decide +kernel
theorem dX0_mostWithoutGap_89 : decode cX0_mostWithoutGap 89 = .ok (.iconst (-1), 1) := by decide +kernel
theorem dX0_mostWithoutGap_90 : decode cX0_mostWithoutGap 90 = .ok (.if_icmp .eq 29, 3) := by decide +kernel
theorem dX0_mostWithoutGap_93 : decode cX0_mostWithoutGap 93 = .ok (.aload_n 0, 1) := by decide +kernel
theorem dX0_mostWithoutGap_94 : decode cX0_mostWithoutGap 94 = .ok (.getfield 28, 3) := by decide +kernel
theorem dX0_mostWithoutGap_97 : decode cX0_mostWithoutGap 97 = .ok (.iload 5, 2) := by decide +kernel
theorem dX0_mostWithoutGap_99 : decode cX0_mostWithoutGap 99 = .ok (.aload_n 0, 1) := by decide +kernel
theorem dX0_mostWithoutGap_100 : decode cX0_mostWithoutGap 100 = .ok (.getfield 28, 3) := by decide +kernel
theorem dX0_mostWithoutGap_103 : decode cX0_mostWithoutGap 103 = .ok (.iload 5, 2) := by decide +kernel
theorem dX0_mostWithoutGap_105 : decode cX0_mostWithoutGap 105 = .ok (.iaload, 1) := by decide +kernel
theorem dX0_mostWithoutGap_106 : decode cX0_mostWithoutGap 106 = .ok (.aload_n 0, 1) := by decide +kernel
theorem dX0_mostWithoutGap_107 : decode cX0_mostWithoutGap 107 = .ok (.getfield 28, 3) := by decide +kernel
theorem dX0_mostWithoutGap_110 : decode cX0_mostWithoutGap 110 = .ok (.iload 4, 2) := by decide +kernel
theorem dX0_mostWithoutGap_112 : decode cX0_mostWithoutGap 112 = .ok (.iaload, 1) := by decide +kernel
theorem dX0_mostWithoutGap_113 : decode cX0_mostWithoutGap 113 = .ok (.iconst 1, 1) := by decide +kernel
theorem dX0_mostWithoutGap_114 : decode cX0_mostWithoutGap 114 = .ok (.iadd, 1) := by decide +kernel
theorem dX0_mostWithoutGap_115 : decode cX0_mostWithoutGap 115 = .ok (.invokestatic 49, 3) := by decide +kernel
theorem dX0_mostWithoutGap_118 : decode cX0_mostWithoutGap 118 = .ok (.iastore, 1) := by decide +kernel
theorem dX0_mostWithoutGap_119 : decode cX0_mostWithoutGap 119 = .ok (.iinc 3 1, 3) := by decide +kernel
theorem dX0_mostWithoutGap_122 : decode cX0_mostWithoutGap 122 = .ok (.goto (-90), 3) := by decide +kernel
theorem dX0_mostWithoutGap_125 : decode cX0_mostWithoutGap 125 = .ok (.aload_n 0, 1) := by decide +kernel
theorem dX0_mostWithoutGap_126 : decode cX0_mostWithoutGap 126 = .ok (.iload_n 1, 1) := by decide +kernel
theorem dX0_mostWithoutGap_127 : decode cX0_mostWithoutGap 127 = .ok (.iload_n 2, 1) := by decide +kernel
theorem dX0_mostWithoutGap_128 : decode cX0_mostWithoutGap 128 = .ok (.aload_n 0, 1) := by decide +kernel
theorem dX0_mostWithoutGap_129 : decode cX0_mostWithoutGap 129 = .ok (.getfield 9, 3) := by decide +kernel
theorem dX0_mostWithoutGap_132 : decode cX0_mostWithoutGap 132 = .ok (.invokevirtual 41, 3) := by decide +kernel
theorem dX0_mostWithoutGap_135 : decode cX0_mostWithoutGap 135 = .ok (.istore_n 3, 1) := by decide +kernel
theorem dX0_mostWithoutGap_136 : decode cX0_mostWithoutGap 136 = .ok (.iload_n 3, 1) := by decide +kernel
theorem dX0_mostWithoutGap_137 : decode cX0_mostWithoutGap 137 = .ok (.invokestatic 45, 3) := by decide +kernel
theorem dX0_mostWithoutGap_140 : decode cX0_mostWithoutGap 140 = .ok (.ifCond .eq 12, 3) := by decide +kernel
theorem dX0_mostWithoutGap_143 : decode cX0_mostWithoutGap 143 = .ok (.aload_n 0, 1) := by decide +kernel
theorem dX0_mostWithoutGap_144 : decode cX0_mostWithoutGap 144 = .ok (.getfield 28, 3) := by decide +kernel
theorem dX0_mostWithoutGap_147 : decode cX0_mostWithoutGap 147 = .ok (.iload_n 3, 1) := by decide +kernel
theorem dX0_mostWithoutGap_148 : decode cX0_mostWithoutGap 148 = .ok (.iaload, 1) := by decide +kernel
theorem dX0_mostWithoutGap_149 : decode cX0_mostWithoutGap 149 = .ok (.goto 4, 3) := by decide +kernel
theorem dX0_mostWithoutGap_152 : decode cX0_mostWithoutGap 152 = .ok (.iconst 0, 1) := by decide +kernel
theorem dX0_mostWithoutGap_153 : decode cX0_mostWithoutGap 153 = .ok (.ireturn, 1) := by decide +kernel
theorem dX1_copyFrom_0 : decode cX1_copyFrom 0 = .ok (.aload_n 0, 1) := by decide +kernel
theorem dX1_copyFrom_1 : decode cX1_copyFrom 1 = .ok (.aload_n 1, 1) := by decide +kernel
theorem dX1_copyFrom_2 : decode cX1_copyFrom 2 = .ok (.getfield 9, 3) := by decide +kernel
theorem dX1_copyFrom_5 : decode cX1_copyFrom 5 = .ok (.putfield 9, 3) := by decide +kernel
theorem dX1_copyFrom_8 : decode cX1_copyFrom 8 = .ok (.aload_n 1, 1) := by decide +kernel
theorem dX1_copyFrom_9 : decode cX1_copyFrom 9 = .ok (.getfield 15, 3) := by decide +kernel
theorem dX1_copyFrom_12 : decode cX1_copyFrom 12 = .ok (.iconst 0, 1) := by decide +kernel
theorem dX1_copyFrom_13 : decode cX1_copyFrom 13 = .ok (.aload_n 0, 1) := by decide +kernel
theorem dX1_copyFrom_14 : decode cX1_copyFrom 14 = .ok (.getfield 15, 3) := by decide +kernel
theorem dX1_copyFrom_17 : decode cX1_copyFrom 17 = .ok (.iconst 0, 1) := by decide +kernel
theorem dX1_copyFrom_18 : decode cX1_copyFrom 18 = .ok (.bipush 30, 2) := by decide +kernel
theorem dX1_copyFrom_20 : decode cX1_copyFrom 20 = .ok (.invokestatic 31, 3) := by decide +kernel
theorem dX1_copyFrom_23 : decode cX1_copyFrom 23 = .ok (.aload_n 1, 1) := by decide +kernel
theorem dX1_copyFrom_24 : decode cX1_copyFrom 24 = .ok (.getfield 19, 3) := by decide +kernel
theorem dX1_copyFrom_27 : decode cX1_copyFrom 27 = .ok (.iconst 0, 1) := by decide +kernel
theorem dX1_copyFrom_28 : decode cX1_copyFrom 28 = .ok (.aload_n 0, 1) := by decide +kernel
theorem dX1_copyFrom_29 : decode cX1_copyFrom 29 = .ok (.getfield 19, 3) := by decide +kernel
theorem dX1_copyFrom_32 : decode cX1_copyFrom 32 = .ok (.iconst 0, 1) := by decide +kernel
theorem dX1_copyFrom_33 : decode cX1_copyFrom 33 = .ok (.bipush 30, 2) := by decide +kernel
theorem dX1_copyFrom_35 : decode cX1_copyFrom 35 = .ok (.invokestatic 31, 3) := by decide +kernel
theorem dX1_copyFrom_38 : decode cX1_copyFrom 38 = .ok (.aload_n 1, 1) := by decide +kernel
theorem dX1_copyFrom_39 : decode cX1_copyFrom 39 = .ok (.getfield 22, 3) := by decide +kernel
theorem dX1_copyFrom_42 : decode cX1_copyFrom 42 = .ok (.iconst 0, 1) := by decide +kernel
theorem dX1_copyFrom_43 : decode cX1_copyFrom 43 = .ok (.aload_n 0, 1) := by decide +kernel
theorem dX1_copyFrom_44 : decode cX1_copyFrom 44 = .ok (.getfield 22, 3) := by decide +kernel
theorem dX1_copyFrom_47 : decode cX1_copyFrom 47 = .ok (.iconst 0, 1) := by decide +kernel
theorem dX1_copyFrom_48 : decode cX1_copyFrom 48 = .ok (.bipush 30, 2) := by decide +kernel
theorem dX1_copyFrom_50 : decode cX1_copyFrom 50 = .ok (.invokestatic 31, 3) := by decide +kernel
theorem dX1_copyFrom_53 : decode cX1_copyFrom 53 = .ok (.aload_n 1, 1) := by decide +kernel
theorem dX1_copyFrom_54 : decode cX1_copyFrom 54 = .ok (.getfield 25, 3) := by decide +kernel
theorem dX1_copyFrom_57 : decode cX1_copyFrom 57 = .ok (.iconst 0, 1) := by decide +kernel
theorem dX1_copyFrom_58 : decode cX1_copyFrom 58 = .ok (.aload_n 0, 1) := by decide +kernel
theorem dX1_copyFrom_59 : decode cX1_copyFrom 59 = .ok (.getfield 25, 3) := by decide +kernel
theorem dX1_copyFrom_62 : decode cX1_copyFrom 62 = .ok (.iconst 0, 1) := by decide +kernel
theorem dX1_copyFrom_63 : decode cX1_copyFrom 63 = .ok (.bipush 30, 2) := by decide +kernel
theorem dX1_copyFrom_65 : decode cX1_copyFrom 65 = .ok (.invokestatic 31, 3) := by decide +kernel
theorem dX1_copyFrom_68 : decode cX1_copyFrom 68 = .ok (.aload_n 1, 1) := by decide +kernel
theorem dX1_copyFrom_69 : decode cX1_copyFrom 69 = .ok (.getfield 28, 3) := by decide +kernel
theorem dX1_copyFrom_72 : decode cX1_copyFrom 72 = .ok (.iconst 0, 1) := by decide +kernel
theorem dX1_copyFrom_73 : decode cX1_copyFrom 73 = .ok (.aload_n 0, 1) := by decide +kernel
theorem dX1_copyFrom_74 : decode cX1_copyFrom 74 = .ok (.getfield 28, 3) := by decide +kernel
theorem dX1_copyFrom_77 : decode cX1_copyFrom 77 = .ok (.iconst 0, 1) := by decide +kernel
theorem dX1_copyFrom_78 : decode cX1_copyFrom 78 = .ok (.bipush 30, 2) := by decide +kernel
theorem dX1_copyFrom_80 : decode cX1_copyFrom 80 = .ok (.invokestatic 31, 3) := by decide +kernel
theorem dX1_copyFrom_83 : decode cX1_copyFrom 83 = .ok (.return_, 1) := by decide +kernel
theorem dX1_has_0 : decode cX1_has 0 = .ok (.iload_n 1, 1) := by decide +kernel
theorem dX1_has_1 : decode cX1_has 1 = .ok (.ifCond .lt 15, 3) := by decide +kernel
theorem dX1_has_4 : decode cX1_has 4 = .ok (.iload_n 1, 1) := by decide +kernel
theorem dX1_has_5 : decode cX1_has 5 = .ok (.aload_n 0, 1) := by decide +kernel
theorem dX1_has_6 : decode cX1_has 6 = .ok (.getfield 9, 3) := by decide +kernel
theorem dX1_has_9 : decode cX1_has 9 = .ok (.if_icmp .ge 7, 3) := by decide +kernel
theorem dX1_has_12 : decode cX1_has 12 = .ok (.iconst 1, 1) := by decide +kernel
theorem dX1_has_13 : decode cX1_has 13 = .ok (.goto 4, 3) := by decide +kernel
theorem dX1_has_16 : decode cX1_has 16 = .ok (.iconst 0, 1) := by decide +kernel
theorem dX1_has_17 : decode cX1_has 17 = .ok (.ireturn, 1) := by decide +kernel
set_option maxRecDepth 20000 in
theorem ggX1_isLive_X1_has : GoodIn wsX1_isLive wsX1_has := goodIn_r _ [6, 7, 8, 9, 10, 11, 12, 13] (by decide +kernel) (by decide +kernel)
set_option maxRecDepth 20000 in
theorem gX1_isLive_X1_has : GoodIn wsX1_isLive (wsV RX1 37 RX1 yX1_has wsX1_has) := goodIn_app (goodIn_of _ (by decide +kernel)) ggX1_isLive_X1_has
theorem dX1_isLive_0 : decode cX1_isLive 0 = .ok (.aload_n 0, 1) := by decide +kernel
theorem dX1_isLive_1 : decode cX1_isLive 1 = .ok (.iload_n 1, 1) := by decide +kernel
theorem dX1_isLive_2 : decode cX1_isLive 2 = .ok (.invokevirtual 37, 3) := by decide +kernel
theorem dX1_isLive_5 : decode cX1_isLive 5 = .ok (.ifCond .eq 17, 3) := by decide +kernel
theorem dX1_isLive_8 : decode cX1_isLive 8 = .ok (.aload_n 0, 1) := by decide +kernel
theorem dX1_isLive_9 : decode cX1_isLive 9 = .ok (.getfield 28, 3) := by decide +kernel
theorem dX1_isLive_12 : decode cX1_isLive 12 = .ok (.iload_n 1, 1) := by decide +kernel
theorem dX1_isLive_13 : decode cX1_isLive 13 = .ok (.iaload, 1) := by decide +kernel
theorem dX1_isLive_14 : decode cX1_isLive 14 = .ok (.iconst (-1), 1) := by decide +kernel
theorem dX1_isLive_15 : decode cX1_isLive 15 = .ok (.if_icmp .ne 7, 3) := by decide +kernel
theorem dX1_isLive_18 : decode cX1_isLive 18 = .ok (.iconst 1, 1) := by decide +kernel
theorem dX1_isLive_19 : decode cX1_isLive 19 = .ok (.goto 4, 3) := by decide +kernel
theorem dX1_isLive_22 : decode cX1_isLive 22 = .ok (.iconst 0, 1) := by decide +kernel
theorem dX1_isLive_23 : decode cX1_isLive 23 = .ok (.ireturn, 1) := by decide +kernel
theorem dX1_come_0 : decode cX1_come 0 = .ok (.aload_n 0, 1) := by decide +kernel
theorem dX1_come_1 : decode cX1_come 1 = .ok (.getfield 9, 3) := by decide +kernel
theorem dX1_come_4 : decode cX1_come 4 = .ok (.bipush 30, 2) := by decide +kernel
theorem dX1_come_6 : decode cX1_come 6 = .ok (.if_icmp .lt 5, 3) := by decide +kernel
theorem dX1_come_9 : decode cX1_come 9 = .ok (.iconst (-1), 1) := by decide +kernel
theorem dX1_come_10 : decode cX1_come 10 = .ok (.ireturn, 1) := by decide +kernel
theorem dX1_come_11 : decode cX1_come 11 = .ok (.aload_n 0, 1) := by decide +kernel
theorem dX1_come_12 : decode cX1_come 12 = .ok (.getfield 15, 3) := by decide +kernel
theorem dX1_come_15 : decode cX1_come 15 = .ok (.aload_n 0, 1) := by decide +kernel
theorem dX1_come_16 : decode cX1_come 16 = .ok (.getfield 9, 3) := by decide +kernel
theorem dX1_come_19 : decode cX1_come 19 = .ok (.iload_n 1, 1) := by decide +kernel
theorem dX1_come_20 : decode cX1_come 20 = .ok (.iastore, 1) := by decide +kernel
theorem dX1_come_21 : decode cX1_come 21 = .ok (.aload_n 0, 1) := by decide +kernel
theorem dX1_come_22 : decode cX1_come 22 = .ok (.getfield 19, 3) := by decide +kernel
theorem dX1_come_25 : decode cX1_come 25 = .ok (.aload_n 0, 1) := by decide +kernel
theorem dX1_come_26 : decode cX1_come 26 = .ok (.getfield 9, 3) := by decide +kernel
theorem dX1_come_29 : decode cX1_come 29 = .ok (.iload_n 2, 1) := by decide +kernel
theorem dX1_come_30 : decode cX1_come 30 = .ok (.iastore, 1) := by decide +kernel
theorem dX1_come_31 : decode cX1_come 31 = .ok (.aload_n 0, 1) := by decide +kernel
theorem dX1_come_32 : decode cX1_come 32 = .ok (.getfield 22, 3) := by decide +kernel
theorem dX1_come_35 : decode cX1_come 35 = .ok (.aload_n 0, 1) := by decide +kernel
theorem dX1_come_36 : decode cX1_come 36 = .ok (.getfield 9, 3) := by decide +kernel
theorem dX1_come_39 : decode cX1_come 39 = .ok (.iload_n 3, 1) := by decide +kernel
theorem dX1_come_40 : decode cX1_come 40 = .ok (.iastore, 1) := by decide +kernel
theorem dX1_come_41 : decode cX1_come 41 = .ok (.aload_n 0, 1) := by decide +kernel
theorem dX1_come_42 : decode cX1_come 42 = .ok (.getfield 25, 3) := by decide +kernel
theorem dX1_come_45 : decode cX1_come 45 = .ok (.aload_n 0, 1) := by decide +kernel
theorem dX1_come_46 : decode cX1_come 46 = .ok (.getfield 9, 3) := by decide +kernel
theorem dX1_come_49 : decode cX1_come 49 = .ok (.iload 4, 2) := by decide +kernel
theorem dX1_come_51 : decode cX1_come 51 = .ok (.iastore, 1) := by decide +kernel
theorem dX1_come_52 : decode cX1_come 52 = .ok (.aload_n 0, 1) := by decide +kernel
theorem dX1_come_53 : decode cX1_come 53 = .ok (.getfield 28, 3) := by decide +kernel
theorem dX1_come_56 : decode cX1_come 56 = .ok (.aload_n 0, 1) := by decide +kernel
theorem dX1_come_57 : decode cX1_come 57 = .ok (.getfield 9, 3) := by decide +kernel
theorem dX1_come_60 : decode cX1_come 60 = .ok (.iconst (-1), 1) := by decide +kernel
theorem dX1_come_61 : decode cX1_come 61 = .ok (.iastore, 1) := by decide +kernel
theorem dX1_come_62 : decode cX1_come 62 = .ok (.aload_n 0, 1) := by decide +kernel
theorem dX1_come_63 : decode cX1_come 63 = .ok (.dup, 1) := by decide +kernel
theorem dX1_come_64 : decode cX1_come 64 = .ok (.getfield 9, 3) := by decide +kernel
theorem dX1_come_67 : decode cX1_come 67 = .ok (.iconst 1, 1) := by decide +kernel
theorem dX1_come_68 : decode cX1_come 68 = .ok (.iadd, 1) := by decide +kernel
theorem dX1_come_69 : decode cX1_come 69 = .ok (.putfield 9, 3) := by decide +kernel
theorem dX1_come_72 : decode cX1_come 72 = .ok (.aload_n 0, 1) := by decide +kernel
theorem dX1_come_73 : decode cX1_come 73 = .ok (.getfield 9, 3) := by decide +kernel
theorem dX1_come_76 : decode cX1_come 76 = .ok (.iconst 1, 1) := by decide +kernel
theorem dX1_come_77 : decode cX1_come 77 = .ok (.isub, 1) := by decide +kernel
theorem dX1_come_78 : decode cX1_come 78 = .ok (.ireturn, 1) := by decide +kernel
set_option maxRecDepth 20000 in
theorem ggX1_end_X1_has : GoodIn wsX1_end wsX1_has := goodIn_r _ [6, 7, 8, 9, 10, 11, 12, 13] (by decide +kernel) (by decide +kernel)
set_option maxRecDepth 20000 in
theorem gX1_end_X1_has : GoodIn wsX1_end (wsV RX1 37 RX1 yX1_has wsX1_has) := goodIn_app (goodIn_of _ (by decide +kernel)) ggX1_end_X1_has
theorem dX1_end_0 : decode cX1_end 0 = .ok (.aload_n 0, 1) := by decide +kernel
theorem dX1_end_1 : decode cX1_end 1 = .ok (.iload_n 1, 1) := by decide +kernel
theorem dX1_end_2 : decode cX1_end 2 = .ok (.invokevirtual 37, 3) := by decide +kernel
theorem dX1_end_5 : decode cX1_end 5 = .ok (.ifCond .eq 10, 3) := by decide +kernel
theorem dX1_end_8 : decode cX1_end 8 = .ok (.aload_n 0, 1) := by decide +kernel
theorem dX1_end_9 : decode cX1_end 9 = .ok (.getfield 28, 3) := by decide +kernel
theorem dX1_end_12 : decode cX1_end 12 = .ok (.iload_n 1, 1) := by decide +kernel
theorem dX1_end_13 : decode cX1_end 13 = .ok (.iload_n 2, 1) := by decide +kernel
theorem dX1_end_14 : decode cX1_end 14 = .ok (.iastore, 1) := by decide +kernel
theorem dX1_end_15 : decode cX1_end 15 = .ok (.return_, 1) := by decide +kernel
theorem dX1_liveCount_0 : decode cX1_liveCount 0 = .ok (.iconst 0, 1) := by decide +kernel
theorem dX1_liveCount_1 : decode cX1_liveCount 1 = .ok (.istore_n 1, 1) := by decide +kernel
theorem dX1_liveCount_2 : decode cX1_liveCount 2 = .ok (.iconst 0, 1) := by decide +kernel
theorem dX1_liveCount_3 : decode cX1_liveCount 3 = .ok (.istore_n 2, 1) := by decide +kernel
theorem dX1_liveCount_4 : decode cX1_liveCount 4 = .ok (.iload_n 2, 1) := by decide +kernel
theorem dX1_liveCount_5 : decode cX1_liveCount 5 = .ok (.aload_n 0, 1) := by decide +kernel
theorem dX1_liveCount_6 : decode cX1_liveCount 6 = .ok (.getfield 9, 3) := by decide +kernel
theorem dX1_liveCount_9 : decode cX1_liveCount 9 = .ok (.if_icmp .ge 22, 3) := by decide +kernel
theorem dX1_liveCount_12 : decode cX1_liveCount 12 = .ok (.aload_n 0, 1) := by decide +kernel
theorem dX1_liveCount_13 : decode cX1_liveCount 13 = .ok (.getfield 28, 3) := by decide +kernel
theorem dX1_liveCount_16 : decode cX1_liveCount 16 = .ok (.iload_n 2, 1) := by decide +kernel
theorem dX1_liveCount_17 : decode cX1_liveCount 17 = .ok (.iaload, 1) := by decide +kernel
theorem dX1_liveCount_18 : decode cX1_liveCount 18 = .ok (.iconst (-1), 1) := by decide +kernel
theorem dX1_liveCount_19 : decode cX1_liveCount 19 = .ok (.if_icmp .ne 6, 3) := by decide +kernel
theorem dX1_liveCount_22 : decode cX1_liveCount 22 = .ok (.iinc 1 1, 3) := by decide +kernel
theorem dX1_liveCount_25 : decode cX1_liveCount 25 = .ok (.iinc 2 1, 3) := by decide +kernel
theorem dX1_liveCount_28 : decode cX1_liveCount 28 = .ok (.goto (-24), 3) := by decide +kernel
theorem dX1_liveCount_31 : decode cX1_liveCount 31 = .ok (.iload_n 1, 1) := by decide +kernel
theorem dX1_liveCount_32 : decode cX1_liveCount 32 = .ok (.ireturn, 1) := by decide +kernel
theorem dX1_liveOn_0 : decode cX1_liveOn 0 = .ok (.iconst 0, 1) := by decide +kernel
theorem dX1_liveOn_1 : decode cX1_liveOn 1 = .ok (.istore_n 2, 1) := by decide +kernel
theorem dX1_liveOn_2 : decode cX1_liveOn 2 = .ok (.iconst 0, 1) := by decide +kernel
theorem dX1_liveOn_3 : decode cX1_liveOn 3 = .ok (.istore_n 3, 1) := by decide +kernel
theorem dX1_liveOn_4 : decode cX1_liveOn 4 = .ok (.iload_n 3, 1) := by decide +kernel
theorem dX1_liveOn_5 : decode cX1_liveOn 5 = .ok (.aload_n 0, 1) := by decide +kernel
theorem dX1_liveOn_6 : decode cX1_liveOn 6 = .ok (.getfield 9, 3) := by decide +kernel
theorem dX1_liveOn_9 : decode cX1_liveOn 9 = .ok (.if_icmp .ge 35, 3) := by decide +kernel
theorem dX1_liveOn_12 : decode cX1_liveOn 12 = .ok (.aload_n 0, 1) := by decide +kernel
theorem dX1_liveOn_13 : decode cX1_liveOn 13 = .ok (.getfield 28, 3) := by decide +kernel
theorem dX1_liveOn_16 : decode cX1_liveOn 16 = .ok (.iload_n 3, 1) := by decide +kernel
theorem dX1_liveOn_17 : decode cX1_liveOn 17 = .ok (.iaload, 1) := by decide +kernel
theorem dX1_liveOn_18 : decode cX1_liveOn 18 = .ok (.iconst (-1), 1) := by decide +kernel
theorem dX1_liveOn_19 : decode cX1_liveOn 19 = .ok (.if_icmp .ne 19, 3) := by decide +kernel
theorem dX1_liveOn_22 : decode cX1_liveOn 22 = .ok (.aload_n 0, 1) := by decide +kernel
theorem dX1_liveOn_23 : decode cX1_liveOn 23 = .ok (.getfield 19, 3) := by decide +kernel
theorem dX1_liveOn_26 : decode cX1_liveOn 26 = .ok (.iload_n 3, 1) := by decide +kernel
theorem dX1_liveOn_27 : decode cX1_liveOn 27 = .ok (.iaload, 1) := by decide +kernel
theorem dX1_liveOn_28 : decode cX1_liveOn 28 = .ok (.iload_n 1, 1) := by decide +kernel
theorem dX1_liveOn_29 : decode cX1_liveOn 29 = .ok (.if_icmp .ne 9, 3) := by decide +kernel
theorem dX1_liveOn_32 : decode cX1_liveOn 32 = .ok (.iload_n 2, 1) := by decide +kernel
theorem dX1_liveOn_33 : decode cX1_liveOn 33 = .ok (.iconst 1, 1) := by decide +kernel
theorem dX1_liveOn_34 : decode cX1_liveOn 34 = .ok (.iload_n 3, 1) := by decide +kernel
theorem dX1_liveOn_35 : decode cX1_liveOn 35 = .ok (.ishl, 1) := by decide +kernel
theorem dX1_liveOn_36 : decode cX1_liveOn 36 = .ok (.ior, 1) := by decide +kernel
theorem dX1_liveOn_37 : decode cX1_liveOn 37 = .ok (.istore_n 2, 1) := by decide +kernel
theorem dX1_liveOn_38 : decode cX1_liveOn 38 = .ok (.iinc 3 1, 3) := by decide +kernel
theorem dX1_liveOn_41 : decode cX1_liveOn 41 = .ok (.goto (-37), 3) := by decide +kernel
theorem dX1_liveOn_44 : decode cX1_liveOn 44 = .ok (.iload_n 2, 1) := by decide +kernel
theorem dX1_liveOn_45 : decode cX1_liveOn 45 = .ok (.ireturn, 1) := by decide +kernel
theorem dX1_liveFor_0 : decode cX1_liveFor 0 = .ok (.iconst 0, 1) := by decide +kernel
theorem dX1_liveFor_1 : decode cX1_liveFor 1 = .ok (.istore_n 2, 1) := by decide +kernel
theorem dX1_liveFor_2 : decode cX1_liveFor 2 = .ok (.iconst 0, 1) := by decide +kernel
theorem dX1_liveFor_3 : decode cX1_liveFor 3 = .ok (.istore_n 3, 1) := by decide +kernel
theorem dX1_liveFor_4 : decode cX1_liveFor 4 = .ok (.iload_n 3, 1) := by decide +kernel
theorem dX1_liveFor_5 : decode cX1_liveFor 5 = .ok (.aload_n 0, 1) := by decide +kernel
theorem dX1_liveFor_6 : decode cX1_liveFor 6 = .ok (.getfield 9, 3) := by decide +kernel
theorem dX1_liveFor_9 : decode cX1_liveFor 9 = .ok (.if_icmp .ge 35, 3) := by decide +kernel
theorem dX1_liveFor_12 : decode cX1_liveFor 12 = .ok (.aload_n 0, 1) := by decide +kernel
theorem dX1_liveFor_13 : decode cX1_liveFor 13 = .ok (.getfield 28, 3) := by decide +kernel
theorem dX1_liveFor_16 : decode cX1_liveFor 16 = .ok (.iload_n 3, 1) := by decide +kernel
theorem dX1_liveFor_17 : decode cX1_liveFor 17 = .ok (.iaload, 1) := by decide +kernel
theorem dX1_liveFor_18 : decode cX1_liveFor 18 = .ok (.iconst (-1), 1) := by decide +kernel
theorem dX1_liveFor_19 : decode cX1_liveFor 19 = .ok (.if_icmp .ne 19, 3) := by decide +kernel
theorem dX1_liveFor_22 : decode cX1_liveFor 22 = .ok (.aload_n 0, 1) := by decide +kernel
theorem dX1_liveFor_23 : decode cX1_liveFor 23 = .ok (.getfield 22, 3) := by decide +kernel
theorem dX1_liveFor_26 : decode cX1_liveFor 26 = .ok (.iload_n 3, 1) := by decide +kernel
theorem dX1_liveFor_27 : decode cX1_liveFor 27 = .ok (.iaload, 1) := by decide +kernel
theorem dX1_liveFor_28 : decode cX1_liveFor 28 = .ok (.iload_n 1, 1) := by decide +kernel
theorem dX1_liveFor_29 : decode cX1_liveFor 29 = .ok (.if_icmp .ne 9, 3) := by decide +kernel
theorem dX1_liveFor_32 : decode cX1_liveFor 32 = .ok (.iload_n 2, 1) := by decide +kernel
theorem dX1_liveFor_33 : decode cX1_liveFor 33 = .ok (.iconst 1, 1) := by decide +kernel
theorem dX1_liveFor_34 : decode cX1_liveFor 34 = .ok (.iload_n 3, 1) := by decide +kernel
theorem dX1_liveFor_35 : decode cX1_liveFor 35 = .ok (.ishl, 1) := by decide +kernel
theorem dX1_liveFor_36 : decode cX1_liveFor 36 = .ok (.ior, 1) := by decide +kernel
theorem dX1_liveFor_37 : decode cX1_liveFor 37 = .ok (.istore_n 2, 1) := by decide +kernel
theorem dX1_liveFor_38 : decode cX1_liveFor 38 = .ok (.iinc 3 1, 3) := by decide +kernel
theorem dX1_liveFor_41 : decode cX1_liveFor 41 = .ok (.goto (-37), 3) := by decide +kernel
theorem dX1_liveFor_44 : decode cX1_liveFor 44 = .ok (.iload_n 2, 1) := by decide +kernel
theorem dX1_liveFor_45 : decode cX1_liveFor 45 = .ok (.ireturn, 1) := by decide +kernel
set_option maxRecDepth 20000 in
theorem ggX1_reachedFrom_X1_lyingFor : GoodIn wsX1_reachedFrom wsX1_lyingFor := goodIn_ca (goodIn_r _ [5, 6, 7, 8, 9, 10, 11, 12, 13, 14, 15, 16, 17, 18, 19] (by decide +kernel) (by decide +kernel)) (goodIn_sub (fun _ h => List.mem_cons_of_mem _ (List.mem_append_right _ h)) (by decide +kernel))
set_option maxRecDepth 20000 in
theorem gX1_reachedFrom_X1_lyingFor : GoodIn wsX1_reachedFrom (wsV RX1 43 RX1 yX1_lyingFor wsX1_lyingFor) := goodIn_app (goodIn_of _ (by decide +kernel)) ggX1_reachedFrom_X1_lyingFor
theorem dX1_reachedFrom_0 : decode cX1_reachedFrom 0 = .ok (.iconst 1, 1) := by decide +kernel
theorem dX1_reachedFrom_1 : decode cX1_reachedFrom 1 = .ok (.iload_n 1, 1) := by decide +kernel
theorem dX1_reachedFrom_2 : decode cX1_reachedFrom 2 = .ok (.ishl, 1) := by decide +kernel
theorem dX1_reachedFrom_3 : decode cX1_reachedFrom 3 = .ok (.istore_n 3, 1) := by decide +kernel
theorem dX1_reachedFrom_4 : decode cX1_reachedFrom 4 = .ok (.iconst 0, 1) := by decide +kernel
theorem dX1_reachedFrom_5 : decode cX1_reachedFrom 5 = .ok (.istore 4, 2) := by decide +kernel
theorem dX1_reachedFrom_7 : decode cX1_reachedFrom 7 = .ok (.iload 4, 2) := by decide +kernel
theorem dX1_reachedFrom_9 : decode cX1_reachedFrom 9 = .ok (.bipush 24, 2) := by decide +kernel
theorem dX1_reachedFrom_11 : decode cX1_reachedFrom 11 = .ok (.if_icmp .ge 18, 3) := by decide +kernel
theorem dX1_reachedFrom_14 : decode cX1_reachedFrom 14 = .ok (.iload_n 3, 1) := by decide +kernel
theorem dX1_reachedFrom_15 : decode cX1_reachedFrom 15 = .ok (.aload_n 0, 1) := by decide +kernel
theorem dX1_reachedFrom_16 : decode cX1_reachedFrom 16 = .ok (.iload_n 3, 1) := by decide +kernel
theorem dX1_reachedFrom_17 : decode cX1_reachedFrom 17 = .ok (.iload_n 2, 1) := by decide +kernel
theorem dX1_reachedFrom_18 : decode cX1_reachedFrom 18 = .ok (.invokevirtual 43, 3) := by decide +kernel
theorem dX1_reachedFrom_21 : decode cX1_reachedFrom 21 = .ok (.ior, 1) := by decide +kernel
theorem dX1_reachedFrom_22 : decode cX1_reachedFrom 22 = .ok (.istore_n 3, 1) := by decide +kernel
theorem dX1_reachedFrom_23 : decode cX1_reachedFrom 23 = .ok (.iinc 4 1, 3) := by decide +kernel
theorem dX1_reachedFrom_26 : decode cX1_reachedFrom 26 = .ok (.goto (-19), 3) := by decide +kernel
theorem dX1_reachedFrom_29 : decode cX1_reachedFrom 29 = .ok (.iload_n 3, 1) := by decide +kernel
theorem dX1_reachedFrom_30 : decode cX1_reachedFrom 30 = .ok (.iconst 1, 1) := by decide +kernel
theorem dX1_reachedFrom_31 : decode cX1_reachedFrom 31 = .ok (.iload_n 1, 1) := by decide +kernel
theorem dX1_reachedFrom_32 : decode cX1_reachedFrom 32 = .ok (.ishl, 1) := by decide +kernel
theorem dX1_reachedFrom_33 : decode cX1_reachedFrom 33 = .ok (.iconst (-1), 1) := by decide +kernel
theorem dX1_reachedFrom_34 : decode cX1_reachedFrom 34 = .ok (.ixor, 1) := by decide +kernel
theorem dX1_reachedFrom_35 : decode cX1_reachedFrom 35 = .ok (.iand, 1) := by decide +kernel
theorem dX1_reachedFrom_36 : decode cX1_reachedFrom 36 = .ok (.ireturn, 1) := by decide +kernel
set_option maxRecDepth 20000 in
theorem ggX1_lyingFor_X7_isIn : GoodIn wsX1_lyingFor wsX7_isIn := goodIn_r _ [8] (by decide +kernel) (by decide +kernel)
set_option maxRecDepth 20000 in
theorem gX1_lyingFor_X7_isIn_n47 : GoodIn wsX1_lyingFor (wsX7_isIn) := ggX1_lyingFor_X7_isIn
theorem dX1_lyingFor_0 : decode cX1_lyingFor 0 = .ok (.iconst 0, 1) := by decide +kernel
theorem dX1_lyingFor_1 : decode cX1_lyingFor 1 = .ok (.istore_n 3, 1) := by decide +kernel
theorem dX1_lyingFor_2 : decode cX1_lyingFor 2 = .ok (.iconst 0, 1) := by decide +kernel
theorem dX1_lyingFor_3 : decode cX1_lyingFor 3 = .ok (.istore 4, 2) := by decide +kernel
theorem dX1_lyingFor_5 : decode cX1_lyingFor 5 = .ok (.iload 4, 2) := by decide +kernel
theorem dX1_lyingFor_7 : decode cX1_lyingFor 7 = .ok (.aload_n 0, 1) := by decide +kernel
theorem dX1_lyingFor_8 : decode cX1_lyingFor 8 = .ok (.getfield 9, 3) := by decide +kernel
theorem dX1_lyingFor_11 : decode cX1_lyingFor 11 = .ok (.if_icmp .ge 57, 3) := by decide +kernel
theorem dX1_lyingFor_14 : decode cX1_lyingFor 14 = .ok (.aload_n 0, 1) := by decide +kernel
theorem dX1_lyingFor_15 : decode cX1_lyingFor 15 = .ok (.getfield 28, 3) := by decide +kernel
theorem dX1_lyingFor_18 : decode cX1_lyingFor 18 = .ok (.iload 4, 2) := by decide +kernel
theorem dX1_lyingFor_20 : decode cX1_lyingFor 20 = .ok (.iaload, 1) := by decide +kernel
theorem dX1_lyingFor_21 : decode cX1_lyingFor 21 = .ok (.iconst (-1), 1) := by decide +kernel
theorem dX1_lyingFor_22 : decode cX1_lyingFor 22 = .ok (.if_icmp .ne 40, 3) := by decide +kernel
theorem dX1_lyingFor_25 : decode cX1_lyingFor 25 = .ok (.aload_n 0, 1) := by decide +kernel
theorem dX1_lyingFor_26 : decode cX1_lyingFor 26 = .ok (.getfield 15, 3) := by decide +kernel
theorem dX1_lyingFor_29 : decode cX1_lyingFor 29 = .ok (.iload 4, 2) := by decide +kernel
theorem dX1_lyingFor_31 : decode cX1_lyingFor 31 = .ok (.iaload, 1) := by decide +kernel
theorem dX1_lyingFor_32 : decode cX1_lyingFor 32 = .ok (.iload_n 2, 1) := by decide +kernel
theorem dX1_lyingFor_33 : decode cX1_lyingFor 33 = .ok (.if_icmp .ne 29, 3) := by decide +kernel
theorem dX1_lyingFor_36 : decode cX1_lyingFor 36 = .ok (.iload_n 1, 1) := by decide +kernel
theorem dX1_lyingFor_37 : decode cX1_lyingFor 37 = .ok (.aload_n 0, 1) := by decide +kernel
theorem dX1_lyingFor_38 : decode cX1_lyingFor 38 = .ok (.getfield 22, 3) := by decide +kernel
theorem dX1_lyingFor_41 : decode cX1_lyingFor 41 = .ok (.iload 4, 2) := by decide +kernel
theorem dX1_lyingFor_43 : decode cX1_lyingFor 43 = .ok (.iaload, 1) := by decide +kernel
theorem dX1_lyingFor_44 : decode cX1_lyingFor 44 = .ok (.invokestatic 47, 3) := by decide +kernel
theorem dX1_lyingFor_47 : decode cX1_lyingFor 47 = .ok (.ifCond .eq 15, 3) := by decide +kernel
theorem dX1_lyingFor_50 : decode cX1_lyingFor 50 = .ok (.iload_n 3, 1) := by decide +kernel
theorem dX1_lyingFor_51 : decode cX1_lyingFor 51 = .ok (.iconst 1, 1) := by decide +kernel
theorem dX1_lyingFor_52 : decode cX1_lyingFor 52 = .ok (.aload_n 0, 1) := by decide +kernel
theorem dX1_lyingFor_53 : decode cX1_lyingFor 53 = .ok (.getfield 19, 3) := by decide +kernel
theorem dX1_lyingFor_56 : decode cX1_lyingFor 56 = .ok (.iload 4, 2) := by decide +kernel
theorem dX1_lyingFor_58 : decode cX1_lyingFor 58 = .ok (.iaload, 1) := by decide +kernel
theorem dX1_lyingFor_59 : decode cX1_lyingFor 59 = .ok (.ishl, 1) := by decide +kernel
theorem dX1_lyingFor_60 : decode cX1_lyingFor 60 = .ok (.ior, 1) := by decide +kernel
theorem dX1_lyingFor_61 : decode cX1_lyingFor 61 = .ok (.istore_n 3, 1) := by decide +kernel
theorem dX1_lyingFor_62 : decode cX1_lyingFor 62 = .ok (.iinc 4 1, 3) := by decide +kernel
theorem dX1_lyingFor_65 : decode cX1_lyingFor 65 = .ok (.goto (-60), 3) := by decide +kernel
theorem dX1_lyingFor_68 : decode cX1_lyingFor 68 = .ok (.iload_n 3, 1) := by decide +kernel
theorem dX1_lyingFor_69 : decode cX1_lyingFor 69 = .ok (.ireturn, 1) := by decide +kernel
set_option maxRecDepth 20000 in
theorem ggX1_followSplit_X1_touches : GoodIn wsX1_followSplit wsX1_touches := goodIn_ca (goodIn_r _ [10, 3, 4, 16, 17, 18, 19, 20, 21] (by decide +kernel) (by decide +kernel)) (goodIn_sub (fun _ h => List.mem_cons_of_mem _ (List.mem_append_right _ h)) (by decide +kernel))
set_option maxRecDepth 20000 in
theorem gX1_followSplit_X1_touches : GoodIn wsX1_followSplit (wsV RX1 51 RX1 yX1_touches wsX1_touches) := goodIn_app (goodIn_of _ (by decide +kernel)) ggX1_followSplit_X1_touches
set_option maxRecDepth 20000 in
theorem ggX1_followSplit_X1_come : GoodIn wsX1_followSplit wsX1_come := goodIn_ca (goodIn_r _ [14, 1, 5, 3, 4, 15, 2, 16, 17, 18, 19, 20, 21] (by decide +kernel) (by decide +kernel)) (goodIn_sub (fun _ h => List.mem_cons_of_mem _ (List.mem_append_right _ h)) (by decide +kernel))
set_option maxRecDepth 20000 in
theorem gX1_followSplit_X1_come : GoodIn wsX1_followSplit (wsV RX1 54 RX1 yX1_come wsX1_come) := goodIn_app (goodIn_of _ (by decide +kernel)) ggX1_followSplit_X1_come
theorem dX1_followSplit_0 : decode cX1_followSplit 0 = .ok (.aload_n 0, 1) := by decide +kernel
theorem dX1_followSplit_1 : decode cX1_followSplit 1 = .ok (.getfield 9, 3) := by decide +kernel
theorem dX1_followSplit_4 : decode cX1_followSplit 4 = .ok (.istore 5, 2) := by decide +kernel
theorem dX1_followSplit_6 : decode cX1_followSplit 6 = .ok (.iconst 0, 1) := by decide +kernel
theorem dX1_followSplit_7 : decode cX1_followSplit 7 = .ok (.istore 6, 2) := by decide +kernel
theorem dX1_followSplit_9 : decode cX1_followSplit 9 = .ok (.iload 6, 2) := by decide +kernel
theorem dX1_followSplit_11 : decode cX1_followSplit 11 = .ok (.iload 5, 2) := by decide +kernel
theorem dX1_followSplit_13 : decode cX1_followSplit 13 = .ok (.if_icmp .ge 154, 3) := by decide +kernel
theorem dX1_followSplit_16 : decode cX1_followSplit 16 = .ok (.aload_n 0, 1) := by decide +kernel
theorem dX1_followSplit_17 : decode cX1_followSplit 17 = .ok (.getfield 28, 3) := by decide +kernel
theorem dX1_followSplit_20 : decode cX1_followSplit 20 = .ok (.iload 6, 2) := by decide +kernel
theorem dX1_followSplit_22 : decode cX1_followSplit 22 = .ok (.iaload, 1) := by decide +kernel
theorem dX1_followSplit_23 : decode cX1_followSplit 23 = .ok (.iconst (-1), 1) := by decide +kernel
theorem dX1_followSplit_24 : decode cX1_followSplit 24 = .ok (.if_icmp .ne 137, 3) := by decide +kernel
theorem dX1_followSplit_27 : decode cX1_followSplit 27 = .ok (.aload_n 0, 1) := by decide +kernel
theorem dX1_followSplit_28 : decode cX1_followSplit 28 = .ok (.iload 6, 2) := by decide +kernel
theorem dX1_followSplit_30 : decode cX1_followSplit 30 = .ok (.iload_n 1, 1) := by decide +kernel
theorem dX1_followSplit_31 : decode cX1_followSplit 31 = .ok (.invokevirtual 51, 3) := by decide +kernel
theorem dX1_followSplit_34 : decode cX1_followSplit 34 = .ok (.ifCond .eq 127, 3) := by decide +kernel
theorem dX1_followSplit_37 : decode cX1_followSplit 37 = .ok (.aload_n 0, 1) := by decide +kernel
theorem dX1_followSplit_38 : decode cX1_followSplit 38 = .ok (.getfield 19, 3) := by decide +kernel
theorem dX1_followSplit_41 : decode cX1_followSplit 41 = .ok (.iload 6, 2) := by decide +kernel
theorem dX1_followSplit_43 : decode cX1_followSplit 43 = .ok (.iaload, 1) := by decide +kernel
theorem dX1_followSplit_44 : decode cX1_followSplit 44 = .ok (.iload_n 1, 1) := by decide +kernel
theorem dX1_followSplit_45 : decode cX1_followSplit 45 = .ok (.if_icmp .ne 7, 3) := by decide +kernel
theorem dX1_followSplit_48 : decode cX1_followSplit 48 = .ok (.iload_n 3, 1) := by decide +kernel
theorem dX1_followSplit_49 : decode cX1_followSplit 49 = .ok (.goto 10, 3) := by decide +kernel
theorem dX1_followSplit_52 : decode cX1_followSplit 52 = .ok (.aload_n 0, 1) := by decide +kernel
theorem dX1_followSplit_53 : decode cX1_followSplit 53 = .ok (.getfield 19, 3) := by decide +kernel
theorem dX1_followSplit_56 : decode cX1_followSplit 56 = .ok (.iload 6, 2) := by decide +kernel
theorem dX1_followSplit_58 : decode cX1_followSplit 58 = .ok (.iaload, 1) := by decide +kernel
theorem dX1_followSplit_59 : decode cX1_followSplit 59 = .ok (.istore 7, 2) := by decide +kernel
theorem dX1_followSplit_61 : decode cX1_followSplit 61 = .ok (.aload_n 0, 1) := by decide +kernel
theorem dX1_followSplit_62 : decode cX1_followSplit 62 = .ok (.getfield 22, 3) := by decide +kernel
theorem dX1_followSplit_65 : decode cX1_followSplit 65 = .ok (.iload 6, 2) := by decide +kernel
theorem dX1_followSplit_67 : decode cX1_followSplit 67 = .ok (.iaload, 1) := by decide +kernel
theorem dX1_followSplit_68 : decode cX1_followSplit 68 = .ok (.iload_n 1, 1) := by decide +kernel
theorem dX1_followSplit_69 : decode cX1_followSplit 69 = .ok (.if_icmp .ne 7, 3) := by decide +kernel
theorem dX1_followSplit_72 : decode cX1_followSplit 72 = .ok (.iload_n 3, 1) := by decide +kernel
theorem dX1_followSplit_73 : decode cX1_followSplit 73 = .ok (.goto 10, 3) := by decide +kernel
theorem dX1_followSplit_76 : decode cX1_followSplit 76 = .ok (.aload_n 0, 1) := by decide +kernel
theorem dX1_followSplit_77 : decode cX1_followSplit 77 = .ok (.getfield 22, 3) := by decide +kernel
theorem dX1_followSplit_80 : decode cX1_followSplit 80 = .ok (.iload 6, 2) := by decide +kernel
theorem dX1_followSplit_82 : decode cX1_followSplit 82 = .ok (.iaload, 1) := by decide +kernel
theorem dX1_followSplit_83 : decode cX1_followSplit 83 = .ok (.istore 8, 2) := by decide +kernel
theorem dX1_followSplit_85 : decode cX1_followSplit 85 = .ok (.aload_n 0, 1) := by decide +kernel
theorem dX1_followSplit_86 : decode cX1_followSplit 86 = .ok (.aload_n 0, 1) := by decide +kernel
theorem dX1_followSplit_87 : decode cX1_followSplit 87 = .ok (.getfield 15, 3) := by decide +kernel
theorem dX1_followSplit_90 : decode cX1_followSplit 90 = .ok (.iload 6, 2) := by decide +kernel
theorem dX1_followSplit_92 : decode cX1_followSplit 92 = .ok (.iaload, 1) := by decide +kernel
theorem dX1_followSplit_93 : decode cX1_followSplit 93 = .ok (.iload 7, 2) := by decide +kernel
theorem dX1_followSplit_95 : decode cX1_followSplit 95 = .ok (.iload 8, 2) := by decide +kernel
theorem dX1_followSplit_97 : decode cX1_followSplit 97 = .ok (.iload 4, 2) := by decide +kernel
theorem dX1_followSplit_99 : decode cX1_followSplit 99 = .ok (.invokevirtual 54, 3) := by decide +kernel
theorem dX1_followSplit_102 : decode cX1_followSplit 102 = .ok (.pop, 1) := by decide +kernel
theorem dX1_followSplit_103 : decode cX1_followSplit 103 = .ok (.aload_n 0, 1) := by decide +kernel
theorem dX1_followSplit_104 : decode cX1_followSplit 104 = .ok (.getfield 19, 3) := by decide +kernel
theorem dX1_followSplit_107 : decode cX1_followSplit 107 = .ok (.iload 6, 2) := by decide +kernel
theorem dX1_followSplit_109 : decode cX1_followSplit 109 = .ok (.aload_n 0, 1) := by decide +kernel
theorem dX1_followSplit_110 : decode cX1_followSplit 110 = .ok (.getfield 19, 3) := by decide +kernel
theorem dX1_followSplit_113 : decode cX1_followSplit 113 = .ok (.iload 6, 2) := by decide +kernel
theorem dX1_followSplit_115 : decode cX1_followSplit 115 = .ok (.iaload, 1) := by decide +kernel
theorem dX1_followSplit_116 : decode cX1_followSplit 116 = .ok (.iload_n 1, 1) := by decide +kernel
theorem dX1_followSplit_117 : decode cX1_followSplit 117 = .ok (.if_icmp .ne 7, 3) := by decide +kernel
theorem dX1_followSplit_120 : decode cX1_followSplit 120 = .ok (.iload_n 2, 1) := by decide +kernel
theorem dX1_followSplit_121 : decode cX1_followSplit 121 = .ok (.goto 10, 3) := by decide +kernel
theorem dX1_followSplit_124 : decode cX1_followSplit 124 = .ok (.aload_n 0, 1) := by decide +kernel
theorem dX1_followSplit_125 : decode cX1_followSplit 125 = .ok (.getfield 19, 3) := by decide +kernel
theorem dX1_followSplit_128 : decode cX1_followSplit 128 = .ok (.iload 6, 2) := by decide +kernel
theorem dX1_followSplit_130 : decode cX1_followSplit 130 = .ok (.iaload, 1) := by decide +kernel
theorem dX1_followSplit_131 : decode cX1_followSplit 131 = .ok (.iastore, 1) := by decide +kernel
theorem dX1_followSplit_132 : decode cX1_followSplit 132 = .ok (.aload_n 0, 1) := by decide +kernel
theorem dX1_followSplit_133 : decode cX1_followSplit 133 = .ok (.getfield 22, 3) := by decide +kernel
theorem dX1_followSplit_136 : decode cX1_followSplit 136 = .ok (.iload 6, 2) := by decide +kernel
theorem dX1_followSplit_138 : decode cX1_followSplit 138 = .ok (.aload_n 0, 1) := by decide +kernel
theorem dX1_followSplit_139 : decode cX1_followSplit 139 = .ok (.getfield 22, 3) := by decide +kernel
theorem dX1_followSplit_142 : decode cX1_followSplit 142 = .ok (.iload 6, 2) := by decide +kernel
theorem dX1_followSplit_144 : decode cX1_followSplit 144 = .ok (.iaload, 1) := by decide +kernel
theorem dX1_followSplit_145 : decode cX1_followSplit 145 = .ok (.iload_n 1, 1) := by decide +kernel
theorem dX1_followSplit_146 : decode cX1_followSplit 146 = .ok (.if_icmp .ne 7, 3) := by decide +kernel
theorem dX1_followSplit_149 : decode cX1_followSplit 149 = .ok (.iload_n 2, 1) := by decide +kernel
theorem dX1_followSplit_150 : decode cX1_followSplit 150 = .ok (.goto 10, 3) := by decide +kernel
theorem dX1_followSplit_153 : decode cX1_followSplit 153 = .ok (.aload_n 0, 1) := by decide +kernel
theorem dX1_followSplit_154 : decode cX1_followSplit 154 = .ok (.getfield 22, 3) := by decide +kernel
theorem dX1_followSplit_157 : decode cX1_followSplit 157 = .ok (.iload 6, 2) := by decide +kernel
theorem dX1_followSplit_159 : decode cX1_followSplit 159 = .ok (.iaload, 1) := by decide +kernel
theorem dX1_followSplit_160 : decode cX1_followSplit 160 = .ok (.iastore, 1) := by decide +kernel
theorem dX1_followSplit_161 : decode cX1_followSplit 161 = .ok (.iinc 6 1, 3) := by decide +kernel
theorem dX1_followSplit_164 : decode cX1_followSplit 164 = .ok (.goto (-155), 3) := by decide +kernel
theorem dX1_followSplit_167 : decode cX1_followSplit 167 = .ok (.return_, 1) := by decide +kernel
set_option maxRecDepth 20000 in
theorem ggX1_followMerge_X1_endRepeated : GoodIn wsX1_followMerge wsX1_endRepeated := goodIn_ca (goodIn_r _ [9, 1, 2, 10, 11, 12, 8, 13, 3, 4, 14, 15, 16, 17, 18, 19, 20, 21, 22, 23, 24] (by decide +kernel) (by decide +kernel)) (goodIn_sub (fun _ h => List.mem_cons_of_mem _ (List.mem_append_right _ h)) (by decide +kernel))
set_option maxRecDepth 20000 in
theorem gX1_followMerge_X1_endRepeated : GoodIn wsX1_followMerge (wsV RX1 58 RX1 yX1_endRepeated wsX1_endRepeated) := goodIn_app (goodIn_of _ (by decide +kernel)) ggX1_followMerge_X1_endRepeated
theorem dX1_followMerge_0 : decode cX1_followMerge 0 = .ok (.iconst 0, 1) := by decide +kernel
theorem dX1_followMerge_1 : decode cX1_followMerge 1 = .ok (.istore 5, 2) := by decide +kernel
theorem dX1_followMerge_3 : decode cX1_followMerge 3 = .ok (.iload 5, 2) := by decide +kernel
theorem dX1_followMerge_5 : decode cX1_followMerge 5 = .ok (.aload_n 0, 1) := by decide +kernel
theorem dX1_followMerge_6 : decode cX1_followMerge 6 = .ok (.getfield 9, 3) := by decide +kernel
theorem dX1_followMerge_9 : decode cX1_followMerge 9 = .ok (.if_icmp .ge 126, 3) := by decide +kernel
theorem dX1_followMerge_12 : decode cX1_followMerge 12 = .ok (.aload_n 0, 1) := by decide +kernel
theorem dX1_followMerge_13 : decode cX1_followMerge 13 = .ok (.getfield 28, 3) := by decide +kernel
theorem dX1_followMerge_16 : decode cX1_followMerge 16 = .ok (.iload 5, 2) := by decide +kernel
theorem dX1_followMerge_18 : decode cX1_followMerge 18 = .ok (.iaload, 1) := by decide +kernel
theorem dX1_followMerge_19 : decode cX1_followMerge 19 = .ok (.iconst (-1), 1) := by decide +kernel
theorem dX1_followMerge_20 : decode cX1_followMerge 20 = .ok (.if_icmp .ne 109, 3) := by decide +kernel
theorem dX1_followMerge_23 : decode cX1_followMerge 23 = .ok (.aload_n 0, 1) := by decide +kernel
theorem dX1_followMerge_24 : decode cX1_followMerge 24 = .ok (.getfield 19, 3) := by decide +kernel
theorem dX1_followMerge_27 : decode cX1_followMerge 27 = .ok (.iload 5, 2) := by decide +kernel
theorem dX1_followMerge_29 : decode cX1_followMerge 29 = .ok (.aload_n 0, 1) := by decide +kernel
theorem dX1_followMerge_30 : decode cX1_followMerge 30 = .ok (.getfield 19, 3) := by decide +kernel
theorem dX1_followMerge_33 : decode cX1_followMerge 33 = .ok (.iload 5, 2) := by decide +kernel
theorem dX1_followMerge_35 : decode cX1_followMerge 35 = .ok (.iaload, 1) := by decide +kernel
theorem dX1_followMerge_36 : decode cX1_followMerge 36 = .ok (.iload_n 1, 1) := by decide +kernel
theorem dX1_followMerge_37 : decode cX1_followMerge 37 = .ok (.if_icmp .eq 14, 3) := by decide +kernel
theorem dX1_followMerge_40 : decode cX1_followMerge 40 = .ok (.aload_n 0, 1) := by decide +kernel
theorem dX1_followMerge_41 : decode cX1_followMerge 41 = .ok (.getfield 19, 3) := by decide +kernel
theorem dX1_followMerge_44 : decode cX1_followMerge 44 = .ok (.iload 5, 2) := by decide +kernel
theorem dX1_followMerge_46 : decode cX1_followMerge 46 = .ok (.iaload, 1) := by decide +kernel
theorem dX1_followMerge_47 : decode cX1_followMerge 47 = .ok (.iload_n 2, 1) := by decide +kernel
theorem dX1_followMerge_48 : decode cX1_followMerge 48 = .ok (.if_icmp .ne 7, 3) := by decide +kernel
theorem dX1_followMerge_51 : decode cX1_followMerge 51 = .ok (.iload_n 3, 1) := by decide +kernel
theorem dX1_followMerge_52 : decode cX1_followMerge 52 = .ok (.goto 10, 3) := by decide +kernel
theorem dX1_followMerge_55 : decode cX1_followMerge 55 = .ok (.aload_n 0, 1) := by decide +kernel
theorem dX1_followMerge_56 : decode cX1_followMerge 56 = .ok (.getfield 19, 3) := by decide +kernel
theorem dX1_followMerge_59 : decode cX1_followMerge 59 = .ok (.iload 5, 2) := by decide +kernel
theorem dX1_followMerge_61 : decode cX1_followMerge 61 = .ok (.iaload, 1) := by decide +kernel
theorem dX1_followMerge_62 : decode cX1_followMerge 62 = .ok (.iastore, 1) := by decide +kernel
theorem dX1_followMerge_63 : decode cX1_followMerge 63 = .ok (.aload_n 0, 1) := by decide +kernel
theorem dX1_followMerge_64 : decode cX1_followMerge 64 = .ok (.getfield 22, 3) := by decide +kernel
theorem dX1_followMerge_67 : decode cX1_followMerge 67 = .ok (.iload 5, 2) := by decide +kernel
theorem dX1_followMerge_69 : decode cX1_followMerge 69 = .ok (.aload_n 0, 1) := by decide +kernel
theorem dX1_followMerge_70 : decode cX1_followMerge 70 = .ok (.getfield 22, 3) := by decide +kernel
theorem dX1_followMerge_73 : decode cX1_followMerge 73 = .ok (.iload 5, 2) := by decide +kernel
theorem dX1_followMerge_75 : decode cX1_followMerge 75 = .ok (.iaload, 1) := by decide +kernel
theorem dX1_followMerge_76 : decode cX1_followMerge 76 = .ok (.iload_n 1, 1) := by decide +kernel
theorem dX1_followMerge_77 : decode cX1_followMerge 77 = .ok (.if_icmp .eq 14, 3) := by decide +kernel
theorem dX1_followMerge_80 : decode cX1_followMerge 80 = .ok (.aload_n 0, 1) := by decide +kernel
theorem dX1_followMerge_81 : decode cX1_followMerge 81 = .ok (.getfield 22, 3) := by decide +kernel
theorem dX1_followMerge_84 : decode cX1_followMerge 84 = .ok (.iload 5, 2) := by decide +kernel
theorem dX1_followMerge_86 : decode cX1_followMerge 86 = .ok (.iaload, 1) := by decide +kernel
theorem dX1_followMerge_87 : decode cX1_followMerge 87 = .ok (.iload_n 2, 1) := by decide +kernel
theorem dX1_followMerge_88 : decode cX1_followMerge 88 = .ok (.if_icmp .ne 7, 3) := by decide +kernel
theorem dX1_followMerge_91 : decode cX1_followMerge 91 = .ok (.iload_n 3, 1) := by decide +kernel
theorem dX1_followMerge_92 : decode cX1_followMerge 92 = .ok (.goto 10, 3) := by decide +kernel
theorem dX1_followMerge_95 : decode cX1_followMerge 95 = .ok (.aload_n 0, 1) := by decide +kernel
theorem dX1_followMerge_96 : decode cX1_followMerge 96 = .ok (.getfield 22, 3) := by decide +kernel
theorem dX1_followMerge_99 : decode cX1_followMerge 99 = .ok (.iload 5, 2) := by decide +kernel
theorem dX1_followMerge_101 : decode cX1_followMerge 101 = .ok (.iaload, 1) := by decide +kernel
theorem dX1_followMerge_102 : decode cX1_followMerge 102 = .ok (.iastore, 1) := by decide +kernel
theorem dX1_followMerge_103 : decode cX1_followMerge 103 = .ok (.aload_n 0, 1) := by decide +kernel
theorem dX1_followMerge_104 : decode cX1_followMerge 104 = .ok (.getfield 19, 3) := by decide +kernel
theorem dX1_followMerge_107 : decode cX1_followMerge 107 = .ok (.iload 5, 2) := by decide +kernel
theorem dX1_followMerge_109 : decode cX1_followMerge 109 = .ok (.iaload, 1) := by decide +kernel
theorem dX1_followMerge_110 : decode cX1_followMerge 110 = .ok (.aload_n 0, 1) := by decide +kernel
theorem dX1_followMerge_111 : decode cX1_followMerge 111 = .ok (.getfield 22, 3) := by decide +kernel
theorem dX1_followMerge_114 : decode cX1_followMerge 114 = .ok (.iload 5, 2) := by decide +kernel
theorem dX1_followMerge_116 : decode cX1_followMerge 116 = .ok (.iaload, 1) := by decide +kernel
theorem dX1_followMerge_117 : decode cX1_followMerge 117 = .ok (.if_icmp .ne 12, 3) := by decide +kernel
theorem dX1_followMerge_120 : decode cX1_followMerge 120 = .ok (.aload_n 0, 1) := by decide +kernel
theorem dX1_followMerge_121 : decode cX1_followMerge 121 = .ok (.getfield 28, 3) := by decide +kernel
theorem dX1_followMerge_124 : decode cX1_followMerge 124 = .ok (.iload 5, 2) := by decide +kernel
theorem dX1_followMerge_126 : decode cX1_followMerge 126 = .ok (.iload 4, 2) := by decide +kernel
theorem dX1_followMerge_128 : decode cX1_followMerge 128 = .ok (.iastore, 1) := by decide +kernel
theorem dX1_followMerge_129 : decode cX1_followMerge 129 = .ok (.iinc 5 1, 3) := by decide +kernel
theorem dX1_followMerge_132 : decode cX1_followMerge 132 = .ok (.goto (-129), 3) := by decide +kernel
theorem dX1_followMerge_135 : decode cX1_followMerge 135 = .ok (.aload_n 0, 1) := by decide +kernel
theorem dX1_followMerge_136 : decode cX1_followMerge 136 = .ok (.iload_n 3, 1) := by decide +kernel
theorem dX1_followMerge_137 : decode cX1_followMerge 137 = .ok (.iload 4, 2) := by decide +kernel
theorem dX1_followMerge_139 : decode cX1_followMerge 139 = .ok (.invokevirtual 58, 3) := by decide +kernel
theorem dX1_followMerge_142 : decode cX1_followMerge 142 = .ok (.return_, 1) := by decide +kernel
set_option maxRecDepth 20000 in
theorem ggX1_endRepeated_X1_touches : GoodIn wsX1_endRepeated wsX1_touches := goodIn_ca (goodIn_r _ [7, 8, 9, 15, 16, 17, 18, 19, 20] (by decide +kernel) (by decide +kernel)) (goodIn_sub (fun _ h => List.mem_cons_of_mem _ (List.mem_append_right _ h)) (by decide +kernel))
set_option maxRecDepth 20000 in
theorem gX1_endRepeated_X1_touches : GoodIn wsX1_endRepeated (wsV RX1 51 RX1 yX1_touches wsX1_touches) := goodIn_app (goodIn_of _ (by decide +kernel)) ggX1_endRepeated_X1_touches
set_option maxRecDepth 20000 in
theorem ggX1_endRepeated_X1_hasTwinAhead : GoodIn wsX1_endRepeated wsX1_hasTwinAhead := goodIn_ca (goodIn_r _ [13, 2, 14, 8, 9, 15, 16, 17, 18, 19, 20] (by decide +kernel) (by decide +kernel)) (goodIn_sub (fun _ h => List.mem_cons_of_mem _ (List.mem_append_right _ h)) (by decide +kernel))
set_option maxRecDepth 20000 in
theorem gX1_endRepeated_X1_hasTwinAhead : GoodIn wsX1_endRepeated (wsV RX1 62 RX1 yX1_hasTwinAhead wsX1_hasTwinAhead) := goodIn_app (goodIn_of _ (by decide +kernel)) ggX1_endRepeated_X1_hasTwinAhead
theorem dX1_endRepeated_0 : decode cX1_endRepeated 0 = .ok (.iconst 0, 1) := by decide +kernel
theorem dX1_endRepeated_1 : decode cX1_endRepeated 1 = .ok (.istore_n 3, 1) := by decide +kernel
theorem dX1_endRepeated_2 : decode cX1_endRepeated 2 = .ok (.iload_n 3, 1) := by decide +kernel
theorem dX1_endRepeated_3 : decode cX1_endRepeated 3 = .ok (.aload_n 0, 1) := by decide +kernel
theorem dX1_endRepeated_4 : decode cX1_endRepeated 4 = .ok (.getfield 9, 3) := by decide +kernel
theorem dX1_endRepeated_7 : decode cX1_endRepeated 7 = .ok (.if_icmp .ge 43, 3) := by decide +kernel
theorem dX1_endRepeated_10 : decode cX1_endRepeated 10 = .ok (.aload_n 0, 1) := by decide +kernel
theorem dX1_endRepeated_11 : decode cX1_endRepeated 11 = .ok (.getfield 28, 3) := by decide +kernel
theorem dX1_endRepeated_14 : decode cX1_endRepeated 14 = .ok (.iload_n 3, 1) := by decide +kernel
theorem dX1_endRepeated_15 : decode cX1_endRepeated 15 = .ok (.iaload, 1) := by decide +kernel
theorem dX1_endRepeated_16 : decode cX1_endRepeated 16 = .ok (.iconst (-1), 1) := by decide +kernel
theorem dX1_endRepeated_17 : decode cX1_endRepeated 17 = .ok (.if_icmp .ne 27, 3) := by decide +kernel
theorem dX1_endRepeated_20 : decode cX1_endRepeated 20 = .ok (.aload_n 0, 1) := by decide +kernel
theorem dX1_endRepeated_21 : decode cX1_endRepeated 21 = .ok (.iload_n 3, 1) := by decide +kernel
theorem dX1_endRepeated_22 : decode cX1_endRepeated 22 = .ok (.iload_n 1, 1) := by decide +kernel
theorem dX1_endRepeated_23 : decode cX1_endRepeated 23 = .ok (.invokevirtual 51, 3) := by decide +kernel
theorem dX1_endRepeated_26 : decode cX1_endRepeated 26 = .ok (.ifCond .eq 18, 3) := by decide +kernel
theorem dX1_endRepeated_29 : decode cX1_endRepeated 29 = .ok (.aload_n 0, 1) := by decide +kernel
theorem dX1_endRepeated_30 : decode cX1_endRepeated 30 = .ok (.iload_n 3, 1) := by decide +kernel
theorem dX1_endRepeated_31 : decode cX1_endRepeated 31 = .ok (.invokevirtual 62, 3) := by decide +kernel
theorem dX1_endRepeated_34 : decode cX1_endRepeated 34 = .ok (.ifCond .eq 10, 3) := by decide +kernel
theorem dX1_endRepeated_37 : decode cX1_endRepeated 37 = .ok (.aload_n 0, 1) := by decide +kernel
theorem dX1_endRepeated_38 : decode cX1_endRepeated 38 = .ok (.getfield 28, 3) := by decide +kernel
theorem dX1_endRepeated_41 : decode cX1_endRepeated 41 = .ok (.iload_n 3, 1) := by decide +kernel
theorem dX1_endRepeated_42 : decode cX1_endRepeated 42 = .ok (.iload_n 2, 1) := by decide +kernel
theorem dX1_endRepeated_43 : decode cX1_endRepeated 43 = .ok (.iastore, 1) := by decide +kernel
theorem dX1_endRepeated_44 : decode cX1_endRepeated 44 = .ok (.iinc 3 1, 3) := by decide +kernel
theorem dX1_endRepeated_47 : decode cX1_endRepeated 47 = .ok (.goto (-45), 3) := by decide +kernel
theorem dX1_endRepeated_50 : decode cX1_endRepeated 50 = .ok (.return_, 1) := by decide +kernel
theorem dX1_touches_0 : decode cX1_touches 0 = .ok (.aload_n 0, 1) := by decide +kernel
theorem dX1_touches_1 : decode cX1_touches 1 = .ok (.getfield 19, 3) := by decide +kernel
theorem dX1_touches_4 : decode cX1_touches 4 = .ok (.iload_n 1, 1) := by decide +kernel
theorem dX1_touches_5 : decode cX1_touches 5 = .ok (.iaload, 1) := by decide +kernel
theorem dX1_touches_6 : decode cX1_touches 6 = .ok (.iload_n 2, 1) := by decide +kernel
theorem dX1_touches_7 : decode cX1_touches 7 = .ok (.if_icmp .eq 13, 3) := by decide +kernel
theorem dX1_touches_10 : decode cX1_touches 10 = .ok (.aload_n 0, 1) := by decide +kernel
theorem dX1_touches_11 : decode cX1_touches 11 = .ok (.getfield 22, 3) := by decide +kernel
theorem dX1_touches_14 : decode cX1_touches 14 = .ok (.iload_n 1, 1) := by decide +kernel
theorem dX1_touches_15 : decode cX1_touches 15 = .ok (.iaload, 1) := by decide +kernel
theorem dX1_touches_16 : decode cX1_touches 16 = .ok (.iload_n 2, 1) := by decide +kernel
theorem dX1_touches_17 : decode cX1_touches 17 = .ok (.if_icmp .ne 7, 3) := by decide +kernel
theorem dX1_touches_20 : decode cX1_touches 20 = .ok (.iconst 1, 1) := by decide +kernel
theorem dX1_touches_21 : decode cX1_touches 21 = .ok (.goto 4, 3) := by decide +kernel
theorem dX1_touches_24 : decode cX1_touches 24 = .ok (.iconst 0, 1) := by decide +kernel
theorem dX1_touches_25 : decode cX1_touches 25 = .ok (.ireturn, 1) := by decide +kernel
theorem dX1_hasTwinAhead_0 : decode cX1_hasTwinAhead 0 = .ok (.iconst 0, 1) := by decide +kernel
theorem dX1_hasTwinAhead_1 : decode cX1_hasTwinAhead 1 = .ok (.istore_n 2, 1) := by decide +kernel
theorem dX1_hasTwinAhead_2 : decode cX1_hasTwinAhead 2 = .ok (.iload_n 2, 1) := by decide +kernel
theorem dX1_hasTwinAhead_3 : decode cX1_hasTwinAhead 3 = .ok (.iload_n 1, 1) := by decide +kernel
theorem dX1_hasTwinAhead_4 : decode cX1_hasTwinAhead 4 = .ok (.if_icmp .ge 66, 3) := by decide +kernel
theorem dX1_hasTwinAhead_7 : decode cX1_hasTwinAhead 7 = .ok (.aload_n 0, 1) := by decide +kernel
theorem dX1_hasTwinAhead_8 : decode cX1_hasTwinAhead 8 = .ok (.getfield 28, 3) := by decide +kernel
theorem dX1_hasTwinAhead_11 : decode cX1_hasTwinAhead 11 = .ok (.iload_n 2, 1) := by decide +kernel
theorem dX1_hasTwinAhead_12 : decode cX1_hasTwinAhead 12 = .ok (.iaload, 1) := by decide +kernel
theorem dX1_hasTwinAhead_13 : decode cX1_hasTwinAhead 13 = .ok (.iconst (-1), 1) := by decide +kernel
theorem dX1_hasTwinAhead_14 : decode cX1_hasTwinAhead 14 = .ok (.if_icmp .ne 50, 3) := by decide +kernel
theorem dX1_hasTwinAhead_17 : decode cX1_hasTwinAhead 17 = .ok (.aload_n 0, 1) := by decide +kernel
theorem dX1_hasTwinAhead_18 : decode cX1_hasTwinAhead 18 = .ok (.getfield 15, 3) := by decide +kernel
theorem dX1_hasTwinAhead_21 : decode cX1_hasTwinAhead 21 = .ok (.iload_n 2, 1) := by decide +kernel
theorem dX1_hasTwinAhead_22 : decode cX1_hasTwinAhead 22 = .ok (.iaload, 1) := by decide +kernel
theorem dX1_hasTwinAhead_23 : decode cX1_hasTwinAhead 23 = .ok (.aload_n 0, 1) := by decide +kernel
theorem dX1_hasTwinAhead_24 : decode cX1_hasTwinAhead 24 = .ok (.getfield 15, 3) := by decide +kernel
theorem dX1_hasTwinAhead_27 : decode cX1_hasTwinAhead 27 = .ok (.iload_n 1, 1) := by decide +kernel
theorem dX1_hasTwinAhead_28 : decode cX1_hasTwinAhead 28 = .ok (.iaload, 1) := by decide +kernel
theorem dX1_hasTwinAhead_29 : decode cX1_hasTwinAhead 29 = .ok (.if_icmp .ne 35, 3) := by decide +kernel
theorem dX1_hasTwinAhead_32 : decode cX1_hasTwinAhead 32 = .ok (.aload_n 0, 1) := by decide +kernel
theorem dX1_hasTwinAhead_33 : decode cX1_hasTwinAhead 33 = .ok (.getfield 19, 3) := by decide +kernel
theorem dX1_hasTwinAhead_36 : decode cX1_hasTwinAhead 36 = .ok (.iload_n 2, 1) := by decide +kernel
theorem dX1_hasTwinAhead_37 : decode cX1_hasTwinAhead 37 = .ok (.iaload, 1) := by decide +kernel
theorem dX1_hasTwinAhead_38 : decode cX1_hasTwinAhead 38 = .ok (.aload_n 0, 1) := by decide +kernel
theorem dX1_hasTwinAhead_39 : decode cX1_hasTwinAhead 39 = .ok (.getfield 19, 3) := by decide +kernel
theorem dX1_hasTwinAhead_42 : decode cX1_hasTwinAhead 42 = .ok (.iload_n 1, 1) := by decide +kernel
theorem dX1_hasTwinAhead_43 : decode cX1_hasTwinAhead 43 = .ok (.iaload, 1) := by decide +kernel
theorem dX1_hasTwinAhead_44 : decode cX1_hasTwinAhead 44 = .ok (.if_icmp .ne 20, 3) := by decide +kernel
theorem dX1_hasTwinAhead_47 : decode cX1_hasTwinAhead 47 = .ok (.aload_n 0, 1) := by decide +kernel
theorem dX1_hasTwinAhead_48 : decode cX1_hasTwinAhead 48 = .ok (.getfield 22, 3) := by decide +kernel
theorem dX1_hasTwinAhead_51 : decode cX1_hasTwinAhead 51 = .ok (.iload_n 2, 1) := by decide +kernel
theorem dX1_hasTwinAhead_52 : decode cX1_hasTwinAhead 52 = .ok (.iaload, 1) := by decide +kernel
theorem dX1_hasTwinAhead_53 : decode cX1_hasTwinAhead 53 = .ok (.aload_n 0, 1) := by decide +kernel
theorem dX1_hasTwinAhead_54 : decode cX1_hasTwinAhead 54 = .ok (.getfield 22, 3) := by decide +kernel
theorem dX1_hasTwinAhead_57 : decode cX1_hasTwinAhead 57 = .ok (.iload_n 1, 1) := by decide +kernel
theorem dX1_hasTwinAhead_58 : decode cX1_hasTwinAhead 58 = .ok (.iaload, 1) := by decide +kernel
theorem dX1_hasTwinAhead_59 : decode cX1_hasTwinAhead 59 = .ok (.if_icmp .ne 5, 3) := by decide +kernel
theorem dX1_hasTwinAhead_62 : decode cX1_hasTwinAhead 62 = .ok (.iconst 1, 1) := by decide +kernel
theorem dX1_hasTwinAhead_63 : decode cX1_hasTwinAhead 63 = .ok (.ireturn, 1) := by decide +kernel
theorem dX1_hasTwinAhead_64 : decode cX1_hasTwinAhead 64 = .ok (.iinc 2 1, 3) := by decide +kernel
theorem dX1_hasTwinAhead_67 : decode cX1_hasTwinAhead 67 = .ok (.goto (-65), 3) := by decide +kernel
theorem dX1_hasTwinAhead_70 : decode cX1_hasTwinAhead 70 = .ok (.iconst 0, 1) := by decide +kernel
theorem dX1_hasTwinAhead_71 : decode cX1_hasTwinAhead 71 = .ok (.ireturn, 1) := by decide +kernel
theorem dX3_copyFrom_0 : decode cX3_copyFrom 0 = .ok (.aload_n 0, 1) := by decide +kernel
theorem dX3_copyFrom_1 : decode cX3_copyFrom 1 = .ok (.aload_n 1, 1) := by decide +kernel
theorem dX3_copyFrom_2 : decode cX3_copyFrom 2 = .ok (.getfield 9, 3) := by decide +kernel
theorem dX3_copyFrom_5 : decode cX3_copyFrom 5 = .ok (.putfield 9, 3) := by decide +kernel
theorem dX3_copyFrom_8 : decode cX3_copyFrom 8 = .ok (.aload_n 0, 1) := by decide +kernel
theorem dX3_copyFrom_9 : decode cX3_copyFrom 9 = .ok (.aload_n 1, 1) := by decide +kernel
theorem dX3_copyFrom_10 : decode cX3_copyFrom 10 = .ok (.getfield 15, 3) := by decide +kernel
theorem dX3_copyFrom_13 : decode cX3_copyFrom 13 = .ok (.putfield 15, 3) := by decide +kernel
theorem dX3_copyFrom_16 : decode cX3_copyFrom 16 = .ok (.aload_n 1, 1) := by decide +kernel
theorem dX3_copyFrom_17 : decode cX3_copyFrom 17 = .ok (.getfield 18, 3) := by decide +kernel
theorem dX3_copyFrom_20 : decode cX3_copyFrom 20 = .ok (.iconst 0, 1) := by decide +kernel
theorem dX3_copyFrom_21 : decode cX3_copyFrom 21 = .ok (.aload_n 0, 1) := by decide +kernel
theorem dX3_copyFrom_22 : decode cX3_copyFrom 22 = .ok (.getfield 18, 3) := by decide +kernel
theorem dX3_copyFrom_25 : decode cX3_copyFrom 25 = .ok (.iconst 0, 1) := by decide +kernel
theorem dX3_copyFrom_26 : decode cX3_copyFrom 26 = .ok (.bipush 20, 2) := by decide +kernel
theorem dX3_copyFrom_28 : decode cX3_copyFrom 28 = .ok (.invokestatic 31, 3) := by decide +kernel
theorem dX3_copyFrom_31 : decode cX3_copyFrom 31 = .ok (.aload_n 1, 1) := by decide +kernel
theorem dX3_copyFrom_32 : decode cX3_copyFrom 32 = .ok (.getfield 22, 3) := by decide +kernel
theorem dX3_copyFrom_35 : decode cX3_copyFrom 35 = .ok (.iconst 0, 1) := by decide +kernel
theorem dX3_copyFrom_36 : decode cX3_copyFrom 36 = .ok (.aload_n 0, 1) := by decide +kernel
theorem dX3_copyFrom_37 : decode cX3_copyFrom 37 = .ok (.getfield 22, 3) := by decide +kernel
theorem dX3_copyFrom_40 : decode cX3_copyFrom 40 = .ok (.iconst 0, 1) := by decide +kernel
theorem dX3_copyFrom_41 : decode cX3_copyFrom 41 = .ok (.bipush 20, 2) := by decide +kernel
theorem dX3_copyFrom_43 : decode cX3_copyFrom 43 = .ok (.invokestatic 31, 3) := by decide +kernel
theorem dX3_copyFrom_46 : decode cX3_copyFrom 46 = .ok (.aload_n 1, 1) := by decide +kernel
theorem dX3_copyFrom_47 : decode cX3_copyFrom 47 = .ok (.getfield 25, 3) := by decide +kernel
theorem dX3_copyFrom_50 : decode cX3_copyFrom 50 = .ok (.iconst 0, 1) := by decide +kernel
theorem dX3_copyFrom_51 : decode cX3_copyFrom 51 = .ok (.aload_n 0, 1) := by decide +kernel
theorem dX3_copyFrom_52 : decode cX3_copyFrom 52 = .ok (.getfield 25, 3) := by decide +kernel
theorem dX3_copyFrom_55 : decode cX3_copyFrom 55 = .ok (.iconst 0, 1) := by decide +kernel
theorem dX3_copyFrom_56 : decode cX3_copyFrom 56 = .ok (.bipush 20, 2) := by decide +kernel
theorem dX3_copyFrom_58 : decode cX3_copyFrom 58 = .ok (.invokestatic 31, 3) := by decide +kernel
theorem dX3_copyFrom_61 : decode cX3_copyFrom 61 = .ok (.aload_n 1, 1) := by decide +kernel
theorem dX3_copyFrom_62 : decode cX3_copyFrom 62 = .ok (.getfield 28, 3) := by decide +kernel
theorem dX3_copyFrom_65 : decode cX3_copyFrom 65 = .ok (.iconst 0, 1) := by decide +kernel
theorem dX3_copyFrom_66 : decode cX3_copyFrom 66 = .ok (.aload_n 0, 1) := by decide +kernel
theorem dX3_copyFrom_67 : decode cX3_copyFrom 67 = .ok (.getfield 28, 3) := by decide +kernel
theorem dX3_copyFrom_70 : decode cX3_copyFrom 70 = .ok (.iconst 0, 1) := by decide +kernel
theorem dX3_copyFrom_71 : decode cX3_copyFrom 71 = .ok (.bipush 20, 2) := by decide +kernel
theorem dX3_copyFrom_73 : decode cX3_copyFrom 73 = .ok (.invokestatic 31, 3) := by decide +kernel
theorem dX3_copyFrom_76 : decode cX3_copyFrom 76 = .ok (.return_, 1) := by decide +kernel
theorem dX3_has_0 : decode cX3_has 0 = .ok (.iload_n 1, 1) := by decide +kernel
theorem dX3_has_1 : decode cX3_has 1 = .ok (.ifCond .lt 15, 3) := by decide +kernel
theorem dX3_has_4 : decode cX3_has 4 = .ok (.iload_n 1, 1) := by decide +kernel
theorem dX3_has_5 : decode cX3_has 5 = .ok (.aload_n 0, 1) := by decide +kernel
theorem dX3_has_6 : decode cX3_has 6 = .ok (.getfield 9, 3) := by decide +kernel
theorem dX3_has_9 : decode cX3_has 9 = .ok (.if_icmp .ge 7, 3) := by decide +kernel
theorem dX3_has_12 : decode cX3_has 12 = .ok (.iconst 1, 1) := by decide +kernel
theorem dX3_has_13 : decode cX3_has 13 = .ok (.goto 4, 3) := by decide +kernel
theorem dX3_has_16 : decode cX3_has 16 = .ok (.iconst 0, 1) := by decide +kernel
theorem dX3_has_17 : decode cX3_has 17 = .ok (.ireturn, 1) := by decide +kernel
theorem dX3_come_0 : decode cX3_come 0 = .ok (.aload_n 0, 1) := by decide +kernel
theorem dX3_come_1 : decode cX3_come 1 = .ok (.getfield 9, 3) := by decide +kernel
theorem dX3_come_4 : decode cX3_come 4 = .ok (.bipush 20, 2) := by decide +kernel
theorem dX3_come_6 : decode cX3_come 6 = .ok (.if_icmp .ge 12, 3) := by decide +kernel
theorem dX3_come_9 : decode cX3_come 9 = .ok (.aload_n 0, 1) := by decide +kernel
theorem dX3_come_10 : decode cX3_come 10 = .ok (.getfield 15, 3) := by decide +kernel
theorem dX3_come_13 : decode cX3_come 13 = .ok (.bipush 20, 2) := by decide +kernel
theorem dX3_come_15 : decode cX3_come 15 = .ok (.if_icmp .lt 5, 3) := by decide +kernel
theorem dX3_come_18 : decode cX3_come 18 = .ok (.iconst (-1), 1) := by decide +kernel
theorem dX3_come_19 : decode cX3_come 19 = .ok (.ireturn, 1) := by decide +kernel
theorem dX3_come_20 : decode cX3_come 20 = .ok (.aload_n 0, 1) := by decide +kernel
theorem dX3_come_21 : decode cX3_come 21 = .ok (.getfield 18, 3) := by decide +kernel
theorem dX3_come_24 : decode cX3_come 24 = .ok (.aload_n 0, 1) := by decide +kernel
theorem dX3_come_25 : decode cX3_come 25 = .ok (.getfield 9, 3) := by decide +kernel
theorem dX3_come_28 : decode cX3_come 28 = .ok (.iload_n 2, 1) := by decide +kernel
theorem dX3_come_29 : decode cX3_come 29 = .ok (.iastore, 1) := by decide +kernel
theorem dX3_come_30 : decode cX3_come 30 = .ok (.aload_n 0, 1) := by decide +kernel
theorem dX3_come_31 : decode cX3_come 31 = .ok (.getfield 22, 3) := by decide +kernel
theorem dX3_come_34 : decode cX3_come 34 = .ok (.aload_n 0, 1) := by decide +kernel
theorem dX3_come_35 : decode cX3_come 35 = .ok (.getfield 9, 3) := by decide +kernel
theorem dX3_come_38 : decode cX3_come 38 = .ok (.iload_n 3, 1) := by decide +kernel
theorem dX3_come_39 : decode cX3_come 39 = .ok (.iastore, 1) := by decide +kernel
theorem dX3_come_40 : decode cX3_come 40 = .ok (.aload_n 0, 1) := by decide +kernel
theorem dX3_come_41 : decode cX3_come 41 = .ok (.getfield 25, 3) := by decide +kernel
theorem dX3_come_44 : decode cX3_come 44 = .ok (.aload_n 0, 1) := by decide +kernel
theorem dX3_come_45 : decode cX3_come 45 = .ok (.getfield 9, 3) := by decide +kernel
theorem dX3_come_48 : decode cX3_come 48 = .ok (.iconst 1, 1) := by decide +kernel
theorem dX3_come_49 : decode cX3_come 49 = .ok (.iload_n 1, 1) := by decide +kernel
theorem dX3_come_50 : decode cX3_come 50 = .ok (.ishl, 1) := by decide +kernel
theorem dX3_come_51 : decode cX3_come 51 = .ok (.iastore, 1) := by decide +kernel
theorem dX3_come_52 : decode cX3_come 52 = .ok (.aload_n 0, 1) := by decide +kernel
theorem dX3_come_53 : decode cX3_come 53 = .ok (.getfield 28, 3) := by decide +kernel
theorem dX3_come_56 : decode cX3_come 56 = .ok (.aload_n 0, 1) := by decide +kernel
theorem dX3_come_57 : decode cX3_come 57 = .ok (.getfield 15, 3) := by decide +kernel
theorem dX3_come_60 : decode cX3_come 60 = .ok (.aload_n 0, 1) := by decide +kernel
theorem dX3_come_61 : decode cX3_come 61 = .ok (.getfield 9, 3) := by decide +kernel
theorem dX3_come_64 : decode cX3_come 64 = .ok (.iastore, 1) := by decide +kernel
theorem dX3_come_65 : decode cX3_come 65 = .ok (.aload_n 0, 1) := by decide +kernel
theorem dX3_come_66 : decode cX3_come 66 = .ok (.dup, 1) := by decide +kernel
theorem dX3_come_67 : decode cX3_come 67 = .ok (.getfield 15, 3) := by decide +kernel
theorem dX3_come_70 : decode cX3_come 70 = .ok (.iconst 1, 1) := by decide +kernel
theorem dX3_come_71 : decode cX3_come 71 = .ok (.iadd, 1) := by decide +kernel
theorem dX3_come_72 : decode cX3_come 72 = .ok (.putfield 15, 3) := by decide +kernel
theorem dX3_come_75 : decode cX3_come 75 = .ok (.aload_n 0, 1) := by decide +kernel
theorem dX3_come_76 : decode cX3_come 76 = .ok (.dup, 1) := by decide +kernel
theorem dX3_come_77 : decode cX3_come 77 = .ok (.getfield 9, 3) := by decide +kernel
theorem dX3_come_80 : decode cX3_come 80 = .ok (.iconst 1, 1) := by decide +kernel
theorem dX3_come_81 : decode cX3_come 81 = .ok (.iadd, 1) := by decide +kernel
theorem dX3_come_82 : decode cX3_come 82 = .ok (.putfield 9, 3) := by decide +kernel
theorem dX3_come_85 : decode cX3_come 85 = .ok (.aload_n 0, 1) := by decide +kernel
theorem dX3_come_86 : decode cX3_come 86 = .ok (.getfield 9, 3) := by decide +kernel
theorem dX3_come_89 : decode cX3_come 89 = .ok (.iconst 1, 1) := by decide +kernel
theorem dX3_come_90 : decode cX3_come 90 = .ok (.isub, 1) := by decide +kernel
theorem dX3_come_91 : decode cX3_come 91 = .ok (.ireturn, 1) := by decide +kernel
theorem dX3_placeOf_0 : decode cX3_placeOf 0 = .ok (.iconst 0, 1) := by decide +kernel
theorem dX3_placeOf_1 : decode cX3_placeOf 1 = .ok (.istore_n 2, 1) := by decide +kernel
theorem dX3_placeOf_2 : decode cX3_placeOf 2 = .ok (.iload_n 2, 1) := by decide +kernel
theorem dX3_placeOf_3 : decode cX3_placeOf 3 = .ok (.aload_n 0, 1) := by decide +kernel
theorem dX3_placeOf_4 : decode cX3_placeOf 4 = .ok (.getfield 15, 3) := by decide +kernel
theorem dX3_placeOf_7 : decode cX3_placeOf 7 = .ok (.if_icmp .ge 21, 3) := by decide +kernel
theorem dX3_placeOf_10 : decode cX3_placeOf 10 = .ok (.aload_n 0, 1) := by decide +kernel
theorem dX3_placeOf_11 : decode cX3_placeOf 11 = .ok (.getfield 28, 3) := by decide +kernel
theorem dX3_placeOf_14 : decode cX3_placeOf 14 = .ok (.iload_n 2, 1) := by decide +kernel
theorem dX3_placeOf_15 : decode cX3_placeOf 15 = .ok (.iaload, 1) := by decide +kernel
theorem dX3_placeOf_16 : decode cX3_placeOf 16 = .ok (.iload_n 1, 1) := by decide +kernel
theorem dX3_placeOf_17 : decode cX3_placeOf 17 = .ok (.if_icmp .ne 5, 3) := by decide +kernel
theorem dX3_placeOf_20 : decode cX3_placeOf 20 = .ok (.iload_n 2, 1) := by decide +kernel
theorem dX3_placeOf_21 : decode cX3_placeOf 21 = .ok (.ireturn, 1) := by decide +kernel
theorem dX3_placeOf_22 : decode cX3_placeOf 22 = .ok (.iinc 2 1, 3) := by decide +kernel
theorem dX3_placeOf_25 : decode cX3_placeOf 25 = .ok (.goto (-23), 3) := by decide +kernel
theorem dX3_placeOf_28 : decode cX3_placeOf 28 = .ok (.iconst (-1), 1) := by decide +kernel
theorem dX3_placeOf_29 : decode cX3_placeOf 29 = .ok (.ireturn, 1) := by decide +kernel
set_option maxRecDepth 20000 in
theorem ggX3_dropPlace_X3_moveBack : GoodIn wsX3_dropPlace wsX3_moveBack := goodIn_ca (goodIn_r _ [6, 1, 7, 8, 9, 10, 11, 12, 13] (by decide +kernel) (by decide +kernel)) (goodIn_sub (fun _ h => List.mem_cons_of_mem _ (List.mem_append_right _ h)) (by decide +kernel))
set_option maxRecDepth 20000 in
theorem gX3_dropPlace_X3_moveBack : GoodIn wsX3_dropPlace (wsV RX3 37 RX3 yX3_moveBack wsX3_moveBack) := goodIn_app (goodIn_of _ (by decide +kernel)) ggX3_dropPlace_X3_moveBack
theorem dX3_dropPlace_0 : decode cX3_dropPlace 0 = .ok (.iload_n 1, 1) := by decide +kernel
theorem dX3_dropPlace_1 : decode cX3_dropPlace 1 = .ok (.ifCond .lt 11, 3) := by decide +kernel
theorem dX3_dropPlace_4 : decode cX3_dropPlace 4 = .ok (.iload_n 1, 1) := by decide +kernel
theorem dX3_dropPlace_5 : decode cX3_dropPlace 5 = .ok (.aload_n 0, 1) := by decide +kernel
theorem dX3_dropPlace_6 : decode cX3_dropPlace 6 = .ok (.getfield 15, 3) := by decide +kernel
theorem dX3_dropPlace_9 : decode cX3_dropPlace 9 = .ok (.if_icmp .lt 4, 3) := by decide +kernel
theorem dX3_dropPlace_12 : decode cX3_dropPlace 12 = .ok (.return_, 1) := by decide +kernel
theorem dX3_dropPlace_13 : decode cX3_dropPlace 13 = .ok (.aload_n 0, 1) := by decide +kernel
theorem dX3_dropPlace_14 : decode cX3_dropPlace 14 = .ok (.iload_n 1, 1) := by decide +kernel
theorem dX3_dropPlace_15 : decode cX3_dropPlace 15 = .ok (.aload_n 0, 1) := by decide +kernel
theorem dX3_dropPlace_16 : decode cX3_dropPlace 16 = .ok (.getfield 15, 3) := by decide +kernel
theorem dX3_dropPlace_19 : decode cX3_dropPlace 19 = .ok (.iconst 1, 1) := by decide +kernel
theorem dX3_dropPlace_20 : decode cX3_dropPlace 20 = .ok (.isub, 1) := by decide +kernel
theorem dX3_dropPlace_21 : decode cX3_dropPlace 21 = .ok (.invokevirtual 37, 3) := by decide +kernel
theorem dX3_dropPlace_24 : decode cX3_dropPlace 24 = .ok (.aload_n 0, 1) := by decide +kernel
theorem dX3_dropPlace_25 : decode cX3_dropPlace 25 = .ok (.dup, 1) := by decide +kernel
theorem dX3_dropPlace_26 : decode cX3_dropPlace 26 = .ok (.getfield 15, 3) := by decide +kernel
theorem dX3_dropPlace_29 : decode cX3_dropPlace 29 = .ok (.iconst 1, 1) := by decide +kernel
theorem dX3_dropPlace_30 : decode cX3_dropPlace 30 = .ok (.isub, 1) := by decide +kernel
theorem dX3_dropPlace_31 : decode cX3_dropPlace 31 = .ok (.putfield 15, 3) := by decide +kernel
theorem dX3_dropPlace_34 : decode cX3_dropPlace 34 = .ok (.return_, 1) := by decide +kernel
theorem dX3_moveBack_0 : decode cX3_moveBack 0 = .ok (.iload_n 1, 1) := by decide +kernel
theorem dX3_moveBack_1 : decode cX3_moveBack 1 = .ok (.ifCond .lt 16, 3) := by decide +kernel
theorem dX3_moveBack_4 : decode cX3_moveBack 4 = .ok (.iload_n 2, 1) := by decide +kernel
theorem dX3_moveBack_5 : decode cX3_moveBack 5 = .ok (.iload_n 1, 1) := by decide +kernel
theorem dX3_moveBack_6 : decode cX3_moveBack 6 = .ok (.if_icmp .lt 11, 3) := by decide +kernel
theorem dX3_moveBack_9 : decode cX3_moveBack 9 = .ok (.iload_n 2, 1) := by decide +kernel
theorem dX3_moveBack_14 : decode cX3_moveBack 14 = .ok (.if_icmp .lt 4, 3) := by decide +kernel
theorem dX3_moveBack_17 : decode cX3_moveBack 17 = .ok (.return_, 1) := by decide +kernel
theorem dX3_moveBack_22 : decode cX3_moveBack 22 = .ok (.iload_n 1, 1) := by decide +kernel
theorem dX3_moveBack_25 : decode cX3_moveBack 25 = .ok (.iload_n 1, 1) := by decide +kernel
theorem dX3_moveBack_26 : decode cX3_moveBack 26 = .ok (.istore 4, 2) := by decide +kernel
theorem dX3_moveBack_28 : decode cX3_moveBack 28 = .ok (.iload 4, 2) := by decide +kernel
theorem dX3_moveBack_31 : decode cX3_moveBack 31 = .ok (.if_icmp .ge 25, 3) := by decide +kernel
theorem dX3_moveBack_34 : decode cX3_moveBack 34 = .ok (.aload_n 0, 1) := by decide +kernel
theorem dX3_moveBack_38 : decode cX3_moveBack 38 = .ok (.iload 4, 2) := by decide +kernel
theorem dX3_moveBack_41 : decode cX3_moveBack 41 = .ok (.getfield 28, 3) := by decide +kernel
theorem dX3_moveBack_44 : decode cX3_moveBack 44 = .ok (.iload 4, 2) := by decide +kernel
theorem dX3_moveBack_47 : decode cX3_moveBack 47 = .ok (.iadd, 1) := by decide +kernel
theorem dX3_moveBack_49 : decode cX3_moveBack 49 = .ok (.iastore, 1) := by decide +kernel
theorem dX3_moveBack_50 : decode cX3_moveBack 50 = .ok (.iinc 4 1, 3) := by decide +kernel
theorem dX3_moveBack_53 : decode cX3_moveBack 53 = .ok (.goto (-25), 3) := by decide +kernel
theorem dX3_moveBack_56 : decode cX3_moveBack 56 = .ok (.aload_n 0, 1) := by decide +kernel
theorem dX3_moveBack_60 : decode cX3_moveBack 60 = .ok (.iload_n 2, 1) := by decide +kernel
theorem dX3_moveBack_63 : decode cX3_moveBack 63 = .ok (.return_, 1) := by decide +kernel
set_option maxRecDepth 20000 in
theorem ggX3_liesOn_X7_isIn : GoodIn wsX3_liesOn wsX7_isIn := goodIn_r _ [5] (by decide +kernel) (by decide +kernel)
set_option maxRecDepth 20000 in
theorem gX3_liesOn_X7_isIn_n41 : GoodIn wsX3_liesOn (wsX7_isIn) := ggX3_liesOn_X7_isIn
theorem dX3_liesOn_0 : decode cX3_liesOn 0 = .ok (.aload_n 0, 1) := by decide +kernel
theorem dX3_liesOn_1 : decode cX3_liesOn 1 = .ok (.getfield 25, 3) := by decide +kernel
theorem dX3_liesOn_4 : decode cX3_liesOn 4 = .ok (.aload_n 0, 1) := by decide +kernel
theorem dX3_liesOn_5 : decode cX3_liesOn 5 = .ok (.getfield 28, 3) := by decide +kernel
theorem dX3_liesOn_8 : decode cX3_liesOn 8 = .ok (.iload_n 1, 1) := by decide +kernel
theorem dX3_liesOn_9 : decode cX3_liesOn 9 = .ok (.iaload, 1) := by decide +kernel
theorem dX3_liesOn_10 : decode cX3_liesOn 10 = .ok (.iaload, 1) := by decide +kernel
theorem dX3_liesOn_11 : decode cX3_liesOn 11 = .ok (.iload_n 2, 1) := by decide +kernel
theorem dX3_liesOn_12 : decode cX3_liesOn 12 = .ok (.invokestatic 41, 3) := by decide +kernel
theorem dX3_liesOn_15 : decode cX3_liesOn 15 = .ok (.ireturn, 1) := by decide +kernel
set_option maxRecDepth 20000 in
theorem ggX3_isLiveOn_X3_onParcel : GoodIn wsX3_isLiveOn wsX3_onParcel := goodIn_ca (goodIn_r _ [5, 6, 7, 8, 9, 10, 4, 11, 12, 13, 14, 15, 16, 17, 18, 19, 20, 21] (by decide +kernel) (by decide +kernel)) (goodIn_sub (fun _ h => List.mem_cons_of_mem _ (List.mem_append_right _ h)) (by decide +kernel))
set_option maxRecDepth 20000 in
theorem gX3_isLiveOn_X3_onParcel : GoodIn wsX3_isLiveOn (wsV RX3 45 RX3 yX3_onParcel wsX3_onParcel) := goodIn_app (goodIn_of _ (by decide +kernel)) ggX3_isLiveOn_X3_onParcel
set_option maxRecDepth 20000 in
theorem ggX3_isLiveOn_X7_isIn : GoodIn wsX3_isLiveOn wsX7_isIn := goodIn_r _ [15] (by decide +kernel) (by decide +kernel)
set_option maxRecDepth 20000 in
theorem gX3_isLiveOn_X7_isIn_n41 : GoodIn wsX3_isLiveOn (wsX7_isIn) := ggX3_isLiveOn_X7_isIn
theorem dX3_isLiveOn_0 : decode cX3_isLiveOn 0 = .ok (.aload_n 0, 1) := by decide +kernel
theorem dX3_isLiveOn_1 : decode cX3_isLiveOn 1 = .ok (.iload_n 2, 1) := by decide +kernel
theorem dX3_isLiveOn_2 : decode cX3_isLiveOn 2 = .ok (.invokevirtual 45, 3) := by decide +kernel
theorem dX3_isLiveOn_5 : decode cX3_isLiveOn 5 = .ok (.iload_n 1, 1) := by decide +kernel
theorem dX3_isLiveOn_6 : decode cX3_isLiveOn 6 = .ok (.invokestatic 41, 3) := by decide +kernel
theorem dX3_isLiveOn_9 : decode cX3_isLiveOn 9 = .ok (.ireturn, 1) := by decide +kernel
set_option maxRecDepth 20000 in
theorem ggX3_onParcel_X3_liesOn : GoodIn wsX3_onParcel wsX3_liesOn := goodIn_ca (goodIn_r _ [7, 8, 2, 9, 10, 11, 12, 13, 14, 15, 16, 17] (by decide +kernel) (by decide +kernel)) (goodIn_sub (fun _ h => List.mem_cons_of_mem _ (List.mem_append_right _ h)) (by decide +kernel))
set_option maxRecDepth 20000 in
theorem gX3_onParcel_X3_liesOn : GoodIn wsX3_onParcel (wsV RX3 49 RX3 yX3_liesOn wsX3_liesOn) := goodIn_app (goodIn_of _ (by decide +kernel)) ggX3_onParcel_X3_liesOn
theorem dX3_onParcel_0 : decode cX3_onParcel 0 = .ok (.iconst 0, 1) := by decide +kernel
theorem dX3_onParcel_1 : decode cX3_onParcel 1 = .ok (.istore_n 2, 1) := by decide +kernel
theorem dX3_onParcel_2 : decode cX3_onParcel 2 = .ok (.iconst 0, 1) := by decide +kernel
theorem dX3_onParcel_3 : decode cX3_onParcel 3 = .ok (.istore_n 3, 1) := by decide +kernel
theorem dX3_onParcel_4 : decode cX3_onParcel 4 = .ok (.iload_n 3, 1) := by decide +kernel
theorem dX3_onParcel_5 : decode cX3_onParcel 5 = .ok (.aload_n 0, 1) := by decide +kernel
theorem dX3_onParcel_6 : decode cX3_onParcel 6 = .ok (.getfield 15, 3) := by decide +kernel
theorem dX3_onParcel_9 : decode cX3_onParcel 9 = .ok (.if_icmp .ge 29, 3) := by decide +kernel
theorem dX3_onParcel_12 : decode cX3_onParcel 12 = .ok (.aload_n 0, 1) := by decide +kernel
theorem dX3_onParcel_13 : decode cX3_onParcel 13 = .ok (.iload_n 3, 1) := by decide +kernel
theorem dX3_onParcel_14 : decode cX3_onParcel 14 = .ok (.iload_n 1, 1) := by decide +kernel
theorem dX3_onParcel_15 : decode cX3_onParcel 15 = .ok (.invokevirtual 49, 3) := by decide +kernel
theorem dX3_onParcel_18 : decode cX3_onParcel 18 = .ok (.ifCond .eq 14, 3) := by decide +kernel
theorem dX3_onParcel_21 : decode cX3_onParcel 21 = .ok (.iload_n 2, 1) := by decide +kernel
theorem dX3_onParcel_22 : decode cX3_onParcel 22 = .ok (.iconst 1, 1) := by decide +kernel
theorem dX3_onParcel_23 : decode cX3_onParcel 23 = .ok (.aload_n 0, 1) := by decide +kernel
theorem dX3_onParcel_24 : decode cX3_onParcel 24 = .ok (.getfield 28, 3) := by decide +kernel
theorem dX3_onParcel_27 : decode cX3_onParcel 27 = .ok (.iload_n 3, 1) := by decide +kernel
theorem dX3_onParcel_28 : decode cX3_onParcel 28 = .ok (.iaload, 1) := by decide +kernel
theorem dX3_onParcel_29 : decode cX3_onParcel 29 = .ok (.ishl, 1) := by decide +kernel
theorem dX3_onParcel_30 : decode cX3_onParcel 30 = .ok (.ior, 1) := by decide +kernel
theorem dX3_onParcel_31 : decode cX3_onParcel 31 = .ok (.istore_n 2, 1) := by decide +kernel
theorem dX3_onParcel_32 : decode cX3_onParcel 32 = .ok (.iinc 3 1, 3) := by decide +kernel
theorem dX3_onParcel_35 : decode cX3_onParcel 35 = .ok (.goto (-31), 3) := by decide +kernel
theorem dX3_onParcel_38 : decode cX3_onParcel 38 = .ok (.iload_n 2, 1) := by decide +kernel
theorem dX3_onParcel_39 : decode cX3_onParcel 39 = .ok (.ireturn, 1) := by decide +kernel
set_option maxRecDepth 20000 in
theorem ggX3_atPlace_X3_liesOn : GoodIn wsX3_atPlace wsX3_liesOn := goodIn_ca (goodIn_r _ [7, 8, 2, 9, 10, 11, 12, 13, 14, 15, 16, 17] (by decide +kernel) (by decide +kernel)) (goodIn_sub (fun _ h => List.mem_cons_of_mem _ (List.mem_append_right _ h)) (by decide +kernel))
set_option maxRecDepth 20000 in
theorem gX3_atPlace_X3_liesOn : GoodIn wsX3_atPlace (wsV RX3 49 RX3 yX3_liesOn wsX3_liesOn) := goodIn_app (goodIn_of _ (by decide +kernel)) ggX3_atPlace_X3_liesOn
theorem dX3_atPlace_0 : decode cX3_atPlace 0 = .ok (.iconst 0, 1) := by decide +kernel
theorem dX3_atPlace_1 : decode cX3_atPlace 1 = .ok (.istore_n 3, 1) := by decide +kernel
theorem dX3_atPlace_2 : decode cX3_atPlace 2 = .ok (.iconst 0, 1) := by decide +kernel
theorem dX3_atPlace_3 : decode cX3_atPlace 3 = .ok (.istore 4, 2) := by decide +kernel
theorem dX3_atPlace_5 : decode cX3_atPlace 5 = .ok (.iload 4, 2) := by decide +kernel
theorem dX3_atPlace_7 : decode cX3_atPlace 7 = .ok (.aload_n 0, 1) := by decide +kernel
theorem dX3_atPlace_8 : decode cX3_atPlace 8 = .ok (.getfield 15, 3) := by decide +kernel
theorem dX3_atPlace_11 : decode cX3_atPlace 11 = .ok (.if_icmp .ge 35, 3) := by decide +kernel
theorem dX3_atPlace_14 : decode cX3_atPlace 14 = .ok (.aload_n 0, 1) := by decide +kernel
theorem dX3_atPlace_15 : decode cX3_atPlace 15 = .ok (.iload 4, 2) := by decide +kernel
theorem dX3_atPlace_17 : decode cX3_atPlace 17 = .ok (.iload_n 1, 1) := by decide +kernel
theorem dX3_atPlace_18 : decode cX3_atPlace 18 = .ok (.invokevirtual 49, 3) := by decide +kernel
theorem dX3_atPlace_21 : decode cX3_atPlace 21 = .ok (.ifCond .eq 19, 3) := by decide +kernel
theorem dX3_atPlace_24 : decode cX3_atPlace 24 = .ok (.iload_n 3, 1) := by decide +kernel
theorem dX3_atPlace_25 : decode cX3_atPlace 25 = .ok (.iload_n 2, 1) := by decide +kernel
theorem dX3_atPlace_26 : decode cX3_atPlace 26 = .ok (.if_icmp .ne 11, 3) := by decide +kernel
theorem dX3_atPlace_29 : decode cX3_atPlace 29 = .ok (.aload_n 0, 1) := by decide +kernel
theorem dX3_atPlace_30 : decode cX3_atPlace 30 = .ok (.getfield 28, 3) := by decide +kernel
theorem dX3_atPlace_33 : decode cX3_atPlace 33 = .ok (.iload 4, 2) := by decide +kernel
theorem dX3_atPlace_35 : decode cX3_atPlace 35 = .ok (.iaload, 1) := by decide +kernel
theorem dX3_atPlace_36 : decode cX3_atPlace 36 = .ok (.ireturn, 1) := by decide +kernel
theorem dX3_atPlace_37 : decode cX3_atPlace 37 = .ok (.iinc 3 1, 3) := by decide +kernel
theorem dX3_atPlace_40 : decode cX3_atPlace 40 = .ok (.iinc 4 1, 3) := by decide +kernel
theorem dX3_atPlace_43 : decode cX3_atPlace 43 = .ok (.goto (-38), 3) := by decide +kernel
theorem dX3_atPlace_46 : decode cX3_atPlace 46 = .ok (.iconst (-1), 1) := by decide +kernel
theorem dX3_atPlace_47 : decode cX3_atPlace 47 = .ok (.ireturn, 1) := by decide +kernel
set_option maxRecDepth 20000 in
theorem ggX3_paidTo_X3_liesOn : GoodIn wsX3_paidTo wsX3_liesOn := goodIn_ca (goodIn_r _ [13, 14, 3, 15, 16, 17, 18, 19, 20, 21, 22, 23] (by decide +kernel) (by decide +kernel)) (goodIn_sub (fun _ h => List.mem_cons_of_mem _ (List.mem_append_right _ h)) (by decide +kernel))
set_option maxRecDepth 20000 in
theorem gX3_paidTo_X3_liesOn : GoodIn wsX3_paidTo (wsV RX3 49 RX3 yX3_liesOn wsX3_liesOn) := goodIn_app (goodIn_of _ (by decide +kernel)) ggX3_paidTo_X3_liesOn
theorem dX3_paidTo_0 : decode cX3_paidTo 0 = .ok (.iload_n 3, 1) := by decide +kernel
theorem dX3_paidTo_1 : decode cX3_paidTo 1 = .ok (.istore 4, 2) := by decide +kernel
theorem dX3_paidTo_3 : decode cX3_paidTo 3 = .ok (.iconst 0, 1) := by decide +kernel
theorem dX3_paidTo_4 : decode cX3_paidTo 4 = .ok (.istore 5, 2) := by decide +kernel
theorem dX3_paidTo_6 : decode cX3_paidTo 6 = .ok (.iconst 0, 1) := by decide +kernel
theorem dX3_paidTo_7 : decode cX3_paidTo 7 = .ok (.istore 6, 2) := by decide +kernel
theorem dX3_paidTo_9 : decode cX3_paidTo 9 = .ok (.iload 6, 2) := by decide +kernel
theorem dX3_paidTo_11 : decode cX3_paidTo 11 = .ok (.aload_n 0, 1) := by decide +kernel
theorem dX3_paidTo_12 : decode cX3_paidTo 12 = .ok (.getfield 15, 3) := by decide +kernel
theorem dX3_paidTo_15 : decode cX3_paidTo 15 = .ok (.if_icmp .ge 72, 3) := by decide +kernel
theorem dX3_paidTo_18 : decode cX3_paidTo 18 = .ok (.aload_n 0, 1) := by decide +kernel
theorem dX3_paidTo_19 : decode cX3_paidTo 19 = .ok (.iload 6, 2) := by decide +kernel
theorem dX3_paidTo_21 : decode cX3_paidTo 21 = .ok (.iload_n 2, 1) := by decide +kernel
theorem dX3_paidTo_22 : decode cX3_paidTo 22 = .ok (.invokevirtual 49, 3) := by decide +kernel
theorem dX3_paidTo_25 : decode cX3_paidTo 25 = .ok (.ifCond .eq 56, 3) := by decide +kernel
theorem dX3_paidTo_28 : decode cX3_paidTo 28 = .ok (.iload 4, 2) := by decide +kernel
theorem dX3_paidTo_30 : decode cX3_paidTo 30 = .ok (.aload_n 0, 1) := by decide +kernel
theorem dX3_paidTo_31 : decode cX3_paidTo 31 = .ok (.getfield 22, 3) := by decide +kernel
theorem dX3_paidTo_34 : decode cX3_paidTo 34 = .ok (.aload_n 0, 1) := by decide +kernel
theorem dX3_paidTo_35 : decode cX3_paidTo 35 = .ok (.getfield 28, 3) := by decide +kernel
theorem dX3_paidTo_38 : decode cX3_paidTo 38 = .ok (.iload 6, 2) := by decide +kernel
theorem dX3_paidTo_40 : decode cX3_paidTo 40 = .ok (.iaload, 1) := by decide +kernel
theorem dX3_paidTo_41 : decode cX3_paidTo 41 = .ok (.iaload, 1) := by decide +kernel
theorem dX3_paidTo_42 : decode cX3_paidTo 42 = .ok (.invokestatic 52, 3) := by decide +kernel
theorem dX3_paidTo_45 : decode cX3_paidTo 45 = .ok (.istore 7, 2) := by decide +kernel
theorem dX3_paidTo_47 : decode cX3_paidTo 47 = .ok (.iload 4, 2) := by decide +kernel
theorem dX3_paidTo_49 : decode cX3_paidTo 49 = .ok (.iload 7, 2) := by decide +kernel
theorem dX3_paidTo_51 : decode cX3_paidTo 51 = .ok (.isub, 1) := by decide +kernel
theorem dX3_paidTo_52 : decode cX3_paidTo 52 = .ok (.istore 4, 2) := by decide +kernel
theorem dX3_paidTo_54 : decode cX3_paidTo 54 = .ok (.iload 5, 2) := by decide +kernel
theorem dX3_paidTo_56 : decode cX3_paidTo 56 = .ok (.aload_n 0, 1) := by decide +kernel
theorem dX3_paidTo_57 : decode cX3_paidTo 57 = .ok (.getfield 18, 3) := by decide +kernel
theorem dX3_paidTo_60 : decode cX3_paidTo 60 = .ok (.aload_n 0, 1) := by decide +kernel
theorem dX3_paidTo_61 : decode cX3_paidTo 61 = .ok (.getfield 28, 3) := by decide +kernel
theorem dX3_paidTo_64 : decode cX3_paidTo 64 = .ok (.iload 6, 2) := by decide +kernel
theorem dX3_paidTo_66 : decode cX3_paidTo 66 = .ok (.iaload, 1) := by decide +kernel
theorem dX3_paidTo_67 : decode cX3_paidTo 67 = .ok (.iaload, 1) := by decide +kernel
theorem dX3_paidTo_68 : decode cX3_paidTo 68 = .ok (.iload_n 1, 1) := by decide +kernel
theorem dX3_paidTo_69 : decode cX3_paidTo 69 = .ok (.if_icmp .ne 8, 3) := by decide +kernel
theorem dX3_paidTo_72 : decode cX3_paidTo 72 = .ok (.iload 7, 2) := by decide +kernel
theorem dX3_paidTo_74 : decode cX3_paidTo 74 = .ok (.goto 4, 3) := by decide +kernel
theorem dX3_paidTo_77 : decode cX3_paidTo 77 = .ok (.iconst 0, 1) := by decide +kernel
theorem dX3_paidTo_78 : decode cX3_paidTo 78 = .ok (.iadd, 1) := by decide +kernel
theorem dX3_paidTo_79 : decode cX3_paidTo 79 = .ok (.istore 5, 2) := by decide +kernel
theorem dX3_paidTo_81 : decode cX3_paidTo 81 = .ok (.iinc 6 1, 3) := by decide +kernel
theorem dX3_paidTo_84 : decode cX3_paidTo 84 = .ok (.goto (-75), 3) := by decide +kernel
theorem dX3_paidTo_87 : decode cX3_paidTo 87 = .ok (.iload 5, 2) := by decide +kernel
theorem dX3_paidTo_89 : decode cX3_paidTo 89 = .ok (.ireturn, 1) := by decide +kernel
set_option maxRecDepth 20000 in
theorem ggX3_sumOn_X3_liesOn : GoodIn wsX3_sumOn wsX3_liesOn := goodIn_ca (goodIn_r _ [8, 9, 3, 10, 11, 12, 13, 14, 15, 16, 17, 18] (by decide +kernel) (by decide +kernel)) (goodIn_sub (fun _ h => List.mem_cons_of_mem _ (List.mem_append_right _ h)) (by decide +kernel))
set_option maxRecDepth 20000 in
theorem gX3_sumOn_X3_liesOn : GoodIn wsX3_sumOn (wsV RX3 49 RX3 yX3_liesOn wsX3_liesOn) := goodIn_app (goodIn_of _ (by decide +kernel)) ggX3_sumOn_X3_liesOn
theorem dX3_sumOn_0 : decode cX3_sumOn 0 = .ok (.iconst 0, 1) := by decide +kernel
theorem dX3_sumOn_1 : decode cX3_sumOn 1 = .ok (.istore_n 2, 1) := by decide +kernel
theorem dX3_sumOn_2 : decode cX3_sumOn 2 = .ok (.iconst 0, 1) := by decide +kernel
theorem dX3_sumOn_3 : decode cX3_sumOn 3 = .ok (.istore_n 3, 1) := by decide +kernel
theorem dX3_sumOn_4 : decode cX3_sumOn 4 = .ok (.iload_n 3, 1) := by decide +kernel
theorem dX3_sumOn_5 : decode cX3_sumOn 5 = .ok (.aload_n 0, 1) := by decide +kernel
theorem dX3_sumOn_6 : decode cX3_sumOn 6 = .ok (.getfield 15, 3) := by decide +kernel
theorem dX3_sumOn_9 : decode cX3_sumOn 9 = .ok (.if_icmp .ge 32, 3) := by decide +kernel
theorem dX3_sumOn_12 : decode cX3_sumOn 12 = .ok (.aload_n 0, 1) := by decide +kernel
theorem dX3_sumOn_13 : decode cX3_sumOn 13 = .ok (.iload_n 3, 1) := by decide +kernel
theorem dX3_sumOn_14 : decode cX3_sumOn 14 = .ok (.iload_n 1, 1) := by decide +kernel
theorem dX3_sumOn_15 : decode cX3_sumOn 15 = .ok (.invokevirtual 49, 3) := by decide +kernel
theorem dX3_sumOn_18 : decode cX3_sumOn 18 = .ok (.ifCond .eq 17, 3) := by decide +kernel
theorem dX3_sumOn_21 : decode cX3_sumOn 21 = .ok (.iload_n 2, 1) := by decide +kernel
theorem dX3_sumOn_22 : decode cX3_sumOn 22 = .ok (.aload_n 0, 1) := by decide +kernel
theorem dX3_sumOn_23 : decode cX3_sumOn 23 = .ok (.getfield 22, 3) := by decide +kernel
theorem dX3_sumOn_26 : decode cX3_sumOn 26 = .ok (.aload_n 0, 1) := by decide +kernel
theorem dX3_sumOn_27 : decode cX3_sumOn 27 = .ok (.getfield 28, 3) := by decide +kernel
theorem dX3_sumOn_30 : decode cX3_sumOn 30 = .ok (.iload_n 3, 1) := by decide +kernel
theorem dX3_sumOn_31 : decode cX3_sumOn 31 = .ok (.iaload, 1) := by decide +kernel
theorem dX3_sumOn_32 : decode cX3_sumOn 32 = .ok (.iaload, 1) := by decide +kernel
theorem dX3_sumOn_33 : decode cX3_sumOn 33 = .ok (.iadd, 1) := by decide +kernel
theorem dX3_sumOn_34 : decode cX3_sumOn 34 = .ok (.istore_n 2, 1) := by decide +kernel
theorem dX3_sumOn_35 : decode cX3_sumOn 35 = .ok (.iinc 3 1, 3) := by decide +kernel
theorem dX3_sumOn_38 : decode cX3_sumOn 38 = .ok (.goto (-34), 3) := by decide +kernel
theorem dX3_sumOn_41 : decode cX3_sumOn 41 = .ok (.iload_n 2, 1) := by decide +kernel
theorem dX3_sumOn_42 : decode cX3_sumOn 42 = .ok (.ireturn, 1) := by decide +kernel
set_option maxRecDepth 20000 in
theorem ggX3_sumUpTo_X3_placeOf : GoodIn wsX3_sumUpTo wsX3_placeOf := goodIn_ca (goodIn_r _ [7, 8, 2, 17, 18, 19, 20, 21, 22] (by decide +kernel) (by decide +kernel)) (goodIn_sub (fun _ h => List.mem_cons_of_mem _ (List.mem_append_right _ h)) (by decide +kernel))
set_option maxRecDepth 20000 in
theorem gX3_sumUpTo_X3_placeOf : GoodIn wsX3_sumUpTo (wsV RX3 58 RX3 yX3_placeOf wsX3_placeOf) := goodIn_app (goodIn_of _ (by decide +kernel)) ggX3_sumUpTo_X3_placeOf
set_option maxRecDepth 20000 in
theorem ggX3_sumUpTo_X3_liesOn : GoodIn wsX3_sumUpTo wsX3_liesOn := goodIn_ca (goodIn_r _ [12, 13, 2, 14, 15, 16, 17, 18, 19, 20, 21, 22] (by decide +kernel) (by decide +kernel)) (goodIn_sub (fun _ h => List.mem_cons_of_mem _ (List.mem_append_right _ h)) (by decide +kernel))
set_option maxRecDepth 20000 in
theorem gX3_sumUpTo_X3_liesOn : GoodIn wsX3_sumUpTo (wsV RX3 49 RX3 yX3_liesOn wsX3_liesOn) := goodIn_app (goodIn_of _ (by decide +kernel)) ggX3_sumUpTo_X3_liesOn
theorem dX3_sumUpTo_0 : decode cX3_sumUpTo 0 = .ok (.iconst 0, 1) := by decide +kernel
theorem dX3_sumUpTo_1 : decode cX3_sumUpTo 1 = .ok (.istore_n 3, 1) := by decide +kernel
theorem dX3_sumUpTo_2 : decode cX3_sumUpTo 2 = .ok (.aload_n 0, 1) := by decide +kernel
theorem dX3_sumUpTo_3 : decode cX3_sumUpTo 3 = .ok (.iload_n 1, 1) := by decide +kernel
theorem dX3_sumUpTo_4 : decode cX3_sumUpTo 4 = .ok (.invokevirtual 58, 3) := by decide +kernel
theorem dX3_sumUpTo_7 : decode cX3_sumUpTo 7 = .ok (.istore 4, 2) := by decide +kernel
theorem dX3_sumUpTo_9 : decode cX3_sumUpTo 9 = .ok (.iconst 0, 1) := by decide +kernel
theorem dX3_sumUpTo_10 : decode cX3_sumUpTo 10 = .ok (.istore 5, 2) := by decide +kernel
theorem dX3_sumUpTo_12 : decode cX3_sumUpTo 12 = .ok (.iload 5, 2) := by decide +kernel
theorem dX3_sumUpTo_14 : decode cX3_sumUpTo 14 = .ok (.iload 4, 2) := by decide +kernel
theorem dX3_sumUpTo_16 : decode cX3_sumUpTo 16 = .ok (.if_icmp .gt 34, 3) := by decide +kernel
theorem dX3_sumUpTo_19 : decode cX3_sumUpTo 19 = .ok (.aload_n 0, 1) := by decide +kernel
theorem dX3_sumUpTo_20 : decode cX3_sumUpTo 20 = .ok (.iload 5, 2) := by decide +kernel
theorem dX3_sumUpTo_22 : decode cX3_sumUpTo 22 = .ok (.iload_n 2, 1) := by decide +kernel
theorem dX3_sumUpTo_23 : decode cX3_sumUpTo 23 = .ok (.invokevirtual 49, 3) := by decide +kernel
theorem dX3_sumUpTo_26 : decode cX3_sumUpTo 26 = .ok (.ifCond .eq 18, 3) := by decide +kernel
theorem dX3_sumUpTo_29 : decode cX3_sumUpTo 29 = .ok (.iload_n 3, 1) := by decide +kernel
theorem dX3_sumUpTo_30 : decode cX3_sumUpTo 30 = .ok (.aload_n 0, 1) := by decide +kernel
theorem dX3_sumUpTo_31 : decode cX3_sumUpTo 31 = .ok (.getfield 22, 3) := by decide +kernel
theorem dX3_sumUpTo_34 : decode cX3_sumUpTo 34 = .ok (.aload_n 0, 1) := by decide +kernel
theorem dX3_sumUpTo_35 : decode cX3_sumUpTo 35 = .ok (.getfield 28, 3) := by decide +kernel
theorem dX3_sumUpTo_38 : decode cX3_sumUpTo 38 = .ok (.iload 5, 2) := by decide +kernel
theorem dX3_sumUpTo_40 : decode cX3_sumUpTo 40 = .ok (.iaload, 1) := by decide +kernel
theorem dX3_sumUpTo_41 : decode cX3_sumUpTo 41 = .ok (.iaload, 1) := by decide +kernel
theorem dX3_sumUpTo_42 : decode cX3_sumUpTo 42 = .ok (.iadd, 1) := by decide +kernel
theorem dX3_sumUpTo_43 : decode cX3_sumUpTo 43 = .ok (.istore_n 3, 1) := by decide +kernel
theorem dX3_sumUpTo_44 : decode cX3_sumUpTo 44 = .ok (.iinc 5 1, 3) := by decide +kernel
theorem dX3_sumUpTo_47 : decode cX3_sumUpTo 47 = .ok (.goto (-35), 3) := by decide +kernel
theorem dX3_sumUpTo_50 : decode cX3_sumUpTo 50 = .ok (.iload_n 3, 1) := by decide +kernel
theorem dX3_sumUpTo_51 : decode cX3_sumUpTo 51 = .ok (.ireturn, 1) := by decide +kernel
theorem dX3_sumOfAll_0 : decode cX3_sumOfAll 0 = .ok (.iconst 0, 1) := by decide +kernel
theorem dX3_sumOfAll_1 : decode cX3_sumOfAll 1 = .ok (.istore_n 1, 1) := by decide +kernel
theorem dX3_sumOfAll_2 : decode cX3_sumOfAll 2 = .ok (.iconst 0, 1) := by decide +kernel
theorem dX3_sumOfAll_3 : decode cX3_sumOfAll 3 = .ok (.istore_n 2, 1) := by decide +kernel
theorem dX3_sumOfAll_4 : decode cX3_sumOfAll 4 = .ok (.iload_n 2, 1) := by decide +kernel
theorem dX3_sumOfAll_5 : decode cX3_sumOfAll 5 = .ok (.aload_n 0, 1) := by decide +kernel
theorem dX3_sumOfAll_6 : decode cX3_sumOfAll 6 = .ok (.getfield 15, 3) := by decide +kernel
theorem dX3_sumOfAll_9 : decode cX3_sumOfAll 9 = .ok (.if_icmp .ge 23, 3) := by decide +kernel
theorem dX3_sumOfAll_12 : decode cX3_sumOfAll 12 = .ok (.iload_n 1, 1) := by decide +kernel
theorem dX3_sumOfAll_13 : decode cX3_sumOfAll 13 = .ok (.aload_n 0, 1) := by decide +kernel
theorem dX3_sumOfAll_14 : decode cX3_sumOfAll 14 = .ok (.getfield 22, 3) := by decide +kernel
theorem dX3_sumOfAll_17 : decode cX3_sumOfAll 17 = .ok (.aload_n 0, 1) := by decide +kernel
theorem dX3_sumOfAll_18 : decode cX3_sumOfAll 18 = .ok (.getfield 28, 3) := by decide +kernel
theorem dX3_sumOfAll_21 : decode cX3_sumOfAll 21 = .ok (.iload_n 2, 1) := by decide +kernel
theorem dX3_sumOfAll_22 : decode cX3_sumOfAll 22 = .ok (.iaload, 1) := by decide +kernel
theorem dX3_sumOfAll_23 : decode cX3_sumOfAll 23 = .ok (.iaload, 1) := by decide +kernel
theorem dX3_sumOfAll_24 : decode cX3_sumOfAll 24 = .ok (.iadd, 1) := by decide +kernel
theorem dX3_sumOfAll_25 : decode cX3_sumOfAll 25 = .ok (.istore_n 1, 1) := by decide +kernel
theorem dX3_sumOfAll_26 : decode cX3_sumOfAll 26 = .ok (.iinc 2 1, 3) := by decide +kernel
theorem dX3_sumOfAll_29 : decode cX3_sumOfAll 29 = .ok (.goto (-25), 3) := by decide +kernel
theorem dX3_sumOfAll_32 : decode cX3_sumOfAll 32 = .ok (.iload_n 1, 1) := by decide +kernel
theorem dX3_sumOfAll_33 : decode cX3_sumOfAll 33 = .ok (.ireturn, 1) := by decide +kernel
theorem dX3_follow_0 : decode cX3_follow 0 = .ok (.iconst 0, 1) := by decide +kernel
theorem dX3_follow_1 : decode cX3_follow 1 = .ok (.istore_n 3, 1) := by decide +kernel
theorem dX3_follow_2 : decode cX3_follow 2 = .ok (.iload_n 3, 1) := by decide +kernel
theorem dX3_follow_3 : decode cX3_follow 3 = .ok (.aload_n 0, 1) := by decide +kernel
theorem dX3_follow_4 : decode cX3_follow 4 = .ok (.getfield 15, 3) := by decide +kernel
theorem dX3_follow_7 : decode cX3_follow 7 = .ok (.if_icmp .ge 49, 3) := by decide +kernel
theorem dX3_follow_10 : decode cX3_follow 10 = .ok (.aload_n 0, 1) := by decide +kernel
theorem dX3_follow_11 : decode cX3_follow 11 = .ok (.getfield 28, 3) := by decide +kernel
theorem dX3_follow_14 : decode cX3_follow 14 = .ok (.iload_n 3, 1) := by decide +kernel
theorem dX3_follow_15 : decode cX3_follow 15 = .ok (.iaload, 1) := by decide +kernel
theorem dX3_follow_16 : decode cX3_follow 16 = .ok (.istore 4, 2) := by decide +kernel
theorem dX3_follow_18 : decode cX3_follow 18 = .ok (.aload_n 0, 1) := by decide +kernel
theorem dX3_follow_19 : decode cX3_follow 19 = .ok (.getfield 25, 3) := by decide +kernel
theorem dX3_follow_22 : decode cX3_follow 22 = .ok (.iload 4, 2) := by decide +kernel
theorem dX3_follow_24 : decode cX3_follow 24 = .ok (.iaload, 1) := by decide +kernel
theorem dX3_follow_25 : decode cX3_follow 25 = .ok (.iload_n 1, 1) := by decide +kernel
theorem dX3_follow_26 : decode cX3_follow 26 = .ok (.iand, 1) := by decide +kernel
theorem dX3_follow_27 : decode cX3_follow 27 = .ok (.ifCond .eq 23, 3) := by decide +kernel
theorem dX3_follow_30 : decode cX3_follow 30 = .ok (.aload_n 0, 1) := by decide +kernel
theorem dX3_follow_31 : decode cX3_follow 31 = .ok (.getfield 25, 3) := by decide +kernel
theorem dX3_follow_34 : decode cX3_follow 34 = .ok (.iload 4, 2) := by decide +kernel
theorem dX3_follow_36 : decode cX3_follow 36 = .ok (.aload_n 0, 1) := by decide +kernel
theorem dX3_follow_37 : decode cX3_follow 37 = .ok (.getfield 25, 3) := by decide +kernel
theorem dX3_follow_40 : decode cX3_follow 40 = .ok (.iload 4, 2) := by decide +kernel
theorem dX3_follow_42 : decode cX3_follow 42 = .ok (.iaload, 1) := by decide +kernel
theorem dX3_follow_43 : decode cX3_follow 43 = .ok (.iload_n 1, 1) := by decide +kernel
theorem dX3_follow_44 : decode cX3_follow 44 = .ok (.iconst (-1), 1) := by decide +kernel
theorem dX3_follow_45 : decode cX3_follow 45 = .ok (.ixor, 1) := by decide +kernel
theorem dX3_follow_46 : decode cX3_follow 46 = .ok (.iand, 1) := by decide +kernel
theorem dX3_follow_47 : decode cX3_follow 47 = .ok (.iload_n 2, 1) := by decide +kernel
theorem dX3_follow_48 : decode cX3_follow 48 = .ok (.ior, 1) := by decide +kernel
theorem dX3_follow_49 : decode cX3_follow 49 = .ok (.iastore, 1) := by decide +kernel
theorem dX3_follow_50 : decode cX3_follow 50 = .ok (.iinc 3 1, 3) := by decide +kernel
theorem dX3_follow_53 : decode cX3_follow 53 = .ok (.goto (-51), 3) := by decide +kernel
theorem dX3_follow_56 : decode cX3_follow 56 = .ok (.return_, 1) := by decide +kernel
theorem dX4_copyFrom_0 : decode cX4_copyFrom 0 = .ok (.aload_n 0, 1) := by decide +kernel
theorem dX4_copyFrom_1 : decode cX4_copyFrom 1 = .ok (.aload_n 1, 1) := by decide +kernel
theorem dX4_copyFrom_2 : decode cX4_copyFrom 2 = .ok (.getfield 9, 3) := by decide +kernel
theorem dX4_copyFrom_5 : decode cX4_copyFrom 5 = .ok (.putfield 9, 3) := by decide +kernel
theorem dX4_copyFrom_8 : decode cX4_copyFrom 8 = .ok (.aload_n 1, 1) := by decide +kernel
theorem dX4_copyFrom_9 : decode cX4_copyFrom 9 = .ok (.getfield 15, 3) := by decide +kernel
theorem dX4_copyFrom_12 : decode cX4_copyFrom 12 = .ok (.iconst 0, 1) := by decide +kernel
theorem dX4_copyFrom_13 : decode cX4_copyFrom 13 = .ok (.aload_n 0, 1) := by decide +kernel
theorem dX4_copyFrom_14 : decode cX4_copyFrom 14 = .ok (.getfield 15, 3) := by decide +kernel
theorem dX4_copyFrom_17 : decode cX4_copyFrom 17 = .ok (.iconst 0, 1) := by decide +kernel
theorem dX4_copyFrom_18 : decode cX4_copyFrom 18 = .ok (.bipush 24, 2) := by decide +kernel
theorem dX4_copyFrom_20 : decode cX4_copyFrom 20 = .ok (.invokestatic 34, 3) := by decide +kernel
theorem dX4_copyFrom_23 : decode cX4_copyFrom 23 = .ok (.aload_n 1, 1) := by decide +kernel
theorem dX4_copyFrom_24 : decode cX4_copyFrom 24 = .ok (.getfield 19, 3) := by decide +kernel
theorem dX4_copyFrom_27 : decode cX4_copyFrom 27 = .ok (.iconst 0, 1) := by decide +kernel
theorem dX4_copyFrom_28 : decode cX4_copyFrom 28 = .ok (.aload_n 0, 1) := by decide +kernel
theorem dX4_copyFrom_29 : decode cX4_copyFrom 29 = .ok (.getfield 19, 3) := by decide +kernel
theorem dX4_copyFrom_32 : decode cX4_copyFrom 32 = .ok (.iconst 0, 1) := by decide +kernel
theorem dX4_copyFrom_33 : decode cX4_copyFrom 33 = .ok (.bipush 24, 2) := by decide +kernel
theorem dX4_copyFrom_35 : decode cX4_copyFrom 35 = .ok (.invokestatic 34, 3) := by decide +kernel
theorem dX4_copyFrom_38 : decode cX4_copyFrom 38 = .ok (.aload_n 1, 1) := by decide +kernel
theorem dX4_copyFrom_39 : decode cX4_copyFrom 39 = .ok (.getfield 22, 3) := by decide +kernel
theorem dX4_copyFrom_42 : decode cX4_copyFrom 42 = .ok (.iconst 0, 1) := by decide +kernel
theorem dX4_copyFrom_43 : decode cX4_copyFrom 43 = .ok (.aload_n 0, 1) := by decide +kernel
theorem dX4_copyFrom_44 : decode cX4_copyFrom 44 = .ok (.getfield 22, 3) := by decide +kernel
theorem dX4_copyFrom_47 : decode cX4_copyFrom 47 = .ok (.iconst 0, 1) := by decide +kernel
theorem dX4_copyFrom_48 : decode cX4_copyFrom 48 = .ok (.bipush 24, 2) := by decide +kernel
theorem dX4_copyFrom_50 : decode cX4_copyFrom 50 = .ok (.invokestatic 34, 3) := by decide +kernel
theorem dX4_copyFrom_53 : decode cX4_copyFrom 53 = .ok (.aload_n 1, 1) := by decide +kernel
theorem dX4_copyFrom_54 : decode cX4_copyFrom 54 = .ok (.getfield 25, 3) := by decide +kernel
theorem dX4_copyFrom_57 : decode cX4_copyFrom 57 = .ok (.iconst 0, 1) := by decide +kernel
theorem dX4_copyFrom_58 : decode cX4_copyFrom 58 = .ok (.aload_n 0, 1) := by decide +kernel
theorem dX4_copyFrom_59 : decode cX4_copyFrom 59 = .ok (.getfield 25, 3) := by decide +kernel
theorem dX4_copyFrom_62 : decode cX4_copyFrom 62 = .ok (.iconst 0, 1) := by decide +kernel
theorem dX4_copyFrom_63 : decode cX4_copyFrom 63 = .ok (.bipush 24, 2) := by decide +kernel
theorem dX4_copyFrom_65 : decode cX4_copyFrom 65 = .ok (.invokestatic 34, 3) := by decide +kernel
theorem dX4_copyFrom_68 : decode cX4_copyFrom 68 = .ok (.aload_n 1, 1) := by decide +kernel
theorem dX4_copyFrom_69 : decode cX4_copyFrom 69 = .ok (.getfield 28, 3) := by decide +kernel
theorem dX4_copyFrom_72 : decode cX4_copyFrom 72 = .ok (.iconst 0, 1) := by decide +kernel
theorem dX4_copyFrom_73 : decode cX4_copyFrom 73 = .ok (.aload_n 0, 1) := by decide +kernel
theorem dX4_copyFrom_74 : decode cX4_copyFrom 74 = .ok (.getfield 28, 3) := by decide +kernel
theorem dX4_copyFrom_77 : decode cX4_copyFrom 77 = .ok (.iconst 0, 1) := by decide +kernel
theorem dX4_copyFrom_78 : decode cX4_copyFrom 78 = .ok (.bipush 24, 2) := by decide +kernel
theorem dX4_copyFrom_80 : decode cX4_copyFrom 80 = .ok (.invokestatic 34, 3) := by decide +kernel
theorem dX4_copyFrom_83 : decode cX4_copyFrom 83 = .ok (.aload_n 1, 1) := by decide +kernel
theorem dX4_copyFrom_84 : decode cX4_copyFrom 84 = .ok (.getfield 31, 3) := by decide +kernel
theorem dX4_copyFrom_87 : decode cX4_copyFrom 87 = .ok (.iconst 0, 1) := by decide +kernel
theorem dX4_copyFrom_88 : decode cX4_copyFrom 88 = .ok (.aload_n 0, 1) := by decide +kernel
theorem dX4_copyFrom_89 : decode cX4_copyFrom 89 = .ok (.getfield 31, 3) := by decide +kernel
theorem dX4_copyFrom_92 : decode cX4_copyFrom 92 = .ok (.iconst 0, 1) := by decide +kernel
theorem dX4_copyFrom_93 : decode cX4_copyFrom 93 = .ok (.bipush 24, 2) := by decide +kernel
theorem dX4_copyFrom_95 : decode cX4_copyFrom 95 = .ok (.invokestatic 34, 3) := by decide +kernel
theorem dX4_copyFrom_98 : decode cX4_copyFrom 98 = .ok (.return_, 1) := by decide +kernel
theorem dX4_has_0 : decode cX4_has 0 = .ok (.iload_n 1, 1) := by decide +kernel
theorem dX4_has_1 : decode cX4_has 1 = .ok (.ifCond .lt 15, 3) := by decide +kernel
theorem dX4_has_4 : decode cX4_has 4 = .ok (.iload_n 1, 1) := by decide +kernel
theorem dX4_has_5 : decode cX4_has 5 = .ok (.aload_n 0, 1) := by decide +kernel
theorem dX4_has_6 : decode cX4_has 6 = .ok (.getfield 9, 3) := by decide +kernel
theorem dX4_has_9 : decode cX4_has 9 = .ok (.if_icmp .ge 7, 3) := by decide +kernel
theorem dX4_has_12 : decode cX4_has 12 = .ok (.iconst 1, 1) := by decide +kernel
theorem dX4_has_13 : decode cX4_has 13 = .ok (.goto 4, 3) := by decide +kernel
theorem dX4_has_16 : decode cX4_has 16 = .ok (.iconst 0, 1) := by decide +kernel
theorem dX4_has_17 : decode cX4_has 17 = .ok (.ireturn, 1) := by decide +kernel
set_option maxRecDepth 20000 in
theorem ggX4_isPresent_X4_has : GoodIn wsX4_isPresent wsX4_has := goodIn_r _ [6, 7, 8, 9, 10, 11, 12, 13, 14] (by decide +kernel) (by decide +kernel)
set_option maxRecDepth 20000 in
theorem gX4_isPresent_X4_has : GoodIn wsX4_isPresent (wsV RX4 40 RX4 yX4_has wsX4_has) := goodIn_app (goodIn_of _ (by decide +kernel)) ggX4_isPresent_X4_has
theorem dX4_isPresent_0 : decode cX4_isPresent 0 = .ok (.aload_n 0, 1) := by decide +kernel
theorem dX4_isPresent_1 : decode cX4_isPresent 1 = .ok (.iload_n 1, 1) := by decide +kernel
theorem dX4_isPresent_2 : decode cX4_isPresent 2 = .ok (.invokevirtual 40, 3) := by decide +kernel
theorem dX4_isPresent_5 : decode cX4_isPresent 5 = .ok (.ifCond .eq 17, 3) := by decide +kernel
theorem dX4_isPresent_8 : decode cX4_isPresent 8 = .ok (.aload_n 0, 1) := by decide +kernel
theorem dX4_isPresent_9 : decode cX4_isPresent 9 = .ok (.getfield 22, 3) := by decide +kernel
theorem dX4_isPresent_12 : decode cX4_isPresent 12 = .ok (.iload_n 1, 1) := by decide +kernel
theorem dX4_isPresent_13 : decode cX4_isPresent 13 = .ok (.iaload, 1) := by decide +kernel
theorem dX4_isPresent_14 : decode cX4_isPresent 14 = .ok (.iconst (-1), 1) := by decide +kernel
theorem dX4_isPresent_15 : decode cX4_isPresent 15 = .ok (.if_icmp .ne 7, 3) := by decide +kernel
theorem dX4_isPresent_18 : decode cX4_isPresent 18 = .ok (.iconst 1, 1) := by decide +kernel
theorem dX4_isPresent_19 : decode cX4_isPresent 19 = .ok (.goto 4, 3) := by decide +kernel
theorem dX4_isPresent_22 : decode cX4_isPresent 22 = .ok (.iconst 0, 1) := by decide +kernel
theorem dX4_isPresent_23 : decode cX4_isPresent 23 = .ok (.ireturn, 1) := by decide +kernel
theorem dX4_come_0 : decode cX4_come 0 = .ok (.aload_n 0, 1) := by decide +kernel
theorem dX4_come_1 : decode cX4_come 1 = .ok (.getfield 9, 3) := by decide +kernel
theorem dX4_come_4 : decode cX4_come 4 = .ok (.bipush 24, 2) := by decide +kernel
theorem dX4_come_6 : decode cX4_come 6 = .ok (.if_icmp .lt 5, 3) := by decide +kernel
theorem dX4_come_9 : decode cX4_come 9 = .ok (.iconst (-1), 1) := by decide +kernel
theorem dX4_come_10 : decode cX4_come 10 = .ok (.ireturn, 1) := by decide +kernel
theorem dX4_come_11 : decode cX4_come 11 = .ok (.aload_n 0, 1) := by decide +kernel
theorem dX4_come_12 : decode cX4_come 12 = .ok (.getfield 15, 3) := by decide +kernel
theorem dX4_come_15 : decode cX4_come 15 = .ok (.aload_n 0, 1) := by decide +kernel
theorem dX4_come_16 : decode cX4_come 16 = .ok (.getfield 9, 3) := by decide +kernel
theorem dX4_come_19 : decode cX4_come 19 = .ok (.iload_n 1, 1) := by decide +kernel
theorem dX4_come_20 : decode cX4_come 20 = .ok (.iastore, 1) := by decide +kernel
theorem dX4_come_21 : decode cX4_come 21 = .ok (.aload_n 0, 1) := by decide +kernel
theorem dX4_come_22 : decode cX4_come 22 = .ok (.getfield 19, 3) := by decide +kernel
theorem dX4_come_25 : decode cX4_come 25 = .ok (.aload_n 0, 1) := by decide +kernel
theorem dX4_come_26 : decode cX4_come 26 = .ok (.getfield 9, 3) := by decide +kernel
theorem dX4_come_29 : decode cX4_come 29 = .ok (.iload 4, 2) := by decide +kernel
theorem dX4_come_31 : decode cX4_come 31 = .ok (.iastore, 1) := by decide +kernel
theorem dX4_come_32 : decode cX4_come 32 = .ok (.aload_n 0, 1) := by decide +kernel
theorem dX4_come_33 : decode cX4_come 33 = .ok (.getfield 22, 3) := by decide +kernel
theorem dX4_come_36 : decode cX4_come 36 = .ok (.aload_n 0, 1) := by decide +kernel
theorem dX4_come_37 : decode cX4_come 37 = .ok (.getfield 9, 3) := by decide +kernel
theorem dX4_come_40 : decode cX4_come 40 = .ok (.iconst (-1), 1) := by decide +kernel
theorem dX4_come_41 : decode cX4_come 41 = .ok (.iastore, 1) := by decide +kernel
theorem dX4_come_42 : decode cX4_come 42 = .ok (.aload_n 0, 1) := by decide +kernel
theorem dX4_come_43 : decode cX4_come 43 = .ok (.getfield 25, 3) := by decide +kernel
theorem dX4_come_46 : decode cX4_come 46 = .ok (.aload_n 0, 1) := by decide +kernel
theorem dX4_come_47 : decode cX4_come 47 = .ok (.getfield 9, 3) := by decide +kernel
theorem dX4_come_50 : decode cX4_come 50 = .ok (.iconst 0, 1) := by decide +kernel
theorem dX4_come_51 : decode cX4_come 51 = .ok (.iastore, 1) := by decide +kernel
theorem dX4_come_52 : decode cX4_come 52 = .ok (.aload_n 0, 1) := by decide +kernel
theorem dX4_come_53 : decode cX4_come 53 = .ok (.getfield 28, 3) := by decide +kernel
theorem dX4_come_56 : decode cX4_come 56 = .ok (.aload_n 0, 1) := by decide +kernel
theorem dX4_come_57 : decode cX4_come 57 = .ok (.getfield 9, 3) := by decide +kernel
theorem dX4_come_60 : decode cX4_come 60 = .ok (.iload_n 3, 1) := by decide +kernel
theorem dX4_come_61 : decode cX4_come 61 = .ok (.iastore, 1) := by decide +kernel
theorem dX4_come_62 : decode cX4_come 62 = .ok (.aload_n 0, 1) := by decide +kernel
theorem dX4_come_63 : decode cX4_come 63 = .ok (.getfield 31, 3) := by decide +kernel
theorem dX4_come_66 : decode cX4_come 66 = .ok (.aload_n 0, 1) := by decide +kernel
theorem dX4_come_67 : decode cX4_come 67 = .ok (.getfield 9, 3) := by decide +kernel
theorem dX4_come_70 : decode cX4_come 70 = .ok (.iload_n 2, 1) := by decide +kernel
theorem dX4_come_71 : decode cX4_come 71 = .ok (.iastore, 1) := by decide +kernel
theorem dX4_come_72 : decode cX4_come 72 = .ok (.aload_n 0, 1) := by decide +kernel
theorem dX4_come_73 : decode cX4_come 73 = .ok (.dup, 1) := by decide +kernel
theorem dX4_come_74 : decode cX4_come 74 = .ok (.getfield 9, 3) := by decide +kernel
theorem dX4_come_77 : decode cX4_come 77 = .ok (.iconst 1, 1) := by decide +kernel
theorem dX4_come_78 : decode cX4_come 78 = .ok (.iadd, 1) := by decide +kernel
theorem dX4_come_79 : decode cX4_come 79 = .ok (.putfield 9, 3) := by decide +kernel
theorem dX4_come_82 : decode cX4_come 82 = .ok (.aload_n 0, 1) := by decide +kernel
theorem dX4_come_83 : decode cX4_come 83 = .ok (.getfield 9, 3) := by decide +kernel
theorem dX4_come_86 : decode cX4_come 86 = .ok (.iconst 1, 1) := by decide +kernel
theorem dX4_come_87 : decode cX4_come 87 = .ok (.isub, 1) := by decide +kernel
theorem dX4_come_88 : decode cX4_come 88 = .ok (.ireturn, 1) := by decide +kernel
set_option maxRecDepth 20000 in
theorem ggX4_end_X4_has : GoodIn wsX4_end wsX4_has := goodIn_r _ [8, 1, 9, 10, 11, 12, 13, 14, 15] (by decide +kernel) (by decide +kernel)
set_option maxRecDepth 20000 in
theorem gX4_end_X4_has : GoodIn wsX4_end (wsV RX4 40 RX4 yX4_has wsX4_has) := goodIn_app (goodIn_of _ (by decide +kernel)) ggX4_end_X4_has
theorem dX4_end_0 : decode cX4_end 0 = .ok (.aload_n 0, 1) := by decide +kernel
theorem dX4_end_1 : decode cX4_end 1 = .ok (.iload_n 1, 1) := by decide +kernel
theorem dX4_end_2 : decode cX4_end 2 = .ok (.invokevirtual 40, 3) := by decide +kernel
theorem dX4_end_5 : decode cX4_end 5 = .ok (.ifCond .ne 4, 3) := by decide +kernel
theorem dX4_end_8 : decode cX4_end 8 = .ok (.return_, 1) := by decide +kernel
theorem dX4_end_9 : decode cX4_end 9 = .ok (.iconst 0, 1) := by decide +kernel
theorem dX4_end_10 : decode cX4_end 10 = .ok (.istore_n 3, 1) := by decide +kernel
theorem dX4_end_11 : decode cX4_end 11 = .ok (.iload_n 3, 1) := by decide +kernel
theorem dX4_end_12 : decode cX4_end 12 = .ok (.aload_n 0, 1) := by decide +kernel
theorem dX4_end_13 : decode cX4_end 13 = .ok (.getfield 9, 3) := by decide +kernel
theorem dX4_end_16 : decode cX4_end 16 = .ok (.if_icmp .ge 23, 3) := by decide +kernel
theorem dX4_end_19 : decode cX4_end 19 = .ok (.aload_n 0, 1) := by decide +kernel
theorem dX4_end_20 : decode cX4_end 20 = .ok (.getfield 25, 3) := by decide +kernel
theorem dX4_end_23 : decode cX4_end 23 = .ok (.iload_n 3, 1) := by decide +kernel
theorem dX4_end_24 : decode cX4_end 24 = .ok (.dup2, 1) := by decide +kernel
theorem dX4_end_25 : decode cX4_end 25 = .ok (.iaload, 1) := by decide +kernel
theorem dX4_end_26 : decode cX4_end 26 = .ok (.iconst 1, 1) := by decide +kernel
theorem dX4_end_27 : decode cX4_end 27 = .ok (.iload_n 1, 1) := by decide +kernel
theorem dX4_end_28 : decode cX4_end 28 = .ok (.ishl, 1) := by decide +kernel
theorem dX4_end_29 : decode cX4_end 29 = .ok (.iconst (-1), 1) := by decide +kernel
theorem dX4_end_30 : decode cX4_end 30 = .ok (.ixor, 1) := by decide +kernel
theorem dX4_end_31 : decode cX4_end 31 = .ok (.iand, 1) := by decide +kernel
theorem dX4_end_32 : decode cX4_end 32 = .ok (.iastore, 1) := by decide +kernel
theorem dX4_end_33 : decode cX4_end 33 = .ok (.iinc 3 1, 3) := by decide +kernel
theorem dX4_end_36 : decode cX4_end 36 = .ok (.goto (-25), 3) := by decide +kernel
theorem dX4_end_39 : decode cX4_end 39 = .ok (.aload_n 0, 1) := by decide +kernel
theorem dX4_end_40 : decode cX4_end 40 = .ok (.getfield 25, 3) := by decide +kernel
theorem dX4_end_43 : decode cX4_end 43 = .ok (.iload_n 1, 1) := by decide +kernel
theorem dX4_end_44 : decode cX4_end 44 = .ok (.iconst 0, 1) := by decide +kernel
theorem dX4_end_45 : decode cX4_end 45 = .ok (.iastore, 1) := by decide +kernel
theorem dX4_end_46 : decode cX4_end 46 = .ok (.aload_n 0, 1) := by decide +kernel
theorem dX4_end_47 : decode cX4_end 47 = .ok (.getfield 22, 3) := by decide +kernel
theorem dX4_end_50 : decode cX4_end 50 = .ok (.iload_n 1, 1) := by decide +kernel
theorem dX4_end_51 : decode cX4_end 51 = .ok (.iload_n 2, 1) := by decide +kernel
theorem dX4_end_52 : decode cX4_end 52 = .ok (.iastore, 1) := by decide +kernel
theorem dX4_end_53 : decode cX4_end 53 = .ok (.return_, 1) := by decide +kernel
set_option maxRecDepth 20000 in
theorem ggX4_rowOf_X4_has : GoodIn wsX4_rowOf wsX4_has := goodIn_r _ [11, 12, 13, 14, 15, 16, 17, 18, 19] (by decide +kernel) (by decide +kernel)
set_option maxRecDepth 20000 in
theorem gX4_rowOf_X4_has : GoodIn wsX4_rowOf (wsV RX4 40 RX4 yX4_has wsX4_has) := goodIn_app (goodIn_of _ (by decide +kernel)) ggX4_rowOf_X4_has
theorem dX4_rowOf_0 : decode cX4_rowOf 0 = .ok (.aload_n 0, 1) := by decide +kernel
theorem dX4_rowOf_1 : decode cX4_rowOf 1 = .ok (.iload_n 1, 1) := by decide +kernel
theorem dX4_rowOf_2 : decode cX4_rowOf 2 = .ok (.invokevirtual 40, 3) := by decide +kernel
theorem dX4_rowOf_5 : decode cX4_rowOf 5 = .ok (.ifCond .ne 5, 3) := by decide +kernel
theorem dX4_rowOf_8 : decode cX4_rowOf 8 = .ok (.iconst (-1), 1) := by decide +kernel
theorem dX4_rowOf_9 : decode cX4_rowOf 9 = .ok (.ireturn, 1) := by decide +kernel
theorem dX4_rowOf_10 : decode cX4_rowOf 10 = .ok (.iload_n 2, 1) := by decide +kernel
theorem dX4_rowOf_11 : decode cX4_rowOf 11 = .ok (.tableswitch 68 0 4 #[33, 40, 47, 54, 61], 33) := by decide +kernel
theorem dX4_rowOf_44 : decode cX4_rowOf 44 = .ok (.aload_n 0, 1) := by decide +kernel
theorem dX4_rowOf_45 : decode cX4_rowOf 45 = .ok (.getfield 15, 3) := by decide +kernel
theorem dX4_rowOf_48 : decode cX4_rowOf 48 = .ok (.iload_n 1, 1) := by decide +kernel
theorem dX4_rowOf_49 : decode cX4_rowOf 49 = .ok (.iaload, 1) := by decide +kernel
theorem dX4_rowOf_50 : decode cX4_rowOf 50 = .ok (.ireturn, 1) := by decide +kernel
theorem dX4_rowOf_51 : decode cX4_rowOf 51 = .ok (.aload_n 0, 1) := by decide +kernel
theorem dX4_rowOf_52 : decode cX4_rowOf 52 = .ok (.getfield 19, 3) := by decide +kernel
theorem dX4_rowOf_55 : decode cX4_rowOf 55 = .ok (.iload_n 1, 1) := by decide +kernel
theorem dX4_rowOf_56 : decode cX4_rowOf 56 = .ok (.iaload, 1) := by decide +kernel
theorem dX4_rowOf_57 : decode cX4_rowOf 57 = .ok (.ireturn, 1) := by decide +kernel
theorem dX4_rowOf_58 : decode cX4_rowOf 58 = .ok (.aload_n 0, 1) := by decide +kernel
theorem dX4_rowOf_59 : decode cX4_rowOf 59 = .ok (.getfield 22, 3) := by decide +kernel
theorem dX4_rowOf_62 : decode cX4_rowOf 62 = .ok (.iload_n 1, 1) := by decide +kernel
theorem dX4_rowOf_63 : decode cX4_rowOf 63 = .ok (.iaload, 1) := by decide +kernel
theorem dX4_rowOf_64 : decode cX4_rowOf 64 = .ok (.ireturn, 1) := by decide +kernel
theorem dX4_rowOf_65 : decode cX4_rowOf 65 = .ok (.aload_n 0, 1) := by decide +kernel
theorem dX4_rowOf_66 : decode cX4_rowOf 66 = .ok (.getfield 25, 3) := by decide +kernel
theorem dX4_rowOf_69 : decode cX4_rowOf 69 = .ok (.iload_n 1, 1) := by decide +kernel
theorem dX4_rowOf_70 : decode cX4_rowOf 70 = .ok (.iaload, 1) := by decide +kernel
theorem dX4_rowOf_71 : decode cX4_rowOf 71 = .ok (.ireturn, 1) := by decide +kernel
theorem dX4_rowOf_72 : decode cX4_rowOf 72 = .ok (.aload_n 0, 1) := by decide +kernel
theorem dX4_rowOf_73 : decode cX4_rowOf 73 = .ok (.getfield 28, 3) := by decide +kernel
theorem dX4_rowOf_76 : decode cX4_rowOf 76 = .ok (.iload_n 1, 1) := by decide +kernel
theorem dX4_rowOf_77 : decode cX4_rowOf 77 = .ok (.iaload, 1) := by decide +kernel
theorem dX4_rowOf_78 : decode cX4_rowOf 78 = .ok (.ireturn, 1) := by decide +kernel
theorem dX4_rowOf_79 : decode cX4_rowOf 79 = .ok (.aload_n 0, 1) := by decide +kernel
theorem dX4_rowOf_80 : decode cX4_rowOf 80 = .ok (.getfield 31, 3) := by decide +kernel
theorem dX4_rowOf_83 : decode cX4_rowOf 83 = .ok (.iload_n 1, 1) := by decide +kernel
theorem dX4_rowOf_84 : decode cX4_rowOf 84 = .ok (.iaload, 1) := by decide +kernel
theorem dX4_rowOf_85 : decode cX4_rowOf 85 = .ok (.ireturn, 1) := by decide +kernel
set_option maxRecDepth 20000 in
theorem ggX4_neighboursOf_X4_has : GoodIn wsX4_neighboursOf wsX4_has := goodIn_r _ [6, 7, 8, 9, 10, 11, 12, 13, 14] (by decide +kernel) (by decide +kernel)
set_option maxRecDepth 20000 in
theorem gX4_neighboursOf_X4_has : GoodIn wsX4_neighboursOf (wsV RX4 40 RX4 yX4_has wsX4_has) := goodIn_app (goodIn_of _ (by decide +kernel)) ggX4_neighboursOf_X4_has
theorem dX4_neighboursOf_0 : decode cX4_neighboursOf 0 = .ok (.aload_n 0, 1) := by decide +kernel
theorem dX4_neighboursOf_1 : decode cX4_neighboursOf 1 = .ok (.iload_n 1, 1) := by decide +kernel
theorem dX4_neighboursOf_2 : decode cX4_neighboursOf 2 = .ok (.invokevirtual 40, 3) := by decide +kernel
theorem dX4_neighboursOf_5 : decode cX4_neighboursOf 5 = .ok (.ifCond .eq 12, 3) := by decide +kernel
theorem dX4_neighboursOf_8 : decode cX4_neighboursOf 8 = .ok (.aload_n 0, 1) := by decide +kernel
theorem dX4_neighboursOf_9 : decode cX4_neighboursOf 9 = .ok (.getfield 25, 3) := by decide +kernel
theorem dX4_neighboursOf_12 : decode cX4_neighboursOf 12 = .ok (.iload_n 1, 1) := by decide +kernel
theorem dX4_neighboursOf_13 : decode cX4_neighboursOf 13 = .ok (.iaload, 1) := by decide +kernel
theorem dX4_neighboursOf_14 : decode cX4_neighboursOf 14 = .ok (.goto 4, 3) := by decide +kernel
theorem dX4_neighboursOf_17 : decode cX4_neighboursOf 17 = .ok (.iconst 0, 1) := by decide +kernel
theorem dX4_neighboursOf_18 : decode cX4_neighboursOf 18 = .ok (.ireturn, 1) := by decide +kernel
set_option maxRecDepth 20000 in
theorem ggX4_areNeighbours_X4_neighboursOf : GoodIn wsX4_areNeighbours wsX4_neighboursOf := goodIn_ca (goodIn_r _ [5, 6, 7, 8, 9, 4, 10, 11, 15, 16, 17, 18, 19, 20, 21] (by decide +kernel) (by decide +kernel)) (goodIn_sub (fun _ h => List.mem_cons_of_mem _ (List.mem_append_right _ h)) (by decide +kernel))
set_option maxRecDepth 20000 in
theorem gX4_areNeighbours_X4_neighboursOf : GoodIn wsX4_areNeighbours (wsV RX4 44 RX4 yX4_neighboursOf wsX4_neighboursOf) := goodIn_app (goodIn_of _ (by decide +kernel)) ggX4_areNeighbours_X4_neighboursOf
set_option maxRecDepth 20000 in
theorem ggX4_areNeighbours_X7_isIn : GoodIn wsX4_areNeighbours wsX7_isIn := goodIn_r _ [14] (by decide +kernel) (by decide +kernel)
set_option maxRecDepth 20000 in
theorem gX4_areNeighbours_X7_isIn_n48 : GoodIn wsX4_areNeighbours (wsX7_isIn) := ggX4_areNeighbours_X7_isIn
theorem dX4_areNeighbours_0 : decode cX4_areNeighbours 0 = .ok (.aload_n 0, 1) := by decide +kernel
theorem dX4_areNeighbours_1 : decode cX4_areNeighbours 1 = .ok (.iload_n 1, 1) := by decide +kernel
theorem dX4_areNeighbours_2 : decode cX4_areNeighbours 2 = .ok (.invokevirtual 44, 3) := by decide +kernel
theorem dX4_areNeighbours_5 : decode cX4_areNeighbours 5 = .ok (.iload_n 2, 1) := by decide +kernel
theorem dX4_areNeighbours_6 : decode cX4_areNeighbours 6 = .ok (.invokestatic 48, 3) := by decide +kernel
theorem dX4_areNeighbours_9 : decode cX4_areNeighbours 9 = .ok (.ireturn, 1) := by decide +kernel
set_option maxRecDepth 20000 in
theorem ggX4_link_X4_has : GoodIn wsX4_link wsX4_has := goodIn_r _ [6, 7, 8, 9, 10, 11, 12, 13, 14] (by decide +kernel) (by decide +kernel)
set_option maxRecDepth 20000 in
theorem gX4_link_X4_has : GoodIn wsX4_link (wsV RX4 40 RX4 yX4_has wsX4_has) := goodIn_app (goodIn_of _ (by decide +kernel)) ggX4_link_X4_has
theorem dX4_link_0 : decode cX4_link 0 = .ok (.aload_n 0, 1) := by decide +kernel
theorem dX4_link_1 : decode cX4_link 1 = .ok (.iload_n 1, 1) := by decide +kernel
theorem dX4_link_2 : decode cX4_link 2 = .ok (.invokevirtual 40, 3) := by decide +kernel
theorem dX4_link_5 : decode cX4_link 5 = .ok (.ifCond .eq 35, 3) := by decide +kernel
theorem dX4_link_8 : decode cX4_link 8 = .ok (.aload_n 0, 1) := by decide +kernel
theorem dX4_link_9 : decode cX4_link 9 = .ok (.iload_n 2, 1) := by decide +kernel
theorem dX4_link_10 : decode cX4_link 10 = .ok (.invokevirtual 40, 3) := by decide +kernel
theorem dX4_link_13 : decode cX4_link 13 = .ok (.ifCond .eq 27, 3) := by decide +kernel
theorem dX4_link_16 : decode cX4_link 16 = .ok (.aload_n 0, 1) := by decide +kernel
theorem dX4_link_17 : decode cX4_link 17 = .ok (.getfield 25, 3) := by decide +kernel
theorem dX4_link_20 : decode cX4_link 20 = .ok (.iload_n 1, 1) := by decide +kernel
theorem dX4_link_21 : decode cX4_link 21 = .ok (.dup2, 1) := by decide +kernel
theorem dX4_link_22 : decode cX4_link 22 = .ok (.iaload, 1) := by decide +kernel
theorem dX4_link_23 : decode cX4_link 23 = .ok (.iconst 1, 1) := by decide +kernel
theorem dX4_link_24 : decode cX4_link 24 = .ok (.iload_n 2, 1) := by decide +kernel
theorem dX4_link_25 : decode cX4_link 25 = .ok (.ishl, 1) := by decide +kernel
theorem dX4_link_26 : decode cX4_link 26 = .ok (.ior, 1) := by decide +kernel
theorem dX4_link_27 : decode cX4_link 27 = .ok (.iastore, 1) := by decide +kernel
theorem dX4_link_28 : decode cX4_link 28 = .ok (.aload_n 0, 1) := by decide +kernel
theorem dX4_link_29 : decode cX4_link 29 = .ok (.getfield 25, 3) := by decide +kernel
theorem dX4_link_32 : decode cX4_link 32 = .ok (.iload_n 2, 1) := by decide +kernel
theorem dX4_link_33 : decode cX4_link 33 = .ok (.dup2, 1) := by decide +kernel
theorem dX4_link_34 : decode cX4_link 34 = .ok (.iaload, 1) := by decide +kernel
theorem dX4_link_35 : decode cX4_link 35 = .ok (.iconst 1, 1) := by decide +kernel
theorem dX4_link_36 : decode cX4_link 36 = .ok (.iload_n 1, 1) := by decide +kernel
theorem dX4_link_37 : decode cX4_link 37 = .ok (.ishl, 1) := by decide +kernel
theorem dX4_link_38 : decode cX4_link 38 = .ok (.ior, 1) := by decide +kernel
theorem dX4_link_39 : decode cX4_link 39 = .ok (.iastore, 1) := by decide +kernel
theorem dX4_link_40 : decode cX4_link 40 = .ok (.return_, 1) := by decide +kernel
set_option maxRecDepth 20000 in
theorem ggX4_linkAll_X7_isIn : GoodIn wsX4_linkAll wsX7_isIn := goodIn_r _ [4] (by decide +kernel) (by decide +kernel)
set_option maxRecDepth 20000 in
theorem gX4_linkAll_X7_isIn_n48 : GoodIn wsX4_linkAll (wsX7_isIn) := ggX4_linkAll_X7_isIn
set_option maxRecDepth 20000 in
theorem ggX4_linkAll_X4_link : GoodIn wsX4_linkAll wsX4_link := goodIn_ca (goodIn_r _ [9, 10, 11, 12, 13, 8, 14, 1, 15, 16, 17, 18, 19, 20, 21] (by decide +kernel) (by decide +kernel)) (goodIn_sub (fun _ h => List.mem_cons_of_mem _ (List.mem_append_right _ h)) (by decide +kernel))
set_option maxRecDepth 20000 in
theorem gX4_linkAll_X4_link : GoodIn wsX4_linkAll (wsV RX4 52 RX4 yX4_link wsX4_link) := goodIn_app (goodIn_of _ (by decide +kernel)) ggX4_linkAll_X4_link
theorem dX4_linkAll_0 : decode cX4_linkAll 0 = .ok (.iconst 0, 1) := by decide +kernel
theorem dX4_linkAll_1 : decode cX4_linkAll 1 = .ok (.istore_n 3, 1) := by decide +kernel
theorem dX4_linkAll_2 : decode cX4_linkAll 2 = .ok (.iload_n 3, 1) := by decide +kernel
theorem dX4_linkAll_3 : decode cX4_linkAll 3 = .ok (.aload_n 0, 1) := by decide +kernel
theorem dX4_linkAll_4 : decode cX4_linkAll 4 = .ok (.getfield 9, 3) := by decide +kernel
theorem dX4_linkAll_7 : decode cX4_linkAll 7 = .ok (.if_icmp .ge 23, 3) := by decide +kernel
theorem dX4_linkAll_10 : decode cX4_linkAll 10 = .ok (.iload_n 2, 1) := by decide +kernel
theorem dX4_linkAll_11 : decode cX4_linkAll 11 = .ok (.iload_n 3, 1) := by decide +kernel
theorem dX4_linkAll_12 : decode cX4_linkAll 12 = .ok (.invokestatic 48, 3) := by decide +kernel
theorem dX4_linkAll_15 : decode cX4_linkAll 15 = .ok (.ifCond .eq 9, 3) := by decide +kernel
theorem dX4_linkAll_18 : decode cX4_linkAll 18 = .ok (.aload_n 0, 1) := by decide +kernel
theorem dX4_linkAll_19 : decode cX4_linkAll 19 = .ok (.iload_n 1, 1) := by decide +kernel
theorem dX4_linkAll_20 : decode cX4_linkAll 20 = .ok (.iload_n 3, 1) := by decide +kernel
theorem dX4_linkAll_21 : decode cX4_linkAll 21 = .ok (.invokevirtual 52, 3) := by decide +kernel
theorem dX4_linkAll_24 : decode cX4_linkAll 24 = .ok (.iinc 3 1, 3) := by decide +kernel
theorem dX4_linkAll_27 : decode cX4_linkAll 27 = .ok (.goto (-25), 3) := by decide +kernel
theorem dX4_linkAll_30 : decode cX4_linkAll 30 = .ok (.return_, 1) := by decide +kernel
set_option maxRecDepth 20000 in
theorem ggX4_unlink_X4_has : GoodIn wsX4_unlink wsX4_has := goodIn_r _ [6, 7, 8, 9, 10, 11, 12, 13, 14] (by decide +kernel) (by decide +kernel)
set_option maxRecDepth 20000 in
theorem gX4_unlink_X4_has : GoodIn wsX4_unlink (wsV RX4 40 RX4 yX4_has wsX4_has) := goodIn_app (goodIn_of _ (by decide +kernel)) ggX4_unlink_X4_has
theorem dX4_unlink_0 : decode cX4_unlink 0 = .ok (.aload_n 0, 1) := by decide +kernel
theorem dX4_unlink_1 : decode cX4_unlink 1 = .ok (.iload_n 1, 1) := by decide +kernel
theorem dX4_unlink_2 : decode cX4_unlink 2 = .ok (.invokevirtual 40, 3) := by decide +kernel
theorem dX4_unlink_5 : decode cX4_unlink 5 = .ok (.ifCond .eq 39, 3) := by decide +kernel
theorem dX4_unlink_8 : decode cX4_unlink 8 = .ok (.aload_n 0, 1) := by decide +kernel
theorem dX4_unlink_9 : decode cX4_unlink 9 = .ok (.iload_n 2, 1) := by decide +kernel
theorem dX4_unlink_10 : decode cX4_unlink 10 = .ok (.invokevirtual 40, 3) := by decide +kernel
theorem dX4_unlink_13 : decode cX4_unlink 13 = .ok (.ifCond .eq 31, 3) := by decide +kernel
theorem dX4_unlink_16 : decode cX4_unlink 16 = .ok (.aload_n 0, 1) := by decide +kernel
theorem dX4_unlink_17 : decode cX4_unlink 17 = .ok (.getfield 25, 3) := by decide +kernel
theorem dX4_unlink_20 : decode cX4_unlink 20 = .ok (.iload_n 1, 1) := by decide +kernel
theorem dX4_unlink_21 : decode cX4_unlink 21 = .ok (.dup2, 1) := by decide +kernel
theorem dX4_unlink_22 : decode cX4_unlink 22 = .ok (.iaload, 1) := by decide +kernel
theorem dX4_unlink_23 : decode cX4_unlink 23 = .ok (.iconst 1, 1) := by decide +kernel
theorem dX4_unlink_24 : decode cX4_unlink 24 = .ok (.iload_n 2, 1) := by decide +kernel
theorem dX4_unlink_25 : decode cX4_unlink 25 = .ok (.ishl, 1) := by decide +kernel
theorem dX4_unlink_26 : decode cX4_unlink 26 = .ok (.iconst (-1), 1) := by decide +kernel
theorem dX4_unlink_27 : decode cX4_unlink 27 = .ok (.ixor, 1) := by decide +kernel
theorem dX4_unlink_28 : decode cX4_unlink 28 = .ok (.iand, 1) := by decide +kernel
theorem dX4_unlink_29 : decode cX4_unlink 29 = .ok (.iastore, 1) := by decide +kernel
theorem dX4_unlink_30 : decode cX4_unlink 30 = .ok (.aload_n 0, 1) := by decide +kernel
theorem dX4_unlink_31 : decode cX4_unlink 31 = .ok (.getfield 25, 3) := by decide +kernel
theorem dX4_unlink_34 : decode cX4_unlink 34 = .ok (.iload_n 2, 1) := by decide +kernel
theorem dX4_unlink_35 : decode cX4_unlink 35 = .ok (.dup2, 1) := by decide +kernel
theorem dX4_unlink_36 : decode cX4_unlink 36 = .ok (.iaload, 1) := by decide +kernel
theorem dX4_unlink_37 : decode cX4_unlink 37 = .ok (.iconst 1, 1) := by decide +kernel
theorem dX4_unlink_38 : decode cX4_unlink 38 = .ok (.iload_n 1, 1) := by decide +kernel
theorem dX4_unlink_39 : decode cX4_unlink 39 = .ok (.ishl, 1) := by decide +kernel
theorem dX4_unlink_40 : decode cX4_unlink 40 = .ok (.iconst (-1), 1) := by decide +kernel
theorem dX4_unlink_41 : decode cX4_unlink 41 = .ok (.ixor, 1) := by decide +kernel
theorem dX4_unlink_42 : decode cX4_unlink 42 = .ok (.iand, 1) := by decide +kernel
theorem dX4_unlink_43 : decode cX4_unlink 43 = .ok (.iastore, 1) := by decide +kernel
theorem dX4_unlink_44 : decode cX4_unlink 44 = .ok (.return_, 1) := by decide +kernel
theorem dX4_presentOnes_0 : decode cX4_presentOnes 0 = .ok (.iconst 0, 1) := by decide +kernel
theorem dX4_presentOnes_1 : decode cX4_presentOnes 1 = .ok (.istore_n 1, 1) := by decide +kernel
theorem dX4_presentOnes_2 : decode cX4_presentOnes 2 = .ok (.iconst 0, 1) := by decide +kernel
theorem dX4_presentOnes_3 : decode cX4_presentOnes 3 = .ok (.istore_n 2, 1) := by decide +kernel
theorem dX4_presentOnes_4 : decode cX4_presentOnes 4 = .ok (.iload_n 2, 1) := by decide +kernel
theorem dX4_presentOnes_5 : decode cX4_presentOnes 5 = .ok (.aload_n 0, 1) := by decide +kernel
theorem dX4_presentOnes_6 : decode cX4_presentOnes 6 = .ok (.getfield 9, 3) := by decide +kernel
theorem dX4_presentOnes_9 : decode cX4_presentOnes 9 = .ok (.if_icmp .ge 25, 3) := by decide +kernel
theorem dX4_presentOnes_12 : decode cX4_presentOnes 12 = .ok (.aload_n 0, 1) := by decide +kernel
theorem dX4_presentOnes_13 : decode cX4_presentOnes 13 = .ok (.getfield 22, 3) := by decide +kernel
theorem dX4_presentOnes_16 : decode cX4_presentOnes 16 = .ok (.iload_n 2, 1) := by decide +kernel
theorem dX4_presentOnes_17 : decode cX4_presentOnes 17 = .ok (.iaload, 1) := by decide +kernel
theorem dX4_presentOnes_18 : decode cX4_presentOnes 18 = .ok (.iconst (-1), 1) := by decide +kernel
theorem dX4_presentOnes_19 : decode cX4_presentOnes 19 = .ok (.if_icmp .ne 9, 3) := by decide +kernel
theorem dX4_presentOnes_22 : decode cX4_presentOnes 22 = .ok (.iload_n 1, 1) := by decide +kernel
theorem dX4_presentOnes_23 : decode cX4_presentOnes 23 = .ok (.iconst 1, 1) := by decide +kernel
theorem dX4_presentOnes_24 : decode cX4_presentOnes 24 = .ok (.iload_n 2, 1) := by decide +kernel
theorem dX4_presentOnes_25 : decode cX4_presentOnes 25 = .ok (.ishl, 1) := by decide +kernel
theorem dX4_presentOnes_26 : decode cX4_presentOnes 26 = .ok (.ior, 1) := by decide +kernel
theorem dX4_presentOnes_27 : decode cX4_presentOnes 27 = .ok (.istore_n 1, 1) := by decide +kernel
theorem dX4_presentOnes_28 : decode cX4_presentOnes 28 = .ok (.iinc 2 1, 3) := by decide +kernel
theorem dX4_presentOnes_31 : decode cX4_presentOnes 31 = .ok (.goto (-27), 3) := by decide +kernel
theorem dX4_presentOnes_34 : decode cX4_presentOnes 34 = .ok (.iload_n 1, 1) := by decide +kernel
theorem dX4_presentOnes_35 : decode cX4_presentOnes 35 = .ok (.ireturn, 1) := by decide +kernel
theorem dX4_addedOnes_0 : decode cX4_addedOnes 0 = .ok (.iconst 0, 1) := by decide +kernel
theorem dX4_addedOnes_1 : decode cX4_addedOnes 1 = .ok (.istore_n 1, 1) := by decide +kernel
theorem dX4_addedOnes_2 : decode cX4_addedOnes 2 = .ok (.iconst 0, 1) := by decide +kernel
theorem dX4_addedOnes_3 : decode cX4_addedOnes 3 = .ok (.istore_n 2, 1) := by decide +kernel
theorem dX4_addedOnes_4 : decode cX4_addedOnes 4 = .ok (.iload_n 2, 1) := by decide +kernel
theorem dX4_addedOnes_5 : decode cX4_addedOnes 5 = .ok (.aload_n 0, 1) := by decide +kernel
theorem dX4_addedOnes_6 : decode cX4_addedOnes 6 = .ok (.getfield 9, 3) := by decide +kernel
theorem dX4_addedOnes_9 : decode cX4_addedOnes 9 = .ok (.if_icmp .ge 24, 3) := by decide +kernel
theorem dX4_addedOnes_12 : decode cX4_addedOnes 12 = .ok (.aload_n 0, 1) := by decide +kernel
theorem dX4_addedOnes_13 : decode cX4_addedOnes 13 = .ok (.getfield 28, 3) := by decide +kernel
theorem dX4_addedOnes_16 : decode cX4_addedOnes 16 = .ok (.iload_n 2, 1) := by decide +kernel
theorem dX4_addedOnes_17 : decode cX4_addedOnes 17 = .ok (.iaload, 1) := by decide +kernel
theorem dX4_addedOnes_18 : decode cX4_addedOnes 18 = .ok (.ifCond .ne 9, 3) := by decide +kernel
theorem dX4_addedOnes_21 : decode cX4_addedOnes 21 = .ok (.iload_n 1, 1) := by decide +kernel
theorem dX4_addedOnes_22 : decode cX4_addedOnes 22 = .ok (.iconst 1, 1) := by decide +kernel
theorem dX4_addedOnes_23 : decode cX4_addedOnes 23 = .ok (.iload_n 2, 1) := by decide +kernel
theorem dX4_addedOnes_24 : decode cX4_addedOnes 24 = .ok (.ishl, 1) := by decide +kernel
theorem dX4_addedOnes_25 : decode cX4_addedOnes 25 = .ok (.ior, 1) := by decide +kernel
theorem dX4_addedOnes_26 : decode cX4_addedOnes 26 = .ok (.istore_n 1, 1) := by decide +kernel
theorem dX4_addedOnes_27 : decode cX4_addedOnes 27 = .ok (.iinc 2 1, 3) := by decide +kernel
theorem dX4_addedOnes_30 : decode cX4_addedOnes 30 = .ok (.goto (-26), 3) := by decide +kernel
theorem dX4_addedOnes_33 : decode cX4_addedOnes 33 = .ok (.iload_n 1, 1) := by decide +kernel
theorem dX4_addedOnes_34 : decode cX4_addedOnes 34 = .ok (.ireturn, 1) := by decide +kernel
set_option maxRecDepth 20000 in
theorem ggX4_areaOf_X7_isIn : GoodIn wsX4_areaOf wsX7_isIn := goodIn_r _ [5] (by decide +kernel) (by decide +kernel)
set_option maxRecDepth 20000 in
theorem gX4_areaOf_X7_isIn_n48 : GoodIn wsX4_areaOf (wsX7_isIn) := ggX4_areaOf_X7_isIn
theorem dX4_areaOf_0 : decode cX4_areaOf 0 = .ok (.iconst 0, 1) := by decide +kernel
theorem dX4_areaOf_1 : decode cX4_areaOf 1 = .ok (.istore_n 2, 1) := by decide +kernel
theorem dX4_areaOf_2 : decode cX4_areaOf 2 = .ok (.iconst 0, 1) := by decide +kernel
theorem dX4_areaOf_3 : decode cX4_areaOf 3 = .ok (.istore_n 3, 1) := by decide +kernel
theorem dX4_areaOf_4 : decode cX4_areaOf 4 = .ok (.iload_n 3, 1) := by decide +kernel
theorem dX4_areaOf_5 : decode cX4_areaOf 5 = .ok (.aload_n 0, 1) := by decide +kernel
theorem dX4_areaOf_6 : decode cX4_areaOf 6 = .ok (.getfield 9, 3) := by decide +kernel
theorem dX4_areaOf_9 : decode cX4_areaOf 9 = .ok (.if_icmp .ge 26, 3) := by decide +kernel
theorem dX4_areaOf_12 : decode cX4_areaOf 12 = .ok (.iload_n 1, 1) := by decide +kernel
theorem dX4_areaOf_13 : decode cX4_areaOf 13 = .ok (.iload_n 3, 1) := by decide +kernel
theorem dX4_areaOf_14 : decode cX4_areaOf 14 = .ok (.invokestatic 48, 3) := by decide +kernel
theorem dX4_areaOf_17 : decode cX4_areaOf 17 = .ok (.ifCond .eq 12, 3) := by decide +kernel
theorem dX4_areaOf_20 : decode cX4_areaOf 20 = .ok (.iload_n 2, 1) := by decide +kernel
theorem dX4_areaOf_21 : decode cX4_areaOf 21 = .ok (.aload_n 0, 1) := by decide +kernel
theorem dX4_areaOf_22 : decode cX4_areaOf 22 = .ok (.getfield 15, 3) := by decide +kernel
theorem dX4_areaOf_25 : decode cX4_areaOf 25 = .ok (.iload_n 3, 1) := by decide +kernel
theorem dX4_areaOf_26 : decode cX4_areaOf 26 = .ok (.iaload, 1) := by decide +kernel
theorem dX4_areaOf_27 : decode cX4_areaOf 27 = .ok (.iadd, 1) := by decide +kernel
theorem dX4_areaOf_28 : decode cX4_areaOf 28 = .ok (.istore_n 2, 1) := by decide +kernel
theorem dX4_areaOf_29 : decode cX4_areaOf 29 = .ok (.iinc 3 1, 3) := by decide +kernel
theorem dX4_areaOf_32 : decode cX4_areaOf 32 = .ok (.goto (-28), 3) := by decide +kernel
theorem dX4_areaOf_35 : decode cX4_areaOf 35 = .ok (.iload_n 2, 1) := by decide +kernel
theorem dX4_areaOf_36 : decode cX4_areaOf 36 = .ok (.ireturn, 1) := by decide +kernel
set_option maxRecDepth 20000 in
theorem ggX4_ancestorsOf_X4_has : GoodIn wsX4_ancestorsOf wsX4_has := goodIn_r _ [6, 7, 11, 12, 13, 14, 15, 16, 17] (by decide +kernel) (by decide +kernel)
set_option maxRecDepth 20000 in
theorem gX4_ancestorsOf_X4_has : GoodIn wsX4_ancestorsOf (wsV RX4 40 RX4 yX4_has wsX4_has) := goodIn_app (goodIn_of _ (by decide +kernel)) ggX4_ancestorsOf_X4_has
set_option maxRecDepth 20000 in
theorem ggX4_ancestorsOf_X7_isIn : GoodIn wsX4_ancestorsOf wsX7_isIn := goodIn_r _ [10] (by decide +kernel) (by decide +kernel)
set_option maxRecDepth 20000 in
theorem gX4_ancestorsOf_X7_isIn_n48 : GoodIn wsX4_ancestorsOf (wsX7_isIn) := ggX4_ancestorsOf_X7_isIn
theorem dX4_ancestorsOf_0 : decode cX4_ancestorsOf 0 = .ok (.aload_n 0, 1) := by decide +kernel
theorem dX4_ancestorsOf_1 : decode cX4_ancestorsOf 1 = .ok (.iload_n 1, 1) := by decide +kernel
theorem dX4_ancestorsOf_2 : decode cX4_ancestorsOf 2 = .ok (.invokevirtual 40, 3) := by decide +kernel
theorem dX4_ancestorsOf_5 : decode cX4_ancestorsOf 5 = .ok (.ifCond .ne 5, 3) := by decide +kernel
theorem dX4_ancestorsOf_8 : decode cX4_ancestorsOf 8 = .ok (.iconst 0, 1) := by decide +kernel
theorem dX4_ancestorsOf_9 : decode cX4_ancestorsOf 9 = .ok (.ireturn, 1) := by decide +kernel
theorem dX4_ancestorsOf_10 : decode cX4_ancestorsOf 10 = .ok (.aload_n 0, 1) := by decide +kernel
theorem dX4_ancestorsOf_11 : decode cX4_ancestorsOf 11 = .ok (.getfield 28, 3) := by decide +kernel
theorem dX4_ancestorsOf_14 : decode cX4_ancestorsOf 14 = .ok (.iload_n 1, 1) := by decide +kernel
theorem dX4_ancestorsOf_15 : decode cX4_ancestorsOf 15 = .ok (.iaload, 1) := by decide +kernel
theorem dX4_ancestorsOf_16 : decode cX4_ancestorsOf 16 = .ok (.istore_n 2, 1) := by decide +kernel
theorem dX4_ancestorsOf_17 : decode cX4_ancestorsOf 17 = .ok (.iload_n 1, 1) := by decide +kernel
theorem dX4_ancestorsOf_18 : decode cX4_ancestorsOf 18 = .ok (.iconst 1, 1) := by decide +kernel
theorem dX4_ancestorsOf_19 : decode cX4_ancestorsOf 19 = .ok (.isub, 1) := by decide +kernel
theorem dX4_ancestorsOf_20 : decode cX4_ancestorsOf 20 = .ok (.istore_n 3, 1) := by decide +kernel
theorem dX4_ancestorsOf_21 : decode cX4_ancestorsOf 21 = .ok (.iload_n 3, 1) := by decide +kernel
theorem dX4_ancestorsOf_22 : decode cX4_ancestorsOf 22 = .ok (.ifCond .lt 26, 3) := by decide +kernel
theorem dX4_ancestorsOf_25 : decode cX4_ancestorsOf 25 = .ok (.iload_n 2, 1) := by decide +kernel
theorem dX4_ancestorsOf_26 : decode cX4_ancestorsOf 26 = .ok (.iload_n 3, 1) := by decide +kernel
theorem dX4_ancestorsOf_27 : decode cX4_ancestorsOf 27 = .ok (.invokestatic 48, 3) := by decide +kernel
theorem dX4_ancestorsOf_30 : decode cX4_ancestorsOf 30 = .ok (.ifCond .eq 12, 3) := by decide +kernel
theorem dX4_ancestorsOf_33 : decode cX4_ancestorsOf 33 = .ok (.iload_n 2, 1) := by decide +kernel
theorem dX4_ancestorsOf_34 : decode cX4_ancestorsOf 34 = .ok (.aload_n 0, 1) := by decide +kernel
theorem dX4_ancestorsOf_35 : decode cX4_ancestorsOf 35 = .ok (.getfield 28, 3) := by decide +kernel
theorem dX4_ancestorsOf_38 : decode cX4_ancestorsOf 38 = .ok (.iload_n 3, 1) := by decide +kernel
theorem dX4_ancestorsOf_39 : decode cX4_ancestorsOf 39 = .ok (.iaload, 1) := by decide +kernel
theorem dX4_ancestorsOf_40 : decode cX4_ancestorsOf 40 = .ok (.ior, 1) := by decide +kernel
theorem dX4_ancestorsOf_41 : decode cX4_ancestorsOf 41 = .ok (.istore_n 2, 1) := by decide +kernel
theorem dX4_ancestorsOf_42 : decode cX4_ancestorsOf 42 = .ok (.iinc 3 (-1), 3) := by decide +kernel
theorem dX4_ancestorsOf_45 : decode cX4_ancestorsOf 45 = .ok (.goto (-24), 3) := by decide +kernel
theorem dX4_ancestorsOf_48 : decode cX4_ancestorsOf 48 = .ok (.iload_n 2, 1) := by decide +kernel
theorem dX4_ancestorsOf_49 : decode cX4_ancestorsOf 49 = .ok (.ireturn, 1) := by decide +kernel
set_option maxRecDepth 20000 in
theorem ggX4_heirsOf_X4_has : GoodIn wsX4_heirsOf wsX4_has := goodIn_r _ [7, 1, 8, 9, 10, 11, 12, 13, 14] (by decide +kernel) (by decide +kernel)
set_option maxRecDepth 20000 in
theorem gX4_heirsOf_X4_has : GoodIn wsX4_heirsOf (wsV RX4 40 RX4 yX4_has wsX4_has) := goodIn_app (goodIn_of _ (by decide +kernel)) ggX4_heirsOf_X4_has
theorem dX4_heirsOf_0 : decode cX4_heirsOf 0 = .ok (.aload_n 0, 1) := by decide +kernel
theorem dX4_heirsOf_1 : decode cX4_heirsOf 1 = .ok (.iload_n 1, 1) := by decide +kernel
theorem dX4_heirsOf_2 : decode cX4_heirsOf 2 = .ok (.invokevirtual 40, 3) := by decide +kernel
theorem dX4_heirsOf_5 : decode cX4_heirsOf 5 = .ok (.ifCond .ne 5, 3) := by decide +kernel
theorem dX4_heirsOf_8 : decode cX4_heirsOf 8 = .ok (.iconst 0, 1) := by decide +kernel
theorem dX4_heirsOf_9 : decode cX4_heirsOf 9 = .ok (.ireturn, 1) := by decide +kernel
theorem dX4_heirsOf_10 : decode cX4_heirsOf 10 = .ok (.iconst 1, 1) := by decide +kernel
theorem dX4_heirsOf_11 : decode cX4_heirsOf 11 = .ok (.iload_n 1, 1) := by decide +kernel
theorem dX4_heirsOf_12 : decode cX4_heirsOf 12 = .ok (.ishl, 1) := by decide +kernel
theorem dX4_heirsOf_13 : decode cX4_heirsOf 13 = .ok (.istore_n 2, 1) := by decide +kernel
theorem dX4_heirsOf_14 : decode cX4_heirsOf 14 = .ok (.iload_n 1, 1) := by decide +kernel
theorem dX4_heirsOf_15 : decode cX4_heirsOf 15 = .ok (.iconst 1, 1) := by decide +kernel
theorem dX4_heirsOf_16 : decode cX4_heirsOf 16 = .ok (.iadd, 1) := by decide +kernel
theorem dX4_heirsOf_17 : decode cX4_heirsOf 17 = .ok (.istore_n 3, 1) := by decide +kernel
theorem dX4_heirsOf_18 : decode cX4_heirsOf 18 = .ok (.iload_n 3, 1) := by decide +kernel
theorem dX4_heirsOf_19 : decode cX4_heirsOf 19 = .ok (.aload_n 0, 1) := by decide +kernel
theorem dX4_heirsOf_20 : decode cX4_heirsOf 20 = .ok (.getfield 9, 3) := by decide +kernel
theorem dX4_heirsOf_23 : decode cX4_heirsOf 23 = .ok (.if_icmp .ge 26, 3) := by decide +kernel
theorem dX4_heirsOf_26 : decode cX4_heirsOf 26 = .ok (.aload_n 0, 1) := by decide +kernel
theorem dX4_heirsOf_27 : decode cX4_heirsOf 27 = .ok (.getfield 28, 3) := by decide +kernel
theorem dX4_heirsOf_30 : decode cX4_heirsOf 30 = .ok (.iload_n 3, 1) := by decide +kernel
theorem dX4_heirsOf_31 : decode cX4_heirsOf 31 = .ok (.iaload, 1) := by decide +kernel
theorem dX4_heirsOf_32 : decode cX4_heirsOf 32 = .ok (.iload_n 2, 1) := by decide +kernel
theorem dX4_heirsOf_33 : decode cX4_heirsOf 33 = .ok (.iand, 1) := by decide +kernel
theorem dX4_heirsOf_34 : decode cX4_heirsOf 34 = .ok (.ifCond .eq 9, 3) := by decide +kernel
theorem dX4_heirsOf_37 : decode cX4_heirsOf 37 = .ok (.iload_n 2, 1) := by decide +kernel
theorem dX4_heirsOf_38 : decode cX4_heirsOf 38 = .ok (.iconst 1, 1) := by decide +kernel
theorem dX4_heirsOf_39 : decode cX4_heirsOf 39 = .ok (.iload_n 3, 1) := by decide +kernel
theorem dX4_heirsOf_40 : decode cX4_heirsOf 40 = .ok (.ishl, 1) := by decide +kernel
theorem dX4_heirsOf_41 : decode cX4_heirsOf 41 = .ok (.ior, 1) := by decide +kernel
theorem dX4_heirsOf_42 : decode cX4_heirsOf 42 = .ok (.istore_n 2, 1) := by decide +kernel
theorem dX4_heirsOf_43 : decode cX4_heirsOf 43 = .ok (.iinc 3 1, 3) := by decide +kernel
theorem dX4_heirsOf_46 : decode cX4_heirsOf 46 = .ok (.goto (-28), 3) := by decide +kernel
theorem dX4_heirsOf_49 : decode cX4_heirsOf 49 = .ok (.iload_n 2, 1) := by decide +kernel
theorem dX4_heirsOf_50 : decode cX4_heirsOf 50 = .ok (.ireturn, 1) := by decide +kernel
set_option maxRecDepth 20000 in
theorem ggX4_stepsBetween_X7_isIn : GoodIn wsX4_stepsBetween wsX7_isIn := goodIn_r _ [3] (by decide +kernel) (by decide +kernel)
set_option maxRecDepth 20000 in
theorem gX4_stepsBetween_X7_isIn_n48 : GoodIn wsX4_stepsBetween (wsX7_isIn) := ggX4_stepsBetween_X7_isIn
set_option maxRecDepth 20000 in
theorem ggX4_stepsBetween_X4_neighboursOfAll : GoodIn wsX4_stepsBetween wsX4_neighboursOfAll := goodIn_ca (goodIn_r _ [8, 9, 10, 1, 2, 3, 11, 12, 13, 14, 15, 16, 17] (by decide +kernel) (by decide +kernel)) (goodIn_sub (fun _ h => List.mem_cons_of_mem _ (List.mem_append_right _ h)) (by decide +kernel))
set_option maxRecDepth 20000 in
theorem gX4_stepsBetween_X4_neighboursOfAll : GoodIn wsX4_stepsBetween (wsV RX4 56 RX4 yX4_neighboursOfAll wsX4_neighboursOfAll) := goodIn_app (goodIn_of _ (by decide +kernel)) ggX4_stepsBetween_X4_neighboursOfAll
theorem dX4_stepsBetween_0 : decode cX4_stepsBetween 0 = .ok (.iconst 1, 1) := by decide +kernel
theorem dX4_stepsBetween_1 : decode cX4_stepsBetween 1 = .ok (.iload_n 1, 1) := by decide +kernel
theorem dX4_stepsBetween_2 : decode cX4_stepsBetween 2 = .ok (.ishl, 1) := by decide +kernel
theorem dX4_stepsBetween_3 : decode cX4_stepsBetween 3 = .ok (.istore_n 3, 1) := by decide +kernel
theorem dX4_stepsBetween_4 : decode cX4_stepsBetween 4 = .ok (.iconst 0, 1) := by decide +kernel
theorem dX4_stepsBetween_5 : decode cX4_stepsBetween 5 = .ok (.istore 4, 2) := by decide +kernel
theorem dX4_stepsBetween_7 : decode cX4_stepsBetween 7 = .ok (.iload 4, 2) := by decide +kernel
theorem dX4_stepsBetween_9 : decode cX4_stepsBetween 9 = .ok (.bipush 24, 2) := by decide +kernel
theorem dX4_stepsBetween_11 : decode cX4_stepsBetween 11 = .ok (.if_icmp .ge 28, 3) := by decide +kernel
theorem dX4_stepsBetween_14 : decode cX4_stepsBetween 14 = .ok (.iload_n 3, 1) := by decide +kernel
theorem dX4_stepsBetween_15 : decode cX4_stepsBetween 15 = .ok (.iload_n 2, 1) := by decide +kernel
theorem dX4_stepsBetween_16 : decode cX4_stepsBetween 16 = .ok (.invokestatic 48, 3) := by decide +kernel
theorem dX4_stepsBetween_19 : decode cX4_stepsBetween 19 = .ok (.ifCond .eq 6, 3) := by decide +kernel
theorem dX4_stepsBetween_22 : decode cX4_stepsBetween 22 = .ok (.iload 4, 2) := by decide +kernel
theorem dX4_stepsBetween_24 : decode cX4_stepsBetween 24 = .ok (.ireturn, 1) := by decide +kernel
theorem dX4_stepsBetween_25 : decode cX4_stepsBetween 25 = .ok (.iload_n 3, 1) := by decide +kernel
theorem dX4_stepsBetween_26 : decode cX4_stepsBetween 26 = .ok (.aload_n 0, 1) := by decide +kernel
theorem dX4_stepsBetween_27 : decode cX4_stepsBetween 27 = .ok (.iload_n 3, 1) := by decide +kernel
theorem dX4_stepsBetween_28 : decode cX4_stepsBetween 28 = .ok (.invokevirtual 56, 3) := by decide +kernel
theorem dX4_stepsBetween_31 : decode cX4_stepsBetween 31 = .ok (.ior, 1) := by decide +kernel
theorem dX4_stepsBetween_32 : decode cX4_stepsBetween 32 = .ok (.istore_n 3, 1) := by decide +kernel
theorem dX4_stepsBetween_33 : decode cX4_stepsBetween 33 = .ok (.iinc 4 1, 3) := by decide +kernel
theorem dX4_stepsBetween_36 : decode cX4_stepsBetween 36 = .ok (.goto (-29), 3) := by decide +kernel
theorem dX4_stepsBetween_39 : decode cX4_stepsBetween 39 = .ok (.iconst (-1), 1) := by decide +kernel
theorem dX4_stepsBetween_40 : decode cX4_stepsBetween 40 = .ok (.ireturn, 1) := by decide +kernel
set_option maxRecDepth 20000 in
theorem ggX4_neighboursOfAll_X7_isIn : GoodIn wsX4_neighboursOfAll wsX7_isIn := goodIn_r _ [5] (by decide +kernel) (by decide +kernel)
set_option maxRecDepth 20000 in
theorem gX4_neighboursOfAll_X7_isIn_n48 : GoodIn wsX4_neighboursOfAll (wsX7_isIn) := ggX4_neighboursOfAll_X7_isIn
theorem dX4_neighboursOfAll_0 : decode cX4_neighboursOfAll 0 = .ok (.iconst 0, 1) := by decide +kernel
theorem dX4_neighboursOfAll_1 : decode cX4_neighboursOfAll 1 = .ok (.istore_n 2, 1) := by decide +kernel
theorem dX4_neighboursOfAll_2 : decode cX4_neighboursOfAll 2 = .ok (.iconst 0, 1) := by decide +kernel
theorem dX4_neighboursOfAll_3 : decode cX4_neighboursOfAll 3 = .ok (.istore_n 3, 1) := by decide +kernel
theorem dX4_neighboursOfAll_4 : decode cX4_neighboursOfAll 4 = .ok (.iload_n 3, 1) := by decide +kernel
theorem dX4_neighboursOfAll_5 : decode cX4_neighboursOfAll 5 = .ok (.aload_n 0, 1) := by decide +kernel
theorem dX4_neighboursOfAll_6 : decode cX4_neighboursOfAll 6 = .ok (.getfield 9, 3) := by decide +kernel
theorem dX4_neighboursOfAll_9 : decode cX4_neighboursOfAll 9 = .ok (.if_icmp .ge 26, 3) := by decide +kernel
theorem dX4_neighboursOfAll_12 : decode cX4_neighboursOfAll 12 = .ok (.iload_n 1, 1) := by decide +kernel
theorem dX4_neighboursOfAll_13 : decode cX4_neighboursOfAll 13 = .ok (.iload_n 3, 1) := by decide +kernel
theorem dX4_neighboursOfAll_14 : decode cX4_neighboursOfAll 14 = .ok (.invokestatic 48, 3) := by decide +kernel
theorem dX4_neighboursOfAll_17 : decode cX4_neighboursOfAll 17 = .ok (.ifCond .eq 12, 3) := by decide +kernel
theorem dX4_neighboursOfAll_20 : decode cX4_neighboursOfAll 20 = .ok (.iload_n 2, 1) := by decide +kernel
theorem dX4_neighboursOfAll_21 : decode cX4_neighboursOfAll 21 = .ok (.aload_n 0, 1) := by decide +kernel
theorem dX4_neighboursOfAll_22 : decode cX4_neighboursOfAll 22 = .ok (.getfield 25, 3) := by decide +kernel
theorem dX4_neighboursOfAll_25 : decode cX4_neighboursOfAll 25 = .ok (.iload_n 3, 1) := by decide +kernel
theorem dX4_neighboursOfAll_26 : decode cX4_neighboursOfAll 26 = .ok (.iaload, 1) := by decide +kernel
theorem dX4_neighboursOfAll_27 : decode cX4_neighboursOfAll 27 = .ok (.ior, 1) := by decide +kernel
theorem dX4_neighboursOfAll_28 : decode cX4_neighboursOfAll 28 = .ok (.istore_n 2, 1) := by decide +kernel
theorem dX4_neighboursOfAll_29 : decode cX4_neighboursOfAll 29 = .ok (.iinc 3 1, 3) := by decide +kernel
theorem dX4_neighboursOfAll_32 : decode cX4_neighboursOfAll 32 = .ok (.goto (-28), 3) := by decide +kernel
theorem dX4_neighboursOfAll_35 : decode cX4_neighboursOfAll 35 = .ok (.iload_n 2, 1) := by decide +kernel
theorem dX4_neighboursOfAll_36 : decode cX4_neighboursOfAll 36 = .ok (.ireturn, 1) := by decide +kernel
set_option maxRecDepth 20000 in
theorem ggX4_pairs_J6_bitCount_0f7a4 : GoodIn wsX4_pairs wsJ6_bitCount_0f7a4 := goodIn_r _ [6, 7, 8, 9] (by decide +kernel) (by decide +kernel)
set_option maxRecDepth 20000 in
theorem gX4_pairs_J6_bitCount_0f7a4 : GoodIn wsX4_pairs (va_wsS RX4 59 yJ6_bitCount_0f7a4 wsJ6_bitCount_0f7a4) := goodIn_app (goodIn_of _ (by decide +kernel)) ggX4_pairs_J6_bitCount_0f7a4
theorem dX4_pairs_0 : decode cX4_pairs 0 = .ok (.iconst 0, 1) := by decide +kernel
theorem dX4_pairs_1 : decode cX4_pairs 1 = .ok (.istore_n 1, 1) := by decide +kernel
theorem dX4_pairs_2 : decode cX4_pairs 2 = .ok (.iconst 0, 1) := by decide +kernel
theorem dX4_pairs_3 : decode cX4_pairs 3 = .ok (.istore_n 2, 1) := by decide +kernel
theorem dX4_pairs_4 : decode cX4_pairs 4 = .ok (.iload_n 2, 1) := by decide +kernel
theorem dX4_pairs_5 : decode cX4_pairs 5 = .ok (.aload_n 0, 1) := by decide +kernel
theorem dX4_pairs_6 : decode cX4_pairs 6 = .ok (.getfield 9, 3) := by decide +kernel
theorem dX4_pairs_9 : decode cX4_pairs 9 = .ok (.if_icmp .ge 21, 3) := by decide +kernel
theorem dX4_pairs_12 : decode cX4_pairs 12 = .ok (.iload_n 1, 1) := by decide +kernel
theorem dX4_pairs_13 : decode cX4_pairs 13 = .ok (.aload_n 0, 1) := by decide +kernel
theorem dX4_pairs_14 : decode cX4_pairs 14 = .ok (.getfield 25, 3) := by decide +kernel
theorem dX4_pairs_17 : decode cX4_pairs 17 = .ok (.iload_n 2, 1) := by decide +kernel
theorem dX4_pairs_18 : decode cX4_pairs 18 = .ok (.iaload, 1) := by decide +kernel
theorem dX4_pairs_19 : decode cX4_pairs 19 = .ok (.invokestatic 59, 3) := by decide +kernel
theorem dX4_pairs_22 : decode cX4_pairs 22 = .ok (.iadd, 1) := by decide +kernel
theorem dX4_pairs_23 : decode cX4_pairs 23 = .ok (.istore_n 1, 1) := by decide +kernel
theorem dX4_pairs_24 : decode cX4_pairs 24 = .ok (.iinc 2 1, 3) := by decide +kernel
theorem dX4_pairs_27 : decode cX4_pairs 27 = .ok (.goto (-23), 3) := by decide +kernel
theorem dX4_pairs_30 : decode cX4_pairs 30 = .ok (.iload_n 1, 1) := by decide +kernel
theorem dX4_pairs_31 : decode cX4_pairs 31 = .ok (.iconst 2, 1) := by decide +kernel
theorem dX4_pairs_32 : decode cX4_pairs 32 = .ok (.idiv, 1) := by decide +kernel
theorem dX4_pairs_33 : decode cX4_pairs 33 = .ok (.ireturn, 1) := by decide +kernel
theorem dJ6_bitCount_0f7a4_0 : decode cJ6_bitCount_0f7a4 0 = .ok (.iload_n 0, 1) := by decide +kernel
theorem dJ6_bitCount_0f7a4_1 : decode cJ6_bitCount_0f7a4 1 = .ok (.iload_n 0, 1) := by decide +kernel
theorem dJ6_bitCount_0f7a4_2 : decode cJ6_bitCount_0f7a4 2 = .ok (.iconst 1, 1) := by decide +kernel
theorem dJ6_bitCount_0f7a4_3 : decode cJ6_bitCount_0f7a4 3 = .ok (.iushr, 1) := by decide +kernel
theorem dJ6_bitCount_0f7a4_4 : decode cJ6_bitCount_0f7a4 4 = .ok (.ldc_w 265, 3) := by decide +kernel
theorem dJ6_bitCount_0f7a4_7 : decode cJ6_bitCount_0f7a4 7 = .ok (.iand, 1) := by decide +kernel
theorem dJ6_bitCount_0f7a4_8 : decode cJ6_bitCount_0f7a4 8 = .ok (.isub, 1) := by decide +kernel
theorem dJ6_bitCount_0f7a4_9 : decode cJ6_bitCount_0f7a4 9 = .ok (.istore_n 0, 1) := by decide +kernel
theorem dJ6_bitCount_0f7a4_10 : decode cJ6_bitCount_0f7a4 10 = .ok (.iload_n 0, 1) := by decide +kernel
theorem dJ6_bitCount_0f7a4_11 : decode cJ6_bitCount_0f7a4 11 = .ok (.ldc_w 266, 3) := by decide +kernel
theorem dJ6_bitCount_0f7a4_14 : decode cJ6_bitCount_0f7a4 14 = .ok (.iand, 1) := by decide +kernel
theorem dJ6_bitCount_0f7a4_15 : decode cJ6_bitCount_0f7a4 15 = .ok (.iload_n 0, 1) := by decide +kernel
theorem dJ6_bitCount_0f7a4_16 : decode cJ6_bitCount_0f7a4 16 = .ok (.iconst 2, 1) := by decide +kernel
theorem dJ6_bitCount_0f7a4_17 : decode cJ6_bitCount_0f7a4 17 = .ok (.iushr, 1) := by decide +kernel
theorem dJ6_bitCount_0f7a4_18 : decode cJ6_bitCount_0f7a4 18 = .ok (.ldc_w 266, 3) := by decide +kernel
theorem dJ6_bitCount_0f7a4_21 : decode cJ6_bitCount_0f7a4 21 = .ok (.iand, 1) := by decide +kernel
theorem dJ6_bitCount_0f7a4_22 : decode cJ6_bitCount_0f7a4 22 = .ok (.iadd, 1) := by decide +kernel
theorem dJ6_bitCount_0f7a4_23 : decode cJ6_bitCount_0f7a4 23 = .ok (.istore_n 0, 1) := by decide +kernel
theorem dJ6_bitCount_0f7a4_24 : decode cJ6_bitCount_0f7a4 24 = .ok (.iload_n 0, 1) := by decide +kernel
theorem dJ6_bitCount_0f7a4_25 : decode cJ6_bitCount_0f7a4 25 = .ok (.iload_n 0, 1) := by decide +kernel
theorem dJ6_bitCount_0f7a4_26 : decode cJ6_bitCount_0f7a4 26 = .ok (.iconst 4, 1) := by decide +kernel
theorem dJ6_bitCount_0f7a4_27 : decode cJ6_bitCount_0f7a4 27 = .ok (.iushr, 1) := by decide +kernel
theorem dJ6_bitCount_0f7a4_28 : decode cJ6_bitCount_0f7a4 28 = .ok (.iadd, 1) := by decide +kernel
theorem dJ6_bitCount_0f7a4_29 : decode cJ6_bitCount_0f7a4 29 = .ok (.ldc_w 267, 3) := by decide +kernel
theorem dJ6_bitCount_0f7a4_32 : decode cJ6_bitCount_0f7a4 32 = .ok (.iand, 1) := by decide +kernel
theorem dJ6_bitCount_0f7a4_33 : decode cJ6_bitCount_0f7a4 33 = .ok (.istore_n 0, 1) := by decide +kernel
theorem dJ6_bitCount_0f7a4_34 : decode cJ6_bitCount_0f7a4 34 = .ok (.iload_n 0, 1) := by decide +kernel
theorem dJ6_bitCount_0f7a4_35 : decode cJ6_bitCount_0f7a4 35 = .ok (.iload_n 0, 1) := by decide +kernel
theorem dJ6_bitCount_0f7a4_36 : decode cJ6_bitCount_0f7a4 36 = .ok (.bipush 8, 2) := by decide +kernel
theorem dJ6_bitCount_0f7a4_38 : decode cJ6_bitCount_0f7a4 38 = .ok (.iushr, 1) := by decide +kernel
theorem dJ6_bitCount_0f7a4_39 : decode cJ6_bitCount_0f7a4 39 = .ok (.iadd, 1) := by decide +kernel
theorem dJ6_bitCount_0f7a4_40 : decode cJ6_bitCount_0f7a4 40 = .ok (.istore_n 0, 1) := by decide +kernel
theorem dJ6_bitCount_0f7a4_41 : decode cJ6_bitCount_0f7a4 41 = .ok (.iload_n 0, 1) := by decide +kernel
theorem dJ6_bitCount_0f7a4_42 : decode cJ6_bitCount_0f7a4 42 = .ok (.iload_n 0, 1) := by decide +kernel
theorem dJ6_bitCount_0f7a4_43 : decode cJ6_bitCount_0f7a4 43 = .ok (.bipush 16, 2) := by decide +kernel
theorem dJ6_bitCount_0f7a4_45 : decode cJ6_bitCount_0f7a4 45 = .ok (.iushr, 1) := by decide +kernel
theorem dJ6_bitCount_0f7a4_46 : decode cJ6_bitCount_0f7a4 46 = .ok (.iadd, 1) := by decide +kernel
theorem dJ6_bitCount_0f7a4_47 : decode cJ6_bitCount_0f7a4 47 = .ok (.istore_n 0, 1) := by decide +kernel
theorem dJ6_bitCount_0f7a4_48 : decode cJ6_bitCount_0f7a4 48 = .ok (.iload_n 0, 1) := by decide +kernel
theorem dJ6_bitCount_0f7a4_49 : decode cJ6_bitCount_0f7a4 49 = .ok (.bipush 63, 2) := by decide +kernel
theorem dJ6_bitCount_0f7a4_51 : decode cJ6_bitCount_0f7a4 51 = .ok (.iand, 1) := by decide +kernel
theorem dJ6_bitCount_0f7a4_52 : decode cJ6_bitCount_0f7a4 52 = .ok (.ireturn, 1) := by decide +kernel
theorem dX3_moveBack_10 : decode cX3_moveBack 10 = .ok (.aload_n 0, 1) := by decide +kernel
theorem dX3_moveBack_11 : decode cX3_moveBack 11 = .ok (.getfield 15, 3) := by decide +kernel
theorem dX3_moveBack_18 : decode cX3_moveBack 18 = .ok (.aload_n 0, 1) := by decide +kernel
theorem dX3_moveBack_19 : decode cX3_moveBack 19 = .ok (.getfield 28, 3) := by decide +kernel
theorem dX3_moveBack_23 : decode cX3_moveBack 23 = .ok (.iaload, 1) := by decide +kernel
theorem dX3_moveBack_24 : decode cX3_moveBack 24 = .ok (.istore_n 3, 1) := by decide +kernel
theorem dX3_moveBack_30 : decode cX3_moveBack 30 = .ok (.iload_n 2, 1) := by decide +kernel
theorem dX3_moveBack_35 : decode cX3_moveBack 35 = .ok (.getfield 28, 3) := by decide +kernel
theorem dX3_moveBack_40 : decode cX3_moveBack 40 = .ok (.aload_n 0, 1) := by decide +kernel
theorem dX3_moveBack_46 : decode cX3_moveBack 46 = .ok (.iconst 1, 1) := by decide +kernel
theorem dX3_moveBack_48 : decode cX3_moveBack 48 = .ok (.iaload, 1) := by decide +kernel
theorem dX3_moveBack_57 : decode cX3_moveBack 57 = .ok (.getfield 28, 3) := by decide +kernel
theorem dX3_moveBack_61 : decode cX3_moveBack 61 = .ok (.iload_n 3, 1) := by decide +kernel
theorem dX3_moveBack_62 : decode cX3_moveBack 62 = .ok (.iastore, 1) := by decide +kernel
