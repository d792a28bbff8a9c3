theorem dX4_init_0 : decode cX4_init 0 = .ok (.aload_n 0, 1) := by decide +kernel
theorem dX4_init_1 : decode cX4_init 1 = .ok (.invokespecial 1, 3) := by decide +kernel
theorem dX4_init_4 : decode cX4_init 4 = .ok (.aload_n 0, 1) := by decide +kernel
theorem dX4_init_5 : decode cX4_init 5 = .ok (.bipush 6, 2) := by decide +kernel
theorem dX4_init_7 : decode cX4_init 7 = .ok (.newarray .int, 2) := by decide +kernel
theorem dX4_init_9 : decode cX4_init 9 = .ok (.putfield 9, 3) := by decide +kernel
theorem dX4_init_12 : decode cX4_init 12 = .ok (.aload_n 0, 1) := by decide +kernel
theorem dX4_init_13 : decode cX4_init 13 = .ok (.bipush 72, 2) := by decide +kernel
theorem dX4_init_15 : decode cX4_init 15 = .ok (.newarray .int, 2) := by decide +kernel
theorem dX4_init_17 : decode cX4_init 17 = .ok (.putfield 13, 3) := by decide +kernel
theorem dX4_init_20 : decode cX4_init 20 = .ok (.aload_n 0, 1) := by decide +kernel
theorem dX4_init_21 : decode cX4_init 21 = .ok (.ldc 16, 2) := by decide +kernel
theorem dX4_init_23 : decode cX4_init 23 = .ok (.newarray .int, 2) := by decide +kernel
theorem dX4_init_25 : decode cX4_init 25 = .ok (.putfield 17, 3) := by decide +kernel
theorem dX4_init_28 : decode cX4_init 28 = .ok (.aload_n 0, 1) := by decide +kernel
theorem dX4_init_29 : decode cX4_init 29 = .ok (.bipush 40, 2) := by decide +kernel
theorem dX4_init_31 : decode cX4_init 31 = .ok (.newarray .int, 2) := by decide +kernel
theorem dX4_init_33 : decode cX4_init 33 = .ok (.putfield 20, 3) := by decide +kernel
theorem dX4_init_36 : decode cX4_init 36 = .ok (.aload_n 0, 1) := by decide +kernel
theorem dX4_init_37 : decode cX4_init 37 = .ok (.bipush 40, 2) := by decide +kernel
theorem dX4_init_39 : decode cX4_init 39 = .ok (.newarray .int, 2) := by decide +kernel
theorem dX4_init_41 : decode cX4_init 41 = .ok (.putfield 23, 3) := by decide +kernel
theorem dX4_init_44 : decode cX4_init 44 = .ok (.aload_n 0, 1) := by decide +kernel
theorem dX4_init_45 : decode cX4_init 45 = .ok (.bipush 40, 2) := by decide +kernel
theorem dX4_init_47 : decode cX4_init 47 = .ok (.newarray .int, 2) := by decide +kernel
theorem dX4_init_49 : decode cX4_init 49 = .ok (.putfield 26, 3) := by decide +kernel
theorem dX4_init_52 : decode cX4_init 52 = .ok (.aload_n 0, 1) := by decide +kernel
theorem dX4_init_53 : decode cX4_init 53 = .ok (.bipush 40, 2) := by decide +kernel
theorem dX4_init_55 : decode cX4_init 55 = .ok (.newarray .int, 2) := by decide +kernel
theorem dX4_init_57 : decode cX4_init 57 = .ok (.putfield 29, 3) := by decide +kernel
theorem dX4_init_60 : decode cX4_init 60 = .ok (.aload_n 0, 1) := by decide +kernel
theorem dX4_init_61 : decode cX4_init 61 = .ok (.bipush 40, 2) := by decide +kernel
theorem dX4_init_63 : decode cX4_init 63 = .ok (.newarray .int, 2) := by decide +kernel
theorem dX4_init_65 : decode cX4_init 65 = .ok (.putfield 32, 3) := by decide +kernel
theorem dX4_init_68 : decode cX4_init 68 = .ok (.aload_n 0, 1) := by decide +kernel
theorem dX4_init_69 : decode cX4_init 69 = .ok (.bipush 40, 2) := by decide +kernel
theorem dX4_init_71 : decode cX4_init 71 = .ok (.newarray .boolean, 2) := by decide +kernel
theorem dX4_init_73 : decode cX4_init 73 = .ok (.putfield 35, 3) := by decide +kernel
theorem dX4_init_76 : decode cX4_init 76 = .ok (.aload_n 0, 1) := by decide +kernel
theorem dX4_init_77 : decode cX4_init 77 = .ok (.bipush 40, 2) := by decide +kernel
theorem dX4_init_79 : decode cX4_init 79 = .ok (.newarray .int, 2) := by decide +kernel
theorem dX4_init_81 : decode cX4_init 81 = .ok (.putfield 39, 3) := by decide +kernel
theorem dX4_init_84 : decode cX4_init 84 = .ok (.return_, 1) := by decide +kernel
theorem dX4_in_0 : decode cX4_in 0 = .ok (.iload_n 0, 1) := by decide +kernel
theorem dX4_in_1 : decode cX4_in 1 = .ok (.iload_n 1, 1) := by decide +kernel
theorem dX4_in_2 : decode cX4_in 2 = .ok (.if_icmp .lt 12, 3) := by decide +kernel
theorem dX4_in_5 : decode cX4_in 5 = .ok (.iload_n 0, 1) := by decide +kernel
theorem dX4_in_6 : decode cX4_in 6 = .ok (.iload_n 2, 1) := by decide +kernel
theorem dX4_in_7 : decode cX4_in 7 = .ok (.if_icmp .gt 7, 3) := by decide +kernel
theorem dX4_in_10 : decode cX4_in 10 = .ok (.iconst 1, 1) := by decide +kernel
theorem dX4_in_11 : decode cX4_in 11 = .ok (.goto 4, 3) := by decide +kernel
theorem dX4_in_14 : decode cX4_in 14 = .ok (.iconst 0, 1) := by decide +kernel
theorem dX4_in_15 : decode cX4_in 15 = .ok (.ireturn, 1) := by decide +kernel
set_option maxRecDepth 20000 in
theorem ggX4_isFunction_X4_in : GoodIn wsX4_isFunction wsX4_in := goodIn_r _ [4] (by decide +kernel) (by decide +kernel)
set_option maxRecDepth 20000 in
theorem gX4_isFunction_X4_in : GoodIn wsX4_isFunction (va_wsS RX4 42 yX4_in wsX4_in) := goodIn_app (goodIn_of _ (by decide +kernel)) ggX4_isFunction_X4_in
theorem dX4_isFunction_0 : decode cX4_isFunction 0 = .ok (.iload_n 0, 1) := by decide +kernel
theorem dX4_isFunction_1 : decode cX4_isFunction 1 = .ok (.iconst 0, 1) := by decide +kernel
theorem dX4_isFunction_2 : decode cX4_isFunction 2 = .ok (.iconst 5, 1) := by decide +kernel
theorem dX4_isFunction_3 : decode cX4_isFunction 3 = .ok (.invokestatic 42, 3) := by decide +kernel
theorem dX4_isFunction_6 : decode cX4_isFunction 6 = .ok (.ireturn, 1) := by decide +kernel
theorem dX4_canBe_0 : decode cX4_canBe 0 = .ok (.iload_n 3, 1) := by decide +kernel
theorem dX4_canBe_1 : decode cX4_canBe 1 = .ok (.sipush 1000, 3) := by decide +kernel
theorem dX4_canBe_4 : decode cX4_canBe 4 = .ok (.idiv, 1) := by decide +kernel
theorem dX4_canBe_5 : decode cX4_canBe 5 = .ok (.istore 4, 2) := by decide +kernel
theorem dX4_canBe_7 : decode cX4_canBe 7 = .ok (.iload_n 3, 1) := by decide +kernel
theorem dX4_canBe_8 : decode cX4_canBe 8 = .ok (.sipush 1000, 3) := by decide +kernel
theorem dX4_canBe_11 : decode cX4_canBe 11 = .ok (.irem, 1) := by decide +kernel
theorem dX4_canBe_12 : decode cX4_canBe 12 = .ok (.istore 5, 2) := by decide +kernel
theorem dX4_canBe_14 : decode cX4_canBe 14 = .ok (.iload_n 3, 1) := by decide +kernel
theorem dX4_canBe_15 : decode cX4_canBe 15 = .ok (.ifCond .lt 35, 3) := by decide +kernel
theorem dX4_canBe_18 : decode cX4_canBe 18 = .ok (.iload 4, 2) := by decide +kernel
theorem dX4_canBe_20 : decode cX4_canBe 20 = .ok (.bipush 10, 2) := by decide +kernel
theorem dX4_canBe_22 : decode cX4_canBe 22 = .ok (.if_icmp .gt 28, 3) := by decide +kernel
theorem dX4_canBe_25 : decode cX4_canBe 25 = .ok (.iload 4, 2) := by decide +kernel
theorem dX4_canBe_27 : decode cX4_canBe 27 = .ok (.bipush 9, 2) := by decide +kernel
theorem dX4_canBe_29 : decode cX4_canBe 29 = .ok (.if_icmp .ne 9, 3) := by decide +kernel
theorem dX4_canBe_32 : decode cX4_canBe 32 = .ok (.iload 5, 2) := by decide +kernel
theorem dX4_canBe_34 : decode cX4_canBe 34 = .ok (.iload_n 1, 1) := by decide +kernel
theorem dX4_canBe_35 : decode cX4_canBe 35 = .ok (.if_icmp .ge 15, 3) := by decide +kernel
theorem dX4_canBe_38 : decode cX4_canBe 38 = .ok (.iload 4, 2) := by decide +kernel
theorem dX4_canBe_40 : decode cX4_canBe 40 = .ok (.bipush 10, 2) := by decide +kernel
theorem dX4_canBe_42 : decode cX4_canBe 42 = .ok (.if_icmp .ne 10, 3) := by decide +kernel
theorem dX4_canBe_45 : decode cX4_canBe 45 = .ok (.iload 5, 2) := by decide +kernel
theorem dX4_canBe_47 : decode cX4_canBe 47 = .ok (.ifCond .ne 5, 3) := by decide +kernel
theorem dX4_canBe_50 : decode cX4_canBe 50 = .ok (.iconst 0, 1) := by decide +kernel
theorem dX4_canBe_51 : decode cX4_canBe 51 = .ok (.ireturn, 1) := by decide +kernel
theorem dX4_canBe_52 : decode cX4_canBe 52 = .ok (.iload 4, 2) := by decide +kernel
theorem dX4_canBe_54 : decode cX4_canBe 54 = .ok (.bipush 9, 2) := by decide +kernel
theorem dX4_canBe_56 : decode cX4_canBe 56 = .ok (.if_icmp .ne 7, 3) := by decide +kernel
theorem dX4_canBe_59 : decode cX4_canBe 59 = .ok (.iconst 1, 1) := by decide +kernel
theorem dX4_canBe_60 : decode cX4_canBe 60 = .ok (.goto 4, 3) := by decide +kernel
theorem dX4_canBe_63 : decode cX4_canBe 63 = .ok (.iconst 0, 1) := by decide +kernel
theorem dX4_canBe_64 : decode cX4_canBe 64 = .ok (.istore 6, 2) := by decide +kernel
theorem dX4_canBe_66 : decode cX4_canBe 66 = .ok (.iconst 0, 1) := by decide +kernel
theorem dX4_canBe_67 : decode cX4_canBe 67 = .ok (.istore 7, 2) := by decide +kernel
theorem dX4_canBe_69 : decode cX4_canBe 69 = .ok (.iload 7, 2) := by decide +kernel
theorem dX4_canBe_71 : decode cX4_canBe 71 = .ok (.aload_n 0, 1) := by decide +kernel
theorem dX4_canBe_72 : decode cX4_canBe 72 = .ok (.getfield 9, 3) := by decide +kernel
theorem dX4_canBe_75 : decode cX4_canBe 75 = .ok (.iload_n 1, 1) := by decide +kernel
theorem dX4_canBe_76 : decode cX4_canBe 76 = .ok (.iaload, 1) := by decide +kernel
theorem dX4_canBe_77 : decode cX4_canBe 77 = .ok (.if_icmp .ge 46, 3) := by decide +kernel
theorem dX4_canBe_80 : decode cX4_canBe 80 = .ok (.iload 6, 2) := by decide +kernel
theorem dX4_canBe_82 : decode cX4_canBe 82 = .ok (.iload 7, 2) := by decide +kernel
theorem dX4_canBe_84 : decode cX4_canBe 84 = .ok (.iload_n 2, 1) := by decide +kernel
theorem dX4_canBe_85 : decode cX4_canBe 85 = .ok (.if_icmp .eq 28, 3) := by decide +kernel
theorem dX4_canBe_88 : decode cX4_canBe 88 = .ok (.aload_n 0, 1) := by decide +kernel
theorem dX4_canBe_89 : decode cX4_canBe 89 = .ok (.getfield 13, 3) := by decide +kernel
theorem dX4_canBe_92 : decode cX4_canBe 92 = .ok (.bipush 12, 2) := by decide +kernel
theorem dX4_canBe_94 : decode cX4_canBe 94 = .ok (.iload_n 1, 1) := by decide +kernel
theorem dX4_canBe_95 : decode cX4_canBe 95 = .ok (.imul, 1) := by decide +kernel
theorem dX4_canBe_96 : decode cX4_canBe 96 = .ok (.iload 7, 2) := by decide +kernel
theorem dX4_canBe_98 : decode cX4_canBe 98 = .ok (.iadd, 1) := by decide +kernel
theorem dX4_canBe_99 : decode cX4_canBe 99 = .ok (.iaload, 1) := by decide +kernel
theorem dX4_canBe_100 : decode cX4_canBe 100 = .ok (.sipush 1000, 3) := by decide +kernel
theorem dX4_canBe_103 : decode cX4_canBe 103 = .ok (.idiv, 1) := by decide +kernel
theorem dX4_canBe_104 : decode cX4_canBe 104 = .ok (.bipush 9, 2) := by decide +kernel
theorem dX4_canBe_106 : decode cX4_canBe 106 = .ok (.if_icmp .ne 7, 3) := by decide +kernel
theorem dX4_canBe_109 : decode cX4_canBe 109 = .ok (.iconst 1, 1) := by decide +kernel
theorem dX4_canBe_110 : decode cX4_canBe 110 = .ok (.goto 4, 3) := by decide +kernel
theorem dX4_canBe_113 : decode cX4_canBe 113 = .ok (.iconst 0, 1) := by decide +kernel
theorem dX4_canBe_114 : decode cX4_canBe 114 = .ok (.iadd, 1) := by decide +kernel
theorem dX4_canBe_115 : decode cX4_canBe 115 = .ok (.istore 6, 2) := by decide +kernel
theorem dX4_canBe_117 : decode cX4_canBe 117 = .ok (.iinc 7 1, 3) := by decide +kernel
theorem dX4_canBe_120 : decode cX4_canBe 120 = .ok (.goto (-51), 3) := by decide +kernel
theorem dX4_canBe_123 : decode cX4_canBe 123 = .ok (.iload 4, 2) := by decide +kernel
theorem dX4_canBe_125 : decode cX4_canBe 125 = .ok (.bipush 9, 2) := by decide +kernel
theorem dX4_canBe_127 : decode cX4_canBe 127 = .ok (.if_icmp .ne 9, 3) := by decide +kernel
theorem dX4_canBe_130 : decode cX4_canBe 130 = .ok (.iload 6, 2) := by decide +kernel
theorem dX4_canBe_132 : decode cX4_canBe 132 = .ok (.iconst 2, 1) := by decide +kernel
theorem dX4_canBe_133 : decode cX4_canBe 133 = .ok (.if_icmp .gt 7, 3) := by decide +kernel
theorem dX4_canBe_136 : decode cX4_canBe 136 = .ok (.iconst 1, 1) := by decide +kernel
theorem dX4_canBe_137 : decode cX4_canBe 137 = .ok (.goto 4, 3) := by decide +kernel
theorem dX4_canBe_140 : decode cX4_canBe 140 = .ok (.iconst 0, 1) := by decide +kernel
theorem dX4_canBe_141 : decode cX4_canBe 141 = .ok (.ireturn, 1) := by decide +kernel
set_option maxRecDepth 20000 in
theorem ggX4_clear_X4_isFunction : GoodIn wsX4_clear wsX4_isFunction := goodIn_r _ [5, 6, 7, 4, 8] (by decide +kernel) (by decide +kernel)
set_option maxRecDepth 20000 in
theorem gX4_clear_X4_isFunction : GoodIn wsX4_clear (va_wsS RX4 46 yX4_isFunction wsX4_isFunction) := goodIn_app (goodIn_of _ (by decide +kernel)) ggX4_clear_X4_isFunction
set_option maxRecDepth 20000 in
theorem ggX4_clear_X4_runs : GoodIn wsX4_clear wsX4_runs := goodIn_r _ [12, 13, 14, 15, 4, 16, 17, 18, 19, 20, 1, 21, 22, 23, 24, 25, 26, 27, 28, 29, 30, 31, 32, 33, 34, 35, 36, 37, 38] (by decide +kernel) (by decide +kernel)
set_option maxRecDepth 20000 in
theorem gX4_clear_X4_runs : GoodIn wsX4_clear (wsV RX4 50 RX4 yX4_runs wsX4_runs) := goodIn_app (goodIn_of _ (by decide +kernel)) ggX4_clear_X4_runs
theorem dX4_clear_0 : decode cX4_clear 0 = .ok (.iload_n 1, 1) := by decide +kernel
theorem dX4_clear_1 : decode cX4_clear 1 = .ok (.invokestatic 46, 3) := by decide +kernel
theorem dX4_clear_4 : decode cX4_clear 4 = .ok (.ifCond .ne 5, 3) := by decide +kernel
theorem dX4_clear_7 : decode cX4_clear 7 = .ok (.iconst 0, 1) := by decide +kernel
theorem dX4_clear_8 : decode cX4_clear 8 = .ok (.ireturn, 1) := by decide +kernel
theorem dX4_clear_9 : decode cX4_clear 9 = .ok (.aload_n 0, 1) := by decide +kernel
theorem dX4_clear_10 : decode cX4_clear 10 = .ok (.getfield 9, 3) := by decide +kernel
theorem dX4_clear_13 : decode cX4_clear 13 = .ok (.iload_n 1, 1) := by decide +kernel
theorem dX4_clear_14 : decode cX4_clear 14 = .ok (.iconst 0, 1) := by decide +kernel
theorem dX4_clear_15 : decode cX4_clear 15 = .ok (.iastore, 1) := by decide +kernel
theorem dX4_clear_16 : decode cX4_clear 16 = .ok (.aload_n 0, 1) := by decide +kernel
theorem dX4_clear_17 : decode cX4_clear 17 = .ok (.invokevirtual 50, 3) := by decide +kernel
theorem dX4_clear_20 : decode cX4_clear 20 = .ok (.iconst 1, 1) := by decide +kernel
theorem dX4_clear_21 : decode cX4_clear 21 = .ok (.ireturn, 1) := by decide +kernel
set_option maxRecDepth 20000 in
theorem ggX4_step_X4_isFunction : GoodIn wsX4_step wsX4_isFunction := goodIn_r _ [6, 7, 8, 5, 9] (by decide +kernel) (by decide +kernel)
set_option maxRecDepth 20000 in
theorem gX4_step_X4_isFunction : GoodIn wsX4_step (va_wsS RX4 46 yX4_isFunction wsX4_isFunction) := goodIn_app (goodIn_of _ (by decide +kernel)) ggX4_step_X4_isFunction
set_option maxRecDepth 20000 in
theorem ggX4_step_X4_canBe : GoodIn wsX4_step wsX4_canBe := goodIn_r _ [13, 1, 2, 29, 30, 31, 32, 33, 34, 35, 36, 37, 38, 39, 40, 41, 42] (by decide +kernel) (by decide +kernel)
set_option maxRecDepth 20000 in
theorem gX4_step_X4_canBe : GoodIn wsX4_step (wsV RX4 53 RX4 yX4_canBe wsX4_canBe) := goodIn_app (goodIn_of _ (by decide +kernel)) ggX4_step_X4_canBe
set_option maxRecDepth 20000 in
theorem ggX4_step_X4_runs : GoodIn wsX4_step wsX4_runs := goodIn_r _ [17, 18, 19, 20, 5, 21, 22, 23, 24, 25, 1, 2, 26, 27, 28, 29, 30, 31, 32, 33, 34, 35, 36, 37, 38, 39, 40, 41, 42] (by decide +kernel) (by decide +kernel)
set_option maxRecDepth 20000 in
theorem gX4_step_X4_runs : GoodIn wsX4_step (wsV RX4 50 RX4 yX4_runs wsX4_runs) := goodIn_app (goodIn_of _ (by decide +kernel)) ggX4_step_X4_runs
theorem dX4_step_0 : decode cX4_step 0 = .ok (.iload_n 1, 1) := by decide +kernel
theorem dX4_step_1 : decode cX4_step 1 = .ok (.invokestatic 46, 3) := by decide +kernel
theorem dX4_step_4 : decode cX4_step 4 = .ok (.ifCond .eq 24, 3) := by decide +kernel
theorem dX4_step_7 : decode cX4_step 7 = .ok (.aload_n 0, 1) := by decide +kernel
theorem dX4_step_8 : decode cX4_step 8 = .ok (.getfield 9, 3) := by decide +kernel
theorem dX4_step_11 : decode cX4_step 11 = .ok (.iload_n 1, 1) := by decide +kernel
theorem dX4_step_12 : decode cX4_step 12 = .ok (.iaload, 1) := by decide +kernel
theorem dX4_step_13 : decode cX4_step 13 = .ok (.bipush 12, 2) := by decide +kernel
theorem dX4_step_15 : decode cX4_step 15 = .ok (.if_icmp .eq 13, 3) := by decide +kernel
theorem dX4_step_18 : decode cX4_step 18 = .ok (.aload_n 0, 1) := by decide +kernel
theorem dX4_step_19 : decode cX4_step 19 = .ok (.iload_n 1, 1) := by decide +kernel
theorem dX4_step_20 : decode cX4_step 20 = .ok (.iconst (-1), 1) := by decide +kernel
theorem dX4_step_21 : decode cX4_step 21 = .ok (.iload_n 2, 1) := by decide +kernel
theorem dX4_step_22 : decode cX4_step 22 = .ok (.invokevirtual 53, 3) := by decide +kernel
theorem dX4_step_25 : decode cX4_step 25 = .ok (.ifCond .ne 5, 3) := by decide +kernel
theorem dX4_step_28 : decode cX4_step 28 = .ok (.iconst (-1), 1) := by decide +kernel
theorem dX4_step_29 : decode cX4_step 29 = .ok (.ireturn, 1) := by decide +kernel
theorem dX4_step_30 : decode cX4_step 30 = .ok (.aload_n 0, 1) := by decide +kernel
theorem dX4_step_31 : decode cX4_step 31 = .ok (.getfield 13, 3) := by decide +kernel
theorem dX4_step_34 : decode cX4_step 34 = .ok (.bipush 12, 2) := by decide +kernel
theorem dX4_step_36 : decode cX4_step 36 = .ok (.iload_n 1, 1) := by decide +kernel
theorem dX4_step_37 : decode cX4_step 37 = .ok (.imul, 1) := by decide +kernel
theorem dX4_step_38 : decode cX4_step 38 = .ok (.aload_n 0, 1) := by decide +kernel
theorem dX4_step_39 : decode cX4_step 39 = .ok (.getfield 9, 3) := by decide +kernel
theorem dX4_step_42 : decode cX4_step 42 = .ok (.iload_n 1, 1) := by decide +kernel
theorem dX4_step_43 : decode cX4_step 43 = .ok (.iaload, 1) := by decide +kernel
theorem dX4_step_44 : decode cX4_step 44 = .ok (.iadd, 1) := by decide +kernel
theorem dX4_step_45 : decode cX4_step 45 = .ok (.iload_n 2, 1) := by decide +kernel
theorem dX4_step_46 : decode cX4_step 46 = .ok (.iastore, 1) := by decide +kernel
theorem dX4_step_47 : decode cX4_step 47 = .ok (.aload_n 0, 1) := by decide +kernel
theorem dX4_step_48 : decode cX4_step 48 = .ok (.getfield 9, 3) := by decide +kernel
theorem dX4_step_51 : decode cX4_step 51 = .ok (.iload_n 1, 1) := by decide +kernel
theorem dX4_step_52 : decode cX4_step 52 = .ok (.dup2, 1) := by decide +kernel
theorem dX4_step_53 : decode cX4_step 53 = .ok (.iaload, 1) := by decide +kernel
theorem dX4_step_54 : decode cX4_step 54 = .ok (.iconst 1, 1) := by decide +kernel
theorem dX4_step_55 : decode cX4_step 55 = .ok (.iadd, 1) := by decide +kernel
theorem dX4_step_56 : decode cX4_step 56 = .ok (.iastore, 1) := by decide +kernel
theorem dX4_step_57 : decode cX4_step 57 = .ok (.aload_n 0, 1) := by decide +kernel
theorem dX4_step_58 : decode cX4_step 58 = .ok (.invokevirtual 50, 3) := by decide +kernel
theorem dX4_step_61 : decode cX4_step 61 = .ok (.aload_n 0, 1) := by decide +kernel
theorem dX4_step_62 : decode cX4_step 62 = .ok (.getfield 9, 3) := by decide +kernel
theorem dX4_step_65 : decode cX4_step 65 = .ok (.iload_n 1, 1) := by decide +kernel
theorem dX4_step_66 : decode cX4_step 66 = .ok (.iaload, 1) := by decide +kernel
theorem dX4_step_67 : decode cX4_step 67 = .ok (.ireturn, 1) := by decide +kernel
set_option maxRecDepth 20000 in
theorem ggX4_change_X4_isFunction : GoodIn wsX4_change wsX4_isFunction := goodIn_r _ [6, 7, 8, 5, 9] (by decide +kernel) (by decide +kernel)
set_option maxRecDepth 20000 in
theorem gX4_change_X4_isFunction : GoodIn wsX4_change (va_wsS RX4 46 yX4_isFunction wsX4_isFunction) := goodIn_app (goodIn_of _ (by decide +kernel)) ggX4_change_X4_isFunction
set_option maxRecDepth 20000 in
theorem ggX4_change_X4_in : GoodIn wsX4_change wsX4_in := goodIn_r _ [9] (by decide +kernel) (by decide +kernel)
set_option maxRecDepth 20000 in
theorem gX4_change_X4_in : GoodIn wsX4_change (va_wsS RX4 42 yX4_in wsX4_in) := goodIn_app (goodIn_of _ (by decide +kernel)) ggX4_change_X4_in
set_option maxRecDepth 20000 in
theorem ggX4_change_X4_canBe : GoodIn wsX4_change wsX4_canBe := goodIn_r _ [13, 1, 2, 29, 30, 31, 32, 33, 34, 35, 36, 37, 38, 39, 40, 41, 42] (by decide +kernel) (by decide +kernel)
set_option maxRecDepth 20000 in
theorem gX4_change_X4_canBe : GoodIn wsX4_change (wsV RX4 53 RX4 yX4_canBe wsX4_canBe) := goodIn_app (goodIn_of _ (by decide +kernel)) ggX4_change_X4_canBe
set_option maxRecDepth 20000 in
theorem ggX4_change_X4_runs : GoodIn wsX4_change wsX4_runs := goodIn_r _ [17, 18, 19, 20, 5, 21, 22, 23, 24, 25, 1, 2, 26, 27, 28, 29, 30, 31, 32, 33, 34, 35, 36, 37, 38, 39, 40, 41, 42] (by decide +kernel) (by decide +kernel)
set_option maxRecDepth 20000 in
theorem gX4_change_X4_runs : GoodIn wsX4_change (wsV RX4 50 RX4 yX4_runs wsX4_runs) := goodIn_app (goodIn_of _ (by decide +kernel)) ggX4_change_X4_runs
theorem dX4_change_0 : decode cX4_change 0 = .ok (.iload_n 1, 1) := by decide +kernel
theorem dX4_change_1 : decode cX4_change 1 = .ok (.invokestatic 46, 3) := by decide +kernel
theorem dX4_change_4 : decode cX4_change 4 = .ok (.ifCond .eq 29, 3) := by decide +kernel
theorem dX4_change_7 : decode cX4_change 7 = .ok (.iload_n 2, 1) := by decide +kernel
theorem dX4_change_8 : decode cX4_change 8 = .ok (.iconst 0, 1) := by decide +kernel
theorem dX4_change_9 : decode cX4_change 9 = .ok (.aload_n 0, 1) := by decide +kernel
theorem dX4_change_10 : decode cX4_change 10 = .ok (.getfield 9, 3) := by decide +kernel
theorem dX4_change_13 : decode cX4_change 13 = .ok (.iload_n 1, 1) := by decide +kernel
theorem dX4_change_14 : decode cX4_change 14 = .ok (.iaload, 1) := by decide +kernel
theorem dX4_change_15 : decode cX4_change 15 = .ok (.iconst 1, 1) := by decide +kernel
theorem dX4_change_16 : decode cX4_change 16 = .ok (.isub, 1) := by decide +kernel
theorem dX4_change_17 : decode cX4_change 17 = .ok (.invokestatic 42, 3) := by decide +kernel
theorem dX4_change_20 : decode cX4_change 20 = .ok (.ifCond .eq 13, 3) := by decide +kernel
theorem dX4_change_23 : decode cX4_change 23 = .ok (.aload_n 0, 1) := by decide +kernel
theorem dX4_change_24 : decode cX4_change 24 = .ok (.iload_n 1, 1) := by decide +kernel
theorem dX4_change_25 : decode cX4_change 25 = .ok (.iload_n 2, 1) := by decide +kernel
theorem dX4_change_26 : decode cX4_change 26 = .ok (.iload_n 3, 1) := by decide +kernel
theorem dX4_change_27 : decode cX4_change 27 = .ok (.invokevirtual 53, 3) := by decide +kernel
theorem dX4_change_30 : decode cX4_change 30 = .ok (.ifCond .ne 5, 3) := by decide +kernel
theorem dX4_change_33 : decode cX4_change 33 = .ok (.iconst 0, 1) := by decide +kernel
theorem dX4_change_34 : decode cX4_change 34 = .ok (.ireturn, 1) := by decide +kernel
theorem dX4_change_35 : decode cX4_change 35 = .ok (.aload_n 0, 1) := by decide +kernel
theorem dX4_change_36 : decode cX4_change 36 = .ok (.getfield 13, 3) := by decide +kernel
theorem dX4_change_39 : decode cX4_change 39 = .ok (.bipush 12, 2) := by decide +kernel
theorem dX4_change_41 : decode cX4_change 41 = .ok (.iload_n 1, 1) := by decide +kernel
theorem dX4_change_42 : decode cX4_change 42 = .ok (.imul, 1) := by decide +kernel
theorem dX4_change_43 : decode cX4_change 43 = .ok (.iload_n 2, 1) := by decide +kernel
theorem dX4_change_44 : decode cX4_change 44 = .ok (.iadd, 1) := by decide +kernel
theorem dX4_change_45 : decode cX4_change 45 = .ok (.iload_n 3, 1) := by decide +kernel
theorem dX4_change_46 : decode cX4_change 46 = .ok (.iastore, 1) := by decide +kernel
theorem dX4_change_47 : decode cX4_change 47 = .ok (.aload_n 0, 1) := by decide +kernel
theorem dX4_change_48 : decode cX4_change 48 = .ok (.invokevirtual 50, 3) := by decide +kernel
theorem dX4_change_51 : decode cX4_change 51 = .ok (.iconst 1, 1) := by decide +kernel
theorem dX4_change_52 : decode cX4_change 52 = .ok (.ireturn, 1) := by decide +kernel
theorem dX4_at_0 : decode cX4_at 0 = .ok (.sipush 256, 3) := by decide +kernel
theorem dX4_at_3 : decode cX4_at 3 = .ok (.bipush 6, 2) := by decide +kernel
theorem dX4_at_5 : decode cX4_at 5 = .ok (.iload_n 0, 1) := by decide +kernel
theorem dX4_at_6 : decode cX4_at 6 = .ok (.imul, 1) := by decide +kernel
theorem dX4_at_7 : decode cX4_at 7 = .ok (.iload_n 1, 1) := by decide +kernel
theorem dX4_at_8 : decode cX4_at 8 = .ok (.iadd, 1) := by decide +kernel
theorem dX4_at_9 : decode cX4_at 9 = .ok (.imul, 1) := by decide +kernel
theorem dX4_at_10 : decode cX4_at 10 = .ok (.iload_n 2, 1) := by decide +kernel
theorem dX4_at_11 : decode cX4_at 11 = .ok (.iadd, 1) := by decide +kernel
theorem dX4_at_12 : decode cX4_at 12 = .ok (.ireturn, 1) := by decide +kernel
set_option maxRecDepth 20000 in
theorem ggX4_runs_X4_at : GoodIn wsX4_runs wsX4_at := goodIn_r _ [5] (by decide +kernel) (by decide +kernel)
set_option maxRecDepth 20000 in
theorem gX4_runs_X4_at : GoodIn wsX4_runs (va_wsS RX4 56 yX4_at wsX4_at) := goodIn_app (goodIn_of _ (by decide +kernel)) ggX4_runs_X4_at
set_option maxRecDepth 20000 in
theorem ggX4_runs_X4_goes : GoodIn wsX4_runs wsX4_goes := goodIn_r _ [9, 10, 11, 12, 1, 13, 14, 2, 3, 4, 5, 15, 16, 17, 18, 19, 20, 21, 22, 23, 24, 25, 26, 27, 28] (by decide +kernel) (by decide +kernel)
set_option maxRecDepth 20000 in
theorem gX4_runs_X4_goes : GoodIn wsX4_runs (wsV RX4 60 RX4 yX4_goes wsX4_goes) := goodIn_app (goodIn_of _ (by decide +kernel)) ggX4_runs_X4_goes
theorem dX4_runs_0 : decode cX4_runs 0 = .ok (.iconst 0, 1) := by decide +kernel
theorem dX4_runs_1 : decode cX4_runs 1 = .ok (.istore_n 1, 1) := by decide +kernel
theorem dX4_runs_2 : decode cX4_runs 2 = .ok (.iload_n 1, 1) := by decide +kernel
theorem dX4_runs_3 : decode cX4_runs 3 = .ok (.bipush 6, 2) := by decide +kernel
theorem dX4_runs_5 : decode cX4_runs 5 = .ok (.if_icmp .ge 42, 3) := by decide +kernel
theorem dX4_runs_8 : decode cX4_runs 8 = .ok (.iconst 0, 1) := by decide +kernel
theorem dX4_runs_9 : decode cX4_runs 9 = .ok (.istore_n 2, 1) := by decide +kernel
theorem dX4_runs_10 : decode cX4_runs 10 = .ok (.iload_n 2, 1) := by decide +kernel
theorem dX4_runs_11 : decode cX4_runs 11 = .ok (.sipush 256, 3) := by decide +kernel
theorem dX4_runs_14 : decode cX4_runs 14 = .ok (.if_icmp .ge 27, 3) := by decide +kernel
theorem dX4_runs_17 : decode cX4_runs 17 = .ok (.aload_n 0, 1) := by decide +kernel
theorem dX4_runs_18 : decode cX4_runs 18 = .ok (.getfield 17, 3) := by decide +kernel
theorem dX4_runs_21 : decode cX4_runs 21 = .ok (.bipush 31, 2) := by decide +kernel
theorem dX4_runs_23 : decode cX4_runs 23 = .ok (.iload_n 1, 1) := by decide +kernel
theorem dX4_runs_24 : decode cX4_runs 24 = .ok (.iload_n 2, 1) := by decide +kernel
theorem dX4_runs_25 : decode cX4_runs 25 = .ok (.invokestatic 56, 3) := by decide +kernel
theorem dX4_runs_28 : decode cX4_runs 28 = .ok (.aload_n 0, 1) := by decide +kernel
theorem dX4_runs_29 : decode cX4_runs 29 = .ok (.iload_n 1, 1) := by decide +kernel
theorem dX4_runs_30 : decode cX4_runs 30 = .ok (.iload_n 2, 1) := by decide +kernel
theorem dX4_runs_31 : decode cX4_runs 31 = .ok (.invokevirtual 60, 3) := by decide +kernel
theorem dX4_runs_34 : decode cX4_runs 34 = .ok (.iastore, 1) := by decide +kernel
theorem dX4_runs_35 : decode cX4_runs 35 = .ok (.iinc 2 1, 3) := by decide +kernel
theorem dX4_runs_38 : decode cX4_runs 38 = .ok (.goto (-28), 3) := by decide +kernel
theorem dX4_runs_41 : decode cX4_runs 41 = .ok (.iinc 1 1, 3) := by decide +kernel
theorem dX4_runs_44 : decode cX4_runs 44 = .ok (.goto (-42), 3) := by decide +kernel
theorem dX4_runs_47 : decode cX4_runs 47 = .ok (.return_, 1) := by decide +kernel
set_option maxRecDepth 20000 in
theorem ggX4_goes_X4_at : GoodIn wsX4_goes wsX4_at := goodIn_r _ [10] (by decide +kernel) (by decide +kernel)
set_option maxRecDepth 20000 in
theorem gX4_goes_X4_at : GoodIn wsX4_goes (va_wsS RX4 56 yX4_at wsX4_at) := goodIn_app (goodIn_of _ (by decide +kernel)) ggX4_goes_X4_at
theorem dX4_goes_0 : decode cX4_goes 0 = .ok (.lconst 0, 1) := by decide +kernel
theorem dX4_goes_1 : decode cX4_goes 1 = .ok (.lstore_n 3, 1) := by decide +kernel
theorem dX4_goes_2 : decode cX4_goes 2 = .ok (.iconst 0, 1) := by decide +kernel
theorem dX4_goes_3 : decode cX4_goes 3 = .ok (.istore 5, 2) := by decide +kernel
theorem dX4_goes_5 : decode cX4_goes 5 = .ok (.iload 5, 2) := by decide +kernel
theorem dX4_goes_7 : decode cX4_goes 7 = .ok (.aload_n 0, 1) := by decide +kernel
theorem dX4_goes_8 : decode cX4_goes 8 = .ok (.getfield 9, 3) := by decide +kernel
theorem dX4_goes_11 : decode cX4_goes 11 = .ok (.iload_n 1, 1) := by decide +kernel
theorem dX4_goes_12 : decode cX4_goes 12 = .ok (.iaload, 1) := by decide +kernel
theorem dX4_goes_13 : decode cX4_goes 13 = .ok (.if_icmp .ge 297, 3) := by decide +kernel
theorem dX4_goes_16 : decode cX4_goes 16 = .ok (.aload_n 0, 1) := by decide +kernel
theorem dX4_goes_17 : decode cX4_goes 17 = .ok (.getfield 13, 3) := by decide +kernel
theorem dX4_goes_20 : decode cX4_goes 20 = .ok (.bipush 12, 2) := by decide +kernel
theorem dX4_goes_22 : decode cX4_goes 22 = .ok (.iload_n 1, 1) := by decide +kernel
theorem dX4_goes_23 : decode cX4_goes 23 = .ok (.imul, 1) := by decide +kernel
theorem dX4_goes_24 : decode cX4_goes 24 = .ok (.iload 5, 2) := by decide +kernel
theorem dX4_goes_26 : decode cX4_goes 26 = .ok (.iadd, 1) := by decide +kernel
theorem dX4_goes_27 : decode cX4_goes 27 = .ok (.iaload, 1) := by decide +kernel
theorem dX4_goes_28 : decode cX4_goes 28 = .ok (.sipush 1000, 3) := by decide +kernel
theorem dX4_goes_31 : decode cX4_goes 31 = .ok (.idiv, 1) := by decide +kernel
theorem dX4_goes_32 : decode cX4_goes 32 = .ok (.istore 6, 2) := by decide +kernel
theorem dX4_goes_34 : decode cX4_goes 34 = .ok (.aload_n 0, 1) := by decide +kernel
theorem dX4_goes_35 : decode cX4_goes 35 = .ok (.getfield 13, 3) := by decide +kernel
theorem dX4_goes_38 : decode cX4_goes 38 = .ok (.bipush 12, 2) := by decide +kernel
theorem dX4_goes_40 : decode cX4_goes 40 = .ok (.iload_n 1, 1) := by decide +kernel
theorem dX4_goes_41 : decode cX4_goes 41 = .ok (.imul, 1) := by decide +kernel
theorem dX4_goes_42 : decode cX4_goes 42 = .ok (.iload 5, 2) := by decide +kernel
theorem dX4_goes_44 : decode cX4_goes 44 = .ok (.iadd, 1) := by decide +kernel
theorem dX4_goes_45 : decode cX4_goes 45 = .ok (.iaload, 1) := by decide +kernel
theorem dX4_goes_46 : decode cX4_goes 46 = .ok (.sipush 1000, 3) := by decide +kernel
theorem dX4_goes_49 : decode cX4_goes 49 = .ok (.irem, 1) := by decide +kernel
theorem dX4_goes_50 : decode cX4_goes 50 = .ok (.istore 7, 2) := by decide +kernel
theorem dX4_goes_52 : decode cX4_goes 52 = .ok (.iload 7, 2) := by decide +kernel
theorem dX4_goes_54 : decode cX4_goes 54 = .ok (.sipush 500, 3) := by decide +kernel
theorem dX4_goes_57 : decode cX4_goes 57 = .ok (.isub, 1) := by decide +kernel
theorem dX4_goes_58 : decode cX4_goes 58 = .ok (.istore 8, 2) := by decide +kernel
theorem dX4_goes_60 : decode cX4_goes 60 = .ok (.iinc 5 1, 3) := by decide +kernel
theorem dX4_goes_63 : decode cX4_goes 63 = .ok (.iload 6, 2) := by decide +kernel
theorem dX4_goes_65 : decode cX4_goes 65 = .ok (.tableswitch 209 0 9 #[55, 62, 71, 85, 99, 108, 127, 146, 167, 170], 55) := by decide +kernel
theorem dX4_goes_120 : decode cX4_goes 120 = .ok (.iload 8, 2) := by decide +kernel
theorem dX4_goes_122 : decode cX4_goes 122 = .ok (.i2l, 1) := by decide +kernel
theorem dX4_goes_123 : decode cX4_goes 123 = .ok (.lstore_n 3, 1) := by decide +kernel
theorem dX4_goes_124 : decode cX4_goes 124 = .ok (.goto 164, 3) := by decide +kernel
theorem dX4_goes_127 : decode cX4_goes 127 = .ok (.lload_n 3, 1) := by decide +kernel
theorem dX4_goes_128 : decode cX4_goes 128 = .ok (.iload 8, 2) := by decide +kernel
theorem dX4_goes_130 : decode cX4_goes 130 = .ok (.i2l, 1) := by decide +kernel
theorem dX4_goes_131 : decode cX4_goes 131 = .ok (.ladd, 1) := by decide +kernel
theorem dX4_goes_132 : decode cX4_goes 132 = .ok (.lstore_n 3, 1) := by decide +kernel
theorem dX4_goes_133 : decode cX4_goes 133 = .ok (.goto 155, 3) := by decide +kernel
theorem dX4_goes_136 : decode cX4_goes 136 = .ok (.lload_n 3, 1) := by decide +kernel
theorem dX4_goes_137 : decode cX4_goes 137 = .ok (.iload 8, 2) := by decide +kernel
theorem dX4_goes_139 : decode cX4_goes 139 = .ok (.iload_n 2, 1) := by decide +kernel
theorem dX4_goes_140 : decode cX4_goes 140 = .ok (.bipush 16, 2) := by decide +kernel
theorem dX4_goes_142 : decode cX4_goes 142 = .ok (.idiv, 1) := by decide +kernel
theorem dX4_goes_143 : decode cX4_goes 143 = .ok (.imul, 1) := by decide +kernel
theorem dX4_goes_144 : decode cX4_goes 144 = .ok (.i2l, 1) := by decide +kernel
theorem dX4_goes_145 : decode cX4_goes 145 = .ok (.ladd, 1) := by decide +kernel
theorem dX4_goes_146 : decode cX4_goes 146 = .ok (.lstore_n 3, 1) := by decide +kernel
theorem dX4_goes_147 : decode cX4_goes 147 = .ok (.goto 141, 3) := by decide +kernel
theorem dX4_goes_150 : decode cX4_goes 150 = .ok (.lload_n 3, 1) := by decide +kernel
theorem dX4_goes_151 : decode cX4_goes 151 = .ok (.iload 8, 2) := by decide +kernel
theorem dX4_goes_153 : decode cX4_goes 153 = .ok (.iload_n 2, 1) := by decide +kernel
theorem dX4_goes_154 : decode cX4_goes 154 = .ok (.bipush 16, 2) := by decide +kernel
theorem dX4_goes_156 : decode cX4_goes 156 = .ok (.irem, 1) := by decide +kernel
theorem dX4_goes_157 : decode cX4_goes 157 = .ok (.imul, 1) := by decide +kernel
theorem dX4_goes_158 : decode cX4_goes 158 = .ok (.i2l, 1) := by decide +kernel
theorem dX4_goes_159 : decode cX4_goes 159 = .ok (.ladd, 1) := by decide +kernel
theorem dX4_goes_160 : decode cX4_goes 160 = .ok (.lstore_n 3, 1) := by decide +kernel
theorem dX4_goes_161 : decode cX4_goes 161 = .ok (.goto 127, 3) := by decide +kernel
theorem dX4_goes_164 : decode cX4_goes 164 = .ok (.lload_n 3, 1) := by decide +kernel
theorem dX4_goes_165 : decode cX4_goes 165 = .ok (.iload 8, 2) := by decide +kernel
theorem dX4_goes_167 : decode cX4_goes 167 = .ok (.i2l, 1) := by decide +kernel
theorem dX4_goes_168 : decode cX4_goes 168 = .ok (.lmul, 1) := by decide +kernel
theorem dX4_goes_169 : decode cX4_goes 169 = .ok (.lstore_n 3, 1) := by decide +kernel
theorem dX4_goes_170 : decode cX4_goes 170 = .ok (.goto 118, 3) := by decide +kernel
theorem dX4_goes_173 : decode cX4_goes 173 = .ok (.lload_n 3, 1) := by decide +kernel
theorem dX4_goes_174 : decode cX4_goes 174 = .ok (.iload 8, 2) := by decide +kernel
theorem dX4_goes_176 : decode cX4_goes 176 = .ok (.i2l, 1) := by decide +kernel
theorem dX4_goes_177 : decode cX4_goes 177 = .ok (.lcmp, 1) := by decide +kernel
theorem dX4_goes_178 : decode cX4_goes 178 = .ok (.ifCond .le 9, 3) := by decide +kernel
theorem dX4_goes_181 : decode cX4_goes 181 = .ok (.iload 8, 2) := by decide +kernel
theorem dX4_goes_183 : decode cX4_goes 183 = .ok (.i2l, 1) := by decide +kernel
theorem dX4_goes_184 : decode cX4_goes 184 = .ok (.goto 4, 3) := by decide +kernel
theorem dX4_goes_187 : decode cX4_goes 187 = .ok (.lload_n 3, 1) := by decide +kernel
theorem dX4_goes_188 : decode cX4_goes 188 = .ok (.lstore_n 3, 1) := by decide +kernel
theorem dX4_goes_189 : decode cX4_goes 189 = .ok (.goto 99, 3) := by decide +kernel
theorem dX4_goes_192 : decode cX4_goes 192 = .ok (.lload_n 3, 1) := by decide +kernel
theorem dX4_goes_193 : decode cX4_goes 193 = .ok (.iload 8, 2) := by decide +kernel
theorem dX4_goes_195 : decode cX4_goes 195 = .ok (.i2l, 1) := by decide +kernel
theorem dX4_goes_196 : decode cX4_goes 196 = .ok (.lcmp, 1) := by decide +kernel
theorem dX4_goes_197 : decode cX4_goes 197 = .ok (.ifCond .ge 9, 3) := by decide +kernel
theorem dX4_goes_200 : decode cX4_goes 200 = .ok (.iload 8, 2) := by decide +kernel
theorem dX4_goes_202 : decode cX4_goes 202 = .ok (.i2l, 1) := by decide +kernel
theorem dX4_goes_203 : decode cX4_goes 203 = .ok (.goto 4, 3) := by decide +kernel
theorem dX4_goes_206 : decode cX4_goes 206 = .ok (.lload_n 3, 1) := by decide +kernel
theorem dX4_goes_207 : decode cX4_goes 207 = .ok (.lstore_n 3, 1) := by decide +kernel
theorem dX4_goes_208 : decode cX4_goes 208 = .ok (.goto 80, 3) := by decide +kernel
theorem dX4_goes_211 : decode cX4_goes 211 = .ok (.iload 5, 2) := by decide +kernel
theorem dX4_goes_213 : decode cX4_goes 213 = .ok (.lload_n 3, 1) := by decide +kernel
theorem dX4_goes_214 : decode cX4_goes 214 = .ok (.iload 8, 2) := by decide +kernel
theorem dX4_goes_216 : decode cX4_goes 216 = .ok (.i2l, 1) := by decide +kernel
theorem dX4_goes_217 : decode cX4_goes 217 = .ok (.lcmp, 1) := by decide +kernel
theorem dX4_goes_218 : decode cX4_goes 218 = .ok (.ifCond .ge 7, 3) := by decide +kernel
theorem dX4_goes_221 : decode cX4_goes 221 = .ok (.iconst 1, 1) := by decide +kernel
theorem dX4_goes_222 : decode cX4_goes 222 = .ok (.goto 4, 3) := by decide +kernel
theorem dX4_goes_225 : decode cX4_goes 225 = .ok (.iconst 0, 1) := by decide +kernel
theorem dX4_goes_226 : decode cX4_goes 226 = .ok (.iadd, 1) := by decide +kernel
theorem dX4_goes_227 : decode cX4_goes 227 = .ok (.istore 5, 2) := by decide +kernel
theorem dX4_goes_229 : decode cX4_goes 229 = .ok (.goto 59, 3) := by decide +kernel
theorem dX4_goes_232 : decode cX4_goes 232 = .ok (.ldc 64, 2) := by decide +kernel
theorem dX4_goes_234 : decode cX4_goes 234 = .ok (.ireturn, 1) := by decide +kernel
theorem dX4_goes_235 : decode cX4_goes 235 = .ok (.aload_n 0, 1) := by decide +kernel
theorem dX4_goes_236 : decode cX4_goes 236 = .ok (.getfield 17, 3) := by decide +kernel
theorem dX4_goes_239 : decode cX4_goes 239 = .ok (.bipush 31, 2) := by decide +kernel
theorem dX4_goes_241 : decode cX4_goes 241 = .ok (.iload 7, 2) := by decide +kernel
theorem dX4_goes_243 : decode cX4_goes 243 = .ok (.iload_n 2, 1) := by decide +kernel
theorem dX4_goes_244 : decode cX4_goes 244 = .ok (.invokestatic 56, 3) := by decide +kernel
theorem dX4_goes_247 : decode cX4_goes 247 = .ok (.iaload, 1) := by decide +kernel
theorem dX4_goes_248 : decode cX4_goes 248 = .ok (.ldc 64, 2) := by decide +kernel
theorem dX4_goes_250 : decode cX4_goes 250 = .ok (.if_icmp .ne 6, 3) := by decide +kernel
theorem dX4_goes_253 : decode cX4_goes 253 = .ok (.ldc 64, 2) := by decide +kernel
theorem dX4_goes_255 : decode cX4_goes 255 = .ok (.ireturn, 1) := by decide +kernel
theorem dX4_goes_256 : decode cX4_goes 256 = .ok (.aload_n 0, 1) := by decide +kernel
theorem dX4_goes_257 : decode cX4_goes 257 = .ok (.getfield 17, 3) := by decide +kernel
theorem dX4_goes_260 : decode cX4_goes 260 = .ok (.bipush 31, 2) := by decide +kernel
theorem dX4_goes_262 : decode cX4_goes 262 = .ok (.iload 7, 2) := by decide +kernel
theorem dX4_goes_264 : decode cX4_goes 264 = .ok (.iload_n 2, 1) := by decide +kernel
theorem dX4_goes_265 : decode cX4_goes 265 = .ok (.invokestatic 56, 3) := by decide +kernel
theorem dX4_goes_268 : decode cX4_goes 268 = .ok (.iaload, 1) := by decide +kernel
theorem dX4_goes_269 : decode cX4_goes 269 = .ok (.i2l, 1) := by decide +kernel
theorem dX4_goes_270 : decode cX4_goes 270 = .ok (.lstore_n 3, 1) := by decide +kernel
theorem dX4_goes_271 : decode cX4_goes 271 = .ok (.goto 17, 3) := by decide +kernel
theorem dX4_goes_274 : decode cX4_goes 274 = .ok (.lload_n 3, 1) := by decide +kernel
theorem dX4_goes_275 : decode cX4_goes 275 = .ok (.iload 7, 2) := by decide +kernel
theorem dX4_goes_277 : decode cX4_goes 277 = .ok (.i2l, 1) := by decide +kernel
theorem dX4_goes_278 : decode cX4_goes 278 = .ok (.lrem, 1) := by decide +kernel
theorem dX4_goes_279 : decode cX4_goes 279 = .ok (.iload 7, 2) := by decide +kernel
theorem dX4_goes_281 : decode cX4_goes 281 = .ok (.i2l, 1) := by decide +kernel
theorem dX4_goes_282 : decode cX4_goes 282 = .ok (.ladd, 1) := by decide +kernel
theorem dX4_goes_283 : decode cX4_goes 283 = .ok (.iload 7, 2) := by decide +kernel
theorem dX4_goes_285 : decode cX4_goes 285 = .ok (.i2l, 1) := by decide +kernel
theorem dX4_goes_286 : decode cX4_goes 286 = .ok (.lrem, 1) := by decide +kernel
theorem dX4_goes_287 : decode cX4_goes 287 = .ok (.lstore_n 3, 1) := by decide +kernel
theorem dX4_goes_288 : decode cX4_goes 288 = .ok (.lload_n 3, 1) := by decide +kernel
theorem dX4_goes_289 : decode cX4_goes 289 = .ok (.ldc2_w 65, 3) := by decide +kernel
theorem dX4_goes_292 : decode cX4_goes 292 = .ok (.lcmp, 1) := by decide +kernel
theorem dX4_goes_293 : decode cX4_goes 293 = .ok (.ifCond .gt 11, 3) := by decide +kernel
theorem dX4_goes_296 : decode cX4_goes 296 = .ok (.lload_n 3, 1) := by decide +kernel
theorem dX4_goes_297 : decode cX4_goes 297 = .ok (.ldc2_w 67, 3) := by decide +kernel
theorem dX4_goes_300 : decode cX4_goes 300 = .ok (.lcmp, 1) := by decide +kernel
theorem dX4_goes_301 : decode cX4_goes 301 = .ok (.ifCond .ge 6, 3) := by decide +kernel
theorem dX4_goes_304 : decode cX4_goes 304 = .ok (.ldc 64, 2) := by decide +kernel
theorem dX4_goes_306 : decode cX4_goes 306 = .ok (.ireturn, 1) := by decide +kernel
theorem dX4_goes_307 : decode cX4_goes 307 = .ok (.goto (-302), 3) := by decide +kernel
theorem dX4_goes_310 : decode cX4_goes 310 = .ok (.lload_n 3, 1) := by decide +kernel
theorem dX4_goes_311 : decode cX4_goes 311 = .ok (.l2i, 1) := by decide +kernel
theorem dX4_goes_312 : decode cX4_goes 312 = .ok (.ireturn, 1) := by decide +kernel
set_option maxRecDepth 20000 in
theorem ggX4_give_X4_at : GoodIn wsX4_give wsX4_at := goodIn_r _ [5] (by decide +kernel) (by decide +kernel)
set_option maxRecDepth 20000 in
theorem gX4_give_X4_at : GoodIn wsX4_give (va_wsS RX4 56 yX4_at wsX4_at) := goodIn_app (goodIn_of _ (by decide +kernel)) ggX4_give_X4_at
theorem dX4_give_0 : decode cX4_give 0 = .ok (.aload_n 0, 1) := by decide +kernel
theorem dX4_give_1 : decode cX4_give 1 = .ok (.getfield 17, 3) := by decide +kernel
theorem dX4_give_4 : decode cX4_give 4 = .ok (.iload_n 1, 1) := by decide +kernel
theorem dX4_give_5 : decode cX4_give 5 = .ok (.iload_n 2, 1) := by decide +kernel
theorem dX4_give_6 : decode cX4_give 6 = .ok (.iload_n 3, 1) := by decide +kernel
theorem dX4_give_7 : decode cX4_give 7 = .ok (.invokestatic 56, 3) := by decide +kernel
theorem dX4_give_10 : decode cX4_give 10 = .ok (.iaload, 1) := by decide +kernel
theorem dX4_give_11 : decode cX4_give 11 = .ok (.ireturn, 1) := by decide +kernel
set_option maxRecDepth 20000 in
theorem ggX4_isRun_X4_isFunction : GoodIn wsX4_isRun wsX4_isFunction := goodIn_r _ [4, 5, 6, 3, 7] (by decide +kernel) (by decide +kernel)
set_option maxRecDepth 20000 in
theorem gX4_isRun_X4_isFunction : GoodIn wsX4_isRun (va_wsS RX4 46 yX4_isFunction wsX4_isFunction) := goodIn_app (goodIn_of _ (by decide +kernel)) ggX4_isRun_X4_isFunction
set_option maxRecDepth 20000 in
theorem ggX4_isRun_X4_in : GoodIn wsX4_isRun wsX4_in := goodIn_r _ [7] (by decide +kernel) (by decide +kernel)
set_option maxRecDepth 20000 in
theorem gX4_isRun_X4_in : GoodIn wsX4_isRun (va_wsS RX4 42 yX4_in wsX4_in) := goodIn_app (goodIn_of _ (by decide +kernel)) ggX4_isRun_X4_in
theorem dX4_isRun_0 : decode cX4_isRun 0 = .ok (.iload_n 0, 1) := by decide +kernel
theorem dX4_isRun_1 : decode cX4_isRun 1 = .ok (.invokestatic 46, 3) := by decide +kernel
theorem dX4_isRun_4 : decode cX4_isRun 4 = .ok (.ifCond .eq 27, 3) := by decide +kernel
theorem dX4_isRun_7 : decode cX4_isRun 7 = .ok (.iload_n 1, 1) := by decide +kernel
theorem dX4_isRun_8 : decode cX4_isRun 8 = .ok (.iconst 0, 1) := by decide +kernel
theorem dX4_isRun_9 : decode cX4_isRun 9 = .ok (.bipush 15, 2) := by decide +kernel
theorem dX4_isRun_11 : decode cX4_isRun 11 = .ok (.invokestatic 42, 3) := by decide +kernel
theorem dX4_isRun_14 : decode cX4_isRun 14 = .ok (.ifCond .eq 17, 3) := by decide +kernel
theorem dX4_isRun_17 : decode cX4_isRun 17 = .ok (.iload_n 2, 1) := by decide +kernel
theorem dX4_isRun_18 : decode cX4_isRun 18 = .ok (.iconst 0, 1) := by decide +kernel
theorem dX4_isRun_19 : decode cX4_isRun 19 = .ok (.bipush 15, 2) := by decide +kernel
theorem dX4_isRun_21 : decode cX4_isRun 21 = .ok (.invokestatic 42, 3) := by decide +kernel
theorem dX4_isRun_24 : decode cX4_isRun 24 = .ok (.ifCond .eq 7, 3) := by decide +kernel
theorem dX4_isRun_27 : decode cX4_isRun 27 = .ok (.iconst 1, 1) := by decide +kernel
theorem dX4_isRun_28 : decode cX4_isRun 28 = .ok (.goto 4, 3) := by decide +kernel
theorem dX4_isRun_31 : decode cX4_isRun 31 = .ok (.iconst 0, 1) := by decide +kernel
theorem dX4_isRun_32 : decode cX4_isRun 32 = .ok (.ireturn, 1) := by decide +kernel
set_option maxRecDepth 20000 in
theorem ggX4_run_X4_isRun : GoodIn wsX4_run wsX4_isRun := goodIn_r _ [5, 6, 7, 4, 8, 9, 10, 11] (by decide +kernel) (by decide +kernel)
set_option maxRecDepth 20000 in
theorem gX4_run_X4_isRun : GoodIn wsX4_run (va_wsS RX4 69 yX4_isRun wsX4_isRun) := goodIn_app (goodIn_of _ (by decide +kernel)) ggX4_run_X4_isRun
set_option maxRecDepth 20000 in
theorem ggX4_run_X4_give : GoodIn wsX4_run wsX4_give := goodIn_r _ [15, 16, 17, 18, 4, 19, 20, 21, 22, 23, 24, 25, 26, 27, 28, 29, 30, 31, 32, 33] (by decide +kernel) (by decide +kernel)
set_option maxRecDepth 20000 in
theorem gX4_run_X4_give : GoodIn wsX4_run (wsV RX4 72 RX4 yX4_give wsX4_give) := goodIn_app (goodIn_of _ (by decide +kernel)) ggX4_run_X4_give
theorem dX4_run_0 : decode cX4_run 0 = .ok (.iload_n 1, 1) := by decide +kernel
theorem dX4_run_1 : decode cX4_run 1 = .ok (.iload_n 2, 1) := by decide +kernel
theorem dX4_run_2 : decode cX4_run 2 = .ok (.iload_n 3, 1) := by decide +kernel
theorem dX4_run_3 : decode cX4_run 3 = .ok (.invokestatic 69, 3) := by decide +kernel
theorem dX4_run_6 : decode cX4_run 6 = .ok (.ifCond .eq 19, 3) := by decide +kernel
theorem dX4_run_9 : decode cX4_run 9 = .ok (.aload_n 0, 1) := by decide +kernel
theorem dX4_run_10 : decode cX4_run 10 = .ok (.bipush 31, 2) := by decide +kernel
theorem dX4_run_12 : decode cX4_run 12 = .ok (.iload_n 1, 1) := by decide +kernel
theorem dX4_run_13 : decode cX4_run 13 = .ok (.bipush 16, 2) := by decide +kernel
theorem dX4_run_15 : decode cX4_run 15 = .ok (.iload_n 2, 1) := by decide +kernel
theorem dX4_run_16 : decode cX4_run 16 = .ok (.imul, 1) := by decide +kernel
theorem dX4_run_17 : decode cX4_run 17 = .ok (.iload_n 3, 1) := by decide +kernel
theorem dX4_run_18 : decode cX4_run 18 = .ok (.iadd, 1) := by decide +kernel
theorem dX4_run_19 : decode cX4_run 19 = .ok (.invokevirtual 72, 3) := by decide +kernel
theorem dX4_run_22 : decode cX4_run 22 = .ok (.goto 5, 3) := by decide +kernel
theorem dX4_run_25 : decode cX4_run 25 = .ok (.ldc 64, 2) := by decide +kernel
theorem dX4_run_27 : decode cX4_run 27 = .ok (.ireturn, 1) := by decide +kernel
set_option maxRecDepth 20000 in
theorem ggX4_keep_X4_at : GoodIn wsX4_keep wsX4_at := goodIn_r _ [6] (by decide +kernel) (by decide +kernel)
set_option maxRecDepth 20000 in
theorem gX4_keep_X4_at : GoodIn wsX4_keep (va_wsS RX4 56 yX4_at wsX4_at) := goodIn_app (goodIn_of _ (by decide +kernel)) ggX4_keep_X4_at
set_option maxRecDepth 20000 in
theorem ggX4_keep_X4_give : GoodIn wsX4_keep wsX4_give := goodIn_r _ [10, 2, 3, 4, 5, 6, 11, 12, 13, 14, 15, 16, 17, 18, 19, 20, 21, 22, 23, 24] (by decide +kernel) (by decide +kernel)
set_option maxRecDepth 20000 in
theorem gX4_keep_X4_give : GoodIn wsX4_keep (wsV RX4 72 RX4 yX4_give wsX4_give) := goodIn_app (goodIn_of _ (by decide +kernel)) ggX4_keep_X4_give
theorem dX4_keep_0 : decode cX4_keep 0 = .ok (.aload_n 0, 1) := by decide +kernel
theorem dX4_keep_1 : decode cX4_keep 1 = .ok (.getfield 75, 3) := by decide +kernel
theorem dX4_keep_4 : decode cX4_keep 4 = .ok (.bipush 30, 2) := by decide +kernel
theorem dX4_keep_6 : decode cX4_keep 6 = .ok (.if_icmp .ne 5, 3) := by decide +kernel
theorem dX4_keep_9 : decode cX4_keep 9 = .ok (.iconst (-1), 1) := by decide +kernel
theorem dX4_keep_10 : decode cX4_keep 10 = .ok (.ireturn, 1) := by decide +kernel
theorem dX4_keep_11 : decode cX4_keep 11 = .ok (.aload_n 0, 1) := by decide +kernel
theorem dX4_keep_12 : decode cX4_keep 12 = .ok (.dup, 1) := by decide +kernel
theorem dX4_keep_13 : decode cX4_keep 13 = .ok (.getfield 75, 3) := by decide +kernel
theorem dX4_keep_16 : decode cX4_keep 16 = .ok (.iconst 1, 1) := by decide +kernel
theorem dX4_keep_17 : decode cX4_keep 17 = .ok (.iadd, 1) := by decide +kernel
theorem dX4_keep_18 : decode cX4_keep 18 = .ok (.putfield 75, 3) := by decide +kernel
theorem dX4_keep_21 : decode cX4_keep 21 = .ok (.iconst 0, 1) := by decide +kernel
theorem dX4_keep_22 : decode cX4_keep 22 = .ok (.istore_n 1, 1) := by decide +kernel
theorem dX4_keep_23 : decode cX4_keep 23 = .ok (.iload_n 1, 1) := by decide +kernel
theorem dX4_keep_24 : decode cX4_keep 24 = .ok (.bipush 6, 2) := by decide +kernel
theorem dX4_keep_26 : decode cX4_keep 26 = .ok (.if_icmp .ge 46, 3) := by decide +kernel
theorem dX4_keep_29 : decode cX4_keep 29 = .ok (.iconst 0, 1) := by decide +kernel
theorem dX4_keep_30 : decode cX4_keep 30 = .ok (.istore_n 2, 1) := by decide +kernel
theorem dX4_keep_31 : decode cX4_keep 31 = .ok (.iload_n 2, 1) := by decide +kernel
theorem dX4_keep_32 : decode cX4_keep 32 = .ok (.sipush 256, 3) := by decide +kernel
theorem dX4_keep_35 : decode cX4_keep 35 = .ok (.if_icmp .ge 31, 3) := by decide +kernel
theorem dX4_keep_38 : decode cX4_keep 38 = .ok (.aload_n 0, 1) := by decide +kernel
theorem dX4_keep_39 : decode cX4_keep 39 = .ok (.getfield 17, 3) := by decide +kernel
theorem dX4_keep_42 : decode cX4_keep 42 = .ok (.aload_n 0, 1) := by decide +kernel
theorem dX4_keep_43 : decode cX4_keep 43 = .ok (.getfield 75, 3) := by decide +kernel
theorem dX4_keep_46 : decode cX4_keep 46 = .ok (.iload_n 1, 1) := by decide +kernel
theorem dX4_keep_47 : decode cX4_keep 47 = .ok (.iload_n 2, 1) := by decide +kernel
theorem dX4_keep_48 : decode cX4_keep 48 = .ok (.invokestatic 56, 3) := by decide +kernel
theorem dX4_keep_51 : decode cX4_keep 51 = .ok (.aload_n 0, 1) := by decide +kernel
theorem dX4_keep_52 : decode cX4_keep 52 = .ok (.bipush 31, 2) := by decide +kernel
theorem dX4_keep_54 : decode cX4_keep 54 = .ok (.iload_n 1, 1) := by decide +kernel
theorem dX4_keep_55 : decode cX4_keep 55 = .ok (.iload_n 2, 1) := by decide +kernel
theorem dX4_keep_56 : decode cX4_keep 56 = .ok (.invokevirtual 72, 3) := by decide +kernel
theorem dX4_keep_59 : decode cX4_keep 59 = .ok (.iastore, 1) := by decide +kernel
theorem dX4_keep_60 : decode cX4_keep 60 = .ok (.iinc 2 1, 3) := by decide +kernel
theorem dX4_keep_63 : decode cX4_keep 63 = .ok (.goto (-32), 3) := by decide +kernel
theorem dX4_keep_66 : decode cX4_keep 66 = .ok (.iinc 1 1, 3) := by decide +kernel
theorem dX4_keep_69 : decode cX4_keep 69 = .ok (.goto (-46), 3) := by decide +kernel
theorem dX4_keep_72 : decode cX4_keep 72 = .ok (.aload_n 0, 1) := by decide +kernel
theorem dX4_keep_73 : decode cX4_keep 73 = .ok (.getfield 75, 3) := by decide +kernel
theorem dX4_keep_76 : decode cX4_keep 76 = .ok (.ireturn, 1) := by decide +kernel
set_option maxRecDepth 20000 in
theorem ggX4_was_X4_in : GoodIn wsX4_was wsX4_in := goodIn_r _ [6] (by decide +kernel) (by decide +kernel)
set_option maxRecDepth 20000 in
theorem gX4_was_X4_in : GoodIn wsX4_was (va_wsS RX4 42 yX4_in wsX4_in) := goodIn_app (goodIn_of _ (by decide +kernel)) ggX4_was_X4_in
set_option maxRecDepth 20000 in
theorem ggX4_was_X4_isRun : GoodIn wsX4_was wsX4_isRun := goodIn_r _ [9, 10, 11, 5, 12, 3, 4, 6] (by decide +kernel) (by decide +kernel)
set_option maxRecDepth 20000 in
theorem gX4_was_X4_isRun : GoodIn wsX4_was (va_wsS RX4 69 yX4_isRun wsX4_isRun) := goodIn_app (goodIn_of _ (by decide +kernel)) ggX4_was_X4_isRun
set_option maxRecDepth 20000 in
theorem ggX4_was_X4_give : GoodIn wsX4_was wsX4_give := goodIn_r _ [16, 17, 18, 19, 5, 20, 21, 22, 23, 24, 25, 26, 27, 28, 29, 30, 31, 32, 33, 34] (by decide +kernel) (by decide +kernel)
set_option maxRecDepth 20000 in
theorem gX4_was_X4_give : GoodIn wsX4_was (wsV RX4 72 RX4 yX4_give wsX4_give) := goodIn_app (goodIn_of _ (by decide +kernel)) ggX4_was_X4_give
theorem dX4_was_0 : decode cX4_was 0 = .ok (.iload_n 1, 1) := by decide +kernel
theorem dX4_was_1 : decode cX4_was 1 = .ok (.iconst 0, 1) := by decide +kernel
theorem dX4_was_2 : decode cX4_was 2 = .ok (.aload_n 0, 1) := by decide +kernel
theorem dX4_was_3 : decode cX4_was 3 = .ok (.getfield 75, 3) := by decide +kernel
theorem dX4_was_6 : decode cX4_was 6 = .ok (.invokestatic 42, 3) := by decide +kernel
theorem dX4_was_9 : decode cX4_was 9 = .ok (.ifCond .eq 29, 3) := by decide +kernel
theorem dX4_was_12 : decode cX4_was 12 = .ok (.iload_n 2, 1) := by decide +kernel
theorem dX4_was_13 : decode cX4_was 13 = .ok (.iload_n 3, 1) := by decide +kernel
theorem dX4_was_14 : decode cX4_was 14 = .ok (.iload 4, 2) := by decide +kernel
theorem dX4_was_16 : decode cX4_was 16 = .ok (.invokestatic 69, 3) := by decide +kernel
theorem dX4_was_19 : decode cX4_was 19 = .ok (.ifCond .eq 19, 3) := by decide +kernel
theorem dX4_was_22 : decode cX4_was 22 = .ok (.aload_n 0, 1) := by decide +kernel
theorem dX4_was_23 : decode cX4_was 23 = .ok (.iload_n 1, 1) := by decide +kernel
theorem dX4_was_24 : decode cX4_was 24 = .ok (.iload_n 2, 1) := by decide +kernel
theorem dX4_was_25 : decode cX4_was 25 = .ok (.bipush 16, 2) := by decide +kernel
theorem dX4_was_27 : decode cX4_was 27 = .ok (.iload_n 3, 1) := by decide +kernel
theorem dX4_was_28 : decode cX4_was 28 = .ok (.imul, 1) := by decide +kernel
theorem dX4_was_29 : decode cX4_was 29 = .ok (.iload 4, 2) := by decide +kernel
theorem dX4_was_31 : decode cX4_was 31 = .ok (.iadd, 1) := by decide +kernel
theorem dX4_was_32 : decode cX4_was 32 = .ok (.invokevirtual 72, 3) := by decide +kernel
theorem dX4_was_35 : decode cX4_was 35 = .ok (.goto 5, 3) := by decide +kernel
theorem dX4_was_38 : decode cX4_was 38 = .ok (.ldc 64, 2) := by decide +kernel
theorem dX4_was_40 : decode cX4_was 40 = .ok (.ireturn, 1) := by decide +kernel
set_option maxRecDepth 20000 in
theorem ggX4_claim_X4_isFunction : GoodIn wsX4_claim wsX4_isFunction := goodIn_r _ [13, 14, 15, 12, 16] (by decide +kernel) (by decide +kernel)
set_option maxRecDepth 20000 in
theorem gX4_claim_X4_isFunction : GoodIn wsX4_claim (va_wsS RX4 46 yX4_isFunction wsX4_isFunction) := goodIn_app (goodIn_of _ (by decide +kernel)) ggX4_claim_X4_isFunction
set_option maxRecDepth 20000 in
theorem ggX4_claim_X4_in : GoodIn wsX4_claim wsX4_in := goodIn_r _ [16] (by decide +kernel) (by decide +kernel)
set_option maxRecDepth 20000 in
theorem gX4_claim_X4_in : GoodIn wsX4_claim (va_wsS RX4 42 yX4_in wsX4_in) := goodIn_app (goodIn_of _ (by decide +kernel)) ggX4_claim_X4_in
theorem dX4_claim_0 : decode cX4_claim 0 = .ok (.iload_n 1, 1) := by decide +kernel
theorem dX4_claim_1 : decode cX4_claim 1 = .ok (.invokestatic 46, 3) := by decide +kernel
theorem dX4_claim_4 : decode cX4_claim 4 = .ok (.ifCond .eq 22, 3) := by decide +kernel
theorem dX4_claim_7 : decode cX4_claim 7 = .ok (.iload_n 2, 1) := by decide +kernel
theorem dX4_claim_8 : decode cX4_claim 8 = .ok (.iconst 0, 1) := by decide +kernel
theorem dX4_claim_9 : decode cX4_claim 9 = .ok (.bipush 7, 2) := by decide +kernel
theorem dX4_claim_11 : decode cX4_claim 11 = .ok (.invokestatic 42, 3) := by decide +kernel
theorem dX4_claim_14 : decode cX4_claim 14 = .ok (.ifCond .eq 12, 3) := by decide +kernel
theorem dX4_claim_17 : decode cX4_claim 17 = .ok (.aload_n 0, 1) := by decide +kernel
theorem dX4_claim_18 : decode cX4_claim 18 = .ok (.getfield 79, 3) := by decide +kernel
theorem dX4_claim_21 : decode cX4_claim 21 = .ok (.bipush 40, 2) := by decide +kernel
theorem dX4_claim_23 : decode cX4_claim 23 = .ok (.if_icmp .ne 5, 3) := by decide +kernel
theorem dX4_claim_26 : decode cX4_claim 26 = .ok (.iconst (-1), 1) := by decide +kernel
theorem dX4_claim_27 : decode cX4_claim 27 = .ok (.ireturn, 1) := by decide +kernel
theorem dX4_claim_28 : decode cX4_claim 28 = .ok (.iconst 1, 1) := by decide +kernel
theorem dX4_claim_29 : decode cX4_claim 29 = .ok (.istore 5, 2) := by decide +kernel
theorem dX4_claim_31 : decode cX4_claim 31 = .ok (.iload_n 2, 1) := by decide +kernel
theorem dX4_claim_32 : decode cX4_claim 32 = .ok (.tableswitch 144 0 7 #[48, 144, 144, 77, 144, 90, 123, 135], 48) := by decide +kernel
theorem dX4_claim_80 : decode cX4_claim 80 = .ok (.iload_n 3, 1) := by decide +kernel
theorem dX4_claim_81 : decode cX4_claim 81 = .ok (.ldc 82, 2) := by decide +kernel
theorem dX4_claim_83 : decode cX4_claim 83 = .ok (.if_icmp .lt 20, 3) := by decide +kernel
theorem dX4_claim_86 : decode cX4_claim 86 = .ok (.iload_n 3, 1) := by decide +kernel
theorem dX4_claim_87 : decode cX4_claim 87 = .ok (.iload 4, 2) := by decide +kernel
theorem dX4_claim_89 : decode cX4_claim 89 = .ok (.if_icmp .gt 14, 3) := by decide +kernel
theorem dX4_claim_92 : decode cX4_claim 92 = .ok (.iload 4, 2) := by decide +kernel
theorem dX4_claim_94 : decode cX4_claim 94 = .ok (.ldc 83, 2) := by decide +kernel
theorem dX4_claim_96 : decode cX4_claim 96 = .ok (.if_icmp .gt 7, 3) := by decide +kernel
theorem dX4_claim_99 : decode cX4_claim 99 = .ok (.iconst 1, 1) := by decide +kernel
theorem dX4_claim_100 : decode cX4_claim 100 = .ok (.goto 4, 3) := by decide +kernel
theorem dX4_claim_103 : decode cX4_claim 103 = .ok (.iconst 0, 1) := by decide +kernel
theorem dX4_claim_104 : decode cX4_claim 104 = .ok (.istore 5, 2) := by decide +kernel
theorem dX4_claim_106 : decode cX4_claim 106 = .ok (.goto 70, 3) := by decide +kernel
theorem dX4_claim_109 : decode cX4_claim 109 = .ok (.iload_n 3, 1) := by decide +kernel
theorem dX4_claim_110 : decode cX4_claim 110 = .ok (.iconst 1, 1) := by decide +kernel
theorem dX4_claim_111 : decode cX4_claim 111 = .ok (.sipush 1000, 3) := by decide +kernel
theorem dX4_claim_114 : decode cX4_claim 114 = .ok (.invokestatic 42, 3) := by decide +kernel
theorem dX4_claim_117 : decode cX4_claim 117 = .ok (.istore 5, 2) := by decide +kernel
theorem dX4_claim_119 : decode cX4_claim 119 = .ok (.goto 57, 3) := by decide +kernel
theorem dX4_claim_122 : decode cX4_claim 122 = .ok (.iload_n 3, 1) := by decide +kernel
theorem dX4_claim_123 : decode cX4_claim 123 = .ok (.iconst 0, 1) := by decide +kernel
theorem dX4_claim_124 : decode cX4_claim 124 = .ok (.sipush 255, 3) := by decide +kernel
theorem dX4_claim_127 : decode cX4_claim 127 = .ok (.invokestatic 42, 3) := by decide +kernel
theorem dX4_claim_130 : decode cX4_claim 130 = .ok (.ifCond .eq 19, 3) := by decide +kernel
theorem dX4_claim_133 : decode cX4_claim 133 = .ok (.iload 4, 2) := by decide +kernel
theorem dX4_claim_135 : decode cX4_claim 135 = .ok (.ldc 82, 2) := by decide +kernel
theorem dX4_claim_137 : decode cX4_claim 137 = .ok (.ldc 83, 2) := by decide +kernel
theorem dX4_claim_139 : decode cX4_claim 139 = .ok (.invokestatic 42, 3) := by decide +kernel
theorem dX4_claim_142 : decode cX4_claim 142 = .ok (.ifCond .eq 7, 3) := by decide +kernel
theorem dX4_claim_145 : decode cX4_claim 145 = .ok (.iconst 1, 1) := by decide +kernel
theorem dX4_claim_146 : decode cX4_claim 146 = .ok (.goto 4, 3) := by decide +kernel
theorem dX4_claim_149 : decode cX4_claim 149 = .ok (.iconst 0, 1) := by decide +kernel
theorem dX4_claim_150 : decode cX4_claim 150 = .ok (.istore 5, 2) := by decide +kernel
theorem dX4_claim_152 : decode cX4_claim 152 = .ok (.goto 24, 3) := by decide +kernel
theorem dX4_claim_155 : decode cX4_claim 155 = .ok (.iload_n 3, 1) := by decide +kernel
theorem dX4_claim_156 : decode cX4_claim 156 = .ok (.iconst 0, 1) := by decide +kernel
theorem dX4_claim_157 : decode cX4_claim 157 = .ok (.bipush 16, 2) := by decide +kernel
theorem dX4_claim_159 : decode cX4_claim 159 = .ok (.invokestatic 42, 3) := by decide +kernel
theorem dX4_claim_162 : decode cX4_claim 162 = .ok (.istore 5, 2) := by decide +kernel
theorem dX4_claim_164 : decode cX4_claim 164 = .ok (.goto 12, 3) := by decide +kernel
theorem dX4_claim_167 : decode cX4_claim 167 = .ok (.iload_n 3, 1) := by decide +kernel
theorem dX4_claim_168 : decode cX4_claim 168 = .ok (.invokestatic 46, 3) := by decide +kernel
theorem dX4_claim_171 : decode cX4_claim 171 = .ok (.istore 5, 2) := by decide +kernel
theorem dX4_claim_173 : decode cX4_claim 173 = .ok (.goto 3, 3) := by decide +kernel
theorem dX4_claim_176 : decode cX4_claim 176 = .ok (.iload 5, 2) := by decide +kernel
theorem dX4_claim_178 : decode cX4_claim 178 = .ok (.ifCond .ne 5, 3) := by decide +kernel
theorem dX4_claim_181 : decode cX4_claim 181 = .ok (.iconst (-1), 1) := by decide +kernel
theorem dX4_claim_182 : decode cX4_claim 182 = .ok (.ireturn, 1) := by decide +kernel
theorem dX4_claim_183 : decode cX4_claim 183 = .ok (.aload_n 0, 1) := by decide +kernel
theorem dX4_claim_184 : decode cX4_claim 184 = .ok (.getfield 20, 3) := by decide +kernel
theorem dX4_claim_187 : decode cX4_claim 187 = .ok (.aload_n 0, 1) := by decide +kernel
theorem dX4_claim_188 : decode cX4_claim 188 = .ok (.getfield 79, 3) := by decide +kernel
theorem dX4_claim_191 : decode cX4_claim 191 = .ok (.iload_n 1, 1) := by decide +kernel
theorem dX4_claim_192 : decode cX4_claim 192 = .ok (.iastore, 1) := by decide +kernel
theorem dX4_claim_193 : decode cX4_claim 193 = .ok (.aload_n 0, 1) := by decide +kernel
theorem dX4_claim_194 : decode cX4_claim 194 = .ok (.getfield 23, 3) := by decide +kernel
theorem dX4_claim_197 : decode cX4_claim 197 = .ok (.aload_n 0, 1) := by decide +kernel
theorem dX4_claim_198 : decode cX4_claim 198 = .ok (.getfield 79, 3) := by decide +kernel
theorem dX4_claim_201 : decode cX4_claim 201 = .ok (.iload_n 2, 1) := by decide +kernel
theorem dX4_claim_202 : decode cX4_claim 202 = .ok (.iastore, 1) := by decide +kernel
theorem dX4_claim_203 : decode cX4_claim 203 = .ok (.aload_n 0, 1) := by decide +kernel
theorem dX4_claim_204 : decode cX4_claim 204 = .ok (.getfield 26, 3) := by decide +kernel
theorem dX4_claim_207 : decode cX4_claim 207 = .ok (.aload_n 0, 1) := by decide +kernel
theorem dX4_claim_208 : decode cX4_claim 208 = .ok (.getfield 79, 3) := by decide +kernel
theorem dX4_claim_211 : decode cX4_claim 211 = .ok (.iload_n 3, 1) := by decide +kernel
theorem dX4_claim_212 : decode cX4_claim 212 = .ok (.iastore, 1) := by decide +kernel
theorem dX4_claim_213 : decode cX4_claim 213 = .ok (.aload_n 0, 1) := by decide +kernel
theorem dX4_claim_214 : decode cX4_claim 214 = .ok (.getfield 29, 3) := by decide +kernel
theorem dX4_claim_217 : decode cX4_claim 217 = .ok (.aload_n 0, 1) := by decide +kernel
theorem dX4_claim_218 : decode cX4_claim 218 = .ok (.getfield 79, 3) := by decide +kernel
theorem dX4_claim_221 : decode cX4_claim 221 = .ok (.iload 4, 2) := by decide +kernel
theorem dX4_claim_223 : decode cX4_claim 223 = .ok (.iastore, 1) := by decide +kernel
theorem dX4_claim_224 : decode cX4_claim 224 = .ok (.aload_n 0, 1) := by decide +kernel
theorem dX4_claim_225 : decode cX4_claim 225 = .ok (.getfield 32, 3) := by decide +kernel
theorem dX4_claim_228 : decode cX4_claim 228 = .ok (.aload_n 0, 1) := by decide +kernel
theorem dX4_claim_229 : decode cX4_claim 229 = .ok (.getfield 79, 3) := by decide +kernel
theorem dX4_claim_232 : decode cX4_claim 232 = .ok (.aload_n 0, 1) := by decide +kernel
theorem dX4_claim_233 : decode cX4_claim 233 = .ok (.getfield 75, 3) := by decide +kernel
theorem dX4_claim_236 : decode cX4_claim 236 = .ok (.iastore, 1) := by decide +kernel
theorem dX4_claim_237 : decode cX4_claim 237 = .ok (.aload_n 0, 1) := by decide +kernel
theorem dX4_claim_238 : decode cX4_claim 238 = .ok (.dup, 1) := by decide +kernel
theorem dX4_claim_239 : decode cX4_claim 239 = .ok (.getfield 79, 3) := by decide +kernel
theorem dX4_claim_242 : decode cX4_claim 242 = .ok (.iconst 1, 1) := by decide +kernel
theorem dX4_claim_243 : decode cX4_claim 243 = .ok (.iadd, 1) := by decide +kernel
theorem dX4_claim_244 : decode cX4_claim 244 = .ok (.putfield 79, 3) := by decide +kernel
theorem dX4_claim_247 : decode cX4_claim 247 = .ok (.aload_n 0, 1) := by decide +kernel
theorem dX4_claim_248 : decode cX4_claim 248 = .ok (.getfield 79, 3) := by decide +kernel
theorem dX4_claim_251 : decode cX4_claim 251 = .ok (.iconst 1, 1) := by decide +kernel
theorem dX4_claim_252 : decode cX4_claim 252 = .ok (.isub, 1) := by decide +kernel
theorem dX4_claim_253 : decode cX4_claim 253 = .ok (.ireturn, 1) := by decide +kernel
set_option maxRecDepth 20000 in
theorem ggX4_isClaim_X4_in : GoodIn wsX4_isClaim wsX4_in := goodIn_r _ [5] (by decide +kernel) (by decide +kernel)
set_option maxRecDepth 20000 in
theorem gX4_isClaim_X4_in : GoodIn wsX4_isClaim (va_wsS RX4 42 yX4_in wsX4_in) := goodIn_app (goodIn_of _ (by decide +kernel)) ggX4_isClaim_X4_in
theorem dX4_isClaim_0 : decode cX4_isClaim 0 = .ok (.iload_n 1, 1) := by decide +kernel
theorem dX4_isClaim_1 : decode cX4_isClaim 1 = .ok (.iconst 0, 1) := by decide +kernel
theorem dX4_isClaim_2 : decode cX4_isClaim 2 = .ok (.aload_n 0, 1) := by decide +kernel
theorem dX4_isClaim_3 : decode cX4_isClaim 3 = .ok (.getfield 79, 3) := by decide +kernel
theorem dX4_isClaim_6 : decode cX4_isClaim 6 = .ok (.iconst 1, 1) := by decide +kernel
theorem dX4_isClaim_7 : decode cX4_isClaim 7 = .ok (.isub, 1) := by decide +kernel
theorem dX4_isClaim_8 : decode cX4_isClaim 8 = .ok (.invokestatic 42, 3) := by decide +kernel
theorem dX4_isClaim_11 : decode cX4_isClaim 11 = .ok (.ireturn, 1) := by decide +kernel
set_option maxRecDepth 20000 in
theorem ggX4_denies_X4_give : GoodIn wsX4_denies wsX4_give := goodIn_r _ [10, 11, 12, 13, 9, 14, 15, 16, 17, 18, 19, 20, 21, 22, 23, 24, 25, 26, 27, 28] (by decide +kernel) (by decide +kernel)
set_option maxRecDepth 20000 in
theorem gX4_denies_X4_give : GoodIn wsX4_denies (wsV RX4 72 RX4 yX4_give wsX4_give) := goodIn_app (goodIn_of _ (by decide +kernel)) ggX4_denies_X4_give
theorem dX4_denies_0 : decode cX4_denies 0 = .ok (.aload_n 0, 1) := by decide +kernel
theorem dX4_denies_1 : decode cX4_denies 1 = .ok (.iload_n 2, 1) := by decide +kernel
theorem dX4_denies_2 : decode cX4_denies 2 = .ok (.aload_n 0, 1) := by decide +kernel
theorem dX4_denies_3 : decode cX4_denies 3 = .ok (.getfield 20, 3) := by decide +kernel
theorem dX4_denies_6 : decode cX4_denies 6 = .ok (.iload_n 1, 1) := by decide +kernel
theorem dX4_denies_7 : decode cX4_denies 7 = .ok (.iaload, 1) := by decide +kernel
theorem dX4_denies_8 : decode cX4_denies 8 = .ok (.iload_n 3, 1) := by decide +kernel
theorem dX4_denies_9 : decode cX4_denies 9 = .ok (.invokevirtual 72, 3) := by decide +kernel
theorem dX4_denies_12 : decode cX4_denies 12 = .ok (.istore 4, 2) := by decide +kernel
theorem dX4_denies_14 : decode cX4_denies 14 = .ok (.iload 4, 2) := by decide +kernel
theorem dX4_denies_16 : decode cX4_denies 16 = .ok (.ldc 64, 2) := by decide +kernel
theorem dX4_denies_18 : decode cX4_denies 18 = .ok (.if_icmp .ne 7, 3) := by decide +kernel
theorem dX4_denies_21 : decode cX4_denies 21 = .ok (.iconst 1, 1) := by decide +kernel
theorem dX4_denies_22 : decode cX4_denies 22 = .ok (.goto 4, 3) := by decide +kernel
theorem dX4_denies_25 : decode cX4_denies 25 = .ok (.iconst 0, 1) := by decide +kernel
theorem dX4_denies_26 : decode cX4_denies 26 = .ok (.istore 5, 2) := by decide +kernel
theorem dX4_denies_28 : decode cX4_denies 28 = .ok (.aload_n 0, 1) := by decide +kernel
theorem dX4_denies_29 : decode cX4_denies 29 = .ok (.getfield 26, 3) := by decide +kernel
theorem dX4_denies_32 : decode cX4_denies 32 = .ok (.iload_n 1, 1) := by decide +kernel
theorem dX4_denies_33 : decode cX4_denies 33 = .ok (.iaload, 1) := by decide +kernel
theorem dX4_denies_34 : decode cX4_denies 34 = .ok (.istore 6, 2) := by decide +kernel
theorem dX4_denies_36 : decode cX4_denies 36 = .ok (.aload_n 0, 1) := by decide +kernel
theorem dX4_denies_37 : decode cX4_denies 37 = .ok (.getfield 23, 3) := by decide +kernel
theorem dX4_denies_40 : decode cX4_denies 40 = .ok (.iload_n 1, 1) := by decide +kernel
theorem dX4_denies_41 : decode cX4_denies 41 = .ok (.iaload, 1) := by decide +kernel
theorem dX4_denies_42 : decode cX4_denies 42 = .ok (.tableswitch 232 0 6 #[42, 71, 74, 131, 150, 184, 207], 42) := by decide +kernel
theorem dX4_denies_84 : decode cX4_denies 84 = .ok (.iload 5, 2) := by decide +kernel
theorem dX4_denies_86 : decode cX4_denies 86 = .ok (.ifCond .ne 25, 3) := by decide +kernel
theorem dX4_denies_89 : decode cX4_denies 89 = .ok (.iload 4, 2) := by decide +kernel
theorem dX4_denies_91 : decode cX4_denies 91 = .ok (.iload 6, 2) := by decide +kernel
theorem dX4_denies_93 : decode cX4_denies 93 = .ok (.if_icmp .lt 14, 3) := by decide +kernel
theorem dX4_denies_96 : decode cX4_denies 96 = .ok (.iload 4, 2) := by decide +kernel
theorem dX4_denies_98 : decode cX4_denies 98 = .ok (.aload_n 0, 1) := by decide +kernel
theorem dX4_denies_99 : decode cX4_denies 99 = .ok (.getfield 29, 3) := by decide +kernel
theorem dX4_denies_102 : decode cX4_denies 102 = .ok (.iload_n 1, 1) := by decide +kernel
theorem dX4_denies_103 : decode cX4_denies 103 = .ok (.iaload, 1) := by decide +kernel
theorem dX4_denies_104 : decode cX4_denies 104 = .ok (.if_icmp .le 7, 3) := by decide +kernel
theorem dX4_denies_107 : decode cX4_denies 107 = .ok (.iconst 1, 1) := by decide +kernel
theorem dX4_denies_108 : decode cX4_denies 108 = .ok (.goto 4, 3) := by decide +kernel
theorem dX4_denies_111 : decode cX4_denies 111 = .ok (.iconst 0, 1) := by decide +kernel
theorem dX4_denies_112 : decode cX4_denies 112 = .ok (.ireturn, 1) := by decide +kernel
theorem dX4_denies_113 : decode cX4_denies 113 = .ok (.iload 5, 2) := by decide +kernel
theorem dX4_denies_115 : decode cX4_denies 115 = .ok (.ireturn, 1) := by decide +kernel
theorem dX4_denies_116 : decode cX4_denies 116 = .ok (.iload_n 3, 1) := by decide +kernel
theorem dX4_denies_117 : decode cX4_denies 117 = .ok (.bipush 16, 2) := by decide +kernel
theorem dX4_denies_119 : decode cX4_denies 119 = .ok (.iadd, 1) := by decide +kernel
theorem dX4_denies_120 : decode cX4_denies 120 = .ok (.sipush 256, 3) := by decide +kernel
theorem dX4_denies_123 : decode cX4_denies 123 = .ok (.if_icmp .ge 21, 3) := by decide +kernel
theorem dX4_denies_126 : decode cX4_denies 126 = .ok (.aload_n 0, 1) := by decide +kernel
theorem dX4_denies_127 : decode cX4_denies 127 = .ok (.iload_n 2, 1) := by decide +kernel
theorem dX4_denies_128 : decode cX4_denies 128 = .ok (.aload_n 0, 1) := by decide +kernel
theorem dX4_denies_129 : decode cX4_denies 129 = .ok (.getfield 20, 3) := by decide +kernel
theorem dX4_denies_132 : decode cX4_denies 132 = .ok (.iload_n 1, 1) := by decide +kernel
theorem dX4_denies_133 : decode cX4_denies 133 = .ok (.iaload, 1) := by decide +kernel
theorem dX4_denies_134 : decode cX4_denies 134 = .ok (.iload_n 3, 1) := by decide +kernel
theorem dX4_denies_135 : decode cX4_denies 135 = .ok (.bipush 16, 2) := by decide +kernel
theorem dX4_denies_137 : decode cX4_denies 137 = .ok (.iadd, 1) := by decide +kernel
theorem dX4_denies_138 : decode cX4_denies 138 = .ok (.invokevirtual 72, 3) := by decide +kernel
theorem dX4_denies_141 : decode cX4_denies 141 = .ok (.goto 5, 3) := by decide +kernel
theorem dX4_denies_144 : decode cX4_denies 144 = .ok (.ldc 64, 2) := by decide +kernel
theorem dX4_denies_146 : decode cX4_denies 146 = .ok (.istore 7, 2) := by decide +kernel
theorem dX4_denies_148 : decode cX4_denies 148 = .ok (.iload 5, 2) := by decide +kernel
theorem dX4_denies_150 : decode cX4_denies 150 = .ok (.ifCond .ne 21, 3) := by decide +kernel
theorem dX4_denies_153 : decode cX4_denies 153 = .ok (.iload 7, 2) := by decide +kernel
theorem dX4_denies_155 : decode cX4_denies 155 = .ok (.ldc 64, 2) := by decide +kernel
theorem dX4_denies_157 : decode cX4_denies 157 = .ok (.if_icmp .eq 14, 3) := by decide +kernel
theorem dX4_denies_160 : decode cX4_denies 160 = .ok (.iload 7, 2) := by decide +kernel
theorem dX4_denies_162 : decode cX4_denies 162 = .ok (.iload 4, 2) := by decide +kernel
theorem dX4_denies_164 : decode cX4_denies 164 = .ok (.if_icmp .ge 7, 3) := by decide +kernel
theorem dX4_denies_167 : decode cX4_denies 167 = .ok (.iconst 1, 1) := by decide +kernel
theorem dX4_denies_168 : decode cX4_denies 168 = .ok (.goto 4, 3) := by decide +kernel
theorem dX4_denies_171 : decode cX4_denies 171 = .ok (.iconst 0, 1) := by decide +kernel
theorem dX4_denies_172 : decode cX4_denies 172 = .ok (.ireturn, 1) := by decide +kernel
theorem dX4_denies_173 : decode cX4_denies 173 = .ok (.iload 5, 2) := by decide +kernel
theorem dX4_denies_175 : decode cX4_denies 175 = .ok (.ifCond .ne 15, 3) := by decide +kernel
theorem dX4_denies_178 : decode cX4_denies 178 = .ok (.iload 4, 2) := by decide +kernel
theorem dX4_denies_180 : decode cX4_denies 180 = .ok (.iload 6, 2) := by decide +kernel
theorem dX4_denies_182 : decode cX4_denies 182 = .ok (.irem, 1) := by decide +kernel
theorem dX4_denies_183 : decode cX4_denies 183 = .ok (.ifCond .eq 7, 3) := by decide +kernel
theorem dX4_denies_186 : decode cX4_denies 186 = .ok (.iconst 1, 1) := by decide +kernel
theorem dX4_denies_187 : decode cX4_denies 187 = .ok (.goto 4, 3) := by decide +kernel
theorem dX4_denies_190 : decode cX4_denies 190 = .ok (.iconst 0, 1) := by decide +kernel
theorem dX4_denies_191 : decode cX4_denies 191 = .ok (.ireturn, 1) := by decide +kernel
theorem dX4_denies_192 : decode cX4_denies 192 = .ok (.iload 4, 2) := by decide +kernel
theorem dX4_denies_194 : decode cX4_denies 194 = .ok (.aload_n 0, 1) := by decide +kernel
theorem dX4_denies_195 : decode cX4_denies 195 = .ok (.iload_n 2, 1) := by decide +kernel
theorem dX4_denies_196 : decode cX4_denies 196 = .ok (.aload_n 0, 1) := by decide +kernel
theorem dX4_denies_197 : decode cX4_denies 197 = .ok (.getfield 20, 3) := by decide +kernel
theorem dX4_denies_200 : decode cX4_denies 200 = .ok (.iload_n 1, 1) := by decide +kernel
theorem dX4_denies_201 : decode cX4_denies 201 = .ok (.iaload, 1) := by decide +kernel
theorem dX4_denies_202 : decode cX4_denies 202 = .ok (.iload_n 3, 1) := by decide +kernel
theorem dX4_denies_203 : decode cX4_denies 203 = .ok (.bipush 16, 2) := by decide +kernel
theorem dX4_denies_205 : decode cX4_denies 205 = .ok (.irem, 1) := by decide +kernel
theorem dX4_denies_206 : decode cX4_denies 206 = .ok (.bipush 16, 2) := by decide +kernel
theorem dX4_denies_208 : decode cX4_denies 208 = .ok (.imul, 1) := by decide +kernel
theorem dX4_denies_209 : decode cX4_denies 209 = .ok (.iload_n 3, 1) := by decide +kernel
theorem dX4_denies_210 : decode cX4_denies 210 = .ok (.bipush 16, 2) := by decide +kernel
theorem dX4_denies_212 : decode cX4_denies 212 = .ok (.idiv, 1) := by decide +kernel
theorem dX4_denies_213 : decode cX4_denies 213 = .ok (.iadd, 1) := by decide +kernel
theorem dX4_denies_214 : decode cX4_denies 214 = .ok (.invokevirtual 72, 3) := by decide +kernel
theorem dX4_denies_217 : decode cX4_denies 217 = .ok (.if_icmp .eq 7, 3) := by decide +kernel
theorem dX4_denies_220 : decode cX4_denies 220 = .ok (.iconst 1, 1) := by decide +kernel
theorem dX4_denies_221 : decode cX4_denies 221 = .ok (.goto 4, 3) := by decide +kernel
theorem dX4_denies_224 : decode cX4_denies 224 = .ok (.iconst 0, 1) := by decide +kernel
theorem dX4_denies_225 : decode cX4_denies 225 = .ok (.ireturn, 1) := by decide +kernel
theorem dX4_denies_226 : decode cX4_denies 226 = .ok (.iload_n 3, 1) := by decide +kernel
theorem dX4_denies_227 : decode cX4_denies 227 = .ok (.iload 6, 2) := by decide +kernel
theorem dX4_denies_229 : decode cX4_denies 229 = .ok (.if_icmp .ne 18, 3) := by decide +kernel
theorem dX4_denies_232 : decode cX4_denies 232 = .ok (.iload 4, 2) := by decide +kernel
theorem dX4_denies_234 : decode cX4_denies 234 = .ok (.aload_n 0, 1) := by decide +kernel
theorem dX4_denies_235 : decode cX4_denies 235 = .ok (.getfield 29, 3) := by decide +kernel
theorem dX4_denies_238 : decode cX4_denies 238 = .ok (.iload_n 1, 1) := by decide +kernel
theorem dX4_denies_239 : decode cX4_denies 239 = .ok (.iaload, 1) := by decide +kernel
theorem dX4_denies_240 : decode cX4_denies 240 = .ok (.if_icmp .eq 7, 3) := by decide +kernel
theorem dX4_denies_243 : decode cX4_denies 243 = .ok (.iconst 1, 1) := by decide +kernel
theorem dX4_denies_244 : decode cX4_denies 244 = .ok (.goto 4, 3) := by decide +kernel
theorem dX4_denies_247 : decode cX4_denies 247 = .ok (.iconst 0, 1) := by decide +kernel
theorem dX4_denies_248 : decode cX4_denies 248 = .ok (.ireturn, 1) := by decide +kernel
theorem dX4_denies_249 : decode cX4_denies 249 = .ok (.iload 5, 2) := by decide +kernel
theorem dX4_denies_251 : decode cX4_denies 251 = .ok (.iload_n 3, 1) := by decide +kernel
theorem dX4_denies_252 : decode cX4_denies 252 = .ok (.bipush 16, 2) := by decide +kernel
theorem dX4_denies_254 : decode cX4_denies 254 = .ok (.idiv, 1) := by decide +kernel
theorem dX4_denies_255 : decode cX4_denies 255 = .ok (.iload 6, 2) := by decide +kernel
theorem dX4_denies_257 : decode cX4_denies 257 = .ok (.if_icmp .lt 7, 3) := by decide +kernel
theorem dX4_denies_260 : decode cX4_denies 260 = .ok (.iconst 1, 1) := by decide +kernel
theorem dX4_denies_261 : decode cX4_denies 261 = .ok (.goto 4, 3) := by decide +kernel
theorem dX4_denies_264 : decode cX4_denies 264 = .ok (.iconst 0, 1) := by decide +kernel
theorem dX4_denies_265 : decode cX4_denies 265 = .ok (.if_icmp .eq 7, 3) := by decide +kernel
theorem dX4_denies_268 : decode cX4_denies 268 = .ok (.iconst 1, 1) := by decide +kernel
theorem dX4_denies_269 : decode cX4_denies 269 = .ok (.goto 4, 3) := by decide +kernel
theorem dX4_denies_272 : decode cX4_denies 272 = .ok (.iconst 0, 1) := by decide +kernel
theorem dX4_denies_273 : decode cX4_denies 273 = .ok (.ireturn, 1) := by decide +kernel
theorem dX4_denies_274 : decode cX4_denies 274 = .ok (.iload 4, 2) := by decide +kernel
theorem dX4_denies_276 : decode cX4_denies 276 = .ok (.aload_n 0, 1) := by decide +kernel
theorem dX4_denies_277 : decode cX4_denies 277 = .ok (.iload_n 2, 1) := by decide +kernel
theorem dX4_denies_278 : decode cX4_denies 278 = .ok (.iload 6, 2) := by decide +kernel
theorem dX4_denies_280 : decode cX4_denies 280 = .ok (.iload_n 3, 1) := by decide +kernel
theorem dX4_denies_281 : decode cX4_denies 281 = .ok (.invokevirtual 72, 3) := by decide +kernel
theorem dX4_denies_284 : decode cX4_denies 284 = .ok (.if_icmp .eq 7, 3) := by decide +kernel
theorem dX4_denies_287 : decode cX4_denies 287 = .ok (.iconst 1, 1) := by decide +kernel
theorem dX4_denies_288 : decode cX4_denies 288 = .ok (.goto 4, 3) := by decide +kernel
theorem dX4_denies_291 : decode cX4_denies 291 = .ok (.iconst 0, 1) := by decide +kernel
theorem dX4_denies_292 : decode cX4_denies 292 = .ok (.ireturn, 1) := by decide +kernel
set_option maxRecDepth 20000 in
theorem ggX4_harm_X4_denies : GoodIn wsX4_harm wsX4_denies := goodIn_r _ [5, 6, 7, 8, 9, 10, 11, 12, 13, 4, 14, 15, 16, 17, 18, 19, 20, 21, 22, 23, 24, 25, 26, 27, 28, 29, 30, 31, 32] (by decide +kernel) (by decide +kernel)
set_option maxRecDepth 20000 in
theorem gX4_harm_X4_denies : GoodIn wsX4_harm (wsV RX4 84 RX4 yX4_denies wsX4_denies) := goodIn_app (goodIn_of _ (by decide +kernel)) ggX4_harm_X4_denies
theorem dX4_harm_0 : decode cX4_harm 0 = .ok (.iconst 0, 1) := by decide +kernel
theorem dX4_harm_1 : decode cX4_harm 1 = .ok (.istore_n 3, 1) := by decide +kernel
theorem dX4_harm_2 : decode cX4_harm 2 = .ok (.iconst 0, 1) := by decide +kernel
theorem dX4_harm_3 : decode cX4_harm 3 = .ok (.istore 4, 2) := by decide +kernel
theorem dX4_harm_5 : decode cX4_harm 5 = .ok (.iload 4, 2) := by decide +kernel
theorem dX4_harm_7 : decode cX4_harm 7 = .ok (.sipush 256, 3) := by decide +kernel
theorem dX4_harm_10 : decode cX4_harm 10 = .ok (.if_icmp .ge 28, 3) := by decide +kernel
theorem dX4_harm_13 : decode cX4_harm 13 = .ok (.iload_n 3, 1) := by decide +kernel
theorem dX4_harm_14 : decode cX4_harm 14 = .ok (.aload_n 0, 1) := by decide +kernel
theorem dX4_harm_15 : decode cX4_harm 15 = .ok (.iload_n 1, 1) := by decide +kernel
theorem dX4_harm_16 : decode cX4_harm 16 = .ok (.iload_n 2, 1) := by decide +kernel
theorem dX4_harm_17 : decode cX4_harm 17 = .ok (.iload 4, 2) := by decide +kernel
theorem dX4_harm_19 : decode cX4_harm 19 = .ok (.invokevirtual 84, 3) := by decide +kernel
theorem dX4_harm_22 : decode cX4_harm 22 = .ok (.ifCond .eq 7, 3) := by decide +kernel
theorem dX4_harm_25 : decode cX4_harm 25 = .ok (.iconst 1, 1) := by decide +kernel
theorem dX4_harm_26 : decode cX4_harm 26 = .ok (.goto 4, 3) := by decide +kernel
theorem dX4_harm_29 : decode cX4_harm 29 = .ok (.iconst 0, 1) := by decide +kernel
theorem dX4_harm_30 : decode cX4_harm 30 = .ok (.iadd, 1) := by decide +kernel
theorem dX4_harm_31 : decode cX4_harm 31 = .ok (.istore_n 3, 1) := by decide +kernel
theorem dX4_harm_32 : decode cX4_harm 32 = .ok (.iinc 4 1, 3) := by decide +kernel
theorem dX4_harm_35 : decode cX4_harm 35 = .ok (.goto (-30), 3) := by decide +kernel
theorem dX4_harm_38 : decode cX4_harm 38 = .ok (.iload_n 3, 1) := by decide +kernel
theorem dX4_harm_39 : decode cX4_harm 39 = .ok (.ireturn, 1) := by decide +kernel
set_option maxRecDepth 20000 in
theorem ggX4_lastHeld_X4_harm : GoodIn wsX4_lastHeld wsX4_harm := goodIn_r _ [7, 8, 9, 10, 6, 11, 12, 13, 14, 15, 16, 17, 18, 19, 20, 21, 22, 23, 24, 25, 26, 27, 28, 29, 30, 31, 32, 33, 34, 35, 36, 37, 38] (by decide +kernel) (by decide +kernel)
set_option maxRecDepth 20000 in
theorem gX4_lastHeld_X4_harm : GoodIn wsX4_lastHeld (wsV RX4 87 RX4 yX4_harm wsX4_harm) := goodIn_app (goodIn_of _ (by decide +kernel)) ggX4_lastHeld_X4_harm
theorem dX4_lastHeld_0 : decode cX4_lastHeld 0 = .ok (.aload_n 0, 1) := by decide +kernel
theorem dX4_lastHeld_1 : decode cX4_lastHeld 1 = .ok (.getfield 75, 3) := by decide +kernel
theorem dX4_lastHeld_4 : decode cX4_lastHeld 4 = .ok (.istore_n 2, 1) := by decide +kernel
theorem dX4_lastHeld_5 : decode cX4_lastHeld 5 = .ok (.iload_n 2, 1) := by decide +kernel
theorem dX4_lastHeld_6 : decode cX4_lastHeld 6 = .ok (.aload_n 0, 1) := by decide +kernel
theorem dX4_lastHeld_7 : decode cX4_lastHeld 7 = .ok (.getfield 32, 3) := by decide +kernel
theorem dX4_lastHeld_10 : decode cX4_lastHeld 10 = .ok (.iload_n 1, 1) := by decide +kernel
theorem dX4_lastHeld_11 : decode cX4_lastHeld 11 = .ok (.iaload, 1) := by decide +kernel
theorem dX4_lastHeld_12 : decode cX4_lastHeld 12 = .ok (.if_icmp .lt 18, 3) := by decide +kernel
theorem dX4_lastHeld_15 : decode cX4_lastHeld 15 = .ok (.aload_n 0, 1) := by decide +kernel
theorem dX4_lastHeld_16 : decode cX4_lastHeld 16 = .ok (.iload_n 1, 1) := by decide +kernel
theorem dX4_lastHeld_17 : decode cX4_lastHeld 17 = .ok (.iload_n 2, 1) := by decide +kernel
theorem dX4_lastHeld_18 : decode cX4_lastHeld 18 = .ok (.invokevirtual 87, 3) := by decide +kernel
theorem dX4_lastHeld_21 : decode cX4_lastHeld 21 = .ok (.ifCond .le 9, 3) := by decide +kernel
theorem dX4_lastHeld_24 : decode cX4_lastHeld 24 = .ok (.iinc 2 (-1), 3) := by decide +kernel
theorem dX4_lastHeld_27 : decode cX4_lastHeld 27 = .ok (.goto (-22), 3) := by decide +kernel
theorem dX4_lastHeld_30 : decode cX4_lastHeld 30 = .ok (.iload_n 2, 1) := by decide +kernel
theorem dX4_lastHeld_31 : decode cX4_lastHeld 31 = .ok (.aload_n 0, 1) := by decide +kernel
theorem dX4_lastHeld_32 : decode cX4_lastHeld 32 = .ok (.getfield 32, 3) := by decide +kernel
theorem dX4_lastHeld_35 : decode cX4_lastHeld 35 = .ok (.iload_n 1, 1) := by decide +kernel
theorem dX4_lastHeld_36 : decode cX4_lastHeld 36 = .ok (.iaload, 1) := by decide +kernel
theorem dX4_lastHeld_37 : decode cX4_lastHeld 37 = .ok (.if_icmp .lt 7, 3) := by decide +kernel
theorem dX4_lastHeld_40 : decode cX4_lastHeld 40 = .ok (.iload_n 2, 1) := by decide +kernel
theorem dX4_lastHeld_41 : decode cX4_lastHeld 41 = .ok (.goto 4, 3) := by decide +kernel
theorem dX4_lastHeld_44 : decode cX4_lastHeld 44 = .ok (.iconst (-1), 1) := by decide +kernel
theorem dX4_lastHeld_45 : decode cX4_lastHeld 45 = .ok (.ireturn, 1) := by decide +kernel
set_option maxRecDepth 20000 in
theorem ggX4_isHeld_X4_harm : GoodIn wsX4_isHeld wsX4_harm := goodIn_r _ [5, 6, 7, 8, 4, 9, 10, 11, 12, 13, 14, 15, 16, 17, 18, 19, 20, 21, 22, 23, 24, 25, 26, 27, 28, 29, 30, 31, 32, 33, 34, 35, 36] (by decide +kernel) (by decide +kernel)
set_option maxRecDepth 20000 in
theorem gX4_isHeld_X4_harm : GoodIn wsX4_isHeld (wsV RX4 87 RX4 yX4_harm wsX4_harm) := goodIn_app (goodIn_of _ (by decide +kernel)) ggX4_isHeld_X4_harm
theorem dX4_isHeld_0 : decode cX4_isHeld 0 = .ok (.aload_n 0, 1) := by decide +kernel
theorem dX4_isHeld_1 : decode cX4_isHeld 1 = .ok (.iload_n 1, 1) := by decide +kernel
theorem dX4_isHeld_2 : decode cX4_isHeld 2 = .ok (.bipush 31, 2) := by decide +kernel
theorem dX4_isHeld_4 : decode cX4_isHeld 4 = .ok (.invokevirtual 87, 3) := by decide +kernel
theorem dX4_isHeld_7 : decode cX4_isHeld 7 = .ok (.ifCond .ne 7, 3) := by decide +kernel
theorem dX4_isHeld_10 : decode cX4_isHeld 10 = .ok (.iconst 1, 1) := by decide +kernel
theorem dX4_isHeld_11 : decode cX4_isHeld 11 = .ok (.goto 4, 3) := by decide +kernel
theorem dX4_isHeld_14 : decode cX4_isHeld 14 = .ok (.iconst 0, 1) := by decide +kernel
theorem dX4_isHeld_15 : decode cX4_isHeld 15 = .ok (.ireturn, 1) := by decide +kernel
set_option maxRecDepth 20000 in
theorem ggX4_stateOf_X4_isHeld : GoodIn wsX4_stateOf wsX4_isHeld := goodIn_r _ [5, 6, 7, 8, 4, 9, 10, 11, 12, 13, 14, 15, 16, 17, 18, 19, 20, 21, 22, 23, 24, 25, 26, 33, 34, 35, 36, 37, 38, 39, 40, 41, 42, 43, 44, 45, 46] (by decide +kernel) (by decide +kernel)
set_option maxRecDepth 20000 in
theorem gX4_stateOf_X4_isHeld : GoodIn wsX4_stateOf (wsV RX4 90 RX4 yX4_isHeld wsX4_isHeld) := goodIn_app (goodIn_of _ (by decide +kernel)) ggX4_stateOf_X4_isHeld
set_option maxRecDepth 20000 in
theorem ggX4_stateOf_X4_lastHeld : GoodIn wsX4_stateOf wsX4_lastHeld := goodIn_r _ [30, 31, 32, 6, 7, 8, 4, 9, 10, 11, 12, 13, 14, 15, 16, 17, 18, 19, 20, 21, 22, 23, 24, 25, 26, 33, 34, 35, 36, 37, 38, 39, 40, 41, 42, 43, 44, 45, 46] (by decide +kernel) (by decide +kernel)
set_option maxRecDepth 20000 in
theorem gX4_stateOf_X4_lastHeld : GoodIn wsX4_stateOf (wsV RX4 93 RX4 yX4_lastHeld wsX4_lastHeld) := goodIn_app (goodIn_of _ (by decide +kernel)) ggX4_stateOf_X4_lastHeld
theorem dX4_stateOf_0 : decode cX4_stateOf 0 = .ok (.aload_n 0, 1) := by decide +kernel
theorem dX4_stateOf_1 : decode cX4_stateOf 1 = .ok (.iload_n 1, 1) := by decide +kernel
theorem dX4_stateOf_2 : decode cX4_stateOf 2 = .ok (.invokevirtual 90, 3) := by decide +kernel
theorem dX4_stateOf_5 : decode cX4_stateOf 5 = .ok (.ifCond .eq 7, 3) := by decide +kernel
theorem dX4_stateOf_8 : decode cX4_stateOf 8 = .ok (.iconst 0, 1) := by decide +kernel
theorem dX4_stateOf_9 : decode cX4_stateOf 9 = .ok (.goto 17, 3) := by decide +kernel
theorem dX4_stateOf_12 : decode cX4_stateOf 12 = .ok (.aload_n 0, 1) := by decide +kernel
theorem dX4_stateOf_13 : decode cX4_stateOf 13 = .ok (.iload_n 1, 1) := by decide +kernel
theorem dX4_stateOf_14 : decode cX4_stateOf 14 = .ok (.invokevirtual 93, 3) := by decide +kernel
theorem dX4_stateOf_17 : decode cX4_stateOf 17 = .ok (.iconst (-1), 1) := by decide +kernel
theorem dX4_stateOf_18 : decode cX4_stateOf 18 = .ok (.if_icmp .ne 7, 3) := by decide +kernel
theorem dX4_stateOf_21 : decode cX4_stateOf 21 = .ok (.iconst 1, 1) := by decide +kernel
theorem dX4_stateOf_22 : decode cX4_stateOf 22 = .ok (.goto 4, 3) := by decide +kernel
theorem dX4_stateOf_25 : decode cX4_stateOf 25 = .ok (.iconst 2, 1) := by decide +kernel
theorem dX4_stateOf_26 : decode cX4_stateOf 26 = .ok (.ireturn, 1) := by decide +kernel
set_option maxRecDepth 20000 in
theorem ggX4_told_X4_isClaim : GoodIn wsX4_told wsX4_isClaim := goodIn_r _ [11, 12, 13, 14, 10, 15, 46, 47, 48, 49, 50, 51, 52, 53, 54, 55, 56, 57, 58, 59] (by decide +kernel) (by decide +kernel)
set_option maxRecDepth 20000 in
theorem gX4_told_X4_isClaim : GoodIn wsX4_told (wsV RX4 97 RX4 yX4_isClaim wsX4_isClaim) := goodIn_app (goodIn_of _ (by decide +kernel)) ggX4_told_X4_isClaim
set_option maxRecDepth 20000 in
theorem ggX4_told_X4_stateOf : GoodIn wsX4_told wsX4_stateOf := goodIn_r _ [19, 20, 21, 22, 10, 23, 24, 25, 26, 27, 28, 29, 30, 31, 2, 1, 4, 3, 5, 32, 33, 34, 35, 36, 37, 38, 39, 40, 41, 42, 43, 44, 45, 46, 47, 48, 49, 50, 51, 52, 53, 54, 55, 56, 57, 58, 59] (by decide +kernel) (by decide +kernel)
set_option maxRecDepth 20000 in
theorem gX4_told_X4_stateOf : GoodIn wsX4_told (wsV RX4 100 RX4 yX4_stateOf wsX4_stateOf) := goodIn_app (goodIn_of _ (by decide +kernel)) ggX4_told_X4_stateOf
set_option maxRecDepth 20000 in
theorem ggX4_told_X4_harm : GoodIn wsX4_told wsX4_harm := goodIn_r _ [27, 28, 29, 30, 10, 31, 2, 1, 4, 3, 5, 32, 33, 34, 35, 36, 37, 38, 39, 46, 47, 48, 49, 50, 51, 52, 53, 54, 55, 56, 57, 58, 59] (by decide +kernel) (by decide +kernel)
set_option maxRecDepth 20000 in
theorem gX4_told_X4_harm : GoodIn wsX4_told (wsV RX4 87 RX4 yX4_harm wsX4_harm) := goodIn_app (goodIn_of _ (by decide +kernel)) ggX4_told_X4_harm
set_option maxRecDepth 20000 in
theorem ggX4_told_X4_lastHeld : GoodIn wsX4_told wsX4_lastHeld := goodIn_r _ [43, 44, 45, 24, 25, 26, 10, 27, 28, 29, 30, 31, 2, 1, 4, 3, 5, 32, 33, 34, 35, 36, 37, 38, 39, 46, 47, 48, 49, 50, 51, 52, 53, 54, 55, 56, 57, 58, 59] (by decide +kernel) (by decide +kernel)
set_option maxRecDepth 20000 in
theorem gX4_told_X4_lastHeld : GoodIn wsX4_told (wsV RX4 93 RX4 yX4_lastHeld wsX4_lastHeld) := goodIn_app (goodIn_of _ (by decide +kernel)) ggX4_told_X4_lastHeld
theorem dX4_told_0 : decode cX4_told 0 = .ok (.aload_n 0, 1) := by decide +kernel
theorem dX4_told_1 : decode cX4_told 1 = .ok (.iload_n 1, 1) := by decide +kernel
theorem dX4_told_2 : decode cX4_told 2 = .ok (.invokevirtual 97, 3) := by decide +kernel
theorem dX4_told_5 : decode cX4_told 5 = .ok (.ifCond .ne 6, 3) := by decide +kernel
theorem dX4_told_8 : decode cX4_told 8 = .ok (.ldc 64, 2) := by decide +kernel
theorem dX4_told_10 : decode cX4_told 10 = .ok (.ireturn, 1) := by decide +kernel
theorem dX4_told_11 : decode cX4_told 11 = .ok (.iload_n 2, 1) := by decide +kernel
theorem dX4_told_12 : decode cX4_told 12 = .ok (.tableswitch 126 0 7 #[48, 54, 61, 68, 75, 82, 90, 111], 48) := by decide +kernel
theorem dX4_told_60 : decode cX4_told 60 = .ok (.aload_n 0, 1) := by decide +kernel
theorem dX4_told_61 : decode cX4_told 61 = .ok (.iload_n 1, 1) := by decide +kernel
theorem dX4_told_62 : decode cX4_told 62 = .ok (.invokevirtual 100, 3) := by decide +kernel
theorem dX4_told_65 : decode cX4_told 65 = .ok (.ireturn, 1) := by decide +kernel
theorem dX4_told_66 : decode cX4_told 66 = .ok (.aload_n 0, 1) := by decide +kernel
theorem dX4_told_67 : decode cX4_told 67 = .ok (.getfield 20, 3) := by decide +kernel
theorem dX4_told_70 : decode cX4_told 70 = .ok (.iload_n 1, 1) := by decide +kernel
theorem dX4_told_71 : decode cX4_told 71 = .ok (.iaload, 1) := by decide +kernel
theorem dX4_told_72 : decode cX4_told 72 = .ok (.ireturn, 1) := by decide +kernel
theorem dX4_told_73 : decode cX4_told 73 = .ok (.aload_n 0, 1) := by decide +kernel
theorem dX4_told_74 : decode cX4_told 74 = .ok (.getfield 23, 3) := by decide +kernel
theorem dX4_told_77 : decode cX4_told 77 = .ok (.iload_n 1, 1) := by decide +kernel
theorem dX4_told_78 : decode cX4_told 78 = .ok (.iaload, 1) := by decide +kernel
theorem dX4_told_79 : decode cX4_told 79 = .ok (.ireturn, 1) := by decide +kernel
theorem dX4_told_80 : decode cX4_told 80 = .ok (.aload_n 0, 1) := by decide +kernel
theorem dX4_told_81 : decode cX4_told 81 = .ok (.getfield 26, 3) := by decide +kernel
theorem dX4_told_84 : decode cX4_told 84 = .ok (.iload_n 1, 1) := by decide +kernel
theorem dX4_told_85 : decode cX4_told 85 = .ok (.iaload, 1) := by decide +kernel
theorem dX4_told_86 : decode cX4_told 86 = .ok (.ireturn, 1) := by decide +kernel
theorem dX4_told_87 : decode cX4_told 87 = .ok (.aload_n 0, 1) := by decide +kernel
theorem dX4_told_88 : decode cX4_told 88 = .ok (.getfield 29, 3) := by decide +kernel
theorem dX4_told_91 : decode cX4_told 91 = .ok (.iload_n 1, 1) := by decide +kernel
theorem dX4_told_92 : decode cX4_told 92 = .ok (.iaload, 1) := by decide +kernel
theorem dX4_told_93 : decode cX4_told 93 = .ok (.ireturn, 1) := by decide +kernel
theorem dX4_told_94 : decode cX4_told 94 = .ok (.aload_n 0, 1) := by decide +kernel
theorem dX4_told_95 : decode cX4_told 95 = .ok (.iload_n 1, 1) := by decide +kernel
theorem dX4_told_96 : decode cX4_told 96 = .ok (.bipush 31, 2) := by decide +kernel
theorem dX4_told_98 : decode cX4_told 98 = .ok (.invokevirtual 87, 3) := by decide +kernel
theorem dX4_told_101 : decode cX4_told 101 = .ok (.ireturn, 1) := by decide +kernel
theorem dX4_told_102 : decode cX4_told 102 = .ok (.aload_n 0, 1) := by decide +kernel
theorem dX4_told_103 : decode cX4_told 103 = .ok (.iload_n 1, 1) := by decide +kernel
theorem dX4_told_104 : decode cX4_told 104 = .ok (.invokevirtual 100, 3) := by decide +kernel
theorem dX4_told_107 : decode cX4_told 107 = .ok (.iconst 2, 1) := by decide +kernel
theorem dX4_told_108 : decode cX4_told 108 = .ok (.if_icmp .ne 13, 3) := by decide +kernel
theorem dX4_told_111 : decode cX4_told 111 = .ok (.aload_n 0, 1) := by decide +kernel
theorem dX4_told_112 : decode cX4_told 112 = .ok (.iload_n 1, 1) := by decide +kernel
theorem dX4_told_113 : decode cX4_told 113 = .ok (.invokevirtual 93, 3) := by decide +kernel
theorem dX4_told_116 : decode cX4_told 116 = .ok (.iconst 1, 1) := by decide +kernel
theorem dX4_told_117 : decode cX4_told 117 = .ok (.iadd, 1) := by decide +kernel
theorem dX4_told_118 : decode cX4_told 118 = .ok (.goto 4, 3) := by decide +kernel
theorem dX4_told_121 : decode cX4_told 121 = .ok (.iconst (-1), 1) := by decide +kernel
theorem dX4_told_122 : decode cX4_told 122 = .ok (.ireturn, 1) := by decide +kernel
theorem dX4_told_123 : decode cX4_told 123 = .ok (.aload_n 0, 1) := by decide +kernel
theorem dX4_told_124 : decode cX4_told 124 = .ok (.getfield 35, 3) := by decide +kernel
theorem dX4_told_127 : decode cX4_told 127 = .ok (.iload_n 1, 1) := by decide +kernel
theorem dX4_told_128 : decode cX4_told 128 = .ok (.baload, 1) := by decide +kernel
theorem dX4_told_129 : decode cX4_told 129 = .ok (.ifCond .eq 7, 3) := by decide +kernel
theorem dX4_told_132 : decode cX4_told 132 = .ok (.iconst 1, 1) := by decide +kernel
theorem dX4_told_133 : decode cX4_told 133 = .ok (.goto 4, 3) := by decide +kernel
theorem dX4_told_136 : decode cX4_told 136 = .ok (.iconst 0, 1) := by decide +kernel
theorem dX4_told_137 : decode cX4_told 137 = .ok (.ireturn, 1) := by decide +kernel
theorem dX4_told_138 : decode cX4_told 138 = .ok (.ldc 64, 2) := by decide +kernel
theorem dX4_told_140 : decode cX4_told 140 = .ok (.ireturn, 1) := by decide +kernel
set_option maxRecDepth 20000 in
theorem ggX4_denied_X4_isClaim : GoodIn wsX4_denied wsX4_isClaim := goodIn_r _ [5, 6, 7, 8, 4, 9, 27, 28, 29, 30, 31, 32, 33, 34, 35, 36, 37, 38, 39, 40] (by decide +kernel) (by decide +kernel)
set_option maxRecDepth 20000 in
theorem gX4_denied_X4_isClaim : GoodIn wsX4_denied (wsV RX4 97 RX4 yX4_isClaim wsX4_isClaim) := goodIn_app (goodIn_of _ (by decide +kernel)) ggX4_denied_X4_isClaim
set_option maxRecDepth 20000 in
theorem ggX4_denied_X4_denies : GoodIn wsX4_denied wsX4_denies := goodIn_r _ [13, 14, 15, 16, 17, 18, 19, 20, 21, 4, 22, 23, 24, 25, 26, 27, 28, 29, 30, 31, 32, 33, 34, 35, 36, 37, 38, 39, 40] (by decide +kernel) (by decide +kernel)
set_option maxRecDepth 20000 in
theorem gX4_denied_X4_denies : GoodIn wsX4_denied (wsV RX4 84 RX4 yX4_denies wsX4_denies) := goodIn_app (goodIn_of _ (by decide +kernel)) ggX4_denied_X4_denies
theorem dX4_denied_0 : decode cX4_denied 0 = .ok (.aload_n 0, 1) := by decide +kernel
theorem dX4_denied_1 : decode cX4_denied 1 = .ok (.iload_n 1, 1) := by decide +kernel
theorem dX4_denied_2 : decode cX4_denied 2 = .ok (.invokevirtual 97, 3) := by decide +kernel
theorem dX4_denied_5 : decode cX4_denied 5 = .ok (.ifCond .ne 5, 3) := by decide +kernel
theorem dX4_denied_8 : decode cX4_denied 8 = .ok (.iconst (-1), 1) := by decide +kernel
theorem dX4_denied_9 : decode cX4_denied 9 = .ok (.ireturn, 1) := by decide +kernel
theorem dX4_denied_10 : decode cX4_denied 10 = .ok (.iconst 0, 1) := by decide +kernel
theorem dX4_denied_11 : decode cX4_denied 11 = .ok (.istore_n 2, 1) := by decide +kernel
theorem dX4_denied_12 : decode cX4_denied 12 = .ok (.iload_n 2, 1) := by decide +kernel
theorem dX4_denied_13 : decode cX4_denied 13 = .ok (.sipush 256, 3) := by decide +kernel
theorem dX4_denied_16 : decode cX4_denied 16 = .ok (.if_icmp .ge 22, 3) := by decide +kernel
theorem dX4_denied_19 : decode cX4_denied 19 = .ok (.aload_n 0, 1) := by decide +kernel
theorem dX4_denied_20 : decode cX4_denied 20 = .ok (.iload_n 1, 1) := by decide +kernel
theorem dX4_denied_21 : decode cX4_denied 21 = .ok (.bipush 31, 2) := by decide +kernel
theorem dX4_denied_23 : decode cX4_denied 23 = .ok (.iload_n 2, 1) := by decide +kernel
theorem dX4_denied_24 : decode cX4_denied 24 = .ok (.invokevirtual 84, 3) := by decide +kernel
theorem dX4_denied_27 : decode cX4_denied 27 = .ok (.ifCond .eq 5, 3) := by decide +kernel
theorem dX4_denied_30 : decode cX4_denied 30 = .ok (.iload_n 2, 1) := by decide +kernel
theorem dX4_denied_31 : decode cX4_denied 31 = .ok (.ireturn, 1) := by decide +kernel
theorem dX4_denied_32 : decode cX4_denied 32 = .ok (.iinc 2 1, 3) := by decide +kernel
theorem dX4_denied_35 : decode cX4_denied 35 = .ok (.goto (-23), 3) := by decide +kernel
theorem dX4_denied_38 : decode cX4_denied 38 = .ok (.iconst (-1), 1) := by decide +kernel
theorem dX4_denied_39 : decode cX4_denied 39 = .ok (.ireturn, 1) := by decide +kernel
set_option maxRecDepth 20000 in
theorem ggX4_mends_X4_isClaim : GoodIn wsX4_mends wsX4_isClaim := goodIn_r _ [10, 11, 12, 13, 9, 14, 52, 53, 54, 55, 56, 57, 58, 59, 60, 61, 62, 63, 64, 65] (by decide +kernel) (by decide +kernel)
set_option maxRecDepth 20000 in
theorem gX4_mends_X4_isClaim : GoodIn wsX4_mends (wsV RX4 97 RX4 yX4_isClaim wsX4_isClaim) := goodIn_app (goodIn_of _ (by decide +kernel)) ggX4_mends_X4_isClaim
set_option maxRecDepth 20000 in
theorem ggX4_mends_X4_isHeld : GoodIn wsX4_mends wsX4_isHeld := goodIn_r _ [18, 19, 20, 21, 9, 22, 23, 24, 25, 26, 2, 5, 3, 1, 27, 28, 29, 30, 31, 32, 33, 34, 35, 52, 53, 54, 55, 56, 57, 58, 59, 60, 61, 62, 63, 64, 65] (by decide +kernel) (by decide +kernel)
set_option maxRecDepth 20000 in
theorem gX4_mends_X4_isHeld : GoodIn wsX4_mends (wsV RX4 90 RX4 yX4_isHeld wsX4_isHeld) := goodIn_app (goodIn_of _ (by decide +kernel)) ggX4_mends_X4_isHeld
set_option maxRecDepth 20000 in
theorem ggX4_mends_X4_spans : GoodIn wsX4_mends wsX4_spans := goodIn_r _ [39, 40, 4, 41, 42, 2, 5, 43, 28, 29, 30, 9, 31, 32, 33, 34, 35, 52, 53, 54, 55, 56, 57, 58, 59, 60, 61, 62, 63, 64, 65] (by decide +kernel) (by decide +kernel)
set_option maxRecDepth 20000 in
theorem gX4_mends_X4_spans : GoodIn wsX4_mends (wsV RX4 103 RX4 yX4_spans wsX4_spans) := goodIn_app (goodIn_of _ (by decide +kernel)) ggX4_mends_X4_spans
set_option maxRecDepth 20000 in
theorem ggX4_mends_X4_divides : GoodIn wsX4_mends wsX4_divides := goodIn_r _ [47, 4, 2, 5, 28, 29, 30, 9, 31, 32, 33, 34, 35, 52, 53, 54, 55, 56, 57, 58, 59, 60, 61, 62, 63, 64, 65] (by decide +kernel) (by decide +kernel)
set_option maxRecDepth 20000 in
theorem gX4_mends_X4_divides : GoodIn wsX4_mends (wsV RX4 106 RX4 yX4_divides wsX4_divides) := goodIn_app (goodIn_of _ (by decide +kernel)) ggX4_mends_X4_divides
set_option maxRecDepth 20000 in
theorem ggX4_mends_X4_give : GoodIn wsX4_mends wsX4_give := goodIn_r _ [31, 32, 33, 34, 9, 35, 52, 53, 54, 55, 56, 57, 58, 59, 60, 61, 62, 63, 64, 65] (by decide +kernel) (by decide +kernel)
set_option maxRecDepth 20000 in
theorem gX4_mends_X4_give : GoodIn wsX4_mends (wsV RX4 72 RX4 yX4_give wsX4_give) := goodIn_app (goodIn_of _ (by decide +kernel)) ggX4_mends_X4_give
set_option maxRecDepth 20000 in
theorem ggX4_mends_X4_refuses : GoodIn wsX4_mends wsX4_refuses := goodIn_r _ [51, 3, 4, 15, 16, 17, 9, 18, 19, 20, 21, 22, 23, 24, 25, 26, 2, 5, 1, 27, 28, 29, 30, 31, 32, 33, 34, 35, 52, 53, 54, 55, 56, 57, 58, 59, 60, 61, 62, 63, 64, 65] (by decide +kernel) (by decide +kernel)
set_option maxRecDepth 20000 in
theorem gX4_mends_X4_refuses : GoodIn wsX4_mends (wsV RX4 112 RX4 yX4_refuses wsX4_refuses) := goodIn_app (goodIn_of _ (by decide +kernel)) ggX4_mends_X4_refuses
theorem dX4_mends_0 : decode cX4_mends 0 = .ok (.aload_n 0, 1) := by decide +kernel
theorem dX4_mends_1 : decode cX4_mends 1 = .ok (.iload_n 1, 1) := by decide +kernel
theorem dX4_mends_2 : decode cX4_mends 2 = .ok (.invokevirtual 97, 3) := by decide +kernel
theorem dX4_mends_5 : decode cX4_mends 5 = .ok (.ifCond .eq 11, 3) := by decide +kernel
theorem dX4_mends_8 : decode cX4_mends 8 = .ok (.aload_n 0, 1) := by decide +kernel
theorem dX4_mends_9 : decode cX4_mends 9 = .ok (.iload_n 1, 1) := by decide +kernel
theorem dX4_mends_10 : decode cX4_mends 10 = .ok (.invokevirtual 90, 3) := by decide +kernel
theorem dX4_mends_13 : decode cX4_mends 13 = .ok (.ifCond .eq 5, 3) := by decide +kernel
theorem dX4_mends_16 : decode cX4_mends 16 = .ok (.iconst 0, 1) := by decide +kernel
theorem dX4_mends_17 : decode cX4_mends 17 = .ok (.ireturn, 1) := by decide +kernel
theorem dX4_mends_18 : decode cX4_mends 18 = .ok (.aload_n 0, 1) := by decide +kernel
theorem dX4_mends_19 : decode cX4_mends 19 = .ok (.getfield 23, 3) := by decide +kernel
theorem dX4_mends_22 : decode cX4_mends 22 = .ok (.iload_n 1, 1) := by decide +kernel
theorem dX4_mends_23 : decode cX4_mends 23 = .ok (.iaload, 1) := by decide +kernel
theorem dX4_mends_24 : decode cX4_mends 24 = .ok (.tableswitch 99 0 6 #[44, 99, 99, 50, 99, 56, 93], 44) := by decide +kernel
theorem dX4_mends_68 : decode cX4_mends 68 = .ok (.aload_n 0, 1) := by decide +kernel
theorem dX4_mends_69 : decode cX4_mends 69 = .ok (.iload_n 1, 1) := by decide +kernel
theorem dX4_mends_70 : decode cX4_mends 70 = .ok (.invokevirtual 103, 3) := by decide +kernel
theorem dX4_mends_73 : decode cX4_mends 73 = .ok (.ireturn, 1) := by decide +kernel
theorem dX4_mends_74 : decode cX4_mends 74 = .ok (.aload_n 0, 1) := by decide +kernel
theorem dX4_mends_75 : decode cX4_mends 75 = .ok (.iload_n 1, 1) := by decide +kernel
theorem dX4_mends_76 : decode cX4_mends 76 = .ok (.invokevirtual 106, 3) := by decide +kernel
theorem dX4_mends_79 : decode cX4_mends 79 = .ok (.ireturn, 1) := by decide +kernel
theorem dX4_mends_80 : decode cX4_mends 80 = .ok (.aload_n 0, 1) := by decide +kernel
theorem dX4_mends_81 : decode cX4_mends 81 = .ok (.aload_n 0, 1) := by decide +kernel
theorem dX4_mends_82 : decode cX4_mends 82 = .ok (.bipush 31, 2) := by decide +kernel
theorem dX4_mends_84 : decode cX4_mends 84 = .ok (.aload_n 0, 1) := by decide +kernel
theorem dX4_mends_85 : decode cX4_mends 85 = .ok (.getfield 20, 3) := by decide +kernel
theorem dX4_mends_88 : decode cX4_mends 88 = .ok (.iload_n 1, 1) := by decide +kernel
theorem dX4_mends_89 : decode cX4_mends 89 = .ok (.iaload, 1) := by decide +kernel
theorem dX4_mends_90 : decode cX4_mends 90 = .ok (.aload_n 0, 1) := by decide +kernel
theorem dX4_mends_91 : decode cX4_mends 91 = .ok (.getfield 26, 3) := by decide +kernel
theorem dX4_mends_94 : decode cX4_mends 94 = .ok (.iload_n 1, 1) := by decide +kernel
theorem dX4_mends_95 : decode cX4_mends 95 = .ok (.iaload, 1) := by decide +kernel
theorem dX4_mends_96 : decode cX4_mends 96 = .ok (.invokevirtual 72, 3) := by decide +kernel
theorem dX4_mends_99 : decode cX4_mends 99 = .ok (.putfield 109, 3) := by decide +kernel
theorem dX4_mends_102 : decode cX4_mends 102 = .ok (.aload_n 0, 1) := by decide +kernel
theorem dX4_mends_103 : decode cX4_mends 103 = .ok (.getfield 109, 3) := by decide +kernel
theorem dX4_mends_106 : decode cX4_mends 106 = .ok (.ldc 64, 2) := by decide +kernel
theorem dX4_mends_108 : decode cX4_mends 108 = .ok (.if_icmp .eq 7, 3) := by decide +kernel
theorem dX4_mends_111 : decode cX4_mends 111 = .ok (.iconst 1, 1) := by decide +kernel
theorem dX4_mends_112 : decode cX4_mends 112 = .ok (.goto 4, 3) := by decide +kernel
theorem dX4_mends_115 : decode cX4_mends 115 = .ok (.iconst 0, 1) := by decide +kernel
theorem dX4_mends_116 : decode cX4_mends 116 = .ok (.ireturn, 1) := by decide +kernel
theorem dX4_mends_117 : decode cX4_mends 117 = .ok (.aload_n 0, 1) := by decide +kernel
theorem dX4_mends_118 : decode cX4_mends 118 = .ok (.iload_n 1, 1) := by decide +kernel
theorem dX4_mends_119 : decode cX4_mends 119 = .ok (.invokevirtual 112, 3) := by decide +kernel
theorem dX4_mends_122 : decode cX4_mends 122 = .ok (.ireturn, 1) := by decide +kernel
theorem dX4_mends_123 : decode cX4_mends 123 = .ok (.iconst 0, 1) := by decide +kernel
theorem dX4_mends_124 : decode cX4_mends 124 = .ok (.ireturn, 1) := by decide +kernel
set_option maxRecDepth 20000 in
theorem ggX4_spans_X4_give : GoodIn wsX4_spans wsX4_give := goodIn_r _ [12, 13, 14, 15, 11, 16, 17, 18, 19, 20, 21, 22, 23, 24, 25, 26, 27, 28, 29, 30] (by decide +kernel) (by decide +kernel)
set_option maxRecDepth 20000 in
theorem gX4_spans_X4_give : GoodIn wsX4_spans (wsV RX4 72 RX4 yX4_give wsX4_give) := goodIn_app (goodIn_of _ (by decide +kernel)) ggX4_spans_X4_give
theorem dX4_spans_0 : decode cX4_spans 0 = .ok (.aload_n 0, 1) := by decide +kernel
theorem dX4_spans_1 : decode cX4_spans 1 = .ok (.ldc 115, 2) := by decide +kernel
theorem dX4_spans_3 : decode cX4_spans 3 = .ok (.putfield 109, 3) := by decide +kernel
theorem dX4_spans_6 : decode cX4_spans 6 = .ok (.aload_n 0, 1) := by decide +kernel
theorem dX4_spans_7 : decode cX4_spans 7 = .ok (.ldc 116, 2) := by decide +kernel
theorem dX4_spans_9 : decode cX4_spans 9 = .ok (.putfield 117, 3) := by decide +kernel
theorem dX4_spans_12 : decode cX4_spans 12 = .ok (.iconst 0, 1) := by decide +kernel
theorem dX4_spans_13 : decode cX4_spans 13 = .ok (.istore_n 2, 1) := by decide +kernel
theorem dX4_spans_14 : decode cX4_spans 14 = .ok (.iload_n 2, 1) := by decide +kernel
theorem dX4_spans_15 : decode cX4_spans 15 = .ok (.sipush 256, 3) := by decide +kernel
theorem dX4_spans_18 : decode cX4_spans 18 = .ok (.if_icmp .ge 58, 3) := by decide +kernel
theorem dX4_spans_21 : decode cX4_spans 21 = .ok (.aload_n 0, 1) := by decide +kernel
theorem dX4_spans_22 : decode cX4_spans 22 = .ok (.bipush 31, 2) := by decide +kernel
theorem dX4_spans_24 : decode cX4_spans 24 = .ok (.aload_n 0, 1) := by decide +kernel
theorem dX4_spans_25 : decode cX4_spans 25 = .ok (.getfield 20, 3) := by decide +kernel
theorem dX4_spans_28 : decode cX4_spans 28 = .ok (.iload_n 1, 1) := by decide +kernel
theorem dX4_spans_29 : decode cX4_spans 29 = .ok (.iaload, 1) := by decide +kernel
theorem dX4_spans_30 : decode cX4_spans 30 = .ok (.iload_n 2, 1) := by decide +kernel
theorem dX4_spans_31 : decode cX4_spans 31 = .ok (.invokevirtual 72, 3) := by decide +kernel
theorem dX4_spans_34 : decode cX4_spans 34 = .ok (.istore_n 3, 1) := by decide +kernel
theorem dX4_spans_35 : decode cX4_spans 35 = .ok (.iload_n 3, 1) := by decide +kernel
theorem dX4_spans_36 : decode cX4_spans 36 = .ok (.ldc 64, 2) := by decide +kernel
theorem dX4_spans_38 : decode cX4_spans 38 = .ok (.if_icmp .ne 6, 3) := by decide +kernel
theorem dX4_spans_41 : decode cX4_spans 41 = .ok (.goto 29, 3) := by decide +kernel
theorem dX4_spans_44 : decode cX4_spans 44 = .ok (.iload_n 3, 1) := by decide +kernel
theorem dX4_spans_45 : decode cX4_spans 45 = .ok (.aload_n 0, 1) := by decide +kernel
theorem dX4_spans_46 : decode cX4_spans 46 = .ok (.getfield 109, 3) := by decide +kernel
theorem dX4_spans_49 : decode cX4_spans 49 = .ok (.if_icmp .ge 8, 3) := by decide +kernel
theorem dX4_spans_52 : decode cX4_spans 52 = .ok (.aload_n 0, 1) := by decide +kernel
theorem dX4_spans_53 : decode cX4_spans 53 = .ok (.iload_n 3, 1) := by decide +kernel
theorem dX4_spans_54 : decode cX4_spans 54 = .ok (.putfield 109, 3) := by decide +kernel
theorem dX4_spans_57 : decode cX4_spans 57 = .ok (.iload_n 3, 1) := by decide +kernel
theorem dX4_spans_58 : decode cX4_spans 58 = .ok (.aload_n 0, 1) := by decide +kernel
theorem dX4_spans_59 : decode cX4_spans 59 = .ok (.getfield 117, 3) := by decide +kernel
theorem dX4_spans_62 : decode cX4_spans 62 = .ok (.if_icmp .le 8, 3) := by decide +kernel
theorem dX4_spans_65 : decode cX4_spans 65 = .ok (.aload_n 0, 1) := by decide +kernel
theorem dX4_spans_66 : decode cX4_spans 66 = .ok (.iload_n 3, 1) := by decide +kernel
theorem dX4_spans_67 : decode cX4_spans 67 = .ok (.putfield 117, 3) := by decide +kernel
theorem dX4_spans_70 : decode cX4_spans 70 = .ok (.iinc 2 1, 3) := by decide +kernel
theorem dX4_spans_73 : decode cX4_spans 73 = .ok (.goto (-59), 3) := by decide +kernel
theorem dX4_spans_76 : decode cX4_spans 76 = .ok (.aload_n 0, 1) := by decide +kernel
theorem dX4_spans_77 : decode cX4_spans 77 = .ok (.getfield 109, 3) := by decide +kernel
theorem dX4_spans_80 : decode cX4_spans 80 = .ok (.ldc 83, 2) := by decide +kernel
theorem dX4_spans_82 : decode cX4_spans 82 = .ok (.if_icmp .gt 7, 3) := by decide +kernel
theorem dX4_spans_85 : decode cX4_spans 85 = .ok (.iconst 1, 1) := by decide +kernel
theorem dX4_spans_86 : decode cX4_spans 86 = .ok (.goto 4, 3) := by decide +kernel
theorem dX4_spans_89 : decode cX4_spans 89 = .ok (.iconst 0, 1) := by decide +kernel
theorem dX4_spans_90 : decode cX4_spans 90 = .ok (.ireturn, 1) := by decide +kernel
set_option maxRecDepth 20000 in
theorem ggX4_divides_X4_give : GoodIn wsX4_divides wsX4_give := goodIn_r _ [8, 9, 10, 11, 7, 12, 13, 14, 15, 16, 17, 18, 19, 20, 21, 22, 23, 24, 25, 26] (by decide +kernel) (by decide +kernel)
set_option maxRecDepth 20000 in
theorem gX4_divides_X4_give : GoodIn wsX4_divides (wsV RX4 72 RX4 yX4_give wsX4_give) := goodIn_app (goodIn_of _ (by decide +kernel)) ggX4_divides_X4_give
theorem dX4_divides_0 : decode cX4_divides 0 = .ok (.aload_n 0, 1) := by decide +kernel
theorem dX4_divides_1 : decode cX4_divides 1 = .ok (.sipush 1000, 3) := by decide +kernel
theorem dX4_divides_4 : decode cX4_divides 4 = .ok (.putfield 109, 3) := by decide +kernel
theorem dX4_divides_7 : decode cX4_divides 7 = .ok (.iconst 1, 1) := by decide +kernel
theorem dX4_divides_8 : decode cX4_divides 8 = .ok (.istore_n 2, 1) := by decide +kernel
theorem dX4_divides_9 : decode cX4_divides 9 = .ok (.iload_n 2, 1) := by decide +kernel
theorem dX4_divides_10 : decode cX4_divides 10 = .ok (.ifCond .eq 79, 3) := by decide +kernel
theorem dX4_divides_13 : decode cX4_divides 13 = .ok (.iconst 0, 1) := by decide +kernel
theorem dX4_divides_14 : decode cX4_divides 14 = .ok (.istore_n 2, 1) := by decide +kernel
theorem dX4_divides_15 : decode cX4_divides 15 = .ok (.iconst 0, 1) := by decide +kernel
theorem dX4_divides_16 : decode cX4_divides 16 = .ok (.istore_n 3, 1) := by decide +kernel
theorem dX4_divides_17 : decode cX4_divides 17 = .ok (.iload_n 3, 1) := by decide +kernel
theorem dX4_divides_18 : decode cX4_divides 18 = .ok (.sipush 256, 3) := by decide +kernel
theorem dX4_divides_21 : decode cX4_divides 21 = .ok (.if_icmp .ge 51, 3) := by decide +kernel
theorem dX4_divides_24 : decode cX4_divides 24 = .ok (.iload_n 2, 1) := by decide +kernel
theorem dX4_divides_25 : decode cX4_divides 25 = .ok (.ifCond .ne 47, 3) := by decide +kernel
theorem dX4_divides_28 : decode cX4_divides 28 = .ok (.aload_n 0, 1) := by decide +kernel
theorem dX4_divides_29 : decode cX4_divides 29 = .ok (.bipush 31, 2) := by decide +kernel
theorem dX4_divides_31 : decode cX4_divides 31 = .ok (.aload_n 0, 1) := by decide +kernel
theorem dX4_divides_32 : decode cX4_divides 32 = .ok (.getfield 20, 3) := by decide +kernel
theorem dX4_divides_35 : decode cX4_divides 35 = .ok (.iload_n 1, 1) := by decide +kernel
theorem dX4_divides_36 : decode cX4_divides 36 = .ok (.iaload, 1) := by decide +kernel
theorem dX4_divides_37 : decode cX4_divides 37 = .ok (.iload_n 3, 1) := by decide +kernel
theorem dX4_divides_38 : decode cX4_divides 38 = .ok (.invokevirtual 72, 3) := by decide +kernel
theorem dX4_divides_41 : decode cX4_divides 41 = .ok (.istore 4, 2) := by decide +kernel
theorem dX4_divides_43 : decode cX4_divides 43 = .ok (.iload 4, 2) := by decide +kernel
theorem dX4_divides_45 : decode cX4_divides 45 = .ok (.ldc 64, 2) := by decide +kernel
theorem dX4_divides_47 : decode cX4_divides 47 = .ok (.if_icmp .eq 17, 3) := by decide +kernel
theorem dX4_divides_50 : decode cX4_divides 50 = .ok (.iload 4, 2) := by decide +kernel
theorem dX4_divides_52 : decode cX4_divides 52 = .ok (.aload_n 0, 1) := by decide +kernel
theorem dX4_divides_53 : decode cX4_divides 53 = .ok (.getfield 109, 3) := by decide +kernel
theorem dX4_divides_56 : decode cX4_divides 56 = .ok (.irem, 1) := by decide +kernel
theorem dX4_divides_57 : decode cX4_divides 57 = .ok (.ifCond .eq 7, 3) := by decide +kernel
theorem dX4_divides_60 : decode cX4_divides 60 = .ok (.iconst 1, 1) := by decide +kernel
theorem dX4_divides_61 : decode cX4_divides 61 = .ok (.goto 4, 3) := by decide +kernel
theorem dX4_divides_64 : decode cX4_divides 64 = .ok (.iconst 0, 1) := by decide +kernel
theorem dX4_divides_65 : decode cX4_divides 65 = .ok (.istore_n 2, 1) := by decide +kernel
theorem dX4_divides_66 : decode cX4_divides 66 = .ok (.iinc 3 1, 3) := by decide +kernel
theorem dX4_divides_69 : decode cX4_divides 69 = .ok (.goto (-52), 3) := by decide +kernel
theorem dX4_divides_72 : decode cX4_divides 72 = .ok (.iload_n 2, 1) := by decide +kernel
theorem dX4_divides_73 : decode cX4_divides 73 = .ok (.ifCond .eq (-64), 3) := by decide +kernel
theorem dX4_divides_76 : decode cX4_divides 76 = .ok (.aload_n 0, 1) := by decide +kernel
theorem dX4_divides_77 : decode cX4_divides 77 = .ok (.dup, 1) := by decide +kernel
theorem dX4_divides_78 : decode cX4_divides 78 = .ok (.getfield 109, 3) := by decide +kernel
theorem dX4_divides_81 : decode cX4_divides 81 = .ok (.iconst 1, 1) := by decide +kernel
theorem dX4_divides_82 : decode cX4_divides 82 = .ok (.isub, 1) := by decide +kernel
theorem dX4_divides_83 : decode cX4_divides 83 = .ok (.putfield 109, 3) := by decide +kernel
theorem dX4_divides_86 : decode cX4_divides 86 = .ok (.goto (-77), 3) := by decide +kernel
theorem dX4_divides_89 : decode cX4_divides 89 = .ok (.iconst 1, 1) := by decide +kernel
theorem dX4_divides_90 : decode cX4_divides 90 = .ok (.ireturn, 1) := by decide +kernel
set_option maxRecDepth 20000 in
theorem ggX4_refuses_X4_isHeld : GoodIn wsX4_refuses wsX4_isHeld := goodIn_r _ [7, 8, 9, 10, 6, 11, 12, 13, 14, 15, 16, 17, 1, 18, 19, 20, 21, 22, 23, 24, 25, 26, 27, 28, 29, 30, 31, 32, 33, 34, 35, 36, 37, 38, 39, 40, 41] (by decide +kernel) (by decide +kernel)
set_option maxRecDepth 20000 in
theorem gX4_refuses_X4_isHeld : GoodIn wsX4_refuses (wsV RX4 90 RX4 yX4_isHeld wsX4_isHeld) := goodIn_app (goodIn_of _ (by decide +kernel)) ggX4_refuses_X4_isHeld
theorem dX4_refuses_0 : decode cX4_refuses 0 = .ok (.aload_n 0, 1) := by decide +kernel
theorem dX4_refuses_1 : decode cX4_refuses 1 = .ok (.getfield 26, 3) := by decide +kernel
theorem dX4_refuses_4 : decode cX4_refuses 4 = .ok (.iload_n 1, 1) := by decide +kernel
theorem dX4_refuses_5 : decode cX4_refuses 5 = .ok (.iaload, 1) := by decide +kernel
theorem dX4_refuses_6 : decode cX4_refuses 6 = .ok (.istore_n 2, 1) := by decide +kernel
theorem dX4_refuses_7 : decode cX4_refuses 7 = .ok (.iconst 0, 1) := by decide +kernel
theorem dX4_refuses_8 : decode cX4_refuses 8 = .ok (.istore_n 3, 1) := by decide +kernel
theorem dX4_refuses_9 : decode cX4_refuses 9 = .ok (.iconst 0, 1) := by decide +kernel
theorem dX4_refuses_10 : decode cX4_refuses 10 = .ok (.istore 4, 2) := by decide +kernel
theorem dX4_refuses_12 : decode cX4_refuses 12 = .ok (.iload 4, 2) := by decide +kernel
theorem dX4_refuses_14 : decode cX4_refuses 14 = .ok (.bipush 16, 2) := by decide +kernel
theorem dX4_refuses_16 : decode cX4_refuses 16 = .ok (.if_icmp .gt 33, 3) := by decide +kernel
theorem dX4_refuses_19 : decode cX4_refuses 19 = .ok (.iload_n 3, 1) := by decide +kernel
theorem dX4_refuses_20 : decode cX4_refuses 20 = .ok (.ifCond .ne 29, 3) := by decide +kernel
theorem dX4_refuses_23 : decode cX4_refuses 23 = .ok (.aload_n 0, 1) := by decide +kernel
theorem dX4_refuses_24 : decode cX4_refuses 24 = .ok (.getfield 26, 3) := by decide +kernel
theorem dX4_refuses_27 : decode cX4_refuses 27 = .ok (.iload_n 1, 1) := by decide +kernel
theorem dX4_refuses_28 : decode cX4_refuses 28 = .ok (.iload 4, 2) := by decide +kernel
theorem dX4_refuses_30 : decode cX4_refuses 30 = .ok (.iastore, 1) := by decide +kernel
theorem dX4_refuses_31 : decode cX4_refuses 31 = .ok (.aload_n 0, 1) := by decide +kernel
theorem dX4_refuses_32 : decode cX4_refuses 32 = .ok (.iload_n 1, 1) := by decide +kernel
theorem dX4_refuses_33 : decode cX4_refuses 33 = .ok (.invokevirtual 90, 3) := by decide +kernel
theorem dX4_refuses_36 : decode cX4_refuses 36 = .ok (.istore_n 3, 1) := by decide +kernel
theorem dX4_refuses_37 : decode cX4_refuses 37 = .ok (.aload_n 0, 1) := by decide +kernel
theorem dX4_refuses_38 : decode cX4_refuses 38 = .ok (.iload 4, 2) := by decide +kernel
theorem dX4_refuses_40 : decode cX4_refuses 40 = .ok (.putfield 109, 3) := by decide +kernel
theorem dX4_refuses_43 : decode cX4_refuses 43 = .ok (.iinc 4 1, 3) := by decide +kernel
theorem dX4_refuses_46 : decode cX4_refuses 46 = .ok (.goto (-34), 3) := by decide +kernel
theorem dX4_refuses_49 : decode cX4_refuses 49 = .ok (.aload_n 0, 1) := by decide +kernel
theorem dX4_refuses_50 : decode cX4_refuses 50 = .ok (.getfield 26, 3) := by decide +kernel
theorem dX4_refuses_53 : decode cX4_refuses 53 = .ok (.iload_n 1, 1) := by decide +kernel
theorem dX4_refuses_54 : decode cX4_refuses 54 = .ok (.iload_n 2, 1) := by decide +kernel
theorem dX4_refuses_55 : decode cX4_refuses 55 = .ok (.iastore, 1) := by decide +kernel
theorem dX4_refuses_56 : decode cX4_refuses 56 = .ok (.iload_n 3, 1) := by decide +kernel
theorem dX4_refuses_57 : decode cX4_refuses 57 = .ok (.ireturn, 1) := by decide +kernel
set_option maxRecDepth 20000 in
theorem ggX4_mend_X4_mends : GoodIn wsX4_mend wsX4_mends := goodIn_r _ [9, 1, 10, 11, 3, 2, 12, 13, 14, 8, 15, 16, 17, 18, 19, 20, 21, 22, 23, 24, 25, 26, 27, 28, 29, 30, 31, 32, 33, 34, 35, 36, 37, 38, 39, 40, 41, 42, 43, 44, 45, 46, 4, 47, 48, 49, 50, 51, 52, 53, 54, 55, 56, 57, 58, 59, 60, 61, 62, 63, 64, 65, 66, 67, 68, 69] (by decide +kernel) (by decide +kernel)
set_option maxRecDepth 20000 in
theorem gX4_mend_X4_mends : GoodIn wsX4_mend (wsV RX4 120 RX4 yX4_mends wsX4_mends) := goodIn_app (goodIn_of _ (by decide +kernel)) ggX4_mend_X4_mends
set_option maxRecDepth 20000 in
theorem ggX4_mend_X4_in : GoodIn wsX4_mend wsX4_in := goodIn_r _ [19] (by decide +kernel) (by decide +kernel)
set_option maxRecDepth 20000 in
theorem gX4_mend_X4_in : GoodIn wsX4_mend (va_wsS RX4 42 yX4_in wsX4_in) := goodIn_app (goodIn_of _ (by decide +kernel)) ggX4_mend_X4_in
theorem dX4_mend_0 : decode cX4_mend 0 = .ok (.aload_n 0, 1) := by decide +kernel
theorem dX4_mend_1 : decode cX4_mend 1 = .ok (.iload_n 1, 1) := by decide +kernel
theorem dX4_mend_2 : decode cX4_mend 2 = .ok (.invokevirtual 120, 3) := by decide +kernel
theorem dX4_mend_5 : decode cX4_mend 5 = .ok (.ifCond .eq 25, 3) := by decide +kernel
theorem dX4_mend_8 : decode cX4_mend 8 = .ok (.iload_n 2, 1) := by decide +kernel
theorem dX4_mend_9 : decode cX4_mend 9 = .ok (.iconst 0, 1) := by decide +kernel
theorem dX4_mend_10 : decode cX4_mend 10 = .ok (.aload_n 0, 1) := by decide +kernel
theorem dX4_mend_11 : decode cX4_mend 11 = .ok (.getfield 23, 3) := by decide +kernel
theorem dX4_mend_14 : decode cX4_mend 14 = .ok (.iload_n 1, 1) := by decide +kernel
theorem dX4_mend_15 : decode cX4_mend 15 = .ok (.iaload, 1) := by decide +kernel
theorem dX4_mend_16 : decode cX4_mend 16 = .ok (.ifCond .ne 7, 3) := by decide +kernel
theorem dX4_mend_19 : decode cX4_mend 19 = .ok (.iconst 1, 1) := by decide +kernel
theorem dX4_mend_20 : decode cX4_mend 20 = .ok (.goto 4, 3) := by decide +kernel
theorem dX4_mend_23 : decode cX4_mend 23 = .ok (.iconst 0, 1) := by decide +kernel
theorem dX4_mend_24 : decode cX4_mend 24 = .ok (.invokestatic 42, 3) := by decide +kernel
theorem dX4_mend_27 : decode cX4_mend 27 = .ok (.ifCond .ne 6, 3) := by decide +kernel
theorem dX4_mend_30 : decode cX4_mend 30 = .ok (.ldc 64, 2) := by decide +kernel
theorem dX4_mend_32 : decode cX4_mend 32 = .ok (.ireturn, 1) := by decide +kernel
theorem dX4_mend_33 : decode cX4_mend 33 = .ok (.iload_n 2, 1) := by decide +kernel
theorem dX4_mend_34 : decode cX4_mend 34 = .ok (.ifCond .ne 10, 3) := by decide +kernel
theorem dX4_mend_37 : decode cX4_mend 37 = .ok (.aload_n 0, 1) := by decide +kernel
theorem dX4_mend_38 : decode cX4_mend 38 = .ok (.getfield 109, 3) := by decide +kernel
theorem dX4_mend_41 : decode cX4_mend 41 = .ok (.goto 7, 3) := by decide +kernel
theorem dX4_mend_44 : decode cX4_mend 44 = .ok (.aload_n 0, 1) := by decide +kernel
theorem dX4_mend_45 : decode cX4_mend 45 = .ok (.getfield 117, 3) := by decide +kernel
theorem dX4_mend_48 : decode cX4_mend 48 = .ok (.ireturn, 1) := by decide +kernel
set_option maxRecDepth 20000 in
theorem ggX4_mended_X4_mends : GoodIn wsX4_mended wsX4_mends := goodIn_r _ [10, 1, 11, 4, 3, 12, 13, 14, 15, 9, 16, 17, 18, 19, 20, 21, 22, 23, 24, 25, 26, 27, 28, 29, 30, 31, 32, 2, 33, 34, 35, 36, 37, 38, 39, 40, 41, 42, 43, 44, 45, 46, 5, 47, 48, 49, 50, 51, 52, 53, 54, 55, 56, 57, 58, 59, 60, 61, 62, 63, 64, 65, 66, 67, 68, 69] (by decide +kernel) (by decide +kernel)
set_option maxRecDepth 20000 in
theorem gX4_mended_X4_mends : GoodIn wsX4_mended (wsV RX4 120 RX4 yX4_mends wsX4_mends) := goodIn_app (goodIn_of _ (by decide +kernel)) ggX4_mended_X4_mends
theorem dX4_mended_0 : decode cX4_mended 0 = .ok (.aload_n 0, 1) := by decide +kernel
theorem dX4_mended_1 : decode cX4_mended 1 = .ok (.iload_n 1, 1) := by decide +kernel
theorem dX4_mended_2 : decode cX4_mended 2 = .ok (.invokevirtual 120, 3) := by decide +kernel
theorem dX4_mended_5 : decode cX4_mended 5 = .ok (.ifCond .ne 5, 3) := by decide +kernel
theorem dX4_mended_8 : decode cX4_mended 8 = .ok (.iconst 0, 1) := by decide +kernel
theorem dX4_mended_9 : decode cX4_mended 9 = .ok (.ireturn, 1) := by decide +kernel
theorem dX4_mended_10 : decode cX4_mended 10 = .ok (.aload_n 0, 1) := by decide +kernel
theorem dX4_mended_11 : decode cX4_mended 11 = .ok (.getfield 23, 3) := by decide +kernel
theorem dX4_mended_14 : decode cX4_mended 14 = .ok (.iload_n 1, 1) := by decide +kernel
theorem dX4_mended_15 : decode cX4_mended 15 = .ok (.iaload, 1) := by decide +kernel
theorem dX4_mended_16 : decode cX4_mended 16 = .ok (.iconst 5, 1) := by decide +kernel
theorem dX4_mended_17 : decode cX4_mended 17 = .ok (.if_icmp .ne 15, 3) := by decide +kernel
theorem dX4_mended_20 : decode cX4_mended 20 = .ok (.aload_n 0, 1) := by decide +kernel
theorem dX4_mended_21 : decode cX4_mended 21 = .ok (.getfield 29, 3) := by decide +kernel
theorem dX4_mended_24 : decode cX4_mended 24 = .ok (.iload_n 1, 1) := by decide +kernel
theorem dX4_mended_25 : decode cX4_mended 25 = .ok (.aload_n 0, 1) := by decide +kernel
theorem dX4_mended_26 : decode cX4_mended 26 = .ok (.getfield 109, 3) := by decide +kernel
theorem dX4_mended_29 : decode cX4_mended 29 = .ok (.iastore, 1) := by decide +kernel
theorem dX4_mended_30 : decode cX4_mended 30 = .ok (.iconst 1, 1) := by decide +kernel
theorem dX4_mended_31 : decode cX4_mended 31 = .ok (.ireturn, 1) := by decide +kernel
theorem dX4_mended_32 : decode cX4_mended 32 = .ok (.aload_n 0, 1) := by decide +kernel
theorem dX4_mended_33 : decode cX4_mended 33 = .ok (.getfield 26, 3) := by decide +kernel
theorem dX4_mended_36 : decode cX4_mended 36 = .ok (.iload_n 1, 1) := by decide +kernel
theorem dX4_mended_37 : decode cX4_mended 37 = .ok (.aload_n 0, 1) := by decide +kernel
theorem dX4_mended_38 : decode cX4_mended 38 = .ok (.getfield 109, 3) := by decide +kernel
theorem dX4_mended_41 : decode cX4_mended 41 = .ok (.iastore, 1) := by decide +kernel
theorem dX4_mended_42 : decode cX4_mended 42 = .ok (.aload_n 0, 1) := by decide +kernel
theorem dX4_mended_43 : decode cX4_mended 43 = .ok (.getfield 23, 3) := by decide +kernel
theorem dX4_mended_46 : decode cX4_mended 46 = .ok (.iload_n 1, 1) := by decide +kernel
theorem dX4_mended_47 : decode cX4_mended 47 = .ok (.iaload, 1) := by decide +kernel
theorem dX4_mended_48 : decode cX4_mended 48 = .ok (.ifCond .ne 13, 3) := by decide +kernel
theorem dX4_mended_51 : decode cX4_mended 51 = .ok (.aload_n 0, 1) := by decide +kernel
theorem dX4_mended_52 : decode cX4_mended 52 = .ok (.getfield 29, 3) := by decide +kernel
theorem dX4_mended_55 : decode cX4_mended 55 = .ok (.iload_n 1, 1) := by decide +kernel
theorem dX4_mended_56 : decode cX4_mended 56 = .ok (.aload_n 0, 1) := by decide +kernel
theorem dX4_mended_57 : decode cX4_mended 57 = .ok (.getfield 117, 3) := by decide +kernel
theorem dX4_mended_60 : decode cX4_mended 60 = .ok (.iastore, 1) := by decide +kernel
theorem dX4_mended_61 : decode cX4_mended 61 = .ok (.iconst 1, 1) := by decide +kernel
theorem dX4_mended_62 : decode cX4_mended 62 = .ok (.ireturn, 1) := by decide +kernel
set_option maxRecDepth 20000 in
theorem ggX4_mark_X4_isClaim : GoodIn wsX4_mark wsX4_isClaim := goodIn_r _ [6, 7, 8, 9, 5, 10, 11, 12, 13, 14, 15, 16, 17, 18, 19, 20, 21, 22, 23, 24] (by decide +kernel) (by decide +kernel)
set_option maxRecDepth 20000 in
theorem gX4_mark_X4_isClaim : GoodIn wsX4_mark (wsV RX4 97 RX4 yX4_isClaim wsX4_isClaim) := goodIn_app (goodIn_of _ (by decide +kernel)) ggX4_mark_X4_isClaim
theorem dX4_mark_0 : decode cX4_mark 0 = .ok (.aload_n 0, 1) := by decide +kernel
theorem dX4_mark_1 : decode cX4_mark 1 = .ok (.iload_n 1, 1) := by decide +kernel
theorem dX4_mark_2 : decode cX4_mark 2 = .ok (.invokevirtual 97, 3) := by decide +kernel
theorem dX4_mark_5 : decode cX4_mark 5 = .ok (.ifCond .eq 12, 3) := by decide +kernel
theorem dX4_mark_8 : decode cX4_mark 8 = .ok (.aload_n 0, 1) := by decide +kernel
theorem dX4_mark_9 : decode cX4_mark 9 = .ok (.getfield 35, 3) := by decide +kernel
theorem dX4_mark_12 : decode cX4_mark 12 = .ok (.iload_n 1, 1) := by decide +kernel
theorem dX4_mark_13 : decode cX4_mark 13 = .ok (.baload, 1) := by decide +kernel
theorem dX4_mark_14 : decode cX4_mark 14 = .ok (.ifCond .eq 5, 3) := by decide +kernel
theorem dX4_mark_17 : decode cX4_mark 17 = .ok (.iconst 0, 1) := by decide +kernel
theorem dX4_mark_18 : decode cX4_mark 18 = .ok (.ireturn, 1) := by decide +kernel
theorem dX4_mark_19 : decode cX4_mark 19 = .ok (.aload_n 0, 1) := by decide +kernel
theorem dX4_mark_20 : decode cX4_mark 20 = .ok (.getfield 35, 3) := by decide +kernel
theorem dX4_mark_23 : decode cX4_mark 23 = .ok (.iload_n 1, 1) := by decide +kernel
theorem dX4_mark_24 : decode cX4_mark 24 = .ok (.iconst 1, 1) := by decide +kernel
theorem dX4_mark_25 : decode cX4_mark 25 = .ok (.bastore, 1) := by decide +kernel
theorem dX4_mark_26 : decode cX4_mark 26 = .ok (.iconst 1, 1) := by decide +kernel
theorem dX4_mark_27 : decode cX4_mark 27 = .ok (.ireturn, 1) := by decide +kernel
set_option maxRecDepth 20000 in
theorem ggX4_listed_X4_harm : GoodIn wsX4_listed wsX4_harm := goodIn_r _ [8, 9, 10, 11, 7, 12, 13, 14, 15, 16, 17, 18, 19, 20, 21, 22, 23, 24, 25, 26, 27, 28, 29, 30, 31, 32, 33, 34, 35, 36, 37, 38, 39] (by decide +kernel) (by decide +kernel)
set_option maxRecDepth 20000 in
theorem gX4_listed_X4_harm : GoodIn wsX4_listed (wsV RX4 87 RX4 yX4_harm wsX4_harm) := goodIn_app (goodIn_of _ (by decide +kernel)) ggX4_listed_X4_harm
theorem dX4_listed_0 : decode cX4_listed 0 = .ok (.iconst 0, 1) := by decide +kernel
theorem dX4_listed_1 : decode cX4_listed 1 = .ok (.istore_n 2, 1) := by decide +kernel
theorem dX4_listed_2 : decode cX4_listed 2 = .ok (.iload_n 2, 1) := by decide +kernel
theorem dX4_listed_3 : decode cX4_listed 3 = .ok (.aload_n 0, 1) := by decide +kernel
theorem dX4_listed_4 : decode cX4_listed 4 = .ok (.getfield 79, 3) := by decide +kernel
theorem dX4_listed_7 : decode cX4_listed 7 = .ok (.if_icmp .ge 35, 3) := by decide +kernel
theorem dX4_listed_10 : decode cX4_listed 10 = .ok (.aload_n 0, 1) := by decide +kernel
theorem dX4_listed_11 : decode cX4_listed 11 = .ok (.getfield 39, 3) := by decide +kernel
theorem dX4_listed_14 : decode cX4_listed 14 = .ok (.iload_n 2, 1) := by decide +kernel
theorem dX4_listed_15 : decode cX4_listed 15 = .ok (.aload_n 0, 1) := by decide +kernel
theorem dX4_listed_16 : decode cX4_listed 16 = .ok (.getfield 35, 3) := by decide +kernel
theorem dX4_listed_19 : decode cX4_listed 19 = .ok (.iload_n 2, 1) := by decide +kernel
theorem dX4_listed_20 : decode cX4_listed 20 = .ok (.baload, 1) := by decide +kernel
theorem dX4_listed_21 : decode cX4_listed 21 = .ok (.ifCond .eq 7, 3) := by decide +kernel
theorem dX4_listed_24 : decode cX4_listed 24 = .ok (.iconst 0, 1) := by decide +kernel
theorem dX4_listed_25 : decode cX4_listed 25 = .ok (.goto 10, 3) := by decide +kernel
theorem dX4_listed_28 : decode cX4_listed 28 = .ok (.aload_n 0, 1) := by decide +kernel
theorem dX4_listed_29 : decode cX4_listed 29 = .ok (.iload_n 2, 1) := by decide +kernel
theorem dX4_listed_30 : decode cX4_listed 30 = .ok (.bipush 31, 2) := by decide +kernel
theorem dX4_listed_32 : decode cX4_listed 32 = .ok (.invokevirtual 87, 3) := by decide +kernel
theorem dX4_listed_35 : decode cX4_listed 35 = .ok (.iastore, 1) := by decide +kernel
theorem dX4_listed_36 : decode cX4_listed 36 = .ok (.iinc 2 1, 3) := by decide +kernel
theorem dX4_listed_39 : decode cX4_listed 39 = .ok (.goto (-37), 3) := by decide +kernel
theorem dX4_listed_42 : decode cX4_listed 42 = .ok (.iload_n 1, 1) := by decide +kernel
theorem dX4_listed_43 : decode cX4_listed 43 = .ok (.istore_n 2, 1) := by decide +kernel
theorem dX4_listed_44 : decode cX4_listed 44 = .ok (.sipush 256, 3) := by decide +kernel
theorem dX4_listed_47 : decode cX4_listed 47 = .ok (.istore_n 3, 1) := by decide +kernel
theorem dX4_listed_48 : decode cX4_listed 48 = .ok (.iload_n 3, 1) := by decide +kernel
theorem dX4_listed_49 : decode cX4_listed 49 = .ok (.ifCond .le 55, 3) := by decide +kernel
theorem dX4_listed_52 : decode cX4_listed 52 = .ok (.iload_n 1, 1) := by decide +kernel
theorem dX4_listed_53 : decode cX4_listed 53 = .ok (.ifCond .lt 51, 3) := by decide +kernel
theorem dX4_listed_56 : decode cX4_listed 56 = .ok (.iconst 0, 1) := by decide +kernel
theorem dX4_listed_57 : decode cX4_listed 57 = .ok (.istore 4, 2) := by decide +kernel
theorem dX4_listed_59 : decode cX4_listed 59 = .ok (.iload 4, 2) := by decide +kernel
theorem dX4_listed_61 : decode cX4_listed 61 = .ok (.aload_n 0, 1) := by decide +kernel
theorem dX4_listed_62 : decode cX4_listed 62 = .ok (.getfield 79, 3) := by decide +kernel
theorem dX4_listed_65 : decode cX4_listed 65 = .ok (.if_icmp .ge 33, 3) := by decide +kernel
theorem dX4_listed_68 : decode cX4_listed 68 = .ok (.aload_n 0, 1) := by decide +kernel
theorem dX4_listed_69 : decode cX4_listed 69 = .ok (.getfield 39, 3) := by decide +kernel
theorem dX4_listed_72 : decode cX4_listed 72 = .ok (.iload 4, 2) := by decide +kernel
theorem dX4_listed_74 : decode cX4_listed 74 = .ok (.iaload, 1) := by decide +kernel
theorem dX4_listed_75 : decode cX4_listed 75 = .ok (.iload_n 3, 1) := by decide +kernel
theorem dX4_listed_76 : decode cX4_listed 76 = .ok (.if_icmp .eq 6, 3) := by decide +kernel
theorem dX4_listed_79 : decode cX4_listed 79 = .ok (.goto 13, 3) := by decide +kernel
theorem dX4_listed_82 : decode cX4_listed 82 = .ok (.iload_n 2, 1) := by decide +kernel
theorem dX4_listed_83 : decode cX4_listed 83 = .ok (.ifCond .ne 6, 3) := by decide +kernel
theorem dX4_listed_86 : decode cX4_listed 86 = .ok (.iload 4, 2) := by decide +kernel
theorem dX4_listed_88 : decode cX4_listed 88 = .ok (.ireturn, 1) := by decide +kernel
theorem dX4_listed_89 : decode cX4_listed 89 = .ok (.iinc 2 (-1), 3) := by decide +kernel
theorem dX4_listed_92 : decode cX4_listed 92 = .ok (.iinc 4 1, 3) := by decide +kernel
theorem dX4_listed_95 : decode cX4_listed 95 = .ok (.goto (-36), 3) := by decide +kernel
theorem dX4_listed_98 : decode cX4_listed 98 = .ok (.iinc 3 (-1), 3) := by decide +kernel
theorem dX4_listed_101 : decode cX4_listed 101 = .ok (.goto (-53), 3) := by decide +kernel
theorem dX4_listed_104 : decode cX4_listed 104 = .ok (.iconst (-1), 1) := by decide +kernel
theorem dX4_listed_105 : decode cX4_listed 105 = .ok (.ireturn, 1) := by decide +kernel
theorem dX4_hasClaim_0 : decode cX4_hasClaim 0 = .ok (.iconst 0, 1) := by decide +kernel
theorem dX4_hasClaim_1 : decode cX4_hasClaim 1 = .ok (.istore 4, 2) := by decide +kernel
theorem dX4_hasClaim_3 : decode cX4_hasClaim 3 = .ok (.iload 4, 2) := by decide +kernel
theorem dX4_hasClaim_5 : decode cX4_hasClaim 5 = .ok (.aload_n 0, 1) := by decide +kernel
theorem dX4_hasClaim_6 : decode cX4_hasClaim 6 = .ok (.getfield 79, 3) := by decide +kernel
theorem dX4_hasClaim_9 : decode cX4_hasClaim 9 = .ok (.if_icmp .ge 49, 3) := by decide +kernel
theorem dX4_hasClaim_12 : decode cX4_hasClaim 12 = .ok (.aload_n 0, 1) := by decide +kernel
theorem dX4_hasClaim_13 : decode cX4_hasClaim 13 = .ok (.getfield 20, 3) := by decide +kernel
theorem dX4_hasClaim_16 : decode cX4_hasClaim 16 = .ok (.iload 4, 2) := by decide +kernel
theorem dX4_hasClaim_18 : decode cX4_hasClaim 18 = .ok (.iaload, 1) := by decide +kernel
theorem dX4_hasClaim_19 : decode cX4_hasClaim 19 = .ok (.iload_n 1, 1) := by decide +kernel
theorem dX4_hasClaim_20 : decode cX4_hasClaim 20 = .ok (.if_icmp .ne 32, 3) := by decide +kernel
theorem dX4_hasClaim_23 : decode cX4_hasClaim 23 = .ok (.iload_n 2, 1) := by decide +kernel
theorem dX4_hasClaim_24 : decode cX4_hasClaim 24 = .ok (.iconst (-1), 1) := by decide +kernel
theorem dX4_hasClaim_25 : decode cX4_hasClaim 25 = .ok (.if_icmp .eq 25, 3) := by decide +kernel
theorem dX4_hasClaim_28 : decode cX4_hasClaim 28 = .ok (.aload_n 0, 1) := by decide +kernel
theorem dX4_hasClaim_29 : decode cX4_hasClaim 29 = .ok (.getfield 23, 3) := by decide +kernel
theorem dX4_hasClaim_32 : decode cX4_hasClaim 32 = .ok (.iload 4, 2) := by decide +kernel
theorem dX4_hasClaim_34 : decode cX4_hasClaim 34 = .ok (.iaload, 1) := by decide +kernel
theorem dX4_hasClaim_35 : decode cX4_hasClaim 35 = .ok (.iload_n 2, 1) := by decide +kernel
theorem dX4_hasClaim_36 : decode cX4_hasClaim 36 = .ok (.if_icmp .eq 14, 3) := by decide +kernel
theorem dX4_hasClaim_39 : decode cX4_hasClaim 39 = .ok (.aload_n 0, 1) := by decide +kernel
theorem dX4_hasClaim_40 : decode cX4_hasClaim 40 = .ok (.getfield 23, 3) := by decide +kernel
theorem dX4_hasClaim_43 : decode cX4_hasClaim 43 = .ok (.iload 4, 2) := by decide +kernel
theorem dX4_hasClaim_45 : decode cX4_hasClaim 45 = .ok (.iaload, 1) := by decide +kernel
theorem dX4_hasClaim_46 : decode cX4_hasClaim 46 = .ok (.iload_n 3, 1) := by decide +kernel
theorem dX4_hasClaim_47 : decode cX4_hasClaim 47 = .ok (.if_icmp .ne 5, 3) := by decide +kernel
theorem dX4_hasClaim_50 : decode cX4_hasClaim 50 = .ok (.iconst 1, 1) := by decide +kernel
theorem dX4_hasClaim_51 : decode cX4_hasClaim 51 = .ok (.ireturn, 1) := by decide +kernel
theorem dX4_hasClaim_52 : decode cX4_hasClaim 52 = .ok (.iinc 4 1, 3) := by decide +kernel
theorem dX4_hasClaim_55 : decode cX4_hasClaim 55 = .ok (.goto (-52), 3) := by decide +kernel
theorem dX4_hasClaim_58 : decode cX4_hasClaim 58 = .ok (.iconst 0, 1) := by decide +kernel
theorem dX4_hasClaim_59 : decode cX4_hasClaim 59 = .ok (.ireturn, 1) := by decide +kernel
set_option maxRecDepth 20000 in
theorem ggX4_refused_X4_give : GoodIn wsX4_refused wsX4_give := goodIn_r _ [6, 7, 8, 9, 5, 10, 11, 12, 13, 14, 15, 16, 17, 18, 19, 20, 21, 22, 23, 24] (by decide +kernel) (by decide +kernel)
set_option maxRecDepth 20000 in
theorem gX4_refused_X4_give : GoodIn wsX4_refused (wsV RX4 72 RX4 yX4_give wsX4_give) := goodIn_app (goodIn_of _ (by decide +kernel)) ggX4_refused_X4_give
theorem dX4_refused_0 : decode cX4_refused 0 = .ok (.iconst 0, 1) := by decide +kernel
theorem dX4_refused_1 : decode cX4_refused 1 = .ok (.istore_n 2, 1) := by decide +kernel
theorem dX4_refused_2 : decode cX4_refused 2 = .ok (.iconst 0, 1) := by decide +kernel
theorem dX4_refused_3 : decode cX4_refused 3 = .ok (.istore_n 3, 1) := by decide +kernel
theorem dX4_refused_4 : decode cX4_refused 4 = .ok (.iload_n 3, 1) := by decide +kernel
theorem dX4_refused_5 : decode cX4_refused 5 = .ok (.sipush 256, 3) := by decide +kernel
theorem dX4_refused_8 : decode cX4_refused 8 = .ok (.if_icmp .ge 30, 3) := by decide +kernel
theorem dX4_refused_11 : decode cX4_refused 11 = .ok (.iload_n 2, 1) := by decide +kernel
theorem dX4_refused_12 : decode cX4_refused 12 = .ok (.aload_n 0, 1) := by decide +kernel
theorem dX4_refused_13 : decode cX4_refused 13 = .ok (.bipush 31, 2) := by decide +kernel
theorem dX4_refused_15 : decode cX4_refused 15 = .ok (.iload_n 1, 1) := by decide +kernel
theorem dX4_refused_16 : decode cX4_refused 16 = .ok (.iload_n 3, 1) := by decide +kernel
theorem dX4_refused_17 : decode cX4_refused 17 = .ok (.invokevirtual 72, 3) := by decide +kernel
theorem dX4_refused_20 : decode cX4_refused 20 = .ok (.ldc 64, 2) := by decide +kernel
theorem dX4_refused_22 : decode cX4_refused 22 = .ok (.if_icmp .ne 7, 3) := by decide +kernel
theorem dX4_refused_25 : decode cX4_refused 25 = .ok (.iconst 1, 1) := by decide +kernel
theorem dX4_refused_26 : decode cX4_refused 26 = .ok (.goto 4, 3) := by decide +kernel
theorem dX4_refused_29 : decode cX4_refused 29 = .ok (.iconst 0, 1) := by decide +kernel
theorem dX4_refused_30 : decode cX4_refused 30 = .ok (.iadd, 1) := by decide +kernel
theorem dX4_refused_31 : decode cX4_refused 31 = .ok (.istore_n 2, 1) := by decide +kernel
theorem dX4_refused_32 : decode cX4_refused 32 = .ok (.iinc 3 1, 3) := by decide +kernel
theorem dX4_refused_35 : decode cX4_refused 35 = .ok (.goto (-31), 3) := by decide +kernel
theorem dX4_refused_38 : decode cX4_refused 38 = .ok (.iload_n 2, 1) := by decide +kernel
theorem dX4_refused_39 : decode cX4_refused 39 = .ok (.ireturn, 1) := by decide +kernel
set_option maxRecDepth 20000 in
theorem ggX4_missing_X4_isFunction : GoodIn wsX4_missing wsX4_isFunction := goodIn_r _ [6, 7, 8, 5, 9] (by decide +kernel) (by decide +kernel)
set_option maxRecDepth 20000 in
theorem gX4_missing_X4_isFunction : GoodIn wsX4_missing (va_wsS RX4 46 yX4_isFunction wsX4_isFunction) := goodIn_app (goodIn_of _ (by decide +kernel)) ggX4_missing_X4_isFunction
set_option maxRecDepth 20000 in
theorem ggX4_missing_X4_give : GoodIn wsX4_missing wsX4_give := goodIn_r _ [13, 14, 15, 16, 5, 17, 29, 30, 31, 32, 33, 34, 35, 36, 37, 38, 39, 40, 41, 42] (by decide +kernel) (by decide +kernel)
set_option maxRecDepth 20000 in
theorem gX4_missing_X4_give : GoodIn wsX4_missing (wsV RX4 72 RX4 yX4_give wsX4_give) := goodIn_app (goodIn_of _ (by decide +kernel)) ggX4_missing_X4_give
set_option maxRecDepth 20000 in
theorem ggX4_missing_X4_refused : GoodIn wsX4_missing wsX4_refused := goodIn_r _ [21, 1, 10, 11, 12, 5, 13, 14, 15, 16, 17, 29, 30, 31, 32, 33, 34, 35, 36, 37, 38, 39, 40, 41, 42] (by decide +kernel) (by decide +kernel)
set_option maxRecDepth 20000 in
theorem gX4_missing_X4_refused : GoodIn wsX4_missing (wsV RX4 123 RX4 yX4_refused wsX4_refused) := goodIn_app (goodIn_of _ (by decide +kernel)) ggX4_missing_X4_refused
set_option maxRecDepth 20000 in
theorem ggX4_missing_X4_hasClaim : GoodIn wsX4_missing wsX4_hasClaim := goodIn_r _ [25, 26, 27, 28, 29, 30, 31, 32, 33, 34, 35, 36, 37, 38, 39, 40, 41, 42] (by decide +kernel) (by decide +kernel)
set_option maxRecDepth 20000 in
theorem gX4_missing_X4_hasClaim : GoodIn wsX4_missing (wsV RX4 126 RX4 yX4_hasClaim wsX4_hasClaim) := goodIn_app (goodIn_of _ (by decide +kernel)) ggX4_missing_X4_hasClaim
theorem dX4_missing_0 : decode cX4_missing 0 = .ok (.iload_n 1, 1) := by decide +kernel
theorem dX4_missing_1 : decode cX4_missing 1 = .ok (.invokestatic 46, 3) := by decide +kernel
theorem dX4_missing_4 : decode cX4_missing 4 = .ok (.ifCond .ne 5, 3) := by decide +kernel
theorem dX4_missing_7 : decode cX4_missing 7 = .ok (.iconst (-1), 1) := by decide +kernel
theorem dX4_missing_8 : decode cX4_missing 8 = .ok (.ireturn, 1) := by decide +kernel
theorem dX4_missing_9 : decode cX4_missing 9 = .ok (.iconst 0, 1) := by decide +kernel
theorem dX4_missing_10 : decode cX4_missing 10 = .ok (.istore_n 2, 1) := by decide +kernel
theorem dX4_missing_11 : decode cX4_missing 11 = .ok (.iconst 0, 1) := by decide +kernel
theorem dX4_missing_12 : decode cX4_missing 12 = .ok (.istore_n 3, 1) := by decide +kernel
theorem dX4_missing_13 : decode cX4_missing 13 = .ok (.iload_n 3, 1) := by decide +kernel
theorem dX4_missing_14 : decode cX4_missing 14 = .ok (.sipush 256, 3) := by decide +kernel
theorem dX4_missing_17 : decode cX4_missing 17 = .ok (.if_icmp .ge 41, 3) := by decide +kernel
theorem dX4_missing_20 : decode cX4_missing 20 = .ok (.aload_n 0, 1) := by decide +kernel
theorem dX4_missing_21 : decode cX4_missing 21 = .ok (.bipush 31, 2) := by decide +kernel
theorem dX4_missing_23 : decode cX4_missing 23 = .ok (.iload_n 1, 1) := by decide +kernel
theorem dX4_missing_24 : decode cX4_missing 24 = .ok (.iload_n 3, 1) := by decide +kernel
theorem dX4_missing_25 : decode cX4_missing 25 = .ok (.invokevirtual 72, 3) := by decide +kernel
theorem dX4_missing_28 : decode cX4_missing 28 = .ok (.istore 4, 2) := by decide +kernel
theorem dX4_missing_30 : decode cX4_missing 30 = .ok (.iload_n 2, 1) := by decide +kernel
theorem dX4_missing_31 : decode cX4_missing 31 = .ok (.ifCond .ne 15, 3) := by decide +kernel
theorem dX4_missing_34 : decode cX4_missing 34 = .ok (.iload 4, 2) := by decide +kernel
theorem dX4_missing_36 : decode cX4_missing 36 = .ok (.ldc 64, 2) := by decide +kernel
theorem dX4_missing_38 : decode cX4_missing 38 = .ok (.if_icmp .eq 12, 3) := by decide +kernel
theorem dX4_missing_41 : decode cX4_missing 41 = .ok (.iload 4, 2) := by decide +kernel
theorem dX4_missing_43 : decode cX4_missing 43 = .ok (.ifCond .ge 7, 3) := by decide +kernel
theorem dX4_missing_46 : decode cX4_missing 46 = .ok (.iconst 1, 1) := by decide +kernel
theorem dX4_missing_47 : decode cX4_missing 47 = .ok (.goto 4, 3) := by decide +kernel
theorem dX4_missing_50 : decode cX4_missing 50 = .ok (.iconst 0, 1) := by decide +kernel
theorem dX4_missing_51 : decode cX4_missing 51 = .ok (.istore_n 2, 1) := by decide +kernel
theorem dX4_missing_52 : decode cX4_missing 52 = .ok (.iinc 3 1, 3) := by decide +kernel
theorem dX4_missing_55 : decode cX4_missing 55 = .ok (.goto (-42), 3) := by decide +kernel
theorem dX4_missing_58 : decode cX4_missing 58 = .ok (.aload_n 0, 1) := by decide +kernel
theorem dX4_missing_59 : decode cX4_missing 59 = .ok (.iload_n 1, 1) := by decide +kernel
theorem dX4_missing_60 : decode cX4_missing 60 = .ok (.invokevirtual 123, 3) := by decide +kernel
theorem dX4_missing_63 : decode cX4_missing 63 = .ok (.ifCond .le 18, 3) := by decide +kernel
theorem dX4_missing_66 : decode cX4_missing 66 = .ok (.aload_n 0, 1) := by decide +kernel
theorem dX4_missing_67 : decode cX4_missing 67 = .ok (.iload_n 1, 1) := by decide +kernel
theorem dX4_missing_68 : decode cX4_missing 68 = .ok (.iconst 1, 1) := by decide +kernel
theorem dX4_missing_69 : decode cX4_missing 69 = .ok (.bipush 6, 2) := by decide +kernel
theorem dX4_missing_71 : decode cX4_missing 71 = .ok (.invokevirtual 126, 3) := by decide +kernel
theorem dX4_missing_74 : decode cX4_missing 74 = .ok (.ifCond .ne 7, 3) := by decide +kernel
theorem dX4_missing_77 : decode cX4_missing 77 = .ok (.iconst 1, 1) := by decide +kernel
theorem dX4_missing_78 : decode cX4_missing 78 = .ok (.goto 4, 3) := by decide +kernel
theorem dX4_missing_81 : decode cX4_missing 81 = .ok (.iconst 0, 1) := by decide +kernel
theorem dX4_missing_82 : decode cX4_missing 82 = .ok (.istore_n 3, 1) := by decide +kernel
theorem dX4_missing_83 : decode cX4_missing 83 = .ok (.iload_n 3, 1) := by decide +kernel
theorem dX4_missing_84 : decode cX4_missing 84 = .ok (.iload_n 2, 1) := by decide +kernel
theorem dX4_missing_85 : decode cX4_missing 85 = .ok (.ifCond .eq 17, 3) := by decide +kernel
theorem dX4_missing_88 : decode cX4_missing 88 = .ok (.aload_n 0, 1) := by decide +kernel
theorem dX4_missing_89 : decode cX4_missing 89 = .ok (.iload_n 1, 1) := by decide +kernel
theorem dX4_missing_90 : decode cX4_missing 90 = .ok (.iconst 0, 1) := by decide +kernel
theorem dX4_missing_91 : decode cX4_missing 91 = .ok (.iconst 0, 1) := by decide +kernel
theorem dX4_missing_92 : decode cX4_missing 92 = .ok (.invokevirtual 126, 3) := by decide +kernel
theorem dX4_missing_95 : decode cX4_missing 95 = .ok (.ifCond .ne 7, 3) := by decide +kernel
theorem dX4_missing_98 : decode cX4_missing 98 = .ok (.iconst 2, 1) := by decide +kernel
theorem dX4_missing_99 : decode cX4_missing 99 = .ok (.goto 4, 3) := by decide +kernel
theorem dX4_missing_102 : decode cX4_missing 102 = .ok (.iconst 0, 1) := by decide +kernel
theorem dX4_missing_103 : decode cX4_missing 103 = .ok (.ior, 1) := by decide +kernel
theorem dX4_missing_104 : decode cX4_missing 104 = .ok (.istore_n 3, 1) := by decide +kernel
theorem dX4_missing_105 : decode cX4_missing 105 = .ok (.iload_n 3, 1) := by decide +kernel
theorem dX4_missing_106 : decode cX4_missing 106 = .ok (.aload_n 0, 1) := by decide +kernel
theorem dX4_missing_107 : decode cX4_missing 107 = .ok (.getfield 9, 3) := by decide +kernel
theorem dX4_missing_110 : decode cX4_missing 110 = .ok (.iload_n 1, 1) := by decide +kernel
theorem dX4_missing_111 : decode cX4_missing 111 = .ok (.iaload, 1) := by decide +kernel
theorem dX4_missing_112 : decode cX4_missing 112 = .ok (.ifCond .le 17, 3) := by decide +kernel
theorem dX4_missing_115 : decode cX4_missing 115 = .ok (.aload_n 0, 1) := by decide +kernel
theorem dX4_missing_116 : decode cX4_missing 116 = .ok (.iload_n 1, 1) := by decide +kernel
theorem dX4_missing_117 : decode cX4_missing 117 = .ok (.iconst (-1), 1) := by decide +kernel
theorem dX4_missing_118 : decode cX4_missing 118 = .ok (.iconst (-1), 1) := by decide +kernel
theorem dX4_missing_119 : decode cX4_missing 119 = .ok (.invokevirtual 126, 3) := by decide +kernel
theorem dX4_missing_122 : decode cX4_missing 122 = .ok (.ifCond .ne 7, 3) := by decide +kernel
theorem dX4_missing_125 : decode cX4_missing 125 = .ok (.iconst 4, 1) := by decide +kernel
theorem dX4_missing_126 : decode cX4_missing 126 = .ok (.goto 4, 3) := by decide +kernel
theorem dX4_missing_129 : decode cX4_missing 129 = .ok (.iconst 0, 1) := by decide +kernel
theorem dX4_missing_130 : decode cX4_missing 130 = .ok (.ior, 1) := by decide +kernel
theorem dX4_missing_131 : decode cX4_missing 131 = .ok (.ireturn, 1) := by decide +kernel
set_option maxRecDepth 20000 in
theorem ggX4_count_X4_in : GoodIn wsX4_count wsX4_in := goodIn_r _ [8] (by decide +kernel) (by decide +kernel)
set_option maxRecDepth 20000 in
theorem gX4_count_X4_in : GoodIn wsX4_count (va_wsS RX4 42 yX4_in wsX4_in) := goodIn_app (goodIn_of _ (by decide +kernel)) ggX4_count_X4_in
set_option maxRecDepth 20000 in
theorem ggX4_count_X4_refused : GoodIn wsX4_count wsX4_refused := goodIn_r _ [12, 13, 14, 15, 16, 7, 17, 18, 19, 20, 21, 47, 48, 49, 50, 51, 52, 53, 54, 55, 56, 57, 58, 59, 60] (by decide +kernel) (by decide +kernel)
set_option maxRecDepth 20000 in
theorem gX4_count_X4_refused : GoodIn wsX4_count (wsV RX4 123 RX4 yX4_refused wsX4_refused) := goodIn_app (goodIn_of _ (by decide +kernel)) ggX4_count_X4_refused
set_option maxRecDepth 20000 in
theorem ggX4_count_X4_stateOf : GoodIn wsX4_count wsX4_stateOf := goodIn_r _ [25, 26, 27, 28, 7, 29, 30, 31, 32, 33, 34, 35, 36, 37, 38, 13, 39, 40, 41, 14, 15, 16, 17, 18, 19, 20, 21, 42, 43, 44, 45, 3, 46, 47, 48, 49, 50, 51, 52, 53, 54, 55, 56, 57, 58, 59, 60] (by decide +kernel) (by decide +kernel)
set_option maxRecDepth 20000 in
theorem gX4_count_X4_stateOf : GoodIn wsX4_count (wsV RX4 100 RX4 yX4_stateOf wsX4_stateOf) := goodIn_app (goodIn_of _ (by decide +kernel)) ggX4_count_X4_stateOf
theorem dX4_count_0 : decode cX4_count 0 = .ok (.iconst 0, 1) := by decide +kernel
theorem dX4_count_1 : decode cX4_count 1 = .ok (.istore_n 2, 1) := by decide +kernel
theorem dX4_count_2 : decode cX4_count 2 = .ok (.iload_n 1, 1) := by decide +kernel
theorem dX4_count_3 : decode cX4_count 3 = .ok (.bipush 10, 2) := by decide +kernel
theorem dX4_count_5 : decode cX4_count 5 = .ok (.bipush 15, 2) := by decide +kernel
theorem dX4_count_7 : decode cX4_count 7 = .ok (.invokestatic 42, 3) := by decide +kernel
theorem dX4_count_10 : decode cX4_count 10 = .ok (.ifCond .eq 13, 3) := by decide +kernel
theorem dX4_count_13 : decode cX4_count 13 = .ok (.aload_n 0, 1) := by decide +kernel
theorem dX4_count_14 : decode cX4_count 14 = .ok (.getfield 9, 3) := by decide +kernel
theorem dX4_count_17 : decode cX4_count 17 = .ok (.iload_n 1, 1) := by decide +kernel
theorem dX4_count_18 : decode cX4_count 18 = .ok (.bipush 10, 2) := by decide +kernel
theorem dX4_count_20 : decode cX4_count 20 = .ok (.isub, 1) := by decide +kernel
theorem dX4_count_21 : decode cX4_count 21 = .ok (.iaload, 1) := by decide +kernel
theorem dX4_count_22 : decode cX4_count 22 = .ok (.ireturn, 1) := by decide +kernel
theorem dX4_count_23 : decode cX4_count 23 = .ok (.iload_n 1, 1) := by decide +kernel
theorem dX4_count_24 : decode cX4_count 24 = .ok (.bipush 20, 2) := by decide +kernel
theorem dX4_count_26 : decode cX4_count 26 = .ok (.bipush 25, 2) := by decide +kernel
theorem dX4_count_28 : decode cX4_count 28 = .ok (.invokestatic 42, 3) := by decide +kernel
theorem dX4_count_31 : decode cX4_count 31 = .ok (.ifCond .eq 12, 3) := by decide +kernel
theorem dX4_count_34 : decode cX4_count 34 = .ok (.aload_n 0, 1) := by decide +kernel
theorem dX4_count_35 : decode cX4_count 35 = .ok (.iload_n 1, 1) := by decide +kernel
theorem dX4_count_36 : decode cX4_count 36 = .ok (.bipush 20, 2) := by decide +kernel
theorem dX4_count_38 : decode cX4_count 38 = .ok (.isub, 1) := by decide +kernel
theorem dX4_count_39 : decode cX4_count 39 = .ok (.invokevirtual 123, 3) := by decide +kernel
theorem dX4_count_42 : decode cX4_count 42 = .ok (.ireturn, 1) := by decide +kernel
theorem dX4_count_43 : decode cX4_count 43 = .ok (.iload_n 1, 1) := by decide +kernel
theorem dX4_count_44 : decode cX4_count 44 = .ok (.iconst 0, 1) := by decide +kernel
theorem dX4_count_45 : decode cX4_count 45 = .ok (.iconst 5, 1) := by decide +kernel
theorem dX4_count_46 : decode cX4_count 46 = .ok (.invokestatic 42, 3) := by decide +kernel
theorem dX4_count_49 : decode cX4_count 49 = .ok (.ifCond .ne 5, 3) := by decide +kernel
theorem dX4_count_52 : decode cX4_count 52 = .ok (.iconst (-1), 1) := by decide +kernel
theorem dX4_count_53 : decode cX4_count 53 = .ok (.ireturn, 1) := by decide +kernel
theorem dX4_count_54 : decode cX4_count 54 = .ok (.iload_n 1, 1) := by decide +kernel
theorem dX4_count_55 : decode cX4_count 55 = .ok (.ifCond .ne 8, 3) := by decide +kernel
theorem dX4_count_58 : decode cX4_count 58 = .ok (.aload_n 0, 1) := by decide +kernel
theorem dX4_count_59 : decode cX4_count 59 = .ok (.getfield 79, 3) := by decide +kernel
theorem dX4_count_62 : decode cX4_count 62 = .ok (.ireturn, 1) := by decide +kernel
theorem dX4_count_63 : decode cX4_count 63 = .ok (.iload_n 1, 1) := by decide +kernel
theorem dX4_count_64 : decode cX4_count 64 = .ok (.iconst 1, 1) := by decide +kernel
theorem dX4_count_65 : decode cX4_count 65 = .ok (.if_icmp .ne 8, 3) := by decide +kernel
theorem dX4_count_68 : decode cX4_count 68 = .ok (.aload_n 0, 1) := by decide +kernel
theorem dX4_count_69 : decode cX4_count 69 = .ok (.getfield 75, 3) := by decide +kernel
theorem dX4_count_72 : decode cX4_count 72 = .ok (.ireturn, 1) := by decide +kernel
theorem dX4_count_73 : decode cX4_count 73 = .ok (.iconst 0, 1) := by decide +kernel
theorem dX4_count_74 : decode cX4_count 74 = .ok (.istore_n 3, 1) := by decide +kernel
theorem dX4_count_75 : decode cX4_count 75 = .ok (.iload_n 3, 1) := by decide +kernel
theorem dX4_count_76 : decode cX4_count 76 = .ok (.aload_n 0, 1) := by decide +kernel
theorem dX4_count_77 : decode cX4_count 77 = .ok (.getfield 79, 3) := by decide +kernel
theorem dX4_count_80 : decode cX4_count 80 = .ok (.if_icmp .ge 50, 3) := by decide +kernel
theorem dX4_count_83 : decode cX4_count 83 = .ok (.iload_n 2, 1) := by decide +kernel
theorem dX4_count_84 : decode cX4_count 84 = .ok (.iload_n 1, 1) := by decide +kernel
theorem dX4_count_85 : decode cX4_count 85 = .ok (.iconst 5, 1) := by decide +kernel
theorem dX4_count_86 : decode cX4_count 86 = .ok (.if_icmp .ne 20, 3) := by decide +kernel
theorem dX4_count_89 : decode cX4_count 89 = .ok (.aload_n 0, 1) := by decide +kernel
theorem dX4_count_90 : decode cX4_count 90 = .ok (.getfield 35, 3) := by decide +kernel
theorem dX4_count_93 : decode cX4_count 93 = .ok (.iload_n 3, 1) := by decide +kernel
theorem dX4_count_94 : decode cX4_count 94 = .ok (.baload, 1) := by decide +kernel
theorem dX4_count_95 : decode cX4_count 95 = .ok (.ifCond .eq 7, 3) := by decide +kernel
theorem dX4_count_98 : decode cX4_count 98 = .ok (.iconst 1, 1) := by decide +kernel
theorem dX4_count_99 : decode cX4_count 99 = .ok (.goto 23, 3) := by decide +kernel
theorem dX4_count_102 : decode cX4_count 102 = .ok (.iconst 0, 1) := by decide +kernel
theorem dX4_count_103 : decode cX4_count 103 = .ok (.goto 19, 3) := by decide +kernel
theorem dX4_count_106 : decode cX4_count 106 = .ok (.aload_n 0, 1) := by decide +kernel
theorem dX4_count_107 : decode cX4_count 107 = .ok (.iload_n 3, 1) := by decide +kernel
theorem dX4_count_108 : decode cX4_count 108 = .ok (.invokevirtual 100, 3) := by decide +kernel
theorem dX4_count_111 : decode cX4_count 111 = .ok (.iload_n 1, 1) := by decide +kernel
theorem dX4_count_112 : decode cX4_count 112 = .ok (.iconst 2, 1) := by decide +kernel
theorem dX4_count_113 : decode cX4_count 113 = .ok (.isub, 1) := by decide +kernel
theorem dX4_count_114 : decode cX4_count 114 = .ok (.if_icmp .ne 7, 3) := by decide +kernel
theorem dX4_count_117 : decode cX4_count 117 = .ok (.iconst 1, 1) := by decide +kernel
theorem dX4_count_118 : decode cX4_count 118 = .ok (.goto 4, 3) := by decide +kernel
theorem dX4_count_121 : decode cX4_count 121 = .ok (.iconst 0, 1) := by decide +kernel
theorem dX4_count_122 : decode cX4_count 122 = .ok (.iadd, 1) := by decide +kernel
theorem dX4_count_123 : decode cX4_count 123 = .ok (.istore_n 2, 1) := by decide +kernel
theorem dX4_count_124 : decode cX4_count 124 = .ok (.iinc 3 1, 3) := by decide +kernel
theorem dX4_count_127 : decode cX4_count 127 = .ok (.goto (-52), 3) := by decide +kernel
theorem dX4_count_130 : decode cX4_count 130 = .ok (.iload_n 2, 1) := by decide +kernel
theorem dX4_count_131 : decode cX4_count 131 = .ok (.ireturn, 1) := by decide +kernel
