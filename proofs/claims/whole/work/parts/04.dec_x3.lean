set_option maxRecDepth 20000 in
theorem ggX3_init_X1_init : GoodIn wsX3_init wsX1_init := goodIn_r _ [22, 23, 2, 3, 18, 24, 25, 31, 32] (by decide +kernel) (by decide +kernel)
set_option maxRecDepth 20000 in
theorem gX3_init_X1_init : GoodIn wsX3_init (wsX1_init) := ggX3_init_X1_init
set_option maxRecDepth 20000 in
theorem ggX3_init_X2_init : GoodIn wsX3_init wsX2_init := goodIn_r _ [28, 29, 2, 3, 18, 30, 41] (by decide +kernel) (by decide +kernel)
set_option maxRecDepth 20000 in
theorem gX3_init_X2_init : GoodIn wsX3_init (wsX2_init) := ggX3_init_X2_init
theorem dX3_init_0 : decode cX3_init 0 = .ok (.aload_n 0, 1) := by decide +kernel
theorem dX3_init_1 : decode cX3_init 1 = .ok (.invokespecial 3, 3) := by decide +kernel
theorem dX3_init_4 : decode cX3_init 4 = .ok (.aload_n 0, 1) := by decide +kernel
theorem dX3_init_5 : decode cX3_init 5 = .ok (.new 9, 3) := by decide +kernel
theorem dX3_init_8 : decode cX3_init 8 = .ok (.dup, 1) := by decide +kernel
theorem dX3_init_9 : decode cX3_init 9 = .ok (.invokespecial 11, 3) := by decide +kernel
theorem dX3_init_12 : decode cX3_init 12 = .ok (.putfield 12, 3) := by decide +kernel
theorem dX3_init_15 : decode cX3_init 15 = .ok (.aload_n 0, 1) := by decide +kernel
theorem dX3_init_16 : decode cX3_init 16 = .ok (.new 16, 3) := by decide +kernel
theorem dX3_init_19 : decode cX3_init 19 = .ok (.dup, 1) := by decide +kernel
theorem dX3_init_20 : decode cX3_init 20 = .ok (.invokespecial 18, 3) := by decide +kernel
theorem dX3_init_23 : decode cX3_init 23 = .ok (.putfield 19, 3) := by decide +kernel
theorem dX3_init_26 : decode cX3_init 26 = .ok (.aload_n 0, 1) := by decide +kernel
theorem dX3_init_27 : decode cX3_init 27 = .ok (.bipush 6, 2) := by decide +kernel
theorem dX3_init_29 : decode cX3_init 29 = .ok (.putfield 23, 3) := by decide +kernel
theorem dX3_init_32 : decode cX3_init 32 = .ok (.aload_n 0, 1) := by decide +kernel
theorem dX3_init_33 : decode cX3_init 33 = .ok (.bipush 31, 2) := by decide +kernel
theorem dX3_init_35 : decode cX3_init 35 = .ok (.anewarray 16, 3) := by decide +kernel
theorem dX3_init_38 : decode cX3_init 38 = .ok (.putfield 27, 3) := by decide +kernel
theorem dX3_init_41 : decode cX3_init 41 = .ok (.aload_n 0, 1) := by decide +kernel
theorem dX3_init_42 : decode cX3_init 42 = .ok (.getfield 27, 3) := by decide +kernel
theorem dX3_init_45 : decode cX3_init 45 = .ok (.iconst 0, 1) := by decide +kernel
theorem dX3_init_46 : decode cX3_init 46 = .ok (.new 16, 3) := by decide +kernel
theorem dX3_init_49 : decode cX3_init 49 = .ok (.dup, 1) := by decide +kernel
theorem dX3_init_50 : decode cX3_init 50 = .ok (.invokespecial 18, 3) := by decide +kernel
theorem dX3_init_53 : decode cX3_init 53 = .ok (.aastore, 1) := by decide +kernel
theorem dX3_init_54 : decode cX3_init 54 = .ok (.aload_n 0, 1) := by decide +kernel
theorem dX3_init_55 : decode cX3_init 55 = .ok (.iconst 0, 1) := by decide +kernel
theorem dX3_init_56 : decode cX3_init 56 = .ok (.putfield 31, 3) := by decide +kernel
theorem dX3_init_59 : decode cX3_init 59 = .ok (.aload_n 0, 1) := by decide +kernel
theorem dX3_init_60 : decode cX3_init 60 = .ok (.bipush 40, 2) := by decide +kernel
theorem dX3_init_62 : decode cX3_init 62 = .ok (.anewarray 34, 3) := by decide +kernel
theorem dX3_init_65 : decode cX3_init 65 = .ok (.putfield 36, 3) := by decide +kernel
theorem dX3_init_68 : decode cX3_init 68 = .ok (.aload_n 0, 1) := by decide +kernel
theorem dX3_init_69 : decode cX3_init 69 = .ok (.iconst 0, 1) := by decide +kernel
theorem dX3_init_70 : decode cX3_init 70 = .ok (.putfield 40, 3) := by decide +kernel
theorem dX3_init_73 : decode cX3_init 73 = .ok (.aload_n 0, 1) := by decide +kernel
theorem dX3_init_74 : decode cX3_init 74 = .ok (.bipush 40, 2) := by decide +kernel
theorem dX3_init_76 : decode cX3_init 76 = .ok (.newarray .int, 2) := by decide +kernel
theorem dX3_init_78 : decode cX3_init 78 = .ok (.putfield 43, 3) := by decide +kernel
theorem dX3_init_81 : decode cX3_init 81 = .ok (.return_, 1) := by decide +kernel
set_option maxRecDepth 20000 in
theorem ggX3_clear_X3_isFunction : GoodIn wsX3_clear wsX3_isFunction := goodIn_r _ [5] (by decide +kernel) (by decide +kernel)
set_option maxRecDepth 20000 in
theorem gX3_clear_X3_isFunction : GoodIn wsX3_clear (va_wsS RX3 47 yX3_isFunction wsX3_isFunction) := goodIn_app (goodIn_of _ (by decide +kernel)) ggX3_clear_X3_isFunction
set_option maxRecDepth 20000 in
theorem ggX3_clear_X1_empty : GoodIn wsX3_clear wsX1_empty := goodIn_r _ [10, 11, 3, 4, 5, 29, 30] (by decide +kernel) (by decide +kernel)
set_option maxRecDepth 20000 in
theorem gX3_clear_X1_empty : GoodIn wsX3_clear (wsV RX3 51 RX1 yX1_empty wsX1_empty) := goodIn_app (goodIn_of _ (by decide +kernel)) ggX3_clear_X1_empty
set_option maxRecDepth 20000 in
theorem ggX3_clear_X3_unsettle : GoodIn wsX3_clear wsX3_unsettle := goodIn_r _ [15, 16, 17, 18, 19, 20, 21, 22, 23, 24, 25, 26, 27, 28] (by decide +kernel) (by decide +kernel)
set_option maxRecDepth 20000 in
theorem gX3_clear_X3_unsettle : GoodIn wsX3_clear (wsV RX3 55 RX3 yX3_unsettle wsX3_unsettle) := goodIn_app (goodIn_of _ (by decide +kernel)) ggX3_clear_X3_unsettle
theorem dX3_clear_0 : decode cX3_clear 0 = .ok (.iload_n 1, 1) := by decide +kernel
theorem dX3_clear_1 : decode cX3_clear 1 = .ok (.invokestatic 47, 3) := by decide +kernel
theorem dX3_clear_4 : decode cX3_clear 4 = .ok (.ifCond .ne 5, 3) := by decide +kernel
theorem dX3_clear_7 : decode cX3_clear 7 = .ok (.iconst 0, 1) := by decide +kernel
theorem dX3_clear_8 : decode cX3_clear 8 = .ok (.ireturn, 1) := by decide +kernel
theorem dX3_clear_9 : decode cX3_clear 9 = .ok (.aload_n 0, 1) := by decide +kernel
theorem dX3_clear_10 : decode cX3_clear 10 = .ok (.getfield 12, 3) := by decide +kernel
theorem dX3_clear_13 : decode cX3_clear 13 = .ok (.iload_n 1, 1) := by decide +kernel
theorem dX3_clear_14 : decode cX3_clear 14 = .ok (.invokevirtual 51, 3) := by decide +kernel
theorem dX3_clear_17 : decode cX3_clear 17 = .ok (.aload_n 0, 1) := by decide +kernel
theorem dX3_clear_18 : decode cX3_clear 18 = .ok (.iload_n 1, 1) := by decide +kernel
theorem dX3_clear_19 : decode cX3_clear 19 = .ok (.invokevirtual 55, 3) := by decide +kernel
theorem dX3_clear_22 : decode cX3_clear 22 = .ok (.iconst 1, 1) := by decide +kernel
theorem dX3_clear_23 : decode cX3_clear 23 = .ok (.ireturn, 1) := by decide +kernel
set_option maxRecDepth 20000 in
theorem ggX3_step_X3_isFunction : GoodIn wsX3_step wsX3_isFunction := goodIn_r _ [5] (by decide +kernel) (by decide +kernel)
set_option maxRecDepth 20000 in
theorem gX3_step_X3_isFunction : GoodIn wsX3_step (va_wsS RX3 47 yX3_isFunction wsX3_isFunction) := goodIn_app (goodIn_of _ (by decide +kernel)) ggX3_step_X3_isFunction
set_option maxRecDepth 20000 in
theorem ggX3_step_X1_length : GoodIn wsX3_step wsX1_length := goodIn_r _ [10, 11, 3, 4, 5, 51, 52] (by decide +kernel) (by decide +kernel)
set_option maxRecDepth 20000 in
theorem gX3_step_X1_length : GoodIn wsX3_step (wsV RX3 58 RX1 yX1_length wsX1_length) := goodIn_app (goodIn_of _ (by decide +kernel)) ggX3_step_X1_length
set_option maxRecDepth 20000 in
theorem ggX3_step_X1_canStand : GoodIn wsX3_step wsX1_canStand := goodIn_r _ [15, 16, 17, 18, 9, 19, 20, 7, 8, 10, 11, 3, 4, 5, 21, 22, 23, 24, 25, 51, 52] (by decide +kernel) (by decide +kernel)
set_option maxRecDepth 20000 in
theorem gX3_step_X1_canStand : GoodIn wsX3_step (wsV RX3 62 RX1 yX1_canStand wsX1_canStand) := goodIn_app (goodIn_of _ (by decide +kernel)) ggX3_step_X1_canStand
set_option maxRecDepth 20000 in
theorem ggX3_step_X1_append : GoodIn wsX3_step wsX1_append := goodIn_r _ [29, 11, 3, 4, 5, 30, 31, 32, 9, 33, 25, 51, 52] (by decide +kernel) (by decide +kernel)
set_option maxRecDepth 20000 in
theorem gX3_step_X1_append : GoodIn wsX3_step (wsV RX3 66 RX1 yX1_append wsX1_append) := goodIn_app (goodIn_of _ (by decide +kernel)) ggX3_step_X1_append
set_option maxRecDepth 20000 in
theorem ggX3_step_X3_unsettle : GoodIn wsX3_step wsX3_unsettle := goodIn_r _ [37, 38, 39, 40, 41, 42, 43, 44, 45, 46, 47, 48, 49, 50] (by decide +kernel) (by decide +kernel)
set_option maxRecDepth 20000 in
theorem gX3_step_X3_unsettle : GoodIn wsX3_step (wsV RX3 55 RX3 yX3_unsettle wsX3_unsettle) := goodIn_app (goodIn_of _ (by decide +kernel)) ggX3_step_X3_unsettle
theorem dX3_step_0 : decode cX3_step 0 = .ok (.iload_n 1, 1) := by decide +kernel
theorem dX3_step_1 : decode cX3_step 1 = .ok (.invokestatic 47, 3) := by decide +kernel
theorem dX3_step_4 : decode cX3_step 4 = .ok (.ifCond .ne 5, 3) := by decide +kernel
theorem dX3_step_7 : decode cX3_step 7 = .ok (.iconst (-1), 1) := by decide +kernel
theorem dX3_step_8 : decode cX3_step 8 = .ok (.ireturn, 1) := by decide +kernel
theorem dX3_step_9 : decode cX3_step 9 = .ok (.aload_n 0, 1) := by decide +kernel
theorem dX3_step_10 : decode cX3_step 10 = .ok (.getfield 12, 3) := by decide +kernel
theorem dX3_step_13 : decode cX3_step 13 = .ok (.iload_n 1, 1) := by decide +kernel
theorem dX3_step_14 : decode cX3_step 14 = .ok (.invokevirtual 58, 3) := by decide +kernel
theorem dX3_step_17 : decode cX3_step 17 = .ok (.istore_n 3, 1) := by decide +kernel
theorem dX3_step_18 : decode cX3_step 18 = .ok (.iload_n 3, 1) := by decide +kernel
theorem dX3_step_19 : decode cX3_step 19 = .ok (.bipush 12, 2) := by decide +kernel
theorem dX3_step_21 : decode cX3_step 21 = .ok (.if_icmp .ge 16, 3) := by decide +kernel
theorem dX3_step_24 : decode cX3_step 24 = .ok (.aload_n 0, 1) := by decide +kernel
theorem dX3_step_25 : decode cX3_step 25 = .ok (.getfield 12, 3) := by decide +kernel
theorem dX3_step_28 : decode cX3_step 28 = .ok (.iload_n 1, 1) := by decide +kernel
theorem dX3_step_29 : decode cX3_step 29 = .ok (.iload_n 3, 1) := by decide +kernel
theorem dX3_step_30 : decode cX3_step 30 = .ok (.iload_n 2, 1) := by decide +kernel
theorem dX3_step_31 : decode cX3_step 31 = .ok (.invokevirtual 62, 3) := by decide +kernel
theorem dX3_step_34 : decode cX3_step 34 = .ok (.ifCond .ne 5, 3) := by decide +kernel
theorem dX3_step_37 : decode cX3_step 37 = .ok (.iconst (-1), 1) := by decide +kernel
theorem dX3_step_38 : decode cX3_step 38 = .ok (.ireturn, 1) := by decide +kernel
theorem dX3_step_39 : decode cX3_step 39 = .ok (.aload_n 0, 1) := by decide +kernel
theorem dX3_step_40 : decode cX3_step 40 = .ok (.getfield 12, 3) := by decide +kernel
theorem dX3_step_43 : decode cX3_step 43 = .ok (.iload_n 1, 1) := by decide +kernel
theorem dX3_step_44 : decode cX3_step 44 = .ok (.iload_n 2, 1) := by decide +kernel
theorem dX3_step_45 : decode cX3_step 45 = .ok (.invokevirtual 66, 3) := by decide +kernel
theorem dX3_step_48 : decode cX3_step 48 = .ok (.aload_n 0, 1) := by decide +kernel
theorem dX3_step_49 : decode cX3_step 49 = .ok (.iload_n 1, 1) := by decide +kernel
theorem dX3_step_50 : decode cX3_step 50 = .ok (.invokevirtual 55, 3) := by decide +kernel
theorem dX3_step_53 : decode cX3_step 53 = .ok (.iload_n 3, 1) := by decide +kernel
theorem dX3_step_54 : decode cX3_step 54 = .ok (.iconst 1, 1) := by decide +kernel
theorem dX3_step_55 : decode cX3_step 55 = .ok (.iadd, 1) := by decide +kernel
theorem dX3_step_56 : decode cX3_step 56 = .ok (.ireturn, 1) := by decide +kernel
set_option maxRecDepth 20000 in
theorem ggX3_change_X3_isFunction : GoodIn wsX3_change wsX3_isFunction := goodIn_r _ [5] (by decide +kernel) (by decide +kernel)
set_option maxRecDepth 20000 in
theorem gX3_change_X3_isFunction : GoodIn wsX3_change (va_wsS RX3 47 yX3_isFunction wsX3_isFunction) := goodIn_app (goodIn_of _ (by decide +kernel)) ggX3_change_X3_isFunction
set_option maxRecDepth 20000 in
theorem ggX3_change_X1_length : GoodIn wsX3_change wsX1_length := goodIn_r _ [10, 11, 3, 4, 5, 47, 48] (by decide +kernel) (by decide +kernel)
set_option maxRecDepth 20000 in
theorem gX3_change_X1_length : GoodIn wsX3_change (wsV RX3 58 RX1 yX1_length wsX1_length) := goodIn_app (goodIn_of _ (by decide +kernel)) ggX3_change_X1_length
set_option maxRecDepth 20000 in
theorem ggX3_change_X1_canStand : GoodIn wsX3_change wsX1_canStand := goodIn_r _ [15, 16, 17, 18, 9, 19, 20, 7, 8, 10, 11, 3, 4, 5, 21, 22, 23, 24, 25, 47, 48] (by decide +kernel) (by decide +kernel)
set_option maxRecDepth 20000 in
theorem gX3_change_X1_canStand : GoodIn wsX3_change (wsV RX3 62 RX1 yX1_canStand wsX1_canStand) := goodIn_app (goodIn_of _ (by decide +kernel)) ggX3_change_X1_canStand
set_option maxRecDepth 20000 in
theorem ggX3_change_X1_put : GoodIn wsX3_change wsX1_put := goodIn_r _ [29, 25, 3, 4, 5, 47, 48] (by decide +kernel) (by decide +kernel)
set_option maxRecDepth 20000 in
theorem gX3_change_X1_put : GoodIn wsX3_change (wsV RX3 70 RX1 yX1_put wsX1_put) := goodIn_app (goodIn_of _ (by decide +kernel)) ggX3_change_X1_put
set_option maxRecDepth 20000 in
theorem ggX3_change_X3_unsettle : GoodIn wsX3_change wsX3_unsettle := goodIn_r _ [33, 34, 35, 36, 37, 38, 39, 40, 41, 42, 43, 44, 45, 46] (by decide +kernel) (by decide +kernel)
set_option maxRecDepth 20000 in
theorem gX3_change_X3_unsettle : GoodIn wsX3_change (wsV RX3 55 RX3 yX3_unsettle wsX3_unsettle) := goodIn_app (goodIn_of _ (by decide +kernel)) ggX3_change_X3_unsettle
theorem dX3_change_0 : decode cX3_change 0 = .ok (.iload_n 1, 1) := by decide +kernel
theorem dX3_change_1 : decode cX3_change 1 = .ok (.invokestatic 47, 3) := by decide +kernel
theorem dX3_change_4 : decode cX3_change 4 = .ok (.ifCond .eq 19, 3) := by decide +kernel
theorem dX3_change_7 : decode cX3_change 7 = .ok (.iload_n 2, 1) := by decide +kernel
theorem dX3_change_8 : decode cX3_change 8 = .ok (.ifCond .lt 15, 3) := by decide +kernel
theorem dX3_change_11 : decode cX3_change 11 = .ok (.iload_n 2, 1) := by decide +kernel
theorem dX3_change_12 : decode cX3_change 12 = .ok (.aload_n 0, 1) := by decide +kernel
theorem dX3_change_13 : decode cX3_change 13 = .ok (.getfield 12, 3) := by decide +kernel
theorem dX3_change_16 : decode cX3_change 16 = .ok (.iload_n 1, 1) := by decide +kernel
theorem dX3_change_17 : decode cX3_change 17 = .ok (.invokevirtual 58, 3) := by decide +kernel
theorem dX3_change_20 : decode cX3_change 20 = .ok (.if_icmp .lt 5, 3) := by decide +kernel
theorem dX3_change_23 : decode cX3_change 23 = .ok (.iconst 0, 1) := by decide +kernel
theorem dX3_change_24 : decode cX3_change 24 = .ok (.ireturn, 1) := by decide +kernel
theorem dX3_change_25 : decode cX3_change 25 = .ok (.aload_n 0, 1) := by decide +kernel
theorem dX3_change_26 : decode cX3_change 26 = .ok (.getfield 12, 3) := by decide +kernel
theorem dX3_change_29 : decode cX3_change 29 = .ok (.iload_n 1, 1) := by decide +kernel
theorem dX3_change_30 : decode cX3_change 30 = .ok (.iload_n 2, 1) := by decide +kernel
theorem dX3_change_31 : decode cX3_change 31 = .ok (.iload_n 3, 1) := by decide +kernel
theorem dX3_change_32 : decode cX3_change 32 = .ok (.invokevirtual 62, 3) := by decide +kernel
theorem dX3_change_35 : decode cX3_change 35 = .ok (.ifCond .ne 5, 3) := by decide +kernel
theorem dX3_change_38 : decode cX3_change 38 = .ok (.iconst 0, 1) := by decide +kernel
theorem dX3_change_39 : decode cX3_change 39 = .ok (.ireturn, 1) := by decide +kernel
theorem dX3_change_40 : decode cX3_change 40 = .ok (.aload_n 0, 1) := by decide +kernel
theorem dX3_change_41 : decode cX3_change 41 = .ok (.getfield 12, 3) := by decide +kernel
theorem dX3_change_44 : decode cX3_change 44 = .ok (.iload_n 1, 1) := by decide +kernel
theorem dX3_change_45 : decode cX3_change 45 = .ok (.iload_n 2, 1) := by decide +kernel
theorem dX3_change_46 : decode cX3_change 46 = .ok (.iload_n 3, 1) := by decide +kernel
theorem dX3_change_47 : decode cX3_change 47 = .ok (.invokevirtual 70, 3) := by decide +kernel
theorem dX3_change_50 : decode cX3_change 50 = .ok (.aload_n 0, 1) := by decide +kernel
theorem dX3_change_51 : decode cX3_change 51 = .ok (.iload_n 1, 1) := by decide +kernel
theorem dX3_change_52 : decode cX3_change 52 = .ok (.invokevirtual 55, 3) := by decide +kernel
theorem dX3_change_55 : decode cX3_change 55 = .ok (.iconst 1, 1) := by decide +kernel
theorem dX3_change_56 : decode cX3_change 56 = .ok (.ireturn, 1) := by decide +kernel
set_option maxRecDepth 20000 in
theorem ggX3_run_X3_present : GoodIn wsX3_run wsX3_present := goodIn_r _ [5, 6, 7, 8, 9, 10, 11, 12, 13, 14, 15, 16, 17, 18, 19, 20, 21, 22, 23, 24, 4, 25, 26, 27, 28, 29, 30, 31, 32, 33, 34, 35, 36, 37, 38, 39, 40, 41, 42, 43, 44, 45, 46, 47, 48, 49, 50, 51, 52, 53, 54, 55, 56, 57, 58, 59, 60, 61, 66, 67, 68, 69, 70, 71, 72, 73, 74, 75, 76] (by decide +kernel) (by decide +kernel)
set_option maxRecDepth 20000 in
theorem gX3_run_X3_present : GoodIn wsX3_run (wsV RX3 74 RX3 yX3_present wsX3_present) := goodIn_app (goodIn_of _ (by decide +kernel)) ggX3_run_X3_present
set_option maxRecDepth 20000 in
theorem ggX3_run_X3_runNumber : GoodIn wsX3_run wsX3_runNumber := goodIn_r _ [64] (by decide +kernel) (by decide +kernel)
set_option maxRecDepth 20000 in
theorem gX3_run_X3_runNumber : GoodIn wsX3_run (va_wsS RX3 78 yX3_runNumber wsX3_runNumber) := goodIn_app (goodIn_of _ (by decide +kernel)) ggX3_run_X3_runNumber
set_option maxRecDepth 20000 in
theorem ggX3_run_X2_given : GoodIn wsX3_run wsX2_given := goodIn_r _ [45, 46, 47, 76] (by decide +kernel) (by decide +kernel)
set_option maxRecDepth 20000 in
theorem gX3_run_X2_given : GoodIn wsX3_run (wsV RX3 82 RX2 yX2_given wsX2_given) := goodIn_app (goodIn_of _ (by decide +kernel)) ggX3_run_X2_given
theorem dX3_run_0 : decode cX3_run 0 = .ok (.aload_n 0, 1) := by decide +kernel
theorem dX3_run_1 : decode cX3_run 1 = .ok (.invokevirtual 74, 3) := by decide +kernel
theorem dX3_run_4 : decode cX3_run 4 = .ok (.iload_n 1, 1) := by decide +kernel
theorem dX3_run_5 : decode cX3_run 5 = .ok (.iload_n 2, 1) := by decide +kernel
theorem dX3_run_6 : decode cX3_run 6 = .ok (.iload_n 3, 1) := by decide +kernel
theorem dX3_run_7 : decode cX3_run 7 = .ok (.invokestatic 78, 3) := by decide +kernel
theorem dX3_run_10 : decode cX3_run 10 = .ok (.invokevirtual 82, 3) := by decide +kernel
theorem dX3_run_13 : decode cX3_run 13 = .ok (.ireturn, 1) := by decide +kernel
set_option maxRecDepth 20000 in
theorem ggX3_keep_X3_present : GoodIn wsX3_keep wsX3_present := goodIn_r _ [10, 11, 12, 13, 14, 15, 16, 17, 18, 19, 20, 21, 22, 23, 24, 25, 26, 27, 28, 29, 9, 30, 31, 32, 33, 34, 35, 36, 37, 38, 39, 40, 41, 42, 43, 44, 45, 46, 47, 48, 49, 50, 51, 52, 53, 54, 55, 56, 57, 58, 59, 60, 61, 62, 63, 64, 65, 66, 103, 104, 105, 106, 107, 108, 109, 110, 118, 119, 120] (by decide +kernel) (by decide +kernel)
set_option maxRecDepth 20000 in
theorem gX3_keep_X3_present : GoodIn wsX3_keep (wsV RX3 74 RX3 yX3_present wsX3_present) := goodIn_app (goodIn_of _ (by decide +kernel)) ggX3_keep_X3_present
set_option maxRecDepth 20000 in
theorem ggX3_keep_X2_copy : GoodIn wsX3_keep wsX2_copy := goodIn_r _ [70, 71, 72, 49, 52, 73, 74, 75, 76, 77, 78, 79, 80, 81, 82, 83, 120] (by decide +kernel) (by decide +kernel)
set_option maxRecDepth 20000 in
theorem gX3_keep_X2_copy : GoodIn wsX3_keep (wsV RX3 85 RX2 yX2_copy wsX2_copy) := goodIn_app (goodIn_of _ (by decide +kernel)) ggX3_keep_X2_copy
set_option maxRecDepth 20000 in
theorem ggX3_keep_X0_isHeldIn : GoodIn wsX3_keep wsX0_isHeldIn := goodIn_r _ [88, 89, 90, 91, 87, 92, 93, 94, 95, 96, 97, 98, 99, 100, 101, 102, 47, 48, 49, 50, 51, 52, 111, 112, 113, 114, 115, 116, 117, 120] (by decide +kernel) (by decide +kernel)
set_option maxRecDepth 20000 in
theorem gX3_keep_X0_isHeldIn : GoodIn wsX3_keep (wsV RX3 88 RX0 yX0_isHeldIn wsX0_isHeldIn) := goodIn_app (goodIn_of _ (by decide +kernel)) ggX3_keep_X0_isHeldIn
theorem dX3_keep_0 : decode cX3_keep 0 = .ok (.aload_n 0, 1) := by decide +kernel
theorem dX3_keep_1 : decode cX3_keep 1 = .ok (.getfield 31, 3) := by decide +kernel
theorem dX3_keep_4 : decode cX3_keep 4 = .ok (.bipush 30, 2) := by decide +kernel
theorem dX3_keep_6 : decode cX3_keep 6 = .ok (.if_icmp .lt 5, 3) := by decide +kernel
theorem dX3_keep_9 : decode cX3_keep 9 = .ok (.iconst (-1), 1) := by decide +kernel
theorem dX3_keep_10 : decode cX3_keep 10 = .ok (.ireturn, 1) := by decide +kernel
theorem dX3_keep_11 : decode cX3_keep 11 = .ok (.aload_n 0, 1) := by decide +kernel
theorem dX3_keep_12 : decode cX3_keep 12 = .ok (.invokevirtual 74, 3) := by decide +kernel
theorem dX3_keep_15 : decode cX3_keep 15 = .ok (.invokevirtual 85, 3) := by decide +kernel
theorem dX3_keep_18 : decode cX3_keep 18 = .ok (.astore_n 1, 1) := by decide +kernel
theorem dX3_keep_19 : decode cX3_keep 19 = .ok (.aload_n 0, 1) := by decide +kernel
theorem dX3_keep_20 : decode cX3_keep 20 = .ok (.dup, 1) := by decide +kernel
theorem dX3_keep_21 : decode cX3_keep 21 = .ok (.getfield 31, 3) := by decide +kernel
theorem dX3_keep_24 : decode cX3_keep 24 = .ok (.iconst 1, 1) := by decide +kernel
theorem dX3_keep_25 : decode cX3_keep 25 = .ok (.iadd, 1) := by decide +kernel
theorem dX3_keep_26 : decode cX3_keep 26 = .ok (.putfield 31, 3) := by decide +kernel
theorem dX3_keep_29 : decode cX3_keep 29 = .ok (.aload_n 0, 1) := by decide +kernel
theorem dX3_keep_30 : decode cX3_keep 30 = .ok (.getfield 27, 3) := by decide +kernel
theorem dX3_keep_33 : decode cX3_keep 33 = .ok (.aload_n 0, 1) := by decide +kernel
theorem dX3_keep_34 : decode cX3_keep 34 = .ok (.getfield 31, 3) := by decide +kernel
theorem dX3_keep_37 : decode cX3_keep 37 = .ok (.aload_n 1, 1) := by decide +kernel
theorem dX3_keep_38 : decode cX3_keep 38 = .ok (.aastore, 1) := by decide +kernel
theorem dX3_keep_39 : decode cX3_keep 39 = .ok (.iconst 0, 1) := by decide +kernel
theorem dX3_keep_40 : decode cX3_keep 40 = .ok (.istore_n 2, 1) := by decide +kernel
theorem dX3_keep_41 : decode cX3_keep 41 = .ok (.iload_n 2, 1) := by decide +kernel
theorem dX3_keep_42 : decode cX3_keep 42 = .ok (.aload_n 0, 1) := by decide +kernel
theorem dX3_keep_43 : decode cX3_keep 43 = .ok (.getfield 40, 3) := by decide +kernel
theorem dX3_keep_46 : decode cX3_keep 46 = .ok (.if_icmp .ge 36, 3) := by decide +kernel
theorem dX3_keep_49 : decode cX3_keep 49 = .ok (.aload_n 0, 1) := by decide +kernel
theorem dX3_keep_50 : decode cX3_keep 50 = .ok (.getfield 36, 3) := by decide +kernel
theorem dX3_keep_53 : decode cX3_keep 53 = .ok (.iload_n 2, 1) := by decide +kernel
theorem dX3_keep_54 : decode cX3_keep 54 = .ok (.aaload, 1) := by decide +kernel
theorem dX3_keep_55 : decode cX3_keep 55 = .ok (.astore_n 3, 1) := by decide +kernel
theorem dX3_keep_56 : decode cX3_keep 56 = .ok (.aload_n 3, 1) := by decide +kernel
theorem dX3_keep_57 : decode cX3_keep 57 = .ok (.ifnull 19, 3) := by decide +kernel
theorem dX3_keep_60 : decode cX3_keep 60 = .ok (.aload_n 3, 1) := by decide +kernel
theorem dX3_keep_61 : decode cX3_keep 61 = .ok (.aload_n 1, 1) := by decide +kernel
theorem dX3_keep_62 : decode cX3_keep 62 = .ok (.invokevirtual 88, 3) := by decide +kernel
theorem dX3_keep_65 : decode cX3_keep 65 = .ok (.ifCond .eq 11, 3) := by decide +kernel
theorem dX3_keep_68 : decode cX3_keep 68 = .ok (.aload_n 3, 1) := by decide +kernel
theorem dX3_keep_69 : decode cX3_keep 69 = .ok (.aload_n 0, 1) := by decide +kernel
theorem dX3_keep_70 : decode cX3_keep 70 = .ok (.getfield 31, 3) := by decide +kernel
theorem dX3_keep_73 : decode cX3_keep 73 = .ok (.putfield 92, 3) := by decide +kernel
theorem dX3_keep_76 : decode cX3_keep 76 = .ok (.iinc 2 1, 3) := by decide +kernel
theorem dX3_keep_79 : decode cX3_keep 79 = .ok (.goto (-38), 3) := by decide +kernel
theorem dX3_keep_82 : decode cX3_keep 82 = .ok (.aload_n 0, 1) := by decide +kernel
theorem dX3_keep_83 : decode cX3_keep 83 = .ok (.getfield 31, 3) := by decide +kernel
theorem dX3_keep_86 : decode cX3_keep 86 = .ok (.ireturn, 1) := by decide +kernel
set_option maxRecDepth 20000 in
theorem ggX3_was_X3_keptState : GoodIn wsX3_was wsX3_keptState := goodIn_r _ [6, 7, 8, 19, 20, 21, 22, 23, 24, 25, 26] (by decide +kernel) (by decide +kernel)
set_option maxRecDepth 20000 in
theorem gX3_was_X3_keptState : GoodIn wsX3_was (wsV RX3 95 RX3 yX3_keptState wsX3_keptState) := goodIn_app (goodIn_of _ (by decide +kernel)) ggX3_was_X3_keptState
set_option maxRecDepth 20000 in
theorem ggX3_was_X3_runNumber : GoodIn wsX3_was wsX3_runNumber := goodIn_r _ [11] (by decide +kernel) (by decide +kernel)
set_option maxRecDepth 20000 in
theorem gX3_was_X3_runNumber : GoodIn wsX3_was (va_wsS RX3 78 yX3_runNumber wsX3_runNumber) := goodIn_app (goodIn_of _ (by decide +kernel)) ggX3_was_X3_runNumber
set_option maxRecDepth 20000 in
theorem ggX3_was_X2_given : GoodIn wsX3_was wsX2_given := goodIn_r _ [16, 17, 18, 27] (by decide +kernel) (by decide +kernel)
set_option maxRecDepth 20000 in
theorem gX3_was_X2_given : GoodIn wsX3_was (wsV RX3 82 RX2 yX2_given wsX2_given) := goodIn_app (goodIn_of _ (by decide +kernel)) ggX3_was_X2_given
theorem dX3_was_0 : decode cX3_was 0 = .ok (.aload_n 0, 1) := by decide +kernel
theorem dX3_was_1 : decode cX3_was 1 = .ok (.iload_n 1, 1) := by decide +kernel
theorem dX3_was_2 : decode cX3_was 2 = .ok (.invokevirtual 95, 3) := by decide +kernel
theorem dX3_was_5 : decode cX3_was 5 = .ok (.astore 5, 2) := by decide +kernel
theorem dX3_was_7 : decode cX3_was 7 = .ok (.aload 5, 2) := by decide +kernel
theorem dX3_was_9 : decode cX3_was 9 = .ok (.ifnonnull 8, 3) := by decide +kernel
theorem dX3_was_12 : decode cX3_was 12 = .ok (.ldc 99, 2) := by decide +kernel
theorem dX3_was_14 : decode cX3_was 14 = .ok (.goto 15, 3) := by decide +kernel
theorem dX3_was_17 : decode cX3_was 17 = .ok (.aload 5, 2) := by decide +kernel
theorem dX3_was_19 : decode cX3_was 19 = .ok (.iload_n 2, 1) := by decide +kernel
theorem dX3_was_20 : decode cX3_was 20 = .ok (.iload_n 3, 1) := by decide +kernel
theorem dX3_was_21 : decode cX3_was 21 = .ok (.iload 4, 2) := by decide +kernel
theorem dX3_was_23 : decode cX3_was 23 = .ok (.invokestatic 78, 3) := by decide +kernel
theorem dX3_was_26 : decode cX3_was 26 = .ok (.invokevirtual 82, 3) := by decide +kernel
theorem dX3_was_29 : decode cX3_was 29 = .ok (.ireturn, 1) := by decide +kernel
set_option maxRecDepth 20000 in
theorem ggX3_claim_X3_isFunction : GoodIn wsX3_claim wsX3_isFunction := goodIn_r _ [11] (by decide +kernel) (by decide +kernel)
set_option maxRecDepth 20000 in
theorem gX3_claim_X3_isFunction : GoodIn wsX3_claim (va_wsS RX3 47 yX3_isFunction wsX3_isFunction) := goodIn_app (goodIn_of _ (by decide +kernel)) ggX3_claim_X3_isFunction
set_option maxRecDepth 20000 in
theorem ggX3_claim_X3_canBeClaimed : GoodIn wsX3_claim wsX3_canBeClaimed := goodIn_r _ [14, 15, 16, 10, 17, 18, 19, 20, 21, 22, 8, 9, 11] (by decide +kernel) (by decide +kernel)
set_option maxRecDepth 20000 in
theorem gX3_claim_X3_canBeClaimed : GoodIn wsX3_claim (va_wsS RX3 100 yX3_canBeClaimed wsX3_canBeClaimed) := goodIn_app (goodIn_of _ (by decide +kernel)) ggX3_claim_X3_canBeClaimed
set_option maxRecDepth 20000 in
theorem ggX3_claim_X0_init : GoodIn wsX3_claim wsX0_init := goodIn_r _ [25, 26, 27, 28, 29, 30, 31, 32, 33, 34, 35, 74, 75, 76, 77, 78, 79, 80] (by decide +kernel) (by decide +kernel)
set_option maxRecDepth 20000 in
theorem gX3_claim_X0_init : GoodIn wsX3_claim (wsX0_init) := ggX3_claim_X0_init
set_option maxRecDepth 20000 in
theorem ggX3_claim_X3_lastKeptHolding : GoodIn wsX3_claim wsX3_lastKeptHolding := goodIn_r _ [39, 5, 40, 41, 42, 43, 10, 44, 45, 46, 47, 48, 4, 49, 50, 51, 52, 53, 54, 55, 56, 57, 29, 58, 30, 31, 32, 59, 60, 61, 62, 63, 64, 65, 66, 67, 68, 69, 70, 71, 72, 73, 74, 75, 76, 77, 78, 79, 80, 81] (by decide +kernel) (by decide +kernel)
set_option maxRecDepth 20000 in
theorem gX3_claim_X3_lastKeptHolding : GoodIn wsX3_claim (wsV RX3 106 RX3 yX3_lastKeptHolding wsX3_lastKeptHolding) := goodIn_app (goodIn_of _ (by decide +kernel)) ggX3_claim_X3_lastKeptHolding
theorem dX3_claim_0 : decode cX3_claim 0 = .ok (.aload_n 0, 1) := by decide +kernel
theorem dX3_claim_1 : decode cX3_claim 1 = .ok (.getfield 40, 3) := by decide +kernel
theorem dX3_claim_4 : decode cX3_claim 4 = .ok (.bipush 40, 2) := by decide +kernel
theorem dX3_claim_6 : decode cX3_claim 6 = .ok (.if_icmp .ge 20, 3) := by decide +kernel
theorem dX3_claim_9 : decode cX3_claim 9 = .ok (.iload_n 1, 1) := by decide +kernel
theorem dX3_claim_10 : decode cX3_claim 10 = .ok (.invokestatic 47, 3) := by decide +kernel
theorem dX3_claim_13 : decode cX3_claim 13 = .ok (.ifCond .eq 13, 3) := by decide +kernel
theorem dX3_claim_16 : decode cX3_claim 16 = .ok (.iload_n 2, 1) := by decide +kernel
theorem dX3_claim_17 : decode cX3_claim 17 = .ok (.iload_n 3, 1) := by decide +kernel
theorem dX3_claim_18 : decode cX3_claim 18 = .ok (.iload 4, 2) := by decide +kernel
theorem dX3_claim_20 : decode cX3_claim 20 = .ok (.invokestatic 100, 3) := by decide +kernel
theorem dX3_claim_23 : decode cX3_claim 23 = .ok (.ifCond .ne 5, 3) := by decide +kernel
theorem dX3_claim_26 : decode cX3_claim 26 = .ok (.iconst (-1), 1) := by decide +kernel
theorem dX3_claim_27 : decode cX3_claim 27 = .ok (.ireturn, 1) := by decide +kernel
theorem dX3_claim_28 : decode cX3_claim 28 = .ok (.new 34, 3) := by decide +kernel
theorem dX3_claim_31 : decode cX3_claim 31 = .ok (.dup, 1) := by decide +kernel
theorem dX3_claim_32 : decode cX3_claim 32 = .ok (.iload_n 1, 1) := by decide +kernel
theorem dX3_claim_33 : decode cX3_claim 33 = .ok (.iload_n 2, 1) := by decide +kernel
theorem dX3_claim_34 : decode cX3_claim 34 = .ok (.iload_n 3, 1) := by decide +kernel
theorem dX3_claim_35 : decode cX3_claim 35 = .ok (.iload 4, 2) := by decide +kernel
theorem dX3_claim_37 : decode cX3_claim 37 = .ok (.aload_n 0, 1) := by decide +kernel
theorem dX3_claim_38 : decode cX3_claim 38 = .ok (.getfield 31, 3) := by decide +kernel
theorem dX3_claim_41 : decode cX3_claim 41 = .ok (.invokespecial 103, 3) := by decide +kernel
theorem dX3_claim_44 : decode cX3_claim 44 = .ok (.astore 5, 2) := by decide +kernel
theorem dX3_claim_46 : decode cX3_claim 46 = .ok (.aload 5, 2) := by decide +kernel
theorem dX3_claim_48 : decode cX3_claim 48 = .ok (.aload_n 0, 1) := by decide +kernel
theorem dX3_claim_49 : decode cX3_claim 49 = .ok (.aload 5, 2) := by decide +kernel
theorem dX3_claim_51 : decode cX3_claim 51 = .ok (.invokevirtual 106, 3) := by decide +kernel
theorem dX3_claim_54 : decode cX3_claim 54 = .ok (.putfield 92, 3) := by decide +kernel
theorem dX3_claim_57 : decode cX3_claim 57 = .ok (.aload_n 0, 1) := by decide +kernel
theorem dX3_claim_58 : decode cX3_claim 58 = .ok (.getfield 36, 3) := by decide +kernel
theorem dX3_claim_61 : decode cX3_claim 61 = .ok (.aload_n 0, 1) := by decide +kernel
theorem dX3_claim_62 : decode cX3_claim 62 = .ok (.getfield 40, 3) := by decide +kernel
theorem dX3_claim_65 : decode cX3_claim 65 = .ok (.aload 5, 2) := by decide +kernel
theorem dX3_claim_67 : decode cX3_claim 67 = .ok (.aastore, 1) := by decide +kernel
theorem dX3_claim_68 : decode cX3_claim 68 = .ok (.aload_n 0, 1) := by decide +kernel
theorem dX3_claim_69 : decode cX3_claim 69 = .ok (.dup, 1) := by decide +kernel
theorem dX3_claim_70 : decode cX3_claim 70 = .ok (.getfield 40, 3) := by decide +kernel
theorem dX3_claim_73 : decode cX3_claim 73 = .ok (.iconst 1, 1) := by decide +kernel
theorem dX3_claim_74 : decode cX3_claim 74 = .ok (.iadd, 1) := by decide +kernel
theorem dX3_claim_75 : decode cX3_claim 75 = .ok (.putfield 40, 3) := by decide +kernel
theorem dX3_claim_78 : decode cX3_claim 78 = .ok (.aload_n 0, 1) := by decide +kernel
theorem dX3_claim_79 : decode cX3_claim 79 = .ok (.getfield 40, 3) := by decide +kernel
theorem dX3_claim_82 : decode cX3_claim 82 = .ok (.iconst 1, 1) := by decide +kernel
theorem dX3_claim_83 : decode cX3_claim 83 = .ok (.isub, 1) := by decide +kernel
theorem dX3_claim_84 : decode cX3_claim 84 = .ok (.ireturn, 1) := by decide +kernel
set_option maxRecDepth 20000 in
theorem ggX3_told_X3_claimAt : GoodIn wsX3_told wsX3_claimAt := goodIn_r _ [12, 13, 14, 108, 109, 110, 111, 112, 113, 114, 115] (by decide +kernel) (by decide +kernel)
set_option maxRecDepth 20000 in
theorem gX3_told_X3_claimAt : GoodIn wsX3_told (wsV RX3 110 RX3 yX3_claimAt wsX3_claimAt) := goodIn_app (goodIn_of _ (by decide +kernel)) ggX3_told_X3_claimAt
set_option maxRecDepth 20000 in
theorem ggX3_told_X3_present : GoodIn wsX3_told wsX3_present := goodIn_r _ [18, 19, 20, 21, 22, 23, 24, 25, 26, 27, 28, 29, 30, 31, 32, 33, 34, 35, 36, 37, 11, 38, 39, 40, 41, 42, 43, 44, 45, 46, 47, 48, 49, 50, 51, 52, 53, 54, 55, 56, 57, 58, 59, 60, 61, 62, 63, 64, 65, 66, 67, 68, 69, 70, 71, 72, 73, 74, 108, 109, 110, 111, 112, 113, 114, 115, 116, 117, 118] (by decide +kernel) (by decide +kernel)
set_option maxRecDepth 20000 in
theorem gX3_told_X3_present : GoodIn wsX3_told (wsV RX3 74 RX3 yX3_present wsX3_present) := goodIn_app (goodIn_of _ (by decide +kernel)) ggX3_told_X3_present
set_option maxRecDepth 20000 in
theorem ggX3_told_X3_standing : GoodIn wsX3_told wsX3_standing := goodIn_r _ [77, 6, 78, 79, 80, 81, 82, 83, 84, 85, 86, 87, 88, 89, 90, 91, 92, 93, 94, 95, 96, 55, 56, 57, 58, 59, 60, 101, 102, 103, 104, 105, 106, 107, 118] (by decide +kernel) (by decide +kernel)
set_option maxRecDepth 20000 in
theorem gX3_told_X3_standing : GoodIn wsX3_told (va_wsS RX3 114 yX3_standing wsX3_standing) := goodIn_app (goodIn_of _ (by decide +kernel)) ggX3_told_X3_standing
set_option maxRecDepth 20000 in
theorem ggX3_told_X0_harmIn : GoodIn wsX3_told wsX0_harmIn := goodIn_r _ [100, 87, 88, 89, 81, 90, 91, 92, 93, 94, 95, 96, 55, 56, 57, 58, 59, 60, 101, 102, 103, 104, 105, 106, 107, 118] (by decide +kernel) (by decide +kernel)
set_option maxRecDepth 20000 in
theorem gX3_told_X0_harmIn : GoodIn wsX3_told (wsV RX3 130 RX0 yX0_harmIn wsX0_harmIn) := goodIn_app (goodIn_of _ (by decide +kernel)) ggX3_told_X0_harmIn
theorem dX3_told_0 : decode cX3_told 0 = .ok (.aload_n 0, 1) := by decide +kernel
theorem dX3_told_1 : decode cX3_told 1 = .ok (.iload_n 1, 1) := by decide +kernel
theorem dX3_told_2 : decode cX3_told 2 = .ok (.invokevirtual 110, 3) := by decide +kernel
theorem dX3_told_5 : decode cX3_told 5 = .ok (.astore_n 3, 1) := by decide +kernel
theorem dX3_told_6 : decode cX3_told 6 = .ok (.aload_n 3, 1) := by decide +kernel
theorem dX3_told_7 : decode cX3_told 7 = .ok (.ifnonnull 6, 3) := by decide +kernel
theorem dX3_told_10 : decode cX3_told 10 = .ok (.ldc 99, 2) := by decide +kernel
theorem dX3_told_12 : decode cX3_told 12 = .ok (.ireturn, 1) := by decide +kernel
theorem dX3_told_13 : decode cX3_told 13 = .ok (.iload_n 2, 1) := by decide +kernel
theorem dX3_told_14 : decode cX3_told 14 = .ok (.tableswitch 120 0 7 #[46, 55, 60, 65, 70, 75, 84, 107], 46) := by decide +kernel
theorem dX3_told_60 : decode cX3_told 60 = .ok (.aload_n 3, 1) := by decide +kernel
theorem dX3_told_61 : decode cX3_told 61 = .ok (.aload_n 0, 1) := by decide +kernel
theorem dX3_told_62 : decode cX3_told 62 = .ok (.invokevirtual 74, 3) := by decide +kernel
theorem dX3_told_65 : decode cX3_told 65 = .ok (.invokestatic 114, 3) := by decide +kernel
theorem dX3_told_68 : decode cX3_told 68 = .ok (.ireturn, 1) := by decide +kernel
theorem dX3_told_69 : decode cX3_told 69 = .ok (.aload_n 3, 1) := by decide +kernel
theorem dX3_told_70 : decode cX3_told 70 = .ok (.getfield 118, 3) := by decide +kernel
theorem dX3_told_73 : decode cX3_told 73 = .ok (.ireturn, 1) := by decide +kernel
theorem dX3_told_74 : decode cX3_told 74 = .ok (.aload_n 3, 1) := by decide +kernel
theorem dX3_told_75 : decode cX3_told 75 = .ok (.getfield 121, 3) := by decide +kernel
theorem dX3_told_78 : decode cX3_told 78 = .ok (.ireturn, 1) := by decide +kernel
theorem dX3_told_79 : decode cX3_told 79 = .ok (.aload_n 3, 1) := by decide +kernel
theorem dX3_told_80 : decode cX3_told 80 = .ok (.getfield 124, 3) := by decide +kernel
theorem dX3_told_83 : decode cX3_told 83 = .ok (.ireturn, 1) := by decide +kernel
theorem dX3_told_84 : decode cX3_told 84 = .ok (.aload_n 3, 1) := by decide +kernel
theorem dX3_told_85 : decode cX3_told 85 = .ok (.getfield 127, 3) := by decide +kernel
theorem dX3_told_88 : decode cX3_told 88 = .ok (.ireturn, 1) := by decide +kernel
theorem dX3_told_89 : decode cX3_told 89 = .ok (.aload_n 3, 1) := by decide +kernel
theorem dX3_told_90 : decode cX3_told 90 = .ok (.aload_n 0, 1) := by decide +kernel
theorem dX3_told_91 : decode cX3_told 91 = .ok (.invokevirtual 74, 3) := by decide +kernel
theorem dX3_told_94 : decode cX3_told 94 = .ok (.invokevirtual 130, 3) := by decide +kernel
theorem dX3_told_97 : decode cX3_told 97 = .ok (.ireturn, 1) := by decide +kernel
theorem dX3_told_98 : decode cX3_told 98 = .ok (.aload_n 3, 1) := by decide +kernel
theorem dX3_told_99 : decode cX3_told 99 = .ok (.aload_n 0, 1) := by decide +kernel
theorem dX3_told_100 : decode cX3_told 100 = .ok (.invokevirtual 74, 3) := by decide +kernel
theorem dX3_told_103 : decode cX3_told 103 = .ok (.invokestatic 114, 3) := by decide +kernel
theorem dX3_told_106 : decode cX3_told 106 = .ok (.iconst 2, 1) := by decide +kernel
theorem dX3_told_107 : decode cX3_told 107 = .ok (.if_icmp .ne 12, 3) := by decide +kernel
theorem dX3_told_110 : decode cX3_told 110 = .ok (.aload_n 3, 1) := by decide +kernel
theorem dX3_told_111 : decode cX3_told 111 = .ok (.getfield 92, 3) := by decide +kernel
theorem dX3_told_114 : decode cX3_told 114 = .ok (.iconst 1, 1) := by decide +kernel
theorem dX3_told_115 : decode cX3_told 115 = .ok (.iadd, 1) := by decide +kernel
theorem dX3_told_116 : decode cX3_told 116 = .ok (.goto 4, 3) := by decide +kernel
theorem dX3_told_119 : decode cX3_told 119 = .ok (.iconst (-1), 1) := by decide +kernel
theorem dX3_told_120 : decode cX3_told 120 = .ok (.ireturn, 1) := by decide +kernel
theorem dX3_told_121 : decode cX3_told 121 = .ok (.aload_n 3, 1) := by decide +kernel
theorem dX3_told_122 : decode cX3_told 122 = .ok (.getfield 134, 3) := by decide +kernel
theorem dX3_told_125 : decode cX3_told 125 = .ok (.ifCond .eq 7, 3) := by decide +kernel
theorem dX3_told_128 : decode cX3_told 128 = .ok (.iconst 1, 1) := by decide +kernel
theorem dX3_told_129 : decode cX3_told 129 = .ok (.goto 4, 3) := by decide +kernel
theorem dX3_told_132 : decode cX3_told 132 = .ok (.iconst 0, 1) := by decide +kernel
theorem dX3_told_133 : decode cX3_told 133 = .ok (.ireturn, 1) := by decide +kernel
theorem dX3_told_134 : decode cX3_told 134 = .ok (.ldc 99, 2) := by decide +kernel
theorem dX3_told_136 : decode cX3_told 136 = .ok (.ireturn, 1) := by decide +kernel
set_option maxRecDepth 20000 in
theorem ggX3_denied_X3_claimAt : GoodIn wsX3_denied wsX3_claimAt := goodIn_r _ [5, 6, 7, 83, 84, 85, 86, 87, 88, 89, 90] (by decide +kernel) (by decide +kernel)
set_option maxRecDepth 20000 in
theorem gX3_denied_X3_claimAt : GoodIn wsX3_denied (wsV RX3 110 RX3 yX3_claimAt wsX3_claimAt) := goodIn_app (goodIn_of _ (by decide +kernel)) ggX3_denied_X3_claimAt
set_option maxRecDepth 20000 in
theorem ggX3_denied_X3_present : GoodIn wsX3_denied wsX3_present := goodIn_r _ [11, 12, 13, 14, 15, 16, 17, 18, 19, 20, 21, 22, 23, 24, 25, 26, 27, 28, 29, 30, 4, 31, 32, 33, 34, 35, 36, 37, 38, 39, 40, 41, 42, 43, 44, 45, 46, 47, 48, 49, 50, 51, 52, 53, 54, 55, 56, 57, 58, 59, 60, 61, 62, 63, 64, 65, 66, 67, 83, 84, 85, 86, 87, 88, 89, 90, 91, 92, 93] (by decide +kernel) (by decide +kernel)
set_option maxRecDepth 20000 in
theorem gX3_denied_X3_present : GoodIn wsX3_denied (wsV RX3 74 RX3 yX3_present wsX3_present) := goodIn_app (goodIn_of _ (by decide +kernel)) ggX3_denied_X3_present
set_option maxRecDepth 20000 in
theorem ggX3_denied_X0_firstDenialIn : GoodIn wsX3_denied wsX0_firstDenialIn := goodIn_r _ [72, 73, 74, 75, 71, 76, 77, 78, 79, 80, 81, 82, 48, 49, 50, 51, 52, 53, 94, 95, 96, 97, 98, 99, 100, 93] (by decide +kernel) (by decide +kernel)
set_option maxRecDepth 20000 in
theorem gX3_denied_X0_firstDenialIn : GoodIn wsX3_denied (wsV RX3 138 RX0 yX0_firstDenialIn wsX0_firstDenialIn) := goodIn_app (goodIn_of _ (by decide +kernel)) ggX3_denied_X0_firstDenialIn
theorem dX3_denied_0 : decode cX3_denied 0 = .ok (.aload_n 0, 1) := by decide +kernel
theorem dX3_denied_1 : decode cX3_denied 1 = .ok (.iload_n 1, 1) := by decide +kernel
theorem dX3_denied_2 : decode cX3_denied 2 = .ok (.invokevirtual 110, 3) := by decide +kernel
theorem dX3_denied_5 : decode cX3_denied 5 = .ok (.astore_n 2, 1) := by decide +kernel
theorem dX3_denied_6 : decode cX3_denied 6 = .ok (.aload_n 2, 1) := by decide +kernel
theorem dX3_denied_7 : decode cX3_denied 7 = .ok (.ifnonnull 7, 3) := by decide +kernel
theorem dX3_denied_10 : decode cX3_denied 10 = .ok (.iconst (-1), 1) := by decide +kernel
theorem dX3_denied_11 : decode cX3_denied 11 = .ok (.goto 11, 3) := by decide +kernel
theorem dX3_denied_14 : decode cX3_denied 14 = .ok (.aload_n 2, 1) := by decide +kernel
theorem dX3_denied_15 : decode cX3_denied 15 = .ok (.aload_n 0, 1) := by decide +kernel
theorem dX3_denied_16 : decode cX3_denied 16 = .ok (.invokevirtual 74, 3) := by decide +kernel
theorem dX3_denied_19 : decode cX3_denied 19 = .ok (.invokevirtual 138, 3) := by decide +kernel
theorem dX3_denied_22 : decode cX3_denied 22 = .ok (.ireturn, 1) := by decide +kernel
set_option maxRecDepth 20000 in
theorem ggX3_mend_X3_claimAt : GoodIn wsX3_mend wsX3_claimAt := goodIn_r _ [6, 7, 8, 132, 133, 134, 135, 136, 137, 138, 139] (by decide +kernel) (by decide +kernel)
set_option maxRecDepth 20000 in
theorem gX3_mend_X3_claimAt : GoodIn wsX3_mend (wsV RX3 110 RX3 yX3_claimAt wsX3_claimAt) := goodIn_app (goodIn_of _ (by decide +kernel)) ggX3_mend_X3_claimAt
set_option maxRecDepth 20000 in
theorem ggX3_mend_X3_present : GoodIn wsX3_mend wsX3_present := goodIn_r _ [12, 13, 14, 15, 16, 17, 18, 19, 20, 21, 22, 23, 24, 25, 26, 27, 28, 29, 30, 31, 5, 32, 33, 34, 35, 36, 37, 38, 39, 40, 41, 42, 43, 44, 45, 46, 47, 48, 49, 50, 51, 52, 53, 54, 55, 56, 57, 58, 59, 60, 61, 62, 63, 64, 65, 66, 67, 68, 132, 133, 134, 135, 136, 137, 138, 139, 140, 141, 142] (by decide +kernel) (by decide +kernel)
set_option maxRecDepth 20000 in
theorem gX3_mend_X3_present : GoodIn wsX3_mend (wsV RX3 74 RX3 yX3_present wsX3_present) := goodIn_app (goodIn_of _ (by decide +kernel)) ggX3_mend_X3_present
set_option maxRecDepth 20000 in
theorem ggX3_mend_X0_isHeldIn : GoodIn wsX3_mend wsX0_isHeldIn := goodIn_r _ [73, 74, 75, 76, 72, 77, 78, 79, 80, 81, 82, 83, 84, 85, 86, 87, 49, 50, 51, 52, 53, 54, 143, 144, 145, 146, 147, 148, 149, 142] (by decide +kernel) (by decide +kernel)
set_option maxRecDepth 20000 in
theorem gX3_mend_X0_isHeldIn : GoodIn wsX3_mend (wsV RX3 88 RX0 yX0_isHeldIn wsX0_isHeldIn) := goodIn_app (goodIn_of _ (by decide +kernel)) ggX3_mend_X0_isHeldIn
set_option maxRecDepth 20000 in
theorem ggX3_mend_X3_firstMend : GoodIn wsX3_mend wsX3_firstMend := goodIn_r _ [91, 92, 93, 94, 1, 9, 10, 11, 5, 12, 13, 14, 15, 16, 17, 18, 19, 20, 21, 22, 23, 24, 25, 26, 27, 28, 29, 30, 31, 32, 33, 34, 35, 36, 37, 38, 39, 40, 41, 42, 43, 44, 45, 46, 47, 48, 49, 50, 51, 52, 53, 54, 55, 56, 57, 58, 59, 60, 61, 62, 63, 64, 65, 66, 67, 68, 95, 96, 97, 98, 99, 100, 101, 102, 103, 104, 105, 106, 107, 108, 109, 110, 111, 112, 113, 114, 115, 116, 117, 118, 119, 120, 121, 122, 143, 144, 145, 146, 147, 148, 149, 132, 133, 134, 135, 136, 137, 138, 139, 140, 141, 142] (by decide +kernel) (by decide +kernel)
set_option maxRecDepth 20000 in
theorem gX3_mend_X3_firstMend : GoodIn wsX3_mend (wsV RX3 141 RX3 yX3_firstMend wsX3_firstMend) := goodIn_app (goodIn_of _ (by decide +kernel)) ggX3_mend_X3_firstMend
set_option maxRecDepth 20000 in
theorem ggX3_mend_X3_secondMend : GoodIn wsX3_mend wsX3_secondMend := goodIn_r _ [126, 92, 93, 1, 9, 10, 11, 5, 12, 13, 14, 15, 16, 17, 18, 19, 20, 21, 22, 23, 24, 25, 26, 27, 28, 29, 30, 31, 32, 33, 34, 35, 36, 37, 38, 39, 40, 41, 42, 43, 44, 45, 46, 47, 48, 49, 50, 51, 52, 53, 54, 55, 56, 57, 58, 59, 60, 61, 62, 63, 64, 65, 66, 67, 68, 127, 128, 129, 130, 131, 99, 143, 144, 145, 146, 147, 148, 149, 132, 133, 134, 135, 136, 137, 138, 139, 140, 141, 142] (by decide +kernel) (by decide +kernel)
set_option maxRecDepth 20000 in
theorem gX3_mend_X3_secondMend : GoodIn wsX3_mend (wsV RX3 144 RX3 yX3_secondMend wsX3_secondMend) := goodIn_app (goodIn_of _ (by decide +kernel)) ggX3_mend_X3_secondMend
theorem dX3_mend_0 : decode cX3_mend 0 = .ok (.aload_n 0, 1) := by decide +kernel
theorem dX3_mend_1 : decode cX3_mend 1 = .ok (.iload_n 1, 1) := by decide +kernel
theorem dX3_mend_2 : decode cX3_mend 2 = .ok (.invokevirtual 110, 3) := by decide +kernel
theorem dX3_mend_5 : decode cX3_mend 5 = .ok (.astore_n 3, 1) := by decide +kernel
theorem dX3_mend_6 : decode cX3_mend 6 = .ok (.aload_n 3, 1) := by decide +kernel
theorem dX3_mend_7 : decode cX3_mend 7 = .ok (.ifnull 14, 3) := by decide +kernel
theorem dX3_mend_10 : decode cX3_mend 10 = .ok (.aload_n 3, 1) := by decide +kernel
theorem dX3_mend_11 : decode cX3_mend 11 = .ok (.aload_n 0, 1) := by decide +kernel
theorem dX3_mend_12 : decode cX3_mend 12 = .ok (.invokevirtual 74, 3) := by decide +kernel
theorem dX3_mend_15 : decode cX3_mend 15 = .ok (.invokevirtual 88, 3) := by decide +kernel
theorem dX3_mend_18 : decode cX3_mend 18 = .ok (.ifCond .eq 6, 3) := by decide +kernel
theorem dX3_mend_21 : decode cX3_mend 21 = .ok (.ldc 99, 2) := by decide +kernel
theorem dX3_mend_23 : decode cX3_mend 23 = .ok (.ireturn, 1) := by decide +kernel
theorem dX3_mend_24 : decode cX3_mend 24 = .ok (.iload_n 2, 1) := by decide +kernel
theorem dX3_mend_25 : decode cX3_mend 25 = .ok (.lookupswitch 39 #[(0, 27), (1, 33)], 27) := by decide +kernel
theorem dX3_mend_52 : decode cX3_mend 52 = .ok (.aload_n 0, 1) := by decide +kernel
theorem dX3_mend_53 : decode cX3_mend 53 = .ok (.aload_n 3, 1) := by decide +kernel
theorem dX3_mend_54 : decode cX3_mend 54 = .ok (.invokevirtual 141, 3) := by decide +kernel
theorem dX3_mend_57 : decode cX3_mend 57 = .ok (.ireturn, 1) := by decide +kernel
theorem dX3_mend_58 : decode cX3_mend 58 = .ok (.aload_n 0, 1) := by decide +kernel
theorem dX3_mend_59 : decode cX3_mend 59 = .ok (.aload_n 3, 1) := by decide +kernel
theorem dX3_mend_60 : decode cX3_mend 60 = .ok (.invokevirtual 144, 3) := by decide +kernel
theorem dX3_mend_63 : decode cX3_mend 63 = .ok (.ireturn, 1) := by decide +kernel
theorem dX3_mend_64 : decode cX3_mend 64 = .ok (.ldc 99, 2) := by decide +kernel
theorem dX3_mend_66 : decode cX3_mend 66 = .ok (.ireturn, 1) := by decide +kernel
set_option maxRecDepth 20000 in
theorem ggX3_mended_X3_claimAt : GoodIn wsX3_mended wsX3_claimAt := goodIn_r _ [10, 11, 12, 152, 153, 154, 155, 156, 157, 158, 159] (by decide +kernel) (by decide +kernel)
set_option maxRecDepth 20000 in
theorem gX3_mended_X3_claimAt : GoodIn wsX3_mended (wsV RX3 110 RX3 yX3_claimAt wsX3_claimAt) := goodIn_app (goodIn_of _ (by decide +kernel)) ggX3_mended_X3_claimAt
set_option maxRecDepth 20000 in
theorem ggX3_mended_X3_present : GoodIn wsX3_mended wsX3_present := goodIn_r _ [16, 17, 18, 19, 20, 21, 22, 23, 24, 25, 26, 27, 28, 29, 30, 31, 32, 33, 34, 35, 9, 36, 37, 38, 39, 40, 41, 42, 43, 44, 45, 46, 47, 48, 49, 50, 51, 52, 53, 54, 55, 56, 57, 58, 59, 60, 61, 62, 63, 64, 65, 66, 67, 68, 69, 70, 71, 72, 152, 153, 154, 155, 156, 157, 158, 159, 160, 161, 162] (by decide +kernel) (by decide +kernel)
set_option maxRecDepth 20000 in
theorem gX3_mended_X3_present : GoodIn wsX3_mended (wsV RX3 74 RX3 yX3_present wsX3_present) := goodIn_app (goodIn_of _ (by decide +kernel)) ggX3_mended_X3_present
set_option maxRecDepth 20000 in
theorem ggX3_mended_X0_isHeldIn : GoodIn wsX3_mended wsX0_isHeldIn := goodIn_r _ [77, 78, 79, 80, 76, 81, 82, 83, 84, 85, 86, 87, 88, 89, 90, 91, 53, 54, 55, 56, 57, 58, 145, 146, 147, 148, 149, 150, 151, 162] (by decide +kernel) (by decide +kernel)
set_option maxRecDepth 20000 in
theorem gX3_mended_X0_isHeldIn : GoodIn wsX3_mended (wsV RX3 88 RX0 yX0_isHeldIn wsX0_isHeldIn) := goodIn_app (goodIn_of _ (by decide +kernel)) ggX3_mended_X0_isHeldIn
set_option maxRecDepth 20000 in
theorem ggX3_mended_X3_firstMend : GoodIn wsX3_mended wsX3_firstMend := goodIn_r _ [95, 2, 96, 4, 1, 13, 14, 15, 9, 16, 17, 18, 19, 20, 21, 22, 23, 24, 25, 26, 27, 28, 29, 30, 31, 32, 33, 34, 35, 36, 37, 38, 39, 40, 41, 42, 43, 44, 45, 46, 47, 48, 49, 50, 51, 52, 53, 54, 55, 56, 57, 58, 59, 60, 61, 62, 63, 64, 65, 66, 67, 68, 69, 70, 71, 72, 97, 98, 99, 100, 101, 102, 103, 104, 105, 106, 107, 108, 109, 110, 111, 112, 113, 114, 115, 116, 117, 118, 119, 120, 121, 122, 123, 124, 145, 146, 147, 148, 149, 150, 151, 152, 153, 154, 155, 156, 157, 158, 159, 160, 161, 162] (by decide +kernel) (by decide +kernel)
set_option maxRecDepth 20000 in
theorem gX3_mended_X3_firstMend : GoodIn wsX3_mended (wsV RX3 141 RX3 yX3_firstMend wsX3_firstMend) := goodIn_app (goodIn_of _ (by decide +kernel)) ggX3_mended_X3_firstMend
set_option maxRecDepth 20000 in
theorem ggX3_mended_X3_secondMend : GoodIn wsX3_mended wsX3_secondMend := goodIn_r _ [128, 2, 96, 1, 13, 14, 15, 9, 16, 17, 18, 19, 20, 21, 22, 23, 24, 25, 26, 27, 28, 29, 30, 31, 32, 33, 34, 35, 36, 37, 38, 39, 40, 41, 42, 43, 44, 45, 46, 47, 48, 49, 50, 51, 52, 53, 54, 55, 56, 57, 58, 59, 60, 61, 62, 63, 64, 65, 66, 67, 68, 69, 70, 71, 72, 129, 130, 131, 132, 133, 101, 145, 146, 147, 148, 149, 150, 151, 152, 153, 154, 155, 156, 157, 158, 159, 160, 161, 162] (by decide +kernel) (by decide +kernel)
set_option maxRecDepth 20000 in
theorem gX3_mended_X3_secondMend : GoodIn wsX3_mended (wsV RX3 144 RX3 yX3_secondMend wsX3_secondMend) := goodIn_app (goodIn_of _ (by decide +kernel)) ggX3_mended_X3_secondMend
set_option maxRecDepth 20000 in
theorem ggX3_mended_X3_lastKeptHolding : GoodIn wsX3_mended wsX3_lastKeptHolding := goodIn_r _ [137, 138, 139, 140, 141, 142, 9, 143, 144, 73, 74, 75, 76, 77, 78, 79, 80, 81, 82, 83, 84, 85, 86, 87, 88, 89, 90, 91, 53, 54, 55, 56, 57, 58, 152, 153, 154, 155, 156, 157, 158, 159, 145, 146, 147, 148, 149, 150, 151, 162] (by decide +kernel) (by decide +kernel)
set_option maxRecDepth 20000 in
theorem gX3_mended_X3_lastKeptHolding : GoodIn wsX3_mended (wsV RX3 106 RX3 yX3_lastKeptHolding wsX3_lastKeptHolding) := goodIn_app (goodIn_of _ (by decide +kernel)) ggX3_mended_X3_lastKeptHolding
theorem dX3_mended_0 : decode cX3_mended 0 = .ok (.aload_n 0, 1) := by decide +kernel
theorem dX3_mended_1 : decode cX3_mended 1 = .ok (.iload_n 1, 1) := by decide +kernel
theorem dX3_mended_2 : decode cX3_mended 2 = .ok (.invokevirtual 110, 3) := by decide +kernel
theorem dX3_mended_5 : decode cX3_mended 5 = .ok (.astore_n 2, 1) := by decide +kernel
theorem dX3_mended_6 : decode cX3_mended 6 = .ok (.aload_n 2, 1) := by decide +kernel
theorem dX3_mended_7 : decode cX3_mended 7 = .ok (.ifnull 14, 3) := by decide +kernel
theorem dX3_mended_10 : decode cX3_mended 10 = .ok (.aload_n 2, 1) := by decide +kernel
theorem dX3_mended_11 : decode cX3_mended 11 = .ok (.aload_n 0, 1) := by decide +kernel
theorem dX3_mended_12 : decode cX3_mended 12 = .ok (.invokevirtual 74, 3) := by decide +kernel
theorem dX3_mended_15 : decode cX3_mended 15 = .ok (.invokevirtual 88, 3) := by decide +kernel
theorem dX3_mended_18 : decode cX3_mended 18 = .ok (.ifCond .eq 5, 3) := by decide +kernel
theorem dX3_mended_21 : decode cX3_mended 21 = .ok (.iconst 0, 1) := by decide +kernel
theorem dX3_mended_22 : decode cX3_mended 22 = .ok (.ireturn, 1) := by decide +kernel
theorem dX3_mended_23 : decode cX3_mended 23 = .ok (.aload_n 0, 1) := by decide +kernel
theorem dX3_mended_24 : decode cX3_mended 24 = .ok (.aload_n 2, 1) := by decide +kernel
theorem dX3_mended_25 : decode cX3_mended 25 = .ok (.invokevirtual 141, 3) := by decide +kernel
theorem dX3_mended_28 : decode cX3_mended 28 = .ok (.istore_n 3, 1) := by decide +kernel
theorem dX3_mended_29 : decode cX3_mended 29 = .ok (.iload_n 3, 1) := by decide +kernel
theorem dX3_mended_30 : decode cX3_mended 30 = .ok (.ldc 99, 2) := by decide +kernel
theorem dX3_mended_32 : decode cX3_mended 32 = .ok (.if_icmp .ne 5, 3) := by decide +kernel
theorem dX3_mended_35 : decode cX3_mended 35 = .ok (.iconst 0, 1) := by decide +kernel
theorem dX3_mended_36 : decode cX3_mended 36 = .ok (.ireturn, 1) := by decide +kernel
theorem dX3_mended_37 : decode cX3_mended 37 = .ok (.aload_n 2, 1) := by decide +kernel
theorem dX3_mended_38 : decode cX3_mended 38 = .ok (.getfield 121, 3) := by decide +kernel
theorem dX3_mended_41 : decode cX3_mended 41 = .ok (.iconst 5, 1) := by decide +kernel
theorem dX3_mended_42 : decode cX3_mended 42 = .ok (.if_icmp .ne 11, 3) := by decide +kernel
theorem dX3_mended_45 : decode cX3_mended 45 = .ok (.aload_n 2, 1) := by decide +kernel
theorem dX3_mended_46 : decode cX3_mended 46 = .ok (.iload_n 3, 1) := by decide +kernel
theorem dX3_mended_47 : decode cX3_mended 47 = .ok (.putfield 127, 3) := by decide +kernel
theorem dX3_mended_50 : decode cX3_mended 50 = .ok (.goto 8, 3) := by decide +kernel
theorem dX3_mended_53 : decode cX3_mended 53 = .ok (.aload_n 2, 1) := by decide +kernel
theorem dX3_mended_54 : decode cX3_mended 54 = .ok (.iload_n 3, 1) := by decide +kernel
theorem dX3_mended_55 : decode cX3_mended 55 = .ok (.putfield 124, 3) := by decide +kernel
theorem dX3_mended_58 : decode cX3_mended 58 = .ok (.aload_n 2, 1) := by decide +kernel
theorem dX3_mended_59 : decode cX3_mended 59 = .ok (.getfield 121, 3) := by decide +kernel
theorem dX3_mended_62 : decode cX3_mended 62 = .ok (.ifCond .ne 12, 3) := by decide +kernel
theorem dX3_mended_65 : decode cX3_mended 65 = .ok (.aload_n 2, 1) := by decide +kernel
theorem dX3_mended_66 : decode cX3_mended 66 = .ok (.aload_n 0, 1) := by decide +kernel
theorem dX3_mended_67 : decode cX3_mended 67 = .ok (.aload_n 2, 1) := by decide +kernel
theorem dX3_mended_68 : decode cX3_mended 68 = .ok (.invokevirtual 144, 3) := by decide +kernel
theorem dX3_mended_71 : decode cX3_mended 71 = .ok (.putfield 127, 3) := by decide +kernel
theorem dX3_mended_74 : decode cX3_mended 74 = .ok (.aload_n 2, 1) := by decide +kernel
theorem dX3_mended_75 : decode cX3_mended 75 = .ok (.aload_n 0, 1) := by decide +kernel
theorem dX3_mended_76 : decode cX3_mended 76 = .ok (.aload_n 2, 1) := by decide +kernel
theorem dX3_mended_77 : decode cX3_mended 77 = .ok (.invokevirtual 106, 3) := by decide +kernel
theorem dX3_mended_80 : decode cX3_mended 80 = .ok (.putfield 92, 3) := by decide +kernel
theorem dX3_mended_83 : decode cX3_mended 83 = .ok (.iconst 1, 1) := by decide +kernel
theorem dX3_mended_84 : decode cX3_mended 84 = .ok (.ireturn, 1) := by decide +kernel
set_option maxRecDepth 20000 in
theorem ggX3_mark_X3_claimAt : GoodIn wsX3_mark wsX3_claimAt := goodIn_r _ [6, 7, 8, 16, 17, 18, 19, 20, 21, 22, 23] (by decide +kernel) (by decide +kernel)
set_option maxRecDepth 20000 in
theorem gX3_mark_X3_claimAt : GoodIn wsX3_mark (wsV RX3 110 RX3 yX3_claimAt wsX3_claimAt) := goodIn_app (goodIn_of _ (by decide +kernel)) ggX3_mark_X3_claimAt
theorem dX3_mark_0 : decode cX3_mark 0 = .ok (.aload_n 0, 1) := by decide +kernel
theorem dX3_mark_1 : decode cX3_mark 1 = .ok (.iload_n 1, 1) := by decide +kernel
theorem dX3_mark_2 : decode cX3_mark 2 = .ok (.invokevirtual 110, 3) := by decide +kernel
theorem dX3_mark_5 : decode cX3_mark 5 = .ok (.astore_n 2, 1) := by decide +kernel
theorem dX3_mark_6 : decode cX3_mark 6 = .ok (.aload_n 2, 1) := by decide +kernel
theorem dX3_mark_7 : decode cX3_mark 7 = .ok (.ifnull 10, 3) := by decide +kernel
theorem dX3_mark_10 : decode cX3_mark 10 = .ok (.aload_n 2, 1) := by decide +kernel
theorem dX3_mark_11 : decode cX3_mark 11 = .ok (.getfield 134, 3) := by decide +kernel
theorem dX3_mark_14 : decode cX3_mark 14 = .ok (.ifCond .eq 5, 3) := by decide +kernel
theorem dX3_mark_17 : decode cX3_mark 17 = .ok (.iconst 0, 1) := by decide +kernel
theorem dX3_mark_18 : decode cX3_mark 18 = .ok (.ireturn, 1) := by decide +kernel
theorem dX3_mark_19 : decode cX3_mark 19 = .ok (.aload_n 2, 1) := by decide +kernel
theorem dX3_mark_20 : decode cX3_mark 20 = .ok (.iconst 1, 1) := by decide +kernel
theorem dX3_mark_21 : decode cX3_mark 21 = .ok (.putfield 134, 3) := by decide +kernel
theorem dX3_mark_24 : decode cX3_mark 24 = .ok (.iconst 1, 1) := by decide +kernel
theorem dX3_mark_25 : decode cX3_mark 25 = .ok (.ireturn, 1) := by decide +kernel
set_option maxRecDepth 20000 in
theorem ggX3_listed_X3_fillListedHarms : GoodIn wsX3_listed wsX3_fillListedHarms := goodIn_r _ [7, 8, 2, 9, 10, 11, 12, 6, 13, 14, 15, 16, 17, 18, 19, 20, 21, 22, 23, 24, 25, 26, 27, 28, 29, 30, 31, 32, 33, 34, 35, 36, 37, 38, 39, 40, 41, 42, 43, 44, 45, 46, 47, 48, 49, 50, 51, 52, 53, 54, 55, 56, 57, 58, 59, 60, 61, 62, 63, 64, 65, 66, 67, 68, 69, 70, 71, 72, 73, 1, 74, 75, 76, 77, 78, 79, 80, 81, 82, 83, 84, 85, 86, 87, 88, 93, 94, 95, 96, 97, 98, 99, 100, 101, 102, 103, 104, 105, 106, 107, 108, 109, 110] (by decide +kernel) (by decide +kernel)
set_option maxRecDepth 20000 in
theorem gX3_listed_X3_fillListedHarms : GoodIn wsX3_listed (wsV RX3 147 RX3 yX3_fillListedHarms wsX3_fillListedHarms) := goodIn_app (goodIn_of _ (by decide +kernel)) ggX3_listed_X3_fillListedHarms
set_option maxRecDepth 20000 in
theorem ggX3_listed_X3_listedAheadOf : GoodIn wsX3_listed wsX3_listedAheadOf := goodIn_r _ [92, 2, 1, 93, 94, 95, 96, 97, 98, 99, 100] (by decide +kernel) (by decide +kernel)
set_option maxRecDepth 20000 in
theorem gX3_listed_X3_listedAheadOf : GoodIn wsX3_listed (wsV RX3 150 RX3 yX3_listedAheadOf wsX3_listedAheadOf) := goodIn_app (goodIn_of _ (by decide +kernel)) ggX3_listed_X3_listedAheadOf
theorem dX3_listed_0 : decode cX3_listed 0 = .ok (.iload_n 1, 1) := by decide +kernel
theorem dX3_listed_1 : decode cX3_listed 1 = .ok (.ifCond .lt 11, 3) := by decide +kernel
theorem dX3_listed_4 : decode cX3_listed 4 = .ok (.iload_n 1, 1) := by decide +kernel
theorem dX3_listed_5 : decode cX3_listed 5 = .ok (.aload_n 0, 1) := by decide +kernel
theorem dX3_listed_6 : decode cX3_listed 6 = .ok (.getfield 40, 3) := by decide +kernel
theorem dX3_listed_9 : decode cX3_listed 9 = .ok (.if_icmp .lt 5, 3) := by decide +kernel
theorem dX3_listed_12 : decode cX3_listed 12 = .ok (.iconst (-1), 1) := by decide +kernel
theorem dX3_listed_13 : decode cX3_listed 13 = .ok (.ireturn, 1) := by decide +kernel
theorem dX3_listed_14 : decode cX3_listed 14 = .ok (.aload_n 0, 1) := by decide +kernel
theorem dX3_listed_15 : decode cX3_listed 15 = .ok (.invokevirtual 147, 3) := by decide +kernel
theorem dX3_listed_18 : decode cX3_listed 18 = .ok (.iconst 0, 1) := by decide +kernel
theorem dX3_listed_19 : decode cX3_listed 19 = .ok (.istore_n 2, 1) := by decide +kernel
theorem dX3_listed_20 : decode cX3_listed 20 = .ok (.iload_n 2, 1) := by decide +kernel
theorem dX3_listed_21 : decode cX3_listed 21 = .ok (.aload_n 0, 1) := by decide +kernel
theorem dX3_listed_22 : decode cX3_listed 22 = .ok (.getfield 40, 3) := by decide +kernel
theorem dX3_listed_25 : decode cX3_listed 25 = .ok (.if_icmp .ge 29, 3) := by decide +kernel
theorem dX3_listed_28 : decode cX3_listed 28 = .ok (.aload_n 0, 1) := by decide +kernel
theorem dX3_listed_29 : decode cX3_listed 29 = .ok (.getfield 43, 3) := by decide +kernel
theorem dX3_listed_32 : decode cX3_listed 32 = .ok (.iload_n 2, 1) := by decide +kernel
theorem dX3_listed_33 : decode cX3_listed 33 = .ok (.iaload, 1) := by decide +kernel
theorem dX3_listed_34 : decode cX3_listed 34 = .ok (.ifCond .le 14, 3) := by decide +kernel
theorem dX3_listed_37 : decode cX3_listed 37 = .ok (.aload_n 0, 1) := by decide +kernel
theorem dX3_listed_38 : decode cX3_listed 38 = .ok (.iload_n 2, 1) := by decide +kernel
theorem dX3_listed_39 : decode cX3_listed 39 = .ok (.invokevirtual 150, 3) := by decide +kernel
theorem dX3_listed_42 : decode cX3_listed 42 = .ok (.iload_n 1, 1) := by decide +kernel
theorem dX3_listed_43 : decode cX3_listed 43 = .ok (.if_icmp .ne 5, 3) := by decide +kernel
theorem dX3_listed_46 : decode cX3_listed 46 = .ok (.iload_n 2, 1) := by decide +kernel
theorem dX3_listed_47 : decode cX3_listed 47 = .ok (.ireturn, 1) := by decide +kernel
theorem dX3_listed_48 : decode cX3_listed 48 = .ok (.iinc 2 1, 3) := by decide +kernel
theorem dX3_listed_51 : decode cX3_listed 51 = .ok (.goto (-31), 3) := by decide +kernel
theorem dX3_listed_54 : decode cX3_listed 54 = .ok (.iconst (-1), 1) := by decide +kernel
theorem dX3_listed_55 : decode cX3_listed 55 = .ok (.ireturn, 1) := by decide +kernel
set_option maxRecDepth 20000 in
theorem ggX3_missing_X3_isFunction : GoodIn wsX3_missing wsX3_isFunction := goodIn_r _ [6] (by decide +kernel) (by decide +kernel)
set_option maxRecDepth 20000 in
theorem gX3_missing_X3_isFunction : GoodIn wsX3_missing (va_wsS RX3 47 yX3_isFunction wsX3_isFunction) := goodIn_app (goodIn_of _ (by decide +kernel)) ggX3_missing_X3_isFunction
set_option maxRecDepth 20000 in
theorem ggX3_missing_X3_present : GoodIn wsX3_missing wsX3_present := goodIn_r _ [10, 11, 2, 12, 13, 14, 15, 16, 17, 18, 19, 20, 21, 22, 23, 24, 25, 26, 27, 4, 5, 6, 28, 29, 30, 31, 32, 33, 34, 35, 36, 37, 38, 39, 40, 41, 42, 43, 44, 45, 46, 47, 48, 49, 50, 51, 52, 53, 54, 55, 56, 57, 58, 59, 60, 61, 62, 63, 82, 83, 84, 85, 86, 87, 88, 89, 90, 91, 92] (by decide +kernel) (by decide +kernel)
set_option maxRecDepth 20000 in
theorem gX3_missing_X3_present : GoodIn wsX3_missing (wsV RX3 74 RX3 yX3_present wsX3_present) := goodIn_app (goodIn_of _ (by decide +kernel)) ggX3_missing_X3_present
set_option maxRecDepth 20000 in
theorem ggX3_missing_X2_refusals : GoodIn wsX3_missing wsX2_refusals := goodIn_r _ [67, 48, 68, 44, 45, 46, 47, 49, 92] (by decide +kernel) (by decide +kernel)
set_option maxRecDepth 20000 in
theorem gX3_missing_X2_refusals : GoodIn wsX3_missing (wsV RX3 153 RX2 yX2_refusals wsX2_refusals) := goodIn_app (goodIn_of _ (by decide +kernel)) ggX3_missing_X2_refusals
set_option maxRecDepth 20000 in
theorem ggX3_missing_X3_hasClaim : GoodIn wsX3_missing wsX3_hasClaim := goodIn_r _ [72, 73, 74, 75, 76, 82, 83, 84, 85, 86, 87, 88, 89, 93, 94, 95, 96, 97, 98, 99] (by decide +kernel) (by decide +kernel)
set_option maxRecDepth 20000 in
theorem gX3_missing_X3_hasClaim : GoodIn wsX3_missing (wsV RX3 156 RX3 yX3_hasClaim wsX3_hasClaim) := goodIn_app (goodIn_of _ (by decide +kernel)) ggX3_missing_X3_hasClaim
set_option maxRecDepth 20000 in
theorem ggX3_missing_X2_least : GoodIn wsX3_missing wsX2_least := goodIn_r _ [80, 48, 68, 44, 45, 46, 47, 49, 92] (by decide +kernel) (by decide +kernel)
set_option maxRecDepth 20000 in
theorem gX3_missing_X2_least : GoodIn wsX3_missing (wsV RX3 160 RX2 yX2_least wsX2_least) := goodIn_app (goodIn_of _ (by decide +kernel)) ggX3_missing_X2_least
set_option maxRecDepth 20000 in
theorem ggX3_missing_X1_length : GoodIn wsX3_missing wsX1_length := goodIn_r _ [26, 27, 4, 5, 6, 90, 91] (by decide +kernel) (by decide +kernel)
set_option maxRecDepth 20000 in
theorem gX3_missing_X1_length : GoodIn wsX3_missing (wsV RX3 58 RX1 yX1_length wsX1_length) := goodIn_app (goodIn_of _ (by decide +kernel)) ggX3_missing_X1_length
theorem dX3_missing_0 : decode cX3_missing 0 = .ok (.iload_n 1, 1) := by decide +kernel
theorem dX3_missing_1 : decode cX3_missing 1 = .ok (.invokestatic 47, 3) := by decide +kernel
theorem dX3_missing_4 : decode cX3_missing 4 = .ok (.ifCond .ne 5, 3) := by decide +kernel
theorem dX3_missing_7 : decode cX3_missing 7 = .ok (.iconst (-1), 1) := by decide +kernel
theorem dX3_missing_8 : decode cX3_missing 8 = .ok (.ireturn, 1) := by decide +kernel
theorem dX3_missing_9 : decode cX3_missing 9 = .ok (.aload_n 0, 1) := by decide +kernel
theorem dX3_missing_10 : decode cX3_missing 10 = .ok (.invokevirtual 74, 3) := by decide +kernel
theorem dX3_missing_13 : decode cX3_missing 13 = .ok (.astore_n 2, 1) := by decide +kernel
theorem dX3_missing_14 : decode cX3_missing 14 = .ok (.iconst 0, 1) := by decide +kernel
theorem dX3_missing_15 : decode cX3_missing 15 = .ok (.istore_n 3, 1) := by decide +kernel
theorem dX3_missing_16 : decode cX3_missing 16 = .ok (.aload_n 2, 1) := by decide +kernel
theorem dX3_missing_17 : decode cX3_missing 17 = .ok (.iload_n 1, 1) := by decide +kernel
theorem dX3_missing_18 : decode cX3_missing 18 = .ok (.invokevirtual 153, 3) := by decide +kernel
theorem dX3_missing_21 : decode cX3_missing 21 = .ok (.ifCond .le 17, 3) := by decide +kernel
theorem dX3_missing_24 : decode cX3_missing 24 = .ok (.aload_n 0, 1) := by decide +kernel
theorem dX3_missing_25 : decode cX3_missing 25 = .ok (.iload_n 1, 1) := by decide +kernel
theorem dX3_missing_26 : decode cX3_missing 26 = .ok (.bipush 66, 2) := by decide +kernel
theorem dX3_missing_28 : decode cX3_missing 28 = .ok (.invokevirtual 156, 3) := by decide +kernel
theorem dX3_missing_31 : decode cX3_missing 31 = .ok (.ifCond .ne 7, 3) := by decide +kernel
theorem dX3_missing_34 : decode cX3_missing 34 = .ok (.iload_n 3, 1) := by decide +kernel
theorem dX3_missing_35 : decode cX3_missing 35 = .ok (.iconst 1, 1) := by decide +kernel
theorem dX3_missing_36 : decode cX3_missing 36 = .ok (.ior, 1) := by decide +kernel
theorem dX3_missing_37 : decode cX3_missing 37 = .ok (.istore_n 3, 1) := by decide +kernel
theorem dX3_missing_38 : decode cX3_missing 38 = .ok (.aload_n 2, 1) := by decide +kernel
theorem dX3_missing_39 : decode cX3_missing 39 = .ok (.iload_n 1, 1) := by decide +kernel
theorem dX3_missing_40 : decode cX3_missing 40 = .ok (.invokevirtual 160, 3) := by decide +kernel
theorem dX3_missing_43 : decode cX3_missing 43 = .ok (.istore 4, 2) := by decide +kernel
theorem dX3_missing_45 : decode cX3_missing 45 = .ok (.iload 4, 2) := by decide +kernel
theorem dX3_missing_47 : decode cX3_missing 47 = .ok (.ldc 99, 2) := by decide +kernel
theorem dX3_missing_49 : decode cX3_missing 49 = .ok (.if_icmp .eq 21, 3) := by decide +kernel
theorem dX3_missing_52 : decode cX3_missing 52 = .ok (.iload 4, 2) := by decide +kernel
theorem dX3_missing_54 : decode cX3_missing 54 = .ok (.ifCond .ge 16, 3) := by decide +kernel
theorem dX3_missing_57 : decode cX3_missing 57 = .ok (.aload_n 0, 1) := by decide +kernel
theorem dX3_missing_58 : decode cX3_missing 58 = .ok (.iload_n 1, 1) := by decide +kernel
theorem dX3_missing_59 : decode cX3_missing 59 = .ok (.iconst 1, 1) := by decide +kernel
theorem dX3_missing_60 : decode cX3_missing 60 = .ok (.invokevirtual 156, 3) := by decide +kernel
theorem dX3_missing_63 : decode cX3_missing 63 = .ok (.ifCond .ne 7, 3) := by decide +kernel
theorem dX3_missing_66 : decode cX3_missing 66 = .ok (.iload_n 3, 1) := by decide +kernel
theorem dX3_missing_67 : decode cX3_missing 67 = .ok (.iconst 2, 1) := by decide +kernel
theorem dX3_missing_68 : decode cX3_missing 68 = .ok (.ior, 1) := by decide +kernel
theorem dX3_missing_69 : decode cX3_missing 69 = .ok (.istore_n 3, 1) := by decide +kernel
theorem dX3_missing_70 : decode cX3_missing 70 = .ok (.aload_n 0, 1) := by decide +kernel
theorem dX3_missing_71 : decode cX3_missing 71 = .ok (.getfield 12, 3) := by decide +kernel
theorem dX3_missing_74 : decode cX3_missing 74 = .ok (.iload_n 1, 1) := by decide +kernel
theorem dX3_missing_75 : decode cX3_missing 75 = .ok (.invokevirtual 58, 3) := by decide +kernel
theorem dX3_missing_78 : decode cX3_missing 78 = .ok (.ifCond .le 18, 3) := by decide +kernel
theorem dX3_missing_81 : decode cX3_missing 81 = .ok (.aload_n 0, 1) := by decide +kernel
theorem dX3_missing_82 : decode cX3_missing 82 = .ok (.iload_n 1, 1) := by decide +kernel
theorem dX3_missing_83 : decode cX3_missing 83 = .ok (.sipush 255, 3) := by decide +kernel
theorem dX3_missing_86 : decode cX3_missing 86 = .ok (.invokevirtual 156, 3) := by decide +kernel
theorem dX3_missing_89 : decode cX3_missing 89 = .ok (.ifCond .ne 7, 3) := by decide +kernel
theorem dX3_missing_92 : decode cX3_missing 92 = .ok (.iload_n 3, 1) := by decide +kernel
theorem dX3_missing_93 : decode cX3_missing 93 = .ok (.iconst 4, 1) := by decide +kernel
theorem dX3_missing_94 : decode cX3_missing 94 = .ok (.ior, 1) := by decide +kernel
theorem dX3_missing_95 : decode cX3_missing 95 = .ok (.istore_n 3, 1) := by decide +kernel
theorem dX3_missing_96 : decode cX3_missing 96 = .ok (.iload_n 3, 1) := by decide +kernel
theorem dX3_missing_97 : decode cX3_missing 97 = .ok (.ireturn, 1) := by decide +kernel
set_option maxRecDepth 20000 in
theorem ggX3_count_X3_isFunction : GoodIn wsX3_count wsX3_isFunction := goodIn_r _ [7] (by decide +kernel) (by decide +kernel)
set_option maxRecDepth 20000 in
theorem gX3_count_X3_isFunction : GoodIn wsX3_count (va_wsS RX3 47 yX3_isFunction wsX3_isFunction) := goodIn_app (goodIn_of _ (by decide +kernel)) ggX3_count_X3_isFunction
set_option maxRecDepth 20000 in
theorem ggX3_count_X1_length : GoodIn wsX3_count wsX1_length := goodIn_r _ [12, 13, 5, 6, 7, 112, 113] (by decide +kernel) (by decide +kernel)
set_option maxRecDepth 20000 in
theorem gX3_count_X1_length : GoodIn wsX3_count (wsV RX3 58 RX1 yX1_length wsX1_length) := goodIn_app (goodIn_of _ (by decide +kernel)) ggX3_count_X1_length
set_option maxRecDepth 20000 in
theorem ggX3_count_X3_present : GoodIn wsX3_count wsX3_present := goodIn_r _ [17, 18, 1, 19, 20, 21, 22, 11, 23, 24, 25, 26, 27, 28, 29, 9, 10, 12, 13, 5, 6, 7, 30, 31, 32, 33, 34, 35, 36, 37, 38, 39, 40, 41, 42, 43, 44, 45, 46, 47, 48, 49, 50, 51, 52, 53, 54, 55, 56, 57, 58, 59, 60, 61, 62, 63, 64, 65, 104, 105, 106, 107, 108, 109, 110, 111, 112, 113, 114] (by decide +kernel) (by decide +kernel)
set_option maxRecDepth 20000 in
theorem gX3_count_X3_present : GoodIn wsX3_count (wsV RX3 74 RX3 yX3_present wsX3_present) := goodIn_app (goodIn_of _ (by decide +kernel)) ggX3_count_X3_present
set_option maxRecDepth 20000 in
theorem ggX3_count_X2_refusals : GoodIn wsX3_count wsX2_refusals := goodIn_r _ [69, 50, 70, 46, 47, 48, 49, 51, 114] (by decide +kernel) (by decide +kernel)
set_option maxRecDepth 20000 in
theorem gX3_count_X2_refusals : GoodIn wsX3_count (wsV RX3 153 RX2 yX2_refusals wsX2_refusals) := goodIn_app (goodIn_of _ (by decide +kernel)) ggX3_count_X2_refusals
set_option maxRecDepth 20000 in
theorem ggX3_count_X3_howManyStand : GoodIn wsX3_count wsX3_howManyStand := goodIn_r _ [74, 2, 75, 14, 15, 16, 6, 17, 18, 1, 19, 20, 21, 22, 11, 23, 24, 25, 26, 27, 28, 29, 9, 10, 12, 13, 5, 7, 30, 31, 32, 33, 34, 35, 36, 37, 38, 39, 40, 41, 42, 43, 44, 45, 46, 47, 48, 49, 50, 51, 52, 53, 54, 55, 56, 57, 58, 59, 60, 61, 62, 63, 64, 65, 76, 77, 78, 79, 80, 81, 82, 83, 84, 85, 86, 87, 88, 89, 90, 91, 92, 93, 94, 95, 96, 97, 98, 104, 105, 106, 107, 108, 109, 110, 111, 112, 113, 114, 115, 116, 117, 118, 119, 120, 121] (by decide +kernel) (by decide +kernel)
set_option maxRecDepth 20000 in
theorem gX3_count_X3_howManyStand : GoodIn wsX3_count (wsV RX3 163 RX3 yX3_howManyStand wsX3_howManyStand) := goodIn_app (goodIn_of _ (by decide +kernel)) ggX3_count_X3_howManyStand
set_option maxRecDepth 20000 in
theorem ggX3_count_X3_howManyMarked : GoodIn wsX3_count wsX3_howManyMarked := goodIn_r _ [102, 2, 75, 103, 104, 105, 106, 107, 108, 109, 110, 111, 115, 116, 117, 118, 119, 120, 121] (by decide +kernel) (by decide +kernel)
set_option maxRecDepth 20000 in
theorem gX3_count_X3_howManyMarked : GoodIn wsX3_count (wsV RX3 166 RX3 yX3_howManyMarked wsX3_howManyMarked) := goodIn_app (goodIn_of _ (by decide +kernel)) ggX3_count_X3_howManyMarked
theorem dX3_count_0 : decode cX3_count 0 = .ok (.iload_n 1, 1) := by decide +kernel
theorem dX3_count_1 : decode cX3_count 1 = .ok (.bipush 10, 2) := by decide +kernel
theorem dX3_count_3 : decode cX3_count 3 = .ok (.if_icmp .lt 25, 3) := by decide +kernel
theorem dX3_count_6 : decode cX3_count 6 = .ok (.iload_n 1, 1) := by decide +kernel
theorem dX3_count_7 : decode cX3_count 7 = .ok (.bipush 10, 2) := by decide +kernel
theorem dX3_count_9 : decode cX3_count 9 = .ok (.isub, 1) := by decide +kernel
theorem dX3_count_10 : decode cX3_count 10 = .ok (.invokestatic 47, 3) := by decide +kernel
theorem dX3_count_13 : decode cX3_count 13 = .ok (.ifCond .eq 15, 3) := by decide +kernel
theorem dX3_count_16 : decode cX3_count 16 = .ok (.aload_n 0, 1) := by decide +kernel
theorem dX3_count_17 : decode cX3_count 17 = .ok (.getfield 12, 3) := by decide +kernel
theorem dX3_count_20 : decode cX3_count 20 = .ok (.iload_n 1, 1) := by decide +kernel
theorem dX3_count_21 : decode cX3_count 21 = .ok (.bipush 10, 2) := by decide +kernel
theorem dX3_count_23 : decode cX3_count 23 = .ok (.isub, 1) := by decide +kernel
theorem dX3_count_24 : decode cX3_count 24 = .ok (.invokevirtual 58, 3) := by decide +kernel
theorem dX3_count_27 : decode cX3_count 27 = .ok (.ireturn, 1) := by decide +kernel
theorem dX3_count_28 : decode cX3_count 28 = .ok (.iload_n 1, 1) := by decide +kernel
theorem dX3_count_29 : decode cX3_count 29 = .ok (.bipush 20, 2) := by decide +kernel
theorem dX3_count_31 : decode cX3_count 31 = .ok (.if_icmp .lt 25, 3) := by decide +kernel
theorem dX3_count_34 : decode cX3_count 34 = .ok (.iload_n 1, 1) := by decide +kernel
theorem dX3_count_35 : decode cX3_count 35 = .ok (.bipush 20, 2) := by decide +kernel
theorem dX3_count_37 : decode cX3_count 37 = .ok (.isub, 1) := by decide +kernel
theorem dX3_count_38 : decode cX3_count 38 = .ok (.invokestatic 47, 3) := by decide +kernel
theorem dX3_count_41 : decode cX3_count 41 = .ok (.ifCond .eq 15, 3) := by decide +kernel
theorem dX3_count_44 : decode cX3_count 44 = .ok (.aload_n 0, 1) := by decide +kernel
theorem dX3_count_45 : decode cX3_count 45 = .ok (.invokevirtual 74, 3) := by decide +kernel
theorem dX3_count_48 : decode cX3_count 48 = .ok (.iload_n 1, 1) := by decide +kernel
theorem dX3_count_49 : decode cX3_count 49 = .ok (.bipush 20, 2) := by decide +kernel
theorem dX3_count_51 : decode cX3_count 51 = .ok (.isub, 1) := by decide +kernel
theorem dX3_count_52 : decode cX3_count 52 = .ok (.invokevirtual 153, 3) := by decide +kernel
theorem dX3_count_55 : decode cX3_count 55 = .ok (.ireturn, 1) := by decide +kernel
theorem dX3_count_56 : decode cX3_count 56 = .ok (.iload_n 1, 1) := by decide +kernel
theorem dX3_count_57 : decode cX3_count 57 = .ok (.tableswitch 72 0 5 #[39, 44, 49, 55, 61, 67], 39) := by decide +kernel
theorem dX3_count_96 : decode cX3_count 96 = .ok (.aload_n 0, 1) := by decide +kernel
theorem dX3_count_97 : decode cX3_count 97 = .ok (.getfield 40, 3) := by decide +kernel
theorem dX3_count_100 : decode cX3_count 100 = .ok (.ireturn, 1) := by decide +kernel
theorem dX3_count_101 : decode cX3_count 101 = .ok (.aload_n 0, 1) := by decide +kernel
theorem dX3_count_102 : decode cX3_count 102 = .ok (.getfield 31, 3) := by decide +kernel
theorem dX3_count_105 : decode cX3_count 105 = .ok (.ireturn, 1) := by decide +kernel
theorem dX3_count_106 : decode cX3_count 106 = .ok (.aload_n 0, 1) := by decide +kernel
theorem dX3_count_107 : decode cX3_count 107 = .ok (.iconst 0, 1) := by decide +kernel
theorem dX3_count_108 : decode cX3_count 108 = .ok (.invokevirtual 163, 3) := by decide +kernel
theorem dX3_count_111 : decode cX3_count 111 = .ok (.ireturn, 1) := by decide +kernel
theorem dX3_count_112 : decode cX3_count 112 = .ok (.aload_n 0, 1) := by decide +kernel
theorem dX3_count_113 : decode cX3_count 113 = .ok (.iconst 1, 1) := by decide +kernel
theorem dX3_count_114 : decode cX3_count 114 = .ok (.invokevirtual 163, 3) := by decide +kernel
theorem dX3_count_117 : decode cX3_count 117 = .ok (.ireturn, 1) := by decide +kernel
theorem dX3_count_118 : decode cX3_count 118 = .ok (.aload_n 0, 1) := by decide +kernel
theorem dX3_count_119 : decode cX3_count 119 = .ok (.iconst 2, 1) := by decide +kernel
theorem dX3_count_120 : decode cX3_count 120 = .ok (.invokevirtual 163, 3) := by decide +kernel
theorem dX3_count_123 : decode cX3_count 123 = .ok (.ireturn, 1) := by decide +kernel
theorem dX3_count_124 : decode cX3_count 124 = .ok (.aload_n 0, 1) := by decide +kernel
theorem dX3_count_125 : decode cX3_count 125 = .ok (.invokevirtual 166, 3) := by decide +kernel
theorem dX3_count_128 : decode cX3_count 128 = .ok (.ireturn, 1) := by decide +kernel
theorem dX3_count_129 : decode cX3_count 129 = .ok (.iconst (-1), 1) := by decide +kernel
theorem dX3_count_130 : decode cX3_count 130 = .ok (.ireturn, 1) := by decide +kernel
theorem dX3_isFunction_0 : decode cX3_isFunction 0 = .ok (.iload_n 0, 1) := by decide +kernel
theorem dX3_isFunction_1 : decode cX3_isFunction 1 = .ok (.ifCond .lt 13, 3) := by decide +kernel
theorem dX3_isFunction_4 : decode cX3_isFunction 4 = .ok (.iload_n 0, 1) := by decide +kernel
theorem dX3_isFunction_5 : decode cX3_isFunction 5 = .ok (.bipush 6, 2) := by decide +kernel
theorem dX3_isFunction_7 : decode cX3_isFunction 7 = .ok (.if_icmp .ge 7, 3) := by decide +kernel
theorem dX3_isFunction_10 : decode cX3_isFunction 10 = .ok (.iconst 1, 1) := by decide +kernel
theorem dX3_isFunction_11 : decode cX3_isFunction 11 = .ok (.goto 4, 3) := by decide +kernel
theorem dX3_isFunction_14 : decode cX3_isFunction 14 = .ok (.iconst 0, 1) := by decide +kernel
theorem dX3_isFunction_15 : decode cX3_isFunction 15 = .ok (.ireturn, 1) := by decide +kernel
theorem dX3_isRun_0 : decode cX3_isRun 0 = .ok (.iload_n 0, 1) := by decide +kernel
theorem dX3_isRun_1 : decode cX3_isRun 1 = .ok (.ifCond .lt 14, 3) := by decide +kernel
theorem dX3_isRun_4 : decode cX3_isRun 4 = .ok (.iload_n 0, 1) := by decide +kernel
theorem dX3_isRun_5 : decode cX3_isRun 5 = .ok (.sipush 256, 3) := by decide +kernel
theorem dX3_isRun_8 : decode cX3_isRun 8 = .ok (.if_icmp .ge 7, 3) := by decide +kernel
theorem dX3_isRun_11 : decode cX3_isRun 11 = .ok (.iconst 1, 1) := by decide +kernel
theorem dX3_isRun_12 : decode cX3_isRun 12 = .ok (.goto 4, 3) := by decide +kernel
theorem dX3_isRun_15 : decode cX3_isRun 15 = .ok (.iconst 0, 1) := by decide +kernel
theorem dX3_isRun_16 : decode cX3_isRun 16 = .ok (.ireturn, 1) := by decide +kernel
theorem dX3_isWithinLimit_0 : decode cX3_isWithinLimit 0 = .ok (.iload_n 0, 1) := by decide +kernel
theorem dX3_isWithinLimit_1 : decode cX3_isWithinLimit 1 = .ok (.ldc 170, 2) := by decide +kernel
theorem dX3_isWithinLimit_3 : decode cX3_isWithinLimit 3 = .ok (.if_icmp .lt 13, 3) := by decide +kernel
theorem dX3_isWithinLimit_6 : decode cX3_isWithinLimit 6 = .ok (.iload_n 0, 1) := by decide +kernel
theorem dX3_isWithinLimit_7 : decode cX3_isWithinLimit 7 = .ok (.ldc 171, 2) := by decide +kernel
theorem dX3_isWithinLimit_9 : decode cX3_isWithinLimit 9 = .ok (.if_icmp .gt 7, 3) := by decide +kernel
theorem dX3_isWithinLimit_12 : decode cX3_isWithinLimit 12 = .ok (.iconst 1, 1) := by decide +kernel
theorem dX3_isWithinLimit_13 : decode cX3_isWithinLimit 13 = .ok (.goto 4, 3) := by decide +kernel
theorem dX3_isWithinLimit_16 : decode cX3_isWithinLimit 16 = .ok (.iconst 0, 1) := by decide +kernel
theorem dX3_isWithinLimit_17 : decode cX3_isWithinLimit 17 = .ok (.ireturn, 1) := by decide +kernel
theorem dX3_runNumber_0 : decode cX3_runNumber 0 = .ok (.iload_n 0, 1) := by decide +kernel
theorem dX3_runNumber_1 : decode cX3_runNumber 1 = .ok (.ifCond .lt 19, 3) := by decide +kernel
theorem dX3_runNumber_4 : decode cX3_runNumber 4 = .ok (.iload_n 0, 1) := by decide +kernel
theorem dX3_runNumber_5 : decode cX3_runNumber 5 = .ok (.bipush 16, 2) := by decide +kernel
theorem dX3_runNumber_7 : decode cX3_runNumber 7 = .ok (.if_icmp .ge 13, 3) := by decide +kernel
theorem dX3_runNumber_10 : decode cX3_runNumber 10 = .ok (.iload_n 1, 1) := by decide +kernel
theorem dX3_runNumber_11 : decode cX3_runNumber 11 = .ok (.ifCond .lt 9, 3) := by decide +kernel
theorem dX3_runNumber_14 : decode cX3_runNumber 14 = .ok (.iload_n 1, 1) := by decide +kernel
theorem dX3_runNumber_15 : decode cX3_runNumber 15 = .ok (.bipush 16, 2) := by decide +kernel
theorem dX3_runNumber_17 : decode cX3_runNumber 17 = .ok (.if_icmp .lt 5, 3) := by decide +kernel
theorem dX3_runNumber_20 : decode cX3_runNumber 20 = .ok (.iconst (-1), 1) := by decide +kernel
theorem dX3_runNumber_21 : decode cX3_runNumber 21 = .ok (.ireturn, 1) := by decide +kernel
theorem dX3_runNumber_22 : decode cX3_runNumber 22 = .ok (.iload_n 0, 1) := by decide +kernel
theorem dX3_runNumber_23 : decode cX3_runNumber 23 = .ok (.bipush 16, 2) := by decide +kernel
theorem dX3_runNumber_25 : decode cX3_runNumber 25 = .ok (.imul, 1) := by decide +kernel
theorem dX3_runNumber_26 : decode cX3_runNumber 26 = .ok (.iload_n 1, 1) := by decide +kernel
theorem dX3_runNumber_27 : decode cX3_runNumber 27 = .ok (.iadd, 1) := by decide +kernel
theorem dX3_runNumber_28 : decode cX3_runNumber 28 = .ok (.ireturn, 1) := by decide +kernel
set_option maxRecDepth 20000 in
theorem ggX3_canBeClaimed_X3_isWithinLimit : GoodIn wsX3_canBeClaimed wsX3_isWithinLimit := goodIn_r _ [4, 5, 6] (by decide +kernel) (by decide +kernel)
set_option maxRecDepth 20000 in
theorem gX3_canBeClaimed_X3_isWithinLimit : GoodIn wsX3_canBeClaimed (va_wsS RX3 172 yX3_isWithinLimit wsX3_isWithinLimit) := goodIn_app (goodIn_of _ (by decide +kernel)) ggX3_canBeClaimed_X3_isWithinLimit
set_option maxRecDepth 20000 in
theorem ggX3_canBeClaimed_X3_isRun : GoodIn wsX3_canBeClaimed wsX3_isRun := goodIn_r _ [9] (by decide +kernel) (by decide +kernel)
set_option maxRecDepth 20000 in
theorem gX3_canBeClaimed_X3_isRun : GoodIn wsX3_canBeClaimed (va_wsS RX3 175 yX3_isRun wsX3_isRun) := goodIn_app (goodIn_of _ (by decide +kernel)) ggX3_canBeClaimed_X3_isRun
set_option maxRecDepth 20000 in
theorem ggX3_canBeClaimed_X3_isFunction : GoodIn wsX3_canBeClaimed wsX3_isFunction := goodIn_r _ [12] (by decide +kernel) (by decide +kernel)
set_option maxRecDepth 20000 in
theorem gX3_canBeClaimed_X3_isFunction : GoodIn wsX3_canBeClaimed (va_wsS RX3 47 yX3_isFunction wsX3_isFunction) := goodIn_app (goodIn_of _ (by decide +kernel)) ggX3_canBeClaimed_X3_isFunction
theorem dX3_canBeClaimed_0 : decode cX3_canBeClaimed 0 = .ok (.iload_n 0, 1) := by decide +kernel
theorem dX3_canBeClaimed_1 : decode cX3_canBeClaimed 1 = .ok (.tableswitch 133 0 7 #[47, 72, 72, 74, 72, 92, 112, 128], 47) := by decide +kernel
theorem dX3_canBeClaimed_48 : decode cX3_canBeClaimed 48 = .ok (.iload_n 1, 1) := by decide +kernel
theorem dX3_canBeClaimed_49 : decode cX3_canBeClaimed 49 = .ok (.invokestatic 172, 3) := by decide +kernel
theorem dX3_canBeClaimed_52 : decode cX3_canBeClaimed 52 = .ok (.ifCond .eq 19, 3) := by decide +kernel
theorem dX3_canBeClaimed_55 : decode cX3_canBeClaimed 55 = .ok (.iload_n 2, 1) := by decide +kernel
theorem dX3_canBeClaimed_56 : decode cX3_canBeClaimed 56 = .ok (.invokestatic 172, 3) := by decide +kernel
theorem dX3_canBeClaimed_59 : decode cX3_canBeClaimed 59 = .ok (.ifCond .eq 12, 3) := by decide +kernel
theorem dX3_canBeClaimed_62 : decode cX3_canBeClaimed 62 = .ok (.iload_n 1, 1) := by decide +kernel
theorem dX3_canBeClaimed_63 : decode cX3_canBeClaimed 63 = .ok (.iload_n 2, 1) := by decide +kernel
theorem dX3_canBeClaimed_64 : decode cX3_canBeClaimed 64 = .ok (.if_icmp .gt 7, 3) := by decide +kernel
theorem dX3_canBeClaimed_67 : decode cX3_canBeClaimed 67 = .ok (.iconst 1, 1) := by decide +kernel
theorem dX3_canBeClaimed_68 : decode cX3_canBeClaimed 68 = .ok (.goto 4, 3) := by decide +kernel
theorem dX3_canBeClaimed_71 : decode cX3_canBeClaimed 71 = .ok (.iconst 0, 1) := by decide +kernel
theorem dX3_canBeClaimed_72 : decode cX3_canBeClaimed 72 = .ok (.ireturn, 1) := by decide +kernel
theorem dX3_canBeClaimed_73 : decode cX3_canBeClaimed 73 = .ok (.iconst 1, 1) := by decide +kernel
theorem dX3_canBeClaimed_74 : decode cX3_canBeClaimed 74 = .ok (.ireturn, 1) := by decide +kernel
theorem dX3_canBeClaimed_75 : decode cX3_canBeClaimed 75 = .ok (.iload_n 1, 1) := by decide +kernel
theorem dX3_canBeClaimed_76 : decode cX3_canBeClaimed 76 = .ok (.iconst 1, 1) := by decide +kernel
theorem dX3_canBeClaimed_77 : decode cX3_canBeClaimed 77 = .ok (.if_icmp .lt 14, 3) := by decide +kernel
theorem dX3_canBeClaimed_80 : decode cX3_canBeClaimed 80 = .ok (.iload_n 1, 1) := by decide +kernel
theorem dX3_canBeClaimed_81 : decode cX3_canBeClaimed 81 = .ok (.sipush 1000, 3) := by decide +kernel
theorem dX3_canBeClaimed_84 : decode cX3_canBeClaimed 84 = .ok (.if_icmp .gt 7, 3) := by decide +kernel
theorem dX3_canBeClaimed_87 : decode cX3_canBeClaimed 87 = .ok (.iconst 1, 1) := by decide +kernel
theorem dX3_canBeClaimed_88 : decode cX3_canBeClaimed 88 = .ok (.goto 4, 3) := by decide +kernel
theorem dX3_canBeClaimed_91 : decode cX3_canBeClaimed 91 = .ok (.iconst 0, 1) := by decide +kernel
theorem dX3_canBeClaimed_92 : decode cX3_canBeClaimed 92 = .ok (.ireturn, 1) := by decide +kernel
theorem dX3_canBeClaimed_93 : decode cX3_canBeClaimed 93 = .ok (.iload_n 1, 1) := by decide +kernel
theorem dX3_canBeClaimed_94 : decode cX3_canBeClaimed 94 = .ok (.invokestatic 175, 3) := by decide +kernel
theorem dX3_canBeClaimed_97 : decode cX3_canBeClaimed 97 = .ok (.ifCond .eq 14, 3) := by decide +kernel
theorem dX3_canBeClaimed_100 : decode cX3_canBeClaimed 100 = .ok (.iload_n 2, 1) := by decide +kernel
theorem dX3_canBeClaimed_101 : decode cX3_canBeClaimed 101 = .ok (.invokestatic 172, 3) := by decide +kernel
theorem dX3_canBeClaimed_104 : decode cX3_canBeClaimed 104 = .ok (.ifCond .eq 7, 3) := by decide +kernel
theorem dX3_canBeClaimed_107 : decode cX3_canBeClaimed 107 = .ok (.iconst 1, 1) := by decide +kernel
theorem dX3_canBeClaimed_108 : decode cX3_canBeClaimed 108 = .ok (.goto 4, 3) := by decide +kernel
theorem dX3_canBeClaimed_111 : decode cX3_canBeClaimed 111 = .ok (.iconst 0, 1) := by decide +kernel
theorem dX3_canBeClaimed_112 : decode cX3_canBeClaimed 112 = .ok (.ireturn, 1) := by decide +kernel
theorem dX3_canBeClaimed_113 : decode cX3_canBeClaimed 113 = .ok (.iload_n 1, 1) := by decide +kernel
theorem dX3_canBeClaimed_114 : decode cX3_canBeClaimed 114 = .ok (.ifCond .lt 13, 3) := by decide +kernel
theorem dX3_canBeClaimed_117 : decode cX3_canBeClaimed 117 = .ok (.iload_n 1, 1) := by decide +kernel
theorem dX3_canBeClaimed_118 : decode cX3_canBeClaimed 118 = .ok (.bipush 16, 2) := by decide +kernel
theorem dX3_canBeClaimed_120 : decode cX3_canBeClaimed 120 = .ok (.if_icmp .gt 7, 3) := by decide +kernel
theorem dX3_canBeClaimed_123 : decode cX3_canBeClaimed 123 = .ok (.iconst 1, 1) := by decide +kernel
theorem dX3_canBeClaimed_124 : decode cX3_canBeClaimed 124 = .ok (.goto 4, 3) := by decide +kernel
theorem dX3_canBeClaimed_127 : decode cX3_canBeClaimed 127 = .ok (.iconst 0, 1) := by decide +kernel
theorem dX3_canBeClaimed_128 : decode cX3_canBeClaimed 128 = .ok (.ireturn, 1) := by decide +kernel
theorem dX3_canBeClaimed_129 : decode cX3_canBeClaimed 129 = .ok (.iload_n 1, 1) := by decide +kernel
theorem dX3_canBeClaimed_130 : decode cX3_canBeClaimed 130 = .ok (.invokestatic 47, 3) := by decide +kernel
theorem dX3_canBeClaimed_133 : decode cX3_canBeClaimed 133 = .ok (.ireturn, 1) := by decide +kernel
theorem dX3_canBeClaimed_134 : decode cX3_canBeClaimed 134 = .ok (.iconst 0, 1) := by decide +kernel
theorem dX3_canBeClaimed_135 : decode cX3_canBeClaimed 135 = .ok (.ireturn, 1) := by decide +kernel
theorem dX3_unsettle_0 : decode cX3_unsettle 0 = .ok (.aload_n 0, 1) := by decide +kernel
theorem dX3_unsettle_1 : decode cX3_unsettle 1 = .ok (.aload_n 0, 1) := by decide +kernel
theorem dX3_unsettle_2 : decode cX3_unsettle 2 = .ok (.getfield 23, 3) := by decide +kernel
theorem dX3_unsettle_5 : decode cX3_unsettle 5 = .ok (.iload_n 1, 1) := by decide +kernel
theorem dX3_unsettle_6 : decode cX3_unsettle 6 = .ok (.invokestatic 178, 3) := by decide +kernel
theorem dX3_unsettle_9 : decode cX3_unsettle 9 = .ok (.putfield 23, 3) := by decide +kernel
theorem dX3_unsettle_12 : decode cX3_unsettle 12 = .ok (.return_, 1) := by decide +kernel
set_option maxRecDepth 20000 in
theorem ggX3_present_X1_runAll : GoodIn wsX3_present wsX1_runAll := goodIn_r _ [8, 9, 10, 11, 7, 12, 13, 14, 15, 16, 17, 18, 19, 20, 21, 22, 23, 24, 25, 26, 27, 28, 29, 30, 31, 32, 33, 34, 35, 36, 37, 38, 39, 40, 41, 42, 43, 44, 45, 46, 47, 48, 49, 50, 51, 52, 53, 54, 55, 56, 57, 66, 67, 68] (by decide +kernel) (by decide +kernel)
set_option maxRecDepth 20000 in
theorem gX3_present_X1_runAll : GoodIn wsX3_present (wsV RX3 183 RX1 yX1_runAll wsX1_runAll) := goodIn_app (goodIn_of _ (by decide +kernel)) ggX3_present_X1_runAll
theorem dX3_present_0 : decode cX3_present 0 = .ok (.aload_n 0, 1) := by decide +kernel
theorem dX3_present_1 : decode cX3_present 1 = .ok (.getfield 23, 3) := by decide +kernel
theorem dX3_present_4 : decode cX3_present 4 = .ok (.istore_n 1, 1) := by decide +kernel
theorem dX3_present_5 : decode cX3_present 5 = .ok (.iload_n 1, 1) := by decide +kernel
theorem dX3_present_6 : decode cX3_present 6 = .ok (.bipush 6, 2) := by decide +kernel
theorem dX3_present_8 : decode cX3_present 8 = .ok (.if_icmp .ge 21, 3) := by decide +kernel
theorem dX3_present_11 : decode cX3_present 11 = .ok (.aload_n 0, 1) := by decide +kernel
theorem dX3_present_12 : decode cX3_present 12 = .ok (.getfield 12, 3) := by decide +kernel
theorem dX3_present_15 : decode cX3_present 15 = .ok (.iload_n 1, 1) := by decide +kernel
theorem dX3_present_16 : decode cX3_present 16 = .ok (.aload_n 0, 1) := by decide +kernel
theorem dX3_present_17 : decode cX3_present 17 = .ok (.getfield 19, 3) := by decide +kernel
theorem dX3_present_20 : decode cX3_present 20 = .ok (.invokevirtual 183, 3) := by decide +kernel
theorem dX3_present_23 : decode cX3_present 23 = .ok (.iinc 1 1, 3) := by decide +kernel
theorem dX3_present_26 : decode cX3_present 26 = .ok (.goto (-21), 3) := by decide +kernel
theorem dX3_present_29 : decode cX3_present 29 = .ok (.aload_n 0, 1) := by decide +kernel
theorem dX3_present_30 : decode cX3_present 30 = .ok (.bipush 6, 2) := by decide +kernel
theorem dX3_present_32 : decode cX3_present 32 = .ok (.putfield 23, 3) := by decide +kernel
theorem dX3_present_35 : decode cX3_present 35 = .ok (.aload_n 0, 1) := by decide +kernel
theorem dX3_present_36 : decode cX3_present 36 = .ok (.getfield 19, 3) := by decide +kernel
theorem dX3_present_39 : decode cX3_present 39 = .ok (.areturn, 1) := by decide +kernel
theorem dX3_keptState_0 : decode cX3_keptState 0 = .ok (.iload_n 1, 1) := by decide +kernel
theorem dX3_keptState_1 : decode cX3_keptState 1 = .ok (.ifCond .lt 29, 3) := by decide +kernel
theorem dX3_keptState_4 : decode cX3_keptState 4 = .ok (.iload_n 1, 1) := by decide +kernel
theorem dX3_keptState_5 : decode cX3_keptState 5 = .ok (.aload_n 0, 1) := by decide +kernel
theorem dX3_keptState_6 : decode cX3_keptState 6 = .ok (.getfield 31, 3) := by decide +kernel
theorem dX3_keptState_9 : decode cX3_keptState 9 = .ok (.if_icmp .gt 21, 3) := by decide +kernel
theorem dX3_keptState_12 : decode cX3_keptState 12 = .ok (.iload_n 1, 1) := by decide +kernel
theorem dX3_keptState_13 : decode cX3_keptState 13 = .ok (.aload_n 0, 1) := by decide +kernel
theorem dX3_keptState_14 : decode cX3_keptState 14 = .ok (.getfield 27, 3) := by decide +kernel
theorem dX3_keptState_17 : decode cX3_keptState 17 = .ok (.arraylength, 1) := by decide +kernel
theorem dX3_keptState_18 : decode cX3_keptState 18 = .ok (.if_icmp .ge 12, 3) := by decide +kernel
theorem dX3_keptState_21 : decode cX3_keptState 21 = .ok (.aload_n 0, 1) := by decide +kernel
theorem dX3_keptState_22 : decode cX3_keptState 22 = .ok (.getfield 27, 3) := by decide +kernel
theorem dX3_keptState_25 : decode cX3_keptState 25 = .ok (.iload_n 1, 1) := by decide +kernel
theorem dX3_keptState_26 : decode cX3_keptState 26 = .ok (.aaload, 1) := by decide +kernel
theorem dX3_keptState_27 : decode cX3_keptState 27 = .ok (.goto 4, 3) := by decide +kernel
theorem dX3_keptState_30 : decode cX3_keptState 30 = .ok (.aconst_null, 1) := by decide +kernel
theorem dX3_keptState_31 : decode cX3_keptState 31 = .ok (.areturn, 1) := by decide +kernel
theorem dX3_claimAt_0 : decode cX3_claimAt 0 = .ok (.iload_n 1, 1) := by decide +kernel
theorem dX3_claimAt_1 : decode cX3_claimAt 1 = .ok (.ifCond .lt 29, 3) := by decide +kernel
theorem dX3_claimAt_4 : decode cX3_claimAt 4 = .ok (.iload_n 1, 1) := by decide +kernel
theorem dX3_claimAt_5 : decode cX3_claimAt 5 = .ok (.aload_n 0, 1) := by decide +kernel
theorem dX3_claimAt_6 : decode cX3_claimAt 6 = .ok (.getfield 40, 3) := by decide +kernel
theorem dX3_claimAt_9 : decode cX3_claimAt 9 = .ok (.if_icmp .ge 21, 3) := by decide +kernel
theorem dX3_claimAt_12 : decode cX3_claimAt 12 = .ok (.iload_n 1, 1) := by decide +kernel
theorem dX3_claimAt_13 : decode cX3_claimAt 13 = .ok (.aload_n 0, 1) := by decide +kernel
theorem dX3_claimAt_14 : decode cX3_claimAt 14 = .ok (.getfield 36, 3) := by decide +kernel
theorem dX3_claimAt_17 : decode cX3_claimAt 17 = .ok (.arraylength, 1) := by decide +kernel
theorem dX3_claimAt_18 : decode cX3_claimAt 18 = .ok (.if_icmp .ge 12, 3) := by decide +kernel
theorem dX3_claimAt_21 : decode cX3_claimAt 21 = .ok (.aload_n 0, 1) := by decide +kernel
theorem dX3_claimAt_22 : decode cX3_claimAt 22 = .ok (.getfield 36, 3) := by decide +kernel
theorem dX3_claimAt_25 : decode cX3_claimAt 25 = .ok (.iload_n 1, 1) := by decide +kernel
theorem dX3_claimAt_26 : decode cX3_claimAt 26 = .ok (.aaload, 1) := by decide +kernel
theorem dX3_claimAt_27 : decode cX3_claimAt 27 = .ok (.goto 4, 3) := by decide +kernel
theorem dX3_claimAt_30 : decode cX3_claimAt 30 = .ok (.aconst_null, 1) := by decide +kernel
theorem dX3_claimAt_31 : decode cX3_claimAt 31 = .ok (.areturn, 1) := by decide +kernel
set_option maxRecDepth 20000 in
theorem ggX3_standing_X0_isHeldIn : GoodIn wsX3_standing wsX0_isHeldIn := goodIn_r _ [6, 7, 8, 9, 5, 10, 11, 12, 13, 14, 15, 16, 17, 18, 19, 20, 21, 22, 23, 24, 25, 26, 27, 28, 29, 30, 31, 32, 33, 34] (by decide +kernel) (by decide +kernel)
set_option maxRecDepth 20000 in
theorem gX3_standing_X0_isHeldIn : GoodIn wsX3_standing (wsV RX3 88 RX0 yX0_isHeldIn wsX0_isHeldIn) := goodIn_app (goodIn_of _ (by decide +kernel)) ggX3_standing_X0_isHeldIn
theorem dX3_standing_0 : decode cX3_standing 0 = .ok (.aload_n 0, 1) := by decide +kernel
theorem dX3_standing_1 : decode cX3_standing 1 = .ok (.aload_n 1, 1) := by decide +kernel
theorem dX3_standing_2 : decode cX3_standing 2 = .ok (.invokevirtual 88, 3) := by decide +kernel
theorem dX3_standing_5 : decode cX3_standing 5 = .ok (.ifCond .eq 5, 3) := by decide +kernel
theorem dX3_standing_8 : decode cX3_standing 8 = .ok (.iconst 0, 1) := by decide +kernel
theorem dX3_standing_9 : decode cX3_standing 9 = .ok (.ireturn, 1) := by decide +kernel
theorem dX3_standing_10 : decode cX3_standing 10 = .ok (.aload_n 0, 1) := by decide +kernel
theorem dX3_standing_11 : decode cX3_standing 11 = .ok (.getfield 92, 3) := by decide +kernel
theorem dX3_standing_14 : decode cX3_standing 14 = .ok (.iconst (-1), 1) := by decide +kernel
theorem dX3_standing_15 : decode cX3_standing 15 = .ok (.if_icmp .ne 7, 3) := by decide +kernel
theorem dX3_standing_18 : decode cX3_standing 18 = .ok (.iconst 1, 1) := by decide +kernel
theorem dX3_standing_19 : decode cX3_standing 19 = .ok (.goto 4, 3) := by decide +kernel
theorem dX3_standing_22 : decode cX3_standing 22 = .ok (.iconst 2, 1) := by decide +kernel
theorem dX3_standing_23 : decode cX3_standing 23 = .ok (.ireturn, 1) := by decide +kernel
set_option maxRecDepth 20000 in
theorem ggX3_lastKeptHolding_X3_keptState : GoodIn wsX3_lastKeptHolding wsX3_keptState := goodIn_r _ [7, 1, 8, 34, 35, 36, 37, 38, 39, 40, 41] (by decide +kernel) (by decide +kernel)
set_option maxRecDepth 20000 in
theorem gX3_lastKeptHolding_X3_keptState : GoodIn wsX3_lastKeptHolding (wsV RX3 95 RX3 yX3_keptState wsX3_keptState) := goodIn_app (goodIn_of _ (by decide +kernel)) ggX3_lastKeptHolding_X3_keptState
set_option maxRecDepth 20000 in
theorem ggX3_lastKeptHolding_X0_isHeldIn : GoodIn wsX3_lastKeptHolding wsX0_isHeldIn := goodIn_r _ [13, 14, 15, 16, 12, 17, 18, 19, 20, 21, 22, 23, 24, 25, 26, 27, 28, 29, 30, 31, 32, 33, 42, 43, 44, 45, 46, 47, 48, 49] (by decide +kernel) (by decide +kernel)
set_option maxRecDepth 20000 in
theorem gX3_lastKeptHolding_X0_isHeldIn : GoodIn wsX3_lastKeptHolding (wsV RX3 88 RX0 yX0_isHeldIn wsX0_isHeldIn) := goodIn_app (goodIn_of _ (by decide +kernel)) ggX3_lastKeptHolding_X0_isHeldIn
theorem dX3_lastKeptHolding_0 : decode cX3_lastKeptHolding 0 = .ok (.aload_n 0, 1) := by decide +kernel
theorem dX3_lastKeptHolding_1 : decode cX3_lastKeptHolding 1 = .ok (.getfield 31, 3) := by decide +kernel
theorem dX3_lastKeptHolding_4 : decode cX3_lastKeptHolding 4 = .ok (.istore_n 2, 1) := by decide +kernel
theorem dX3_lastKeptHolding_5 : decode cX3_lastKeptHolding 5 = .ok (.iload_n 2, 1) := by decide +kernel
theorem dX3_lastKeptHolding_6 : decode cX3_lastKeptHolding 6 = .ok (.aload_n 1, 1) := by decide +kernel
theorem dX3_lastKeptHolding_7 : decode cX3_lastKeptHolding 7 = .ok (.getfield 187, 3) := by decide +kernel
theorem dX3_lastKeptHolding_10 : decode cX3_lastKeptHolding 10 = .ok (.if_icmp .lt 29, 3) := by decide +kernel
theorem dX3_lastKeptHolding_13 : decode cX3_lastKeptHolding 13 = .ok (.aload_n 0, 1) := by decide +kernel
theorem dX3_lastKeptHolding_14 : decode cX3_lastKeptHolding 14 = .ok (.iload_n 2, 1) := by decide +kernel
theorem dX3_lastKeptHolding_15 : decode cX3_lastKeptHolding 15 = .ok (.invokevirtual 95, 3) := by decide +kernel
theorem dX3_lastKeptHolding_18 : decode cX3_lastKeptHolding 18 = .ok (.astore_n 3, 1) := by decide +kernel
theorem dX3_lastKeptHolding_19 : decode cX3_lastKeptHolding 19 = .ok (.aload_n 3, 1) := by decide +kernel
theorem dX3_lastKeptHolding_20 : decode cX3_lastKeptHolding 20 = .ok (.ifnull 13, 3) := by decide +kernel
theorem dX3_lastKeptHolding_23 : decode cX3_lastKeptHolding 23 = .ok (.aload_n 1, 1) := by decide +kernel
theorem dX3_lastKeptHolding_24 : decode cX3_lastKeptHolding 24 = .ok (.aload_n 3, 1) := by decide +kernel
theorem dX3_lastKeptHolding_25 : decode cX3_lastKeptHolding 25 = .ok (.invokevirtual 88, 3) := by decide +kernel
theorem dX3_lastKeptHolding_28 : decode cX3_lastKeptHolding 28 = .ok (.ifCond .eq 5, 3) := by decide +kernel
theorem dX3_lastKeptHolding_31 : decode cX3_lastKeptHolding 31 = .ok (.iload_n 2, 1) := by decide +kernel
theorem dX3_lastKeptHolding_32 : decode cX3_lastKeptHolding 32 = .ok (.ireturn, 1) := by decide +kernel
theorem dX3_lastKeptHolding_33 : decode cX3_lastKeptHolding 33 = .ok (.iinc 2 (-1), 3) := by decide +kernel
theorem dX3_lastKeptHolding_36 : decode cX3_lastKeptHolding 36 = .ok (.goto (-31), 3) := by decide +kernel
theorem dX3_lastKeptHolding_39 : decode cX3_lastKeptHolding 39 = .ok (.iconst (-1), 1) := by decide +kernel
theorem dX3_lastKeptHolding_40 : decode cX3_lastKeptHolding 40 = .ok (.ireturn, 1) := by decide +kernel
set_option maxRecDepth 20000 in
theorem ggX3_firstMend_X3_present : GoodIn wsX3_firstMend wsX3_present := goodIn_r _ [9, 10, 11, 12, 13, 14, 15, 16, 17, 18, 19, 20, 21, 22, 23, 24, 25, 26, 27, 28, 8, 29, 30, 31, 32, 33, 34, 35, 36, 37, 38, 39, 40, 41, 42, 43, 44, 45, 46, 47, 48, 49, 50, 51, 52, 53, 54, 55, 56, 57, 58, 59, 60, 61, 62, 63, 64, 65, 101, 102, 103, 104, 105, 106, 107, 108, 109, 110, 111] (by decide +kernel) (by decide +kernel)
set_option maxRecDepth 20000 in
theorem gX3_firstMend_X3_present : GoodIn wsX3_firstMend (wsV RX3 74 RX3 yX3_present wsX3_present) := goodIn_app (goodIn_of _ (by decide +kernel)) ggX3_firstMend_X3_present
set_option maxRecDepth 20000 in
theorem ggX3_firstMend_X2_least : GoodIn wsX3_firstMend wsX2_least := goodIn_r _ [69, 50, 70, 46, 47, 48, 49, 51, 111] (by decide +kernel) (by decide +kernel)
set_option maxRecDepth 20000 in
theorem gX3_firstMend_X2_least : GoodIn wsX3_firstMend (wsV RX3 160 RX2 yX2_least wsX2_least) := goodIn_app (goodIn_of _ (by decide +kernel)) ggX3_firstMend_X2_least
set_option maxRecDepth 20000 in
theorem ggX3_firstMend_X2_greatestDivisor : GoodIn wsX3_firstMend wsX2_greatestDivisor := goodIn_r _ [74, 50, 75, 76, 40, 77, 70, 46, 47, 48, 49, 51, 78, 79, 80, 111] (by decide +kernel) (by decide +kernel)
set_option maxRecDepth 20000 in
theorem gX3_firstMend_X2_greatestDivisor : GoodIn wsX3_firstMend (wsV RX3 190 RX2 yX2_greatestDivisor wsX2_greatestDivisor) := goodIn_app (goodIn_of _ (by decide +kernel)) ggX3_firstMend_X2_greatestDivisor
set_option maxRecDepth 20000 in
theorem ggX3_firstMend_X2_given : GoodIn wsX3_firstMend wsX2_given := goodIn_r _ [49, 50, 51, 111] (by decide +kernel) (by decide +kernel)
set_option maxRecDepth 20000 in
theorem gX3_firstMend_X2_given : GoodIn wsX3_firstMend (wsV RX3 82 RX2 yX2_given wsX2_given) := goodIn_app (goodIn_of _ (by decide +kernel)) ggX3_firstMend_X2_given
set_option maxRecDepth 20000 in
theorem ggX3_firstMend_X2_refusesFrom : GoodIn wsX3_firstMend wsX2_refusesFrom := goodIn_r _ [85, 50, 86, 87, 88, 48, 89, 70, 46, 47, 49, 51, 90, 91, 92, 93, 111] (by decide +kernel) (by decide +kernel)
set_option maxRecDepth 20000 in
theorem gX3_firstMend_X2_refusesFrom : GoodIn wsX3_firstMend (wsV RX3 193 RX2 yX2_refusesFrom wsX2_refusesFrom) := goodIn_app (goodIn_of _ (by decide +kernel)) ggX3_firstMend_X2_refusesFrom
theorem dX3_firstMend_0 : decode cX3_firstMend 0 = .ok (.aload_n 1, 1) := by decide +kernel
theorem dX3_firstMend_1 : decode cX3_firstMend 1 = .ok (.getfield 121, 3) := by decide +kernel
theorem dX3_firstMend_4 : decode cX3_firstMend 4 = .ok (.tableswitch 96 0 6 #[44, 96, 96, 56, 96, 68, 84], 44) := by decide +kernel
theorem dX3_firstMend_48 : decode cX3_firstMend 48 = .ok (.aload_n 0, 1) := by decide +kernel
theorem dX3_firstMend_49 : decode cX3_firstMend 49 = .ok (.invokevirtual 74, 3) := by decide +kernel
theorem dX3_firstMend_52 : decode cX3_firstMend 52 = .ok (.aload_n 1, 1) := by decide +kernel
theorem dX3_firstMend_53 : decode cX3_firstMend 53 = .ok (.getfield 118, 3) := by decide +kernel
theorem dX3_firstMend_56 : decode cX3_firstMend 56 = .ok (.invokevirtual 160, 3) := by decide +kernel
theorem dX3_firstMend_59 : decode cX3_firstMend 59 = .ok (.ireturn, 1) := by decide +kernel
theorem dX3_firstMend_60 : decode cX3_firstMend 60 = .ok (.aload_n 0, 1) := by decide +kernel
theorem dX3_firstMend_61 : decode cX3_firstMend 61 = .ok (.invokevirtual 74, 3) := by decide +kernel
theorem dX3_firstMend_64 : decode cX3_firstMend 64 = .ok (.aload_n 1, 1) := by decide +kernel
theorem dX3_firstMend_65 : decode cX3_firstMend 65 = .ok (.getfield 118, 3) := by decide +kernel
theorem dX3_firstMend_68 : decode cX3_firstMend 68 = .ok (.invokevirtual 190, 3) := by decide +kernel
theorem dX3_firstMend_71 : decode cX3_firstMend 71 = .ok (.ireturn, 1) := by decide +kernel
theorem dX3_firstMend_72 : decode cX3_firstMend 72 = .ok (.aload_n 0, 1) := by decide +kernel
theorem dX3_firstMend_73 : decode cX3_firstMend 73 = .ok (.invokevirtual 74, 3) := by decide +kernel
theorem dX3_firstMend_76 : decode cX3_firstMend 76 = .ok (.aload_n 1, 1) := by decide +kernel
theorem dX3_firstMend_77 : decode cX3_firstMend 77 = .ok (.getfield 118, 3) := by decide +kernel
theorem dX3_firstMend_80 : decode cX3_firstMend 80 = .ok (.aload_n 1, 1) := by decide +kernel
theorem dX3_firstMend_81 : decode cX3_firstMend 81 = .ok (.getfield 124, 3) := by decide +kernel
theorem dX3_firstMend_84 : decode cX3_firstMend 84 = .ok (.invokevirtual 82, 3) := by decide +kernel
theorem dX3_firstMend_87 : decode cX3_firstMend 87 = .ok (.ireturn, 1) := by decide +kernel
theorem dX3_firstMend_88 : decode cX3_firstMend 88 = .ok (.aload_n 0, 1) := by decide +kernel
theorem dX3_firstMend_89 : decode cX3_firstMend 89 = .ok (.invokevirtual 74, 3) := by decide +kernel
theorem dX3_firstMend_92 : decode cX3_firstMend 92 = .ok (.aload_n 1, 1) := by decide +kernel
theorem dX3_firstMend_93 : decode cX3_firstMend 93 = .ok (.getfield 118, 3) := by decide +kernel
theorem dX3_firstMend_96 : decode cX3_firstMend 96 = .ok (.invokevirtual 193, 3) := by decide +kernel
theorem dX3_firstMend_99 : decode cX3_firstMend 99 = .ok (.ireturn, 1) := by decide +kernel
theorem dX3_firstMend_100 : decode cX3_firstMend 100 = .ok (.ldc 99, 2) := by decide +kernel
theorem dX3_firstMend_102 : decode cX3_firstMend 102 = .ok (.ireturn, 1) := by decide +kernel
set_option maxRecDepth 20000 in
theorem ggX3_secondMend_X3_present : GoodIn wsX3_secondMend wsX3_present := goodIn_r _ [8, 9, 10, 11, 12, 13, 14, 15, 16, 17, 18, 19, 20, 21, 22, 23, 24, 25, 26, 27, 7, 28, 29, 30, 31, 32, 33, 34, 35, 36, 37, 38, 39, 40, 41, 42, 43, 44, 45, 46, 47, 48, 49, 50, 51, 52, 53, 54, 55, 56, 57, 58, 59, 60, 61, 62, 63, 64, 78, 79, 80, 81, 82, 83, 84, 85, 86, 87, 88] (by decide +kernel) (by decide +kernel)
set_option maxRecDepth 20000 in
theorem gX3_secondMend_X3_present : GoodIn wsX3_secondMend (wsV RX3 74 RX3 yX3_present wsX3_present) := goodIn_app (goodIn_of _ (by decide +kernel)) ggX3_secondMend_X3_present
set_option maxRecDepth 20000 in
theorem ggX3_secondMend_X2_most : GoodIn wsX3_secondMend wsX2_most := goodIn_r _ [68, 49, 69, 42, 39, 43, 70, 45, 46, 47, 48, 50, 88] (by decide +kernel) (by decide +kernel)
set_option maxRecDepth 20000 in
theorem gX3_secondMend_X2_most : GoodIn wsX3_secondMend (wsV RX3 196 RX2 yX2_most wsX2_most) := goodIn_app (goodIn_of _ (by decide +kernel)) ggX3_secondMend_X2_most
theorem dX3_secondMend_0 : decode cX3_secondMend 0 = .ok (.aload_n 1, 1) := by decide +kernel
theorem dX3_secondMend_1 : decode cX3_secondMend 1 = .ok (.getfield 121, 3) := by decide +kernel
theorem dX3_secondMend_4 : decode cX3_secondMend 4 = .ok (.ifCond .ne 17, 3) := by decide +kernel
theorem dX3_secondMend_7 : decode cX3_secondMend 7 = .ok (.aload_n 0, 1) := by decide +kernel
theorem dX3_secondMend_8 : decode cX3_secondMend 8 = .ok (.invokevirtual 74, 3) := by decide +kernel
theorem dX3_secondMend_11 : decode cX3_secondMend 11 = .ok (.aload_n 1, 1) := by decide +kernel
theorem dX3_secondMend_12 : decode cX3_secondMend 12 = .ok (.getfield 118, 3) := by decide +kernel
theorem dX3_secondMend_15 : decode cX3_secondMend 15 = .ok (.invokevirtual 196, 3) := by decide +kernel
theorem dX3_secondMend_18 : decode cX3_secondMend 18 = .ok (.goto 5, 3) := by decide +kernel
theorem dX3_secondMend_21 : decode cX3_secondMend 21 = .ok (.ldc 99, 2) := by decide +kernel
theorem dX3_secondMend_23 : decode cX3_secondMend 23 = .ok (.ireturn, 1) := by decide +kernel
set_option maxRecDepth 20000 in
theorem ggX3_fillListedHarms_X3_present : GoodIn wsX3_fillListedHarms wsX3_present := goodIn_r _ [8, 9, 10, 11, 12, 13, 14, 15, 16, 17, 18, 19, 20, 21, 22, 23, 24, 25, 26, 27, 7, 28, 29, 30, 31, 32, 33, 34, 35, 36, 37, 38, 39, 40, 41, 42, 43, 44, 45, 46, 47, 48, 49, 50, 51, 52, 53, 54, 55, 56, 57, 58, 59, 60, 61, 62, 63, 64, 85, 86, 87, 88, 89, 90, 91, 92, 100, 101, 102] (by decide +kernel) (by decide +kernel)
set_option maxRecDepth 20000 in
theorem gX3_fillListedHarms_X3_present : GoodIn wsX3_fillListedHarms (wsV RX3 74 RX3 yX3_present wsX3_present) := goodIn_app (goodIn_of _ (by decide +kernel)) ggX3_fillListedHarms_X3_present
set_option maxRecDepth 20000 in
theorem ggX3_fillListedHarms_X3_claimAt : GoodIn wsX3_fillListedHarms wsX3_claimAt := goodIn_r _ [68, 69, 1, 85, 86, 87, 88, 89, 90, 91, 92] (by decide +kernel) (by decide +kernel)
set_option maxRecDepth 20000 in
theorem gX3_fillListedHarms_X3_claimAt : GoodIn wsX3_fillListedHarms (wsV RX3 110 RX3 yX3_claimAt wsX3_claimAt) := goodIn_app (goodIn_of _ (by decide +kernel)) ggX3_fillListedHarms_X3_claimAt
set_option maxRecDepth 20000 in
theorem ggX3_fillListedHarms_X0_harmIn : GoodIn wsX3_fillListedHarms wsX0_harmIn := goodIn_r _ [74, 75, 76, 77, 73, 78, 79, 80, 81, 82, 83, 84, 45, 46, 47, 48, 49, 50, 93, 94, 95, 96, 97, 98, 99, 102] (by decide +kernel) (by decide +kernel)
set_option maxRecDepth 20000 in
theorem gX3_fillListedHarms_X0_harmIn : GoodIn wsX3_fillListedHarms (wsV RX3 130 RX0 yX0_harmIn wsX0_harmIn) := goodIn_app (goodIn_of _ (by decide +kernel)) ggX3_fillListedHarms_X0_harmIn
theorem dX3_fillListedHarms_0 : decode cX3_fillListedHarms 0 = .ok (.aload_n 0, 1) := by decide +kernel
theorem dX3_fillListedHarms_1 : decode cX3_fillListedHarms 1 = .ok (.invokevirtual 74, 3) := by decide +kernel
theorem dX3_fillListedHarms_4 : decode cX3_fillListedHarms 4 = .ok (.astore_n 1, 1) := by decide +kernel
theorem dX3_fillListedHarms_5 : decode cX3_fillListedHarms 5 = .ok (.iconst 0, 1) := by decide +kernel
theorem dX3_fillListedHarms_6 : decode cX3_fillListedHarms 6 = .ok (.istore_n 2, 1) := by decide +kernel
theorem dX3_fillListedHarms_7 : decode cX3_fillListedHarms 7 = .ok (.iload_n 2, 1) := by decide +kernel
theorem dX3_fillListedHarms_8 : decode cX3_fillListedHarms 8 = .ok (.aload_n 0, 1) := by decide +kernel
theorem dX3_fillListedHarms_9 : decode cX3_fillListedHarms 9 = .ok (.getfield 36, 3) := by decide +kernel
theorem dX3_fillListedHarms_12 : decode cX3_fillListedHarms 12 = .ok (.arraylength, 1) := by decide +kernel
theorem dX3_fillListedHarms_13 : decode cX3_fillListedHarms 13 = .ok (.if_icmp .ge 41, 3) := by decide +kernel
theorem dX3_fillListedHarms_16 : decode cX3_fillListedHarms 16 = .ok (.aload_n 0, 1) := by decide +kernel
theorem dX3_fillListedHarms_17 : decode cX3_fillListedHarms 17 = .ok (.iload_n 2, 1) := by decide +kernel
theorem dX3_fillListedHarms_18 : decode cX3_fillListedHarms 18 = .ok (.invokevirtual 110, 3) := by decide +kernel
theorem dX3_fillListedHarms_21 : decode cX3_fillListedHarms 21 = .ok (.astore_n 3, 1) := by decide +kernel
theorem dX3_fillListedHarms_22 : decode cX3_fillListedHarms 22 = .ok (.aload_n 0, 1) := by decide +kernel
theorem dX3_fillListedHarms_23 : decode cX3_fillListedHarms 23 = .ok (.getfield 43, 3) := by decide +kernel
theorem dX3_fillListedHarms_26 : decode cX3_fillListedHarms 26 = .ok (.iload_n 2, 1) := by decide +kernel
theorem dX3_fillListedHarms_27 : decode cX3_fillListedHarms 27 = .ok (.aload_n 3, 1) := by decide +kernel
theorem dX3_fillListedHarms_28 : decode cX3_fillListedHarms 28 = .ok (.ifnull 10, 3) := by decide +kernel
theorem dX3_fillListedHarms_31 : decode cX3_fillListedHarms 31 = .ok (.aload_n 3, 1) := by decide +kernel
theorem dX3_fillListedHarms_32 : decode cX3_fillListedHarms 32 = .ok (.getfield 134, 3) := by decide +kernel
theorem dX3_fillListedHarms_35 : decode cX3_fillListedHarms 35 = .ok (.ifCond .eq 7, 3) := by decide +kernel
theorem dX3_fillListedHarms_38 : decode cX3_fillListedHarms 38 = .ok (.iconst 0, 1) := by decide +kernel
theorem dX3_fillListedHarms_39 : decode cX3_fillListedHarms 39 = .ok (.goto 8, 3) := by decide +kernel
theorem dX3_fillListedHarms_42 : decode cX3_fillListedHarms 42 = .ok (.aload_n 3, 1) := by decide +kernel
theorem dX3_fillListedHarms_43 : decode cX3_fillListedHarms 43 = .ok (.aload_n 1, 1) := by decide +kernel
theorem dX3_fillListedHarms_44 : decode cX3_fillListedHarms 44 = .ok (.invokevirtual 130, 3) := by decide +kernel
theorem dX3_fillListedHarms_47 : decode cX3_fillListedHarms 47 = .ok (.iastore, 1) := by decide +kernel
theorem dX3_fillListedHarms_48 : decode cX3_fillListedHarms 48 = .ok (.iinc 2 1, 3) := by decide +kernel
theorem dX3_fillListedHarms_51 : decode cX3_fillListedHarms 51 = .ok (.goto (-44), 3) := by decide +kernel
theorem dX3_fillListedHarms_54 : decode cX3_fillListedHarms 54 = .ok (.return_, 1) := by decide +kernel
theorem dX3_listedAheadOf_0 : decode cX3_listedAheadOf 0 = .ok (.aload_n 0, 1) := by decide +kernel
theorem dX3_listedAheadOf_1 : decode cX3_listedAheadOf 1 = .ok (.getfield 43, 3) := by decide +kernel
theorem dX3_listedAheadOf_4 : decode cX3_listedAheadOf 4 = .ok (.iload_n 1, 1) := by decide +kernel
theorem dX3_listedAheadOf_5 : decode cX3_listedAheadOf 5 = .ok (.iaload, 1) := by decide +kernel
theorem dX3_listedAheadOf_6 : decode cX3_listedAheadOf 6 = .ok (.istore_n 2, 1) := by decide +kernel
theorem dX3_listedAheadOf_7 : decode cX3_listedAheadOf 7 = .ok (.iconst 0, 1) := by decide +kernel
theorem dX3_listedAheadOf_8 : decode cX3_listedAheadOf 8 = .ok (.istore_n 3, 1) := by decide +kernel
theorem dX3_listedAheadOf_9 : decode cX3_listedAheadOf 9 = .ok (.iconst 0, 1) := by decide +kernel
theorem dX3_listedAheadOf_10 : decode cX3_listedAheadOf 10 = .ok (.istore 4, 2) := by decide +kernel
theorem dX3_listedAheadOf_12 : decode cX3_listedAheadOf 12 = .ok (.iload 4, 2) := by decide +kernel
theorem dX3_listedAheadOf_14 : decode cX3_listedAheadOf 14 = .ok (.aload_n 0, 1) := by decide +kernel
theorem dX3_listedAheadOf_15 : decode cX3_listedAheadOf 15 = .ok (.getfield 40, 3) := by decide +kernel
theorem dX3_listedAheadOf_18 : decode cX3_listedAheadOf 18 = .ok (.if_icmp .ge 40, 3) := by decide +kernel
theorem dX3_listedAheadOf_21 : decode cX3_listedAheadOf 21 = .ok (.aload_n 0, 1) := by decide +kernel
theorem dX3_listedAheadOf_22 : decode cX3_listedAheadOf 22 = .ok (.getfield 43, 3) := by decide +kernel
theorem dX3_listedAheadOf_25 : decode cX3_listedAheadOf 25 = .ok (.iload 4, 2) := by decide +kernel
theorem dX3_listedAheadOf_27 : decode cX3_listedAheadOf 27 = .ok (.iaload, 1) := by decide +kernel
theorem dX3_listedAheadOf_28 : decode cX3_listedAheadOf 28 = .ok (.iload_n 2, 1) := by decide +kernel
theorem dX3_listedAheadOf_29 : decode cX3_listedAheadOf 29 = .ok (.if_icmp .gt 20, 3) := by decide +kernel
theorem dX3_listedAheadOf_32 : decode cX3_listedAheadOf 32 = .ok (.aload_n 0, 1) := by decide +kernel
theorem dX3_listedAheadOf_33 : decode cX3_listedAheadOf 33 = .ok (.getfield 43, 3) := by decide +kernel
theorem dX3_listedAheadOf_36 : decode cX3_listedAheadOf 36 = .ok (.iload 4, 2) := by decide +kernel
theorem dX3_listedAheadOf_38 : decode cX3_listedAheadOf 38 = .ok (.iaload, 1) := by decide +kernel
theorem dX3_listedAheadOf_39 : decode cX3_listedAheadOf 39 = .ok (.iload_n 2, 1) := by decide +kernel
theorem dX3_listedAheadOf_40 : decode cX3_listedAheadOf 40 = .ok (.if_icmp .ne 12, 3) := by decide +kernel
theorem dX3_listedAheadOf_43 : decode cX3_listedAheadOf 43 = .ok (.iload 4, 2) := by decide +kernel
theorem dX3_listedAheadOf_45 : decode cX3_listedAheadOf 45 = .ok (.iload_n 1, 1) := by decide +kernel
theorem dX3_listedAheadOf_46 : decode cX3_listedAheadOf 46 = .ok (.if_icmp .ge 6, 3) := by decide +kernel
theorem dX3_listedAheadOf_49 : decode cX3_listedAheadOf 49 = .ok (.iinc 3 1, 3) := by decide +kernel
theorem dX3_listedAheadOf_52 : decode cX3_listedAheadOf 52 = .ok (.iinc 4 1, 3) := by decide +kernel
theorem dX3_listedAheadOf_55 : decode cX3_listedAheadOf 55 = .ok (.goto (-43), 3) := by decide +kernel
theorem dX3_listedAheadOf_58 : decode cX3_listedAheadOf 58 = .ok (.iload_n 3, 1) := by decide +kernel
theorem dX3_listedAheadOf_59 : decode cX3_listedAheadOf 59 = .ok (.ireturn, 1) := by decide +kernel
theorem dX3_hasClaim_0 : decode cX3_hasClaim 0 = .ok (.iconst 0, 1) := by decide +kernel
theorem dX3_hasClaim_1 : decode cX3_hasClaim 1 = .ok (.istore_n 3, 1) := by decide +kernel
theorem dX3_hasClaim_2 : decode cX3_hasClaim 2 = .ok (.iload_n 3, 1) := by decide +kernel
theorem dX3_hasClaim_3 : decode cX3_hasClaim 3 = .ok (.aload_n 0, 1) := by decide +kernel
theorem dX3_hasClaim_4 : decode cX3_hasClaim 4 = .ok (.getfield 40, 3) := by decide +kernel
theorem dX3_hasClaim_7 : decode cX3_hasClaim 7 = .ok (.if_icmp .ge 46, 3) := by decide +kernel
theorem dX3_hasClaim_10 : decode cX3_hasClaim 10 = .ok (.aload_n 0, 1) := by decide +kernel
theorem dX3_hasClaim_11 : decode cX3_hasClaim 11 = .ok (.getfield 36, 3) := by decide +kernel
theorem dX3_hasClaim_14 : decode cX3_hasClaim 14 = .ok (.iload_n 3, 1) := by decide +kernel
theorem dX3_hasClaim_15 : decode cX3_hasClaim 15 = .ok (.aaload, 1) := by decide +kernel
theorem dX3_hasClaim_16 : decode cX3_hasClaim 16 = .ok (.astore 4, 2) := by decide +kernel
theorem dX3_hasClaim_18 : decode cX3_hasClaim 18 = .ok (.aload 4, 2) := by decide +kernel
theorem dX3_hasClaim_20 : decode cX3_hasClaim 20 = .ok (.ifnull 27, 3) := by decide +kernel
theorem dX3_hasClaim_23 : decode cX3_hasClaim 23 = .ok (.aload 4, 2) := by decide +kernel
theorem dX3_hasClaim_25 : decode cX3_hasClaim 25 = .ok (.getfield 118, 3) := by decide +kernel
theorem dX3_hasClaim_28 : decode cX3_hasClaim 28 = .ok (.iload_n 1, 1) := by decide +kernel
theorem dX3_hasClaim_29 : decode cX3_hasClaim 29 = .ok (.if_icmp .ne 18, 3) := by decide +kernel
theorem dX3_hasClaim_32 : decode cX3_hasClaim 32 = .ok (.iload_n 2, 1) := by decide +kernel
theorem dX3_hasClaim_33 : decode cX3_hasClaim 33 = .ok (.aload 4, 2) := by decide +kernel
theorem dX3_hasClaim_35 : decode cX3_hasClaim 35 = .ok (.getfield 121, 3) := by decide +kernel
theorem dX3_hasClaim_38 : decode cX3_hasClaim 38 = .ok (.ishr, 1) := by decide +kernel
theorem dX3_hasClaim_39 : decode cX3_hasClaim 39 = .ok (.iconst 1, 1) := by decide +kernel
theorem dX3_hasClaim_40 : decode cX3_hasClaim 40 = .ok (.iand, 1) := by decide +kernel
theorem dX3_hasClaim_41 : decode cX3_hasClaim 41 = .ok (.iconst 1, 1) := by decide +kernel
theorem dX3_hasClaim_42 : decode cX3_hasClaim 42 = .ok (.if_icmp .ne 5, 3) := by decide +kernel
theorem dX3_hasClaim_45 : decode cX3_hasClaim 45 = .ok (.iconst 1, 1) := by decide +kernel
theorem dX3_hasClaim_46 : decode cX3_hasClaim 46 = .ok (.ireturn, 1) := by decide +kernel
theorem dX3_hasClaim_47 : decode cX3_hasClaim 47 = .ok (.iinc 3 1, 3) := by decide +kernel
theorem dX3_hasClaim_50 : decode cX3_hasClaim 50 = .ok (.goto (-48), 3) := by decide +kernel
theorem dX3_hasClaim_53 : decode cX3_hasClaim 53 = .ok (.iconst 0, 1) := by decide +kernel
theorem dX3_hasClaim_54 : decode cX3_hasClaim 54 = .ok (.ireturn, 1) := by decide +kernel
set_option maxRecDepth 20000 in
theorem ggX3_howManyStand_X3_present : GoodIn wsX3_howManyStand wsX3_present := goodIn_r _ [7, 8, 9, 10, 11, 12, 13, 14, 15, 16, 17, 18, 19, 20, 21, 22, 23, 24, 25, 26, 6, 27, 28, 29, 30, 31, 32, 33, 34, 35, 36, 37, 38, 39, 40, 41, 42, 43, 44, 45, 46, 47, 48, 49, 50, 51, 52, 53, 54, 55, 56, 57, 58, 59, 60, 61, 62, 63, 87, 88, 89, 90, 91, 92, 93, 94, 95, 96, 97] (by decide +kernel) (by decide +kernel)
set_option maxRecDepth 20000 in
theorem gX3_howManyStand_X3_present : GoodIn wsX3_howManyStand (wsV RX3 74 RX3 yX3_present wsX3_present) := goodIn_app (goodIn_of _ (by decide +kernel)) ggX3_howManyStand_X3_present
set_option maxRecDepth 20000 in
theorem ggX3_howManyStand_X3_standing : GoodIn wsX3_howManyStand wsX3_standing := goodIn_r _ [66, 67, 68, 69, 70, 71, 72, 73, 74, 75, 76, 77, 78, 79, 80, 81, 82, 83, 84, 85, 86, 44, 45, 46, 47, 48, 49, 98, 99, 100, 101, 102, 103, 104, 97] (by decide +kernel) (by decide +kernel)
set_option maxRecDepth 20000 in
theorem gX3_howManyStand_X3_standing : GoodIn wsX3_howManyStand (va_wsS RX3 114 yX3_standing wsX3_standing) := goodIn_app (goodIn_of _ (by decide +kernel)) ggX3_howManyStand_X3_standing
theorem dX3_howManyStand_0 : decode cX3_howManyStand 0 = .ok (.aload_n 0, 1) := by decide +kernel
theorem dX3_howManyStand_1 : decode cX3_howManyStand 1 = .ok (.invokevirtual 74, 3) := by decide +kernel
theorem dX3_howManyStand_4 : decode cX3_howManyStand 4 = .ok (.astore_n 2, 1) := by decide +kernel
theorem dX3_howManyStand_5 : decode cX3_howManyStand 5 = .ok (.iconst 0, 1) := by decide +kernel
theorem dX3_howManyStand_6 : decode cX3_howManyStand 6 = .ok (.istore_n 3, 1) := by decide +kernel
theorem dX3_howManyStand_7 : decode cX3_howManyStand 7 = .ok (.iconst 0, 1) := by decide +kernel
theorem dX3_howManyStand_8 : decode cX3_howManyStand 8 = .ok (.istore 4, 2) := by decide +kernel
theorem dX3_howManyStand_10 : decode cX3_howManyStand 10 = .ok (.iload 4, 2) := by decide +kernel
theorem dX3_howManyStand_12 : decode cX3_howManyStand 12 = .ok (.aload_n 0, 1) := by decide +kernel
theorem dX3_howManyStand_13 : decode cX3_howManyStand 13 = .ok (.getfield 40, 3) := by decide +kernel
theorem dX3_howManyStand_16 : decode cX3_howManyStand 16 = .ok (.if_icmp .ge 36, 3) := by decide +kernel
theorem dX3_howManyStand_19 : decode cX3_howManyStand 19 = .ok (.aload_n 0, 1) := by decide +kernel
theorem dX3_howManyStand_20 : decode cX3_howManyStand 20 = .ok (.getfield 36, 3) := by decide +kernel
theorem dX3_howManyStand_23 : decode cX3_howManyStand 23 = .ok (.iload 4, 2) := by decide +kernel
theorem dX3_howManyStand_25 : decode cX3_howManyStand 25 = .ok (.aaload, 1) := by decide +kernel
theorem dX3_howManyStand_26 : decode cX3_howManyStand 26 = .ok (.astore 5, 2) := by decide +kernel
theorem dX3_howManyStand_28 : decode cX3_howManyStand 28 = .ok (.aload 5, 2) := by decide +kernel
theorem dX3_howManyStand_30 : decode cX3_howManyStand 30 = .ok (.ifnull 16, 3) := by decide +kernel
theorem dX3_howManyStand_33 : decode cX3_howManyStand 33 = .ok (.aload 5, 2) := by decide +kernel
theorem dX3_howManyStand_35 : decode cX3_howManyStand 35 = .ok (.aload_n 2, 1) := by decide +kernel
theorem dX3_howManyStand_36 : decode cX3_howManyStand 36 = .ok (.invokestatic 114, 3) := by decide +kernel
theorem dX3_howManyStand_39 : decode cX3_howManyStand 39 = .ok (.iload_n 1, 1) := by decide +kernel
theorem dX3_howManyStand_40 : decode cX3_howManyStand 40 = .ok (.if_icmp .ne 6, 3) := by decide +kernel
theorem dX3_howManyStand_43 : decode cX3_howManyStand 43 = .ok (.iinc 3 1, 3) := by decide +kernel
theorem dX3_howManyStand_46 : decode cX3_howManyStand 46 = .ok (.iinc 4 1, 3) := by decide +kernel
theorem dX3_howManyStand_49 : decode cX3_howManyStand 49 = .ok (.goto (-39), 3) := by decide +kernel
theorem dX3_howManyStand_52 : decode cX3_howManyStand 52 = .ok (.iload_n 3, 1) := by decide +kernel
theorem dX3_howManyStand_53 : decode cX3_howManyStand 53 = .ok (.ireturn, 1) := by decide +kernel
theorem dX3_howManyMarked_0 : decode cX3_howManyMarked 0 = .ok (.iconst 0, 1) := by decide +kernel
theorem dX3_howManyMarked_1 : decode cX3_howManyMarked 1 = .ok (.istore_n 1, 1) := by decide +kernel
theorem dX3_howManyMarked_2 : decode cX3_howManyMarked 2 = .ok (.iconst 0, 1) := by decide +kernel
theorem dX3_howManyMarked_3 : decode cX3_howManyMarked 3 = .ok (.istore_n 2, 1) := by decide +kernel
theorem dX3_howManyMarked_4 : decode cX3_howManyMarked 4 = .ok (.iload_n 2, 1) := by decide +kernel
theorem dX3_howManyMarked_5 : decode cX3_howManyMarked 5 = .ok (.aload_n 0, 1) := by decide +kernel
theorem dX3_howManyMarked_6 : decode cX3_howManyMarked 6 = .ok (.getfield 40, 3) := by decide +kernel
theorem dX3_howManyMarked_9 : decode cX3_howManyMarked 9 = .ok (.if_icmp .ge 30, 3) := by decide +kernel
theorem dX3_howManyMarked_12 : decode cX3_howManyMarked 12 = .ok (.aload_n 0, 1) := by decide +kernel
theorem dX3_howManyMarked_13 : decode cX3_howManyMarked 13 = .ok (.getfield 36, 3) := by decide +kernel
theorem dX3_howManyMarked_16 : decode cX3_howManyMarked 16 = .ok (.iload_n 2, 1) := by decide +kernel
theorem dX3_howManyMarked_17 : decode cX3_howManyMarked 17 = .ok (.aaload, 1) := by decide +kernel
theorem dX3_howManyMarked_18 : decode cX3_howManyMarked 18 = .ok (.astore_n 3, 1) := by decide +kernel
theorem dX3_howManyMarked_19 : decode cX3_howManyMarked 19 = .ok (.aload_n 3, 1) := by decide +kernel
theorem dX3_howManyMarked_20 : decode cX3_howManyMarked 20 = .ok (.ifnull 13, 3) := by decide +kernel
theorem dX3_howManyMarked_23 : decode cX3_howManyMarked 23 = .ok (.aload_n 3, 1) := by decide +kernel
theorem dX3_howManyMarked_24 : decode cX3_howManyMarked 24 = .ok (.getfield 134, 3) := by decide +kernel
theorem dX3_howManyMarked_27 : decode cX3_howManyMarked 27 = .ok (.ifCond .eq 6, 3) := by decide +kernel
theorem dX3_howManyMarked_30 : decode cX3_howManyMarked 30 = .ok (.iinc 1 1, 3) := by decide +kernel
theorem dX3_howManyMarked_33 : decode cX3_howManyMarked 33 = .ok (.iinc 2 1, 3) := by decide +kernel
theorem dX3_howManyMarked_36 : decode cX3_howManyMarked 36 = .ok (.goto (-32), 3) := by decide +kernel
theorem dX3_howManyMarked_39 : decode cX3_howManyMarked 39 = .ok (.iload_n 1, 1) := by decide +kernel
theorem dX3_howManyMarked_40 : decode cX3_howManyMarked 40 = .ok (.ireturn, 1) := by decide +kernel
