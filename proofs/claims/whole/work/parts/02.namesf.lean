set_option maxRecDepth 20000 in
theorem gX1_eraseOne_X1_kept : GoodIn wsX1_eraseOne (wsV RX1 121 RX1 yX1_kept wsX1_kept) := goodIn_app (goodIn_of _ (by decide +kernel)) ggX1_eraseOne_X1_kept
theorem dX1_eraseOne_0 : decode cX1_eraseOne 0 = .ok (.iconst (-1), 1) := by decide +kernel
theorem dX1_eraseOne_1 : decode cX1_eraseOne 1 = .ok (.istore_n 1, 1) := by decide +kernel
theorem dX1_eraseOne_2 : decode cX1_eraseOne 2 = .ok (.iconst 0, 1) := by decide +kernel
theorem dX1_eraseOne_3 : decode cX1_eraseOne 3 = .ok (.istore_n 2, 1) := by decide +kernel
theorem dX1_eraseOne_4 : decode cX1_eraseOne 4 = .ok (.iload_n 2, 1) := by decide +kernel
theorem dX1_eraseOne_5 : decode cX1_eraseOne 5 = .ok (.aload_n 0, 1) := by decide +kernel
theorem dX1_eraseOne_6 : decode cX1_eraseOne 6 = .ok (.getfield 55, 3) := by decide +kernel
theorem dX1_eraseOne_9 : decode cX1_eraseOne 9 = .ok (.if_icmp .ge 23, 3) := by decide +kernel
theorem dX1_eraseOne_12 : decode cX1_eraseOne 12 = .ok (.aload_n 0, 1) := by decide +kernel
theorem dX1_eraseOne_13 : decode cX1_eraseOne 13 = .ok (.iload_n 2, 1) := by decide +kernel
theorem dX1_eraseOne_14 : decode cX1_eraseOne 14 = .ok (.invokevirtual 121, 3) := by decide +kernel
theorem dX1_eraseOne_17 : decode cX1_eraseOne 17 = .ok (.ifCond .ne 7, 3) := by decide +kernel
theorem dX1_eraseOne_20 : decode cX1_eraseOne 20 = .ok (.iload_n 2, 1) := by decide +kernel
theorem dX1_eraseOne_21 : decode cX1_eraseOne 21 = .ok (.goto 4, 3) := by decide +kernel
theorem dX1_eraseOne_24 : decode cX1_eraseOne 24 = .ok (.iload_n 1, 1) := by decide +kernel
theorem dX1_eraseOne_25 : decode cX1_eraseOne 25 = .ok (.istore_n 1, 1) := by decide +kernel
theorem dX1_eraseOne_26 : decode cX1_eraseOne 26 = .ok (.iinc 2 1, 3) := by decide +kernel
theorem dX1_eraseOne_29 : decode cX1_eraseOne 29 = .ok (.goto (-25), 3) := by decide +kernel
theorem dX1_eraseOne_32 : decode cX1_eraseOne 32 = .ok (.iload_n 1, 1) := by decide +kernel
theorem dX1_eraseOne_33 : decode cX1_eraseOne 33 = .ok (.iconst (-1), 1) := by decide +kernel
theorem dX1_eraseOne_34 : decode cX1_eraseOne 34 = .ok (.if_icmp .eq 10, 3) := by decide +kernel
theorem dX1_eraseOne_37 : decode cX1_eraseOne 37 = .ok (.aload_n 0, 1) := by decide +kernel
theorem dX1_eraseOne_38 : decode cX1_eraseOne 38 = .ok (.getfield 35, 3) := by decide +kernel
theorem dX1_eraseOne_41 : decode cX1_eraseOne 41 = .ok (.iload_n 1, 1) := by decide +kernel
theorem dX1_eraseOne_42 : decode cX1_eraseOne 42 = .ok (.iconst 2, 1) := by decide +kernel
theorem dX1_eraseOne_43 : decode cX1_eraseOne 43 = .ok (.iastore, 1) := by decide +kernel
theorem dX1_eraseOne_44 : decode cX1_eraseOne 44 = .ok (.iload_n 1, 1) := by decide +kernel
theorem dX1_eraseOne_45 : decode cX1_eraseOne 45 = .ok (.ireturn, 1) := by decide +kernel
set_option maxRecDepth 20000 in
theorem ggX1_erase_X1_eraseOne : GoodIn wsX1_erase wsX1_eraseOne := goodIn_r _ [6, 7, 8, 9, 10, 11, 5, 12, 13, 14, 15, 16, 17, 18, 19, 20, 21, 22, 23, 24, 25, 26, 27, 28, 29, 30, 31, 32, 33, 34, 35, 36, 37, 38, 39, 40] (by decide +kernel) (by decide +kernel)
set_option maxRecDepth 20000 in
theorem gX1_erase_X1_eraseOne : GoodIn wsX1_erase (wsV RX1 124 RX1 yX1_eraseOne wsX1_eraseOne) := goodIn_app (goodIn_of _ (by decide +kernel)) ggX1_erase_X1_eraseOne
theorem dX1_erase_0 : decode cX1_erase 0 = .ok (.aload_n 0, 1) := by decide +kernel
theorem dX1_erase_1 : decode cX1_erase 1 = .ok (.iconst 0, 1) := by decide +kernel
theorem dX1_erase_2 : decode cX1_erase 2 = .ok (.putfield 44, 3) := by decide +kernel
theorem dX1_erase_5 : decode cX1_erase 5 = .ok (.aload_n 0, 1) := by decide +kernel
theorem dX1_erase_6 : decode cX1_erase 6 = .ok (.invokevirtual 124, 3) := by decide +kernel
theorem dX1_erase_9 : decode cX1_erase 9 = .ok (.ireturn, 1) := by decide +kernel
set_option maxRecDepth 20000 in
theorem ggX1_eraseAll_X1_eraseOne : GoodIn wsX1_eraseAll wsX1_eraseOne := goodIn_r _ [6, 7, 8, 9, 10, 11, 5, 12, 13, 14, 15, 16, 17, 18, 19, 20, 21, 22, 23, 24, 25, 26, 27, 28, 29, 30, 31, 32, 33, 34, 35, 36, 37, 38, 39, 40] (by decide +kernel) (by decide +kernel)
set_option maxRecDepth 20000 in
theorem gX1_eraseAll_X1_eraseOne : GoodIn wsX1_eraseAll (wsV RX1 124 RX1 yX1_eraseOne wsX1_eraseOne) := goodIn_app (goodIn_of _ (by decide +kernel)) ggX1_eraseAll_X1_eraseOne
theorem dX1_eraseAll_0 : decode cX1_eraseAll 0 = .ok (.aload_n 0, 1) := by decide +kernel
theorem dX1_eraseAll_1 : decode cX1_eraseAll 1 = .ok (.iconst 0, 1) := by decide +kernel
theorem dX1_eraseAll_2 : decode cX1_eraseAll 2 = .ok (.putfield 44, 3) := by decide +kernel
theorem dX1_eraseAll_5 : decode cX1_eraseAll 5 = .ok (.iconst 0, 1) := by decide +kernel
theorem dX1_eraseAll_6 : decode cX1_eraseAll 6 = .ok (.istore_n 1, 1) := by decide +kernel
theorem dX1_eraseAll_7 : decode cX1_eraseAll 7 = .ok (.aload_n 0, 1) := by decide +kernel
theorem dX1_eraseAll_8 : decode cX1_eraseAll 8 = .ok (.invokevirtual 124, 3) := by decide +kernel
theorem dX1_eraseAll_11 : decode cX1_eraseAll 11 = .ok (.iconst (-1), 1) := by decide +kernel
theorem dX1_eraseAll_12 : decode cX1_eraseAll 12 = .ok (.if_icmp .eq 9, 3) := by decide +kernel
theorem dX1_eraseAll_15 : decode cX1_eraseAll 15 = .ok (.iinc 1 1, 3) := by decide +kernel
theorem dX1_eraseAll_18 : decode cX1_eraseAll 18 = .ok (.goto (-11), 3) := by decide +kernel
theorem dX1_eraseAll_21 : decode cX1_eraseAll 21 = .ok (.iload_n 1, 1) := by decide +kernel
theorem dX1_eraseAll_22 : decode cX1_eraseAll 22 = .ok (.ireturn, 1) := by decide +kernel
set_option maxRecDepth 20000 in
theorem ggX1_tracesOf_X1_subjects : GoodIn wsX1_tracesOf wsX1_subjects := goodIn_r _ [7, 8, 9, 10, 11, 12, 6, 13, 14, 15, 16, 17, 18, 19, 20, 21, 22, 23, 24, 25, 26, 27, 28, 29, 30, 31] (by decide +kernel) (by decide +kernel)
set_option maxRecDepth 20000 in
theorem gX1_tracesOf_X1_subjects : GoodIn wsX1_tracesOf (wsV RX1 79 RX1 yX1_subjects wsX1_subjects) := goodIn_app (goodIn_of _ (by decide +kernel)) ggX1_tracesOf_X1_subjects
set_option maxRecDepth 20000 in
theorem ggX1_tracesOf_X1_has : GoodIn wsX1_tracesOf wsX1_has := goodIn_r _ [16] (by decide +kernel) (by decide +kernel)
set_option maxRecDepth 20000 in
theorem gX1_tracesOf_X1_has : GoodIn wsX1_tracesOf (va_wsS RX1 69 yX1_has wsX1_has) := goodIn_app (goodIn_of _ (by decide +kernel)) ggX1_tracesOf_X1_has
theorem dX1_tracesOf_0 : decode cX1_tracesOf 0 = .ok (.iconst 0, 1) := by decide +kernel
theorem dX1_tracesOf_1 : decode cX1_tracesOf 1 = .ok (.istore_n 2, 1) := by decide +kernel
theorem dX1_tracesOf_2 : decode cX1_tracesOf 2 = .ok (.iconst 0, 1) := by decide +kernel
theorem dX1_tracesOf_3 : decode cX1_tracesOf 3 = .ok (.istore_n 3, 1) := by decide +kernel
theorem dX1_tracesOf_4 : decode cX1_tracesOf 4 = .ok (.iload_n 3, 1) := by decide +kernel
theorem dX1_tracesOf_5 : decode cX1_tracesOf 5 = .ok (.aload_n 0, 1) := by decide +kernel
theorem dX1_tracesOf_6 : decode cX1_tracesOf 6 = .ok (.getfield 55, 3) := by decide +kernel
theorem dX1_tracesOf_9 : decode cX1_tracesOf 9 = .ok (.if_icmp .ge 41, 3) := by decide +kernel
theorem dX1_tracesOf_12 : decode cX1_tracesOf 12 = .ok (.iload_n 2, 1) := by decide +kernel
theorem dX1_tracesOf_13 : decode cX1_tracesOf 13 = .ok (.aload_n 0, 1) := by decide +kernel
theorem dX1_tracesOf_14 : decode cX1_tracesOf 14 = .ok (.getfield 35, 3) := by decide +kernel
theorem dX1_tracesOf_17 : decode cX1_tracesOf 17 = .ok (.iload_n 3, 1) := by decide +kernel
theorem dX1_tracesOf_18 : decode cX1_tracesOf 18 = .ok (.iaload, 1) := by decide +kernel
theorem dX1_tracesOf_19 : decode cX1_tracesOf 19 = .ok (.iconst 2, 1) := by decide +kernel
theorem dX1_tracesOf_20 : decode cX1_tracesOf 20 = .ok (.if_icmp .eq 21, 3) := by decide +kernel
theorem dX1_tracesOf_23 : decode cX1_tracesOf 23 = .ok (.aload_n 0, 1) := by decide +kernel
theorem dX1_tracesOf_24 : decode cX1_tracesOf 24 = .ok (.iload_n 3, 1) := by decide +kernel
theorem dX1_tracesOf_25 : decode cX1_tracesOf 25 = .ok (.invokevirtual 79, 3) := by decide +kernel
theorem dX1_tracesOf_28 : decode cX1_tracesOf 28 = .ok (.iload_n 1, 1) := by decide +kernel
theorem dX1_tracesOf_29 : decode cX1_tracesOf 29 = .ok (.invokestatic 69, 3) := by decide +kernel
theorem dX1_tracesOf_32 : decode cX1_tracesOf 32 = .ok (.ifCond .eq 9, 3) := by decide +kernel
theorem dX1_tracesOf_35 : decode cX1_tracesOf 35 = .ok (.iconst 1, 1) := by decide +kernel
theorem dX1_tracesOf_36 : decode cX1_tracesOf 36 = .ok (.iload_n 3, 1) := by decide +kernel
theorem dX1_tracesOf_37 : decode cX1_tracesOf 37 = .ok (.ishl, 1) := by decide +kernel
theorem dX1_tracesOf_38 : decode cX1_tracesOf 38 = .ok (.goto 4, 3) := by decide +kernel
theorem dX1_tracesOf_41 : decode cX1_tracesOf 41 = .ok (.iconst 0, 1) := by decide +kernel
theorem dX1_tracesOf_42 : decode cX1_tracesOf 42 = .ok (.ior, 1) := by decide +kernel
theorem dX1_tracesOf_43 : decode cX1_tracesOf 43 = .ok (.istore_n 2, 1) := by decide +kernel
theorem dX1_tracesOf_44 : decode cX1_tracesOf 44 = .ok (.iinc 3 1, 3) := by decide +kernel
theorem dX1_tracesOf_47 : decode cX1_tracesOf 47 = .ok (.goto (-43), 3) := by decide +kernel
theorem dX1_tracesOf_50 : decode cX1_tracesOf 50 = .ok (.iload_n 2, 1) := by decide +kernel
theorem dX1_tracesOf_51 : decode cX1_tracesOf 51 = .ok (.ireturn, 1) := by decide +kernel
set_option maxRecDepth 20000 in
theorem ggX1_traces_X1_isSubject : GoodIn wsX1_traces wsX1_isSubject := goodIn_r _ [5, 6, 7, 4, 8] (by decide +kernel) (by decide +kernel)
set_option maxRecDepth 20000 in
theorem gX1_traces_X1_isSubject : GoodIn wsX1_traces (va_wsS RX1 66 yX1_isSubject wsX1_isSubject) := goodIn_app (goodIn_of _ (by decide +kernel)) ggX1_traces_X1_isSubject
set_option maxRecDepth 20000 in
theorem ggX1_traces_X1_tracesOf : GoodIn wsX1_traces wsX1_tracesOf := goodIn_r _ [12, 13, 14, 15, 16, 17, 4, 18, 19, 20, 21, 22, 23, 24, 25, 26, 27, 32, 33, 34, 35, 36, 37, 38, 39, 40, 41, 42, 43, 44, 45, 46] (by decide +kernel) (by decide +kernel)
set_option maxRecDepth 20000 in
theorem gX1_traces_X1_tracesOf : GoodIn wsX1_traces (wsV RX1 127 RX1 yX1_tracesOf wsX1_tracesOf) := goodIn_app (goodIn_of _ (by decide +kernel)) ggX1_traces_X1_tracesOf
set_option maxRecDepth 20000 in
theorem ggX1_traces_X1_fails : GoodIn wsX1_traces wsX1_fails := goodIn_r _ [31, 1, 32, 33, 34, 35, 36, 37, 38, 39, 40, 41, 42, 43, 44, 45, 46] (by decide +kernel) (by decide +kernel)
set_option maxRecDepth 20000 in
theorem gX1_traces_X1_fails : GoodIn wsX1_traces (wsV RX1 58 RX1 yX1_fails wsX1_fails) := goodIn_app (goodIn_of _ (by decide +kernel)) ggX1_traces_X1_fails
theorem dX1_traces_0 : decode cX1_traces 0 = .ok (.aload_n 0, 1) := by decide +kernel
theorem dX1_traces_1 : decode cX1_traces 1 = .ok (.iconst 0, 1) := by decide +kernel
theorem dX1_traces_2 : decode cX1_traces 2 = .ok (.putfield 44, 3) := by decide +kernel
theorem dX1_traces_5 : decode cX1_traces 5 = .ok (.iload_n 1, 1) := by decide +kernel
theorem dX1_traces_6 : decode cX1_traces 6 = .ok (.invokestatic 66, 3) := by decide +kernel
theorem dX1_traces_9 : decode cX1_traces 9 = .ok (.ifCond .eq 11, 3) := by decide +kernel
theorem dX1_traces_12 : decode cX1_traces 12 = .ok (.aload_n 0, 1) := by decide +kernel
theorem dX1_traces_13 : decode cX1_traces 13 = .ok (.iload_n 1, 1) := by decide +kernel
theorem dX1_traces_14 : decode cX1_traces 14 = .ok (.invokevirtual 127, 3) := by decide +kernel
theorem dX1_traces_17 : decode cX1_traces 17 = .ok (.goto 8, 3) := by decide +kernel
theorem dX1_traces_20 : decode cX1_traces 20 = .ok (.aload_n 0, 1) := by decide +kernel
theorem dX1_traces_21 : decode cX1_traces 21 = .ok (.iconst 1, 1) := by decide +kernel
theorem dX1_traces_22 : decode cX1_traces 22 = .ok (.invokevirtual 58, 3) := by decide +kernel
theorem dX1_traces_25 : decode cX1_traces 25 = .ok (.ireturn, 1) := by decide +kernel
set_option maxRecDepth 20000 in
theorem ggX1_tracesFromRoots_X1_isSubject : GoodIn wsX1_tracesFromRoots wsX1_isSubject := goodIn_r _ [5, 6, 7, 4, 8] (by decide +kernel) (by decide +kernel)
set_option maxRecDepth 20000 in
theorem gX1_tracesFromRoots_X1_isSubject : GoodIn wsX1_tracesFromRoots (va_wsS RX1 66 yX1_isSubject wsX1_isSubject) := goodIn_app (goodIn_of _ (by decide +kernel)) ggX1_tracesFromRoots_X1_isSubject
set_option maxRecDepth 20000 in
theorem ggX1_tracesFromRoots_X1_tracesOf : GoodIn wsX1_tracesFromRoots wsX1_tracesOf := goodIn_r _ [12, 13, 14, 15, 16, 17, 4, 18, 19, 20, 21, 22, 23, 24, 25, 26, 27, 32, 33, 34, 35, 36, 37, 38, 39, 40, 41, 42, 43, 44, 45, 46] (by decide +kernel) (by decide +kernel)
set_option maxRecDepth 20000 in
theorem gX1_tracesFromRoots_X1_tracesOf : GoodIn wsX1_tracesFromRoots (wsV RX1 127 RX1 yX1_tracesOf wsX1_tracesOf) := goodIn_app (goodIn_of _ (by decide +kernel)) ggX1_tracesFromRoots_X1_tracesOf
set_option maxRecDepth 20000 in
theorem ggX1_tracesFromRoots_X1_fails : GoodIn wsX1_tracesFromRoots wsX1_fails := goodIn_r _ [31, 1, 32, 33, 34, 35, 36, 37, 38, 39, 40, 41, 42, 43, 44, 45, 46] (by decide +kernel) (by decide +kernel)
set_option maxRecDepth 20000 in
theorem gX1_tracesFromRoots_X1_fails : GoodIn wsX1_tracesFromRoots (wsV RX1 58 RX1 yX1_fails wsX1_fails) := goodIn_app (goodIn_of _ (by decide +kernel)) ggX1_tracesFromRoots_X1_fails
theorem dX1_tracesFromRoots_0 : decode cX1_tracesFromRoots 0 = .ok (.aload_n 0, 1) := by decide +kernel
theorem dX1_tracesFromRoots_1 : decode cX1_tracesFromRoots 1 = .ok (.iconst 0, 1) := by decide +kernel
theorem dX1_tracesFromRoots_2 : decode cX1_tracesFromRoots 2 = .ok (.putfield 44, 3) := by decide +kernel
theorem dX1_tracesFromRoots_5 : decode cX1_tracesFromRoots 5 = .ok (.iload_n 1, 1) := by decide +kernel
theorem dX1_tracesFromRoots_6 : decode cX1_tracesFromRoots 6 = .ok (.invokestatic 66, 3) := by decide +kernel
theorem dX1_tracesFromRoots_9 : decode cX1_tracesFromRoots 9 = .ok (.ifCond .eq 11, 3) := by decide +kernel
theorem dX1_tracesFromRoots_12 : decode cX1_tracesFromRoots 12 = .ok (.aload_n 0, 1) := by decide +kernel
theorem dX1_tracesFromRoots_13 : decode cX1_tracesFromRoots 13 = .ok (.iload_n 1, 1) := by decide +kernel
theorem dX1_tracesFromRoots_14 : decode cX1_tracesFromRoots 14 = .ok (.invokevirtual 127, 3) := by decide +kernel
theorem dX1_tracesFromRoots_17 : decode cX1_tracesFromRoots 17 = .ok (.goto 8, 3) := by decide +kernel
theorem dX1_tracesFromRoots_20 : decode cX1_tracesFromRoots 20 = .ok (.aload_n 0, 1) := by decide +kernel
theorem dX1_tracesFromRoots_21 : decode cX1_tracesFromRoots 21 = .ok (.iconst 1, 1) := by decide +kernel
theorem dX1_tracesFromRoots_22 : decode cX1_tracesFromRoots 22 = .ok (.invokevirtual 58, 3) := by decide +kernel
theorem dX1_tracesFromRoots_25 : decode cX1_tracesFromRoots 25 = .ok (.ireturn, 1) := by decide +kernel
set_option maxRecDepth 20000 in
theorem ggX1_due_X1_dueSet : GoodIn wsX1_due wsX1_dueSet := goodIn_r _ [6, 7, 8, 9, 10, 11, 12, 5, 13, 14, 15, 16, 17, 18, 19, 20, 21, 22, 23, 24, 25, 26, 27, 28, 29, 30, 31, 32, 33, 34, 35, 36, 37, 38, 39, 40, 41, 42, 43, 44, 45, 46, 47, 48, 49, 50, 51, 52, 53, 54, 55] (by decide +kernel) (by decide +kernel)
set_option maxRecDepth 20000 in
theorem gX1_due_X1_dueSet : GoodIn wsX1_due (wsV RX1 111 RX1 yX1_dueSet wsX1_dueSet) := goodIn_app (goodIn_of _ (by decide +kernel)) ggX1_due_X1_dueSet
theorem dX1_due_0 : decode cX1_due 0 = .ok (.aload_n 0, 1) := by decide +kernel
theorem dX1_due_1 : decode cX1_due 1 = .ok (.iconst 0, 1) := by decide +kernel
theorem dX1_due_2 : decode cX1_due 2 = .ok (.putfield 44, 3) := by decide +kernel
theorem dX1_due_5 : decode cX1_due 5 = .ok (.aload_n 0, 1) := by decide +kernel
theorem dX1_due_6 : decode cX1_due 6 = .ok (.invokevirtual 111, 3) := by decide +kernel
theorem dX1_due_9 : decode cX1_due 9 = .ok (.ireturn, 1) := by decide +kernel
theorem dJ6_bitCount_0f7a4_0 : decode cJ6_bitCount_0f7a4 0 = .ok (.iload_n 0, 1) := by decide +kernel
theorem dJ6_bitCount_0f7a4_1 : decode cJ6_bitCount_0f7a4 1 = .ok (.iload_n 0, 1) := by decide +kernel
theorem dJ6_bitCount_0f7a4_2 : decode cJ6_bitCount_0f7a4 2 = .ok (.iconst 1, 1) := by decide +kernel
theorem dJ6_bitCount_0f7a4_3 : decode cJ6_bitCount_0f7a4 3 = .ok (.iushr, 1) := by decide +kernel
theorem dJ6_bitCount_0f7a4_4 : decode cJ6_bitCount_0f7a4 4 = .ok (.ldc_w 265, 3) := by decide +kernel
theorem dJ6_bitCount_0f7a4_7 : decode cJ6_bitCount_0f7a4 7 = .ok (.iand, 1) := by decide +kernel
theorem dJ6_bitCount_0f7a4_8 : decode cJ6_bitCount_0f7a4 8 = .ok (.isub, 1) := by decide +kernel
theorem dJ6_bitCount_0f7a4_9 : decode cJ6_bitCount_0f7a4 9 = .ok (.istore_n 0, 1) := by decide +kernel
theorem dJ6_bitCount_0f7a4_10 : decode cJ6_bitCount_0f7a4 10 = .ok (.iload_n 0, 1) := by decide +kernel
theorem dJ6_bitCount_0f7a4_11 : decode cJ6_bitCount_0f7a4 11 = .ok (.ldc_w 266, 3) := by decide +kernel
theorem dJ6_bitCount_0f7a4_14 : decode cJ6_bitCount_0f7a4 14 = .ok (.iand, 1) := by decide +kernel
theorem dJ6_bitCount_0f7a4_15 : decode cJ6_bitCount_0f7a4 15 = .ok (.iload_n 0, 1) := by decide +kernel
theorem dJ6_bitCount_0f7a4_16 : decode cJ6_bitCount_0f7a4 16 = .ok (.iconst 2, 1) := by decide +kernel
theorem dJ6_bitCount_0f7a4_17 : decode cJ6_bitCount_0f7a4 17 = .ok (.iushr, 1) := by decide +kernel
theorem dJ6_bitCount_0f7a4_18 : decode cJ6_bitCount_0f7a4 18 = .ok (.ldc_w 266, 3) := by decide +kernel
theorem dJ6_bitCount_0f7a4_21 : decode cJ6_bitCount_0f7a4 21 = .ok (.iand, 1) := by decide +kernel
theorem dJ6_bitCount_0f7a4_22 : decode cJ6_bitCount_0f7a4 22 = .ok (.iadd, 1) := by decide +kernel
theorem dJ6_bitCount_0f7a4_23 : decode cJ6_bitCount_0f7a4 23 = .ok (.istore_n 0, 1) := by decide +kernel
theorem dJ6_bitCount_0f7a4_24 : decode cJ6_bitCount_0f7a4 24 = .ok (.iload_n 0, 1) := by decide +kernel
theorem dJ6_bitCount_0f7a4_25 : decode cJ6_bitCount_0f7a4 25 = .ok (.iload_n 0, 1) := by decide +kernel
theorem dJ6_bitCount_0f7a4_26 : decode cJ6_bitCount_0f7a4 26 = .ok (.iconst 4, 1) := by decide +kernel
theorem dJ6_bitCount_0f7a4_27 : decode cJ6_bitCount_0f7a4 27 = .ok (.iushr, 1) := by decide +kernel
theorem dJ6_bitCount_0f7a4_28 : decode cJ6_bitCount_0f7a4 28 = .ok (.iadd, 1) := by decide +kernel
theorem dJ6_bitCount_0f7a4_29 : decode cJ6_bitCount_0f7a4 29 = .ok (.ldc_w 267, 3) := by decide +kernel
theorem dJ6_bitCount_0f7a4_32 : decode cJ6_bitCount_0f7a4 32 = .ok (.iand, 1) := by decide +kernel
theorem dJ6_bitCount_0f7a4_33 : decode cJ6_bitCount_0f7a4 33 = .ok (.istore_n 0, 1) := by decide +kernel
theorem dJ6_bitCount_0f7a4_34 : decode cJ6_bitCount_0f7a4 34 = .ok (.iload_n 0, 1) := by decide +kernel
theorem dJ6_bitCount_0f7a4_35 : decode cJ6_bitCount_0f7a4 35 = .ok (.iload_n 0, 1) := by decide +kernel
theorem dJ6_bitCount_0f7a4_36 : decode cJ6_bitCount_0f7a4 36 = .ok (.bipush 8, 2) := by decide +kernel
theorem dJ6_bitCount_0f7a4_38 : decode cJ6_bitCount_0f7a4 38 = .ok (.iushr, 1) := by decide +kernel
theorem dJ6_bitCount_0f7a4_39 : decode cJ6_bitCount_0f7a4 39 = .ok (.iadd, 1) := by decide +kernel
theorem dJ6_bitCount_0f7a4_40 : decode cJ6_bitCount_0f7a4 40 = .ok (.istore_n 0, 1) := by decide +kernel
theorem dJ6_bitCount_0f7a4_41 : decode cJ6_bitCount_0f7a4 41 = .ok (.iload_n 0, 1) := by decide +kernel
theorem dJ6_bitCount_0f7a4_42 : decode cJ6_bitCount_0f7a4 42 = .ok (.iload_n 0, 1) := by decide +kernel
theorem dJ6_bitCount_0f7a4_43 : decode cJ6_bitCount_0f7a4 43 = .ok (.bipush 16, 2) := by decide +kernel
theorem dJ6_bitCount_0f7a4_45 : decode cJ6_bitCount_0f7a4 45 = .ok (.iushr, 1) := by decide +kernel
theorem dJ6_bitCount_0f7a4_46 : decode cJ6_bitCount_0f7a4 46 = .ok (.iadd, 1) := by decide +kernel
theorem dJ6_bitCount_0f7a4_47 : decode cJ6_bitCount_0f7a4 47 = .ok (.istore_n 0, 1) := by decide +kernel
theorem dJ6_bitCount_0f7a4_48 : decode cJ6_bitCount_0f7a4 48 = .ok (.iload_n 0, 1) := by decide +kernel
theorem dJ6_bitCount_0f7a4_49 : decode cJ6_bitCount_0f7a4 49 = .ok (.bipush 63, 2) := by decide +kernel
theorem dJ6_bitCount_0f7a4_51 : decode cJ6_bitCount_0f7a4 51 = .ok (.iand, 1) := by decide +kernel
theorem dJ6_bitCount_0f7a4_52 : decode cJ6_bitCount_0f7a4 52 = .ok (.ireturn, 1) := by decide +kernel
theorem dJ9_max_7cf53_0 : decode cJ9_max_7cf53 0 = .ok (.iload_n 0, 1) := by decide +kernel
theorem dJ9_max_7cf53_1 : decode cJ9_max_7cf53 1 = .ok (.iload_n 1, 1) := by decide +kernel
theorem dJ9_max_7cf53_2 : decode cJ9_max_7cf53 2 = .ok (.if_icmp .lt 7, 3) := by decide +kernel
theorem dJ9_max_7cf53_5 : decode cJ9_max_7cf53 5 = .ok (.iload_n 0, 1) := by decide +kernel
theorem dJ9_max_7cf53_6 : decode cJ9_max_7cf53 6 = .ok (.goto 4, 3) := by decide +kernel
theorem dJ9_max_7cf53_9 : decode cJ9_max_7cf53 9 = .ok (.iload_n 1, 1) := by decide +kernel
theorem dJ9_max_7cf53_10 : decode cJ9_max_7cf53 10 = .ok (.ireturn, 1) := by decide +kernel
theorem dJ9_min_7cf53_0 : decode cJ9_min_7cf53 0 = .ok (.iload_n 0, 1) := by decide +kernel
theorem dJ9_min_7cf53_1 : decode cJ9_min_7cf53 1 = .ok (.iload_n 1, 1) := by decide +kernel
theorem dJ9_min_7cf53_2 : decode cJ9_min_7cf53 2 = .ok (.if_icmp .gt 7, 3) := by decide +kernel
theorem dJ9_min_7cf53_5 : decode cJ9_min_7cf53 5 = .ok (.iload_n 0, 1) := by decide +kernel
theorem dJ9_min_7cf53_6 : decode cJ9_min_7cf53 6 = .ok (.goto 4, 3) := by decide +kernel
theorem dJ9_min_7cf53_9 : decode cJ9_min_7cf53 9 = .ok (.iload_n 1, 1) := by decide +kernel
theorem dJ9_min_7cf53_10 : decode cJ9_min_7cf53 10 = .ok (.ireturn, 1) := by decide +kernel
