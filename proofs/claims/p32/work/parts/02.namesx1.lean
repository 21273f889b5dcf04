set_option maxRecDepth 20000 in
theorem ggX0_whyKept_X0_checkRecord : GoodIn wsX0_whyKept wsX0_checkRecord := goodIn_ca (goodIn_r _ [7, 8, 9, 10, 31, 32, 33, 34, 35, 36, 37, 38, 39, 40, 41, 42, 43, 44, 45, 46] (by decide +kernel) (by decide +kernel)) (goodIn_sub (fun _ h => List.mem_cons_of_mem _ (List.mem_append_right _ h)) (by decide +kernel))
set_option maxRecDepth 20000 in
theorem gX0_whyKept_X0_checkRecord : GoodIn wsX0_whyKept (wsV RX0 80 RX0 yX0_checkRecord wsX0_checkRecord) := goodIn_app (goodIn_of _ (by decide +kernel)) ggX0_whyKept_X0_checkRecord
set_option maxRecDepth 20000 in
theorem ggX0_whyKept_X0_has : GoodIn wsX0_whyKept wsX0_has := goodIn_r _ [13, 14, 15, 6, 16] (by decide +kernel) (by decide +kernel)
set_option maxRecDepth 20000 in
theorem gX0_whyKept_X0_has : GoodIn wsX0_whyKept (va_wsS RX0 65 yX0_has wsX0_has) := goodIn_app (goodIn_of _ (by decide +kernel)) ggX0_whyKept_X0_has
set_option maxRecDepth 20000 in
theorem ggX0_whyKept_X0_heldRecords : GoodIn wsX0_whyKept wsX0_heldRecords := goodIn_r _ [20, 21, 31, 32, 33, 34, 35, 36, 37, 38, 39, 40, 41, 42, 43, 44, 45, 46] (by decide +kernel) (by decide +kernel)
set_option maxRecDepth 20000 in
theorem gX0_whyKept_X0_heldRecords : GoodIn wsX0_whyKept (wsV RX0 171 RX0 yX0_heldRecords wsX0_heldRecords) := goodIn_app (goodIn_of _ (by decide +kernel)) ggX0_whyKept_X0_heldRecords
set_option maxRecDepth 20000 in
theorem ggX0_whyKept_X0_allBelow : GoodIn wsX0_whyKept wsX0_allBelow := goodIn_r _ [25, 14, 15, 6, 16, 26, 27, 28, 29, 10, 30, 31, 32, 33, 34, 35, 36, 37, 38, 39, 40, 41, 42, 43, 44, 45, 46] (by decide +kernel) (by decide +kernel)
set_option maxRecDepth 20000 in
theorem gX0_whyKept_X0_allBelow : GoodIn wsX0_whyKept (wsV RX0 124 RX0 yX0_allBelow wsX0_allBelow) := goodIn_app (goodIn_of _ (by decide +kernel)) ggX0_whyKept_X0_allBelow
theorem dX0_whyKept_0 : decode cX0_whyKept 0 = .ok (.aload_n 0, 1) := by decide +kernel
theorem dX0_whyKept_1 : decode cX0_whyKept 1 = .ok (.iload_n 1, 1) := by decide +kernel
theorem dX0_whyKept_2 : decode cX0_whyKept 2 = .ok (.invokevirtual 80, 3) := by decide +kernel
theorem dX0_whyKept_5 : decode cX0_whyKept 5 = .ok (.aload_n 0, 1) := by decide +kernel
theorem dX0_whyKept_6 : decode cX0_whyKept 6 = .ok (.getfield 118, 3) := by decide +kernel
theorem dX0_whyKept_9 : decode cX0_whyKept 9 = .ok (.iload_n 1, 1) := by decide +kernel
theorem dX0_whyKept_10 : decode cX0_whyKept 10 = .ok (.invokestatic 65, 3) := by decide +kernel
theorem dX0_whyKept_13 : decode cX0_whyKept 13 = .ok (.ifCond .eq 5, 3) := by decide +kernel
theorem dX0_whyKept_16 : decode cX0_whyKept 16 = .ok (.iconst 1, 1) := by decide +kernel
theorem dX0_whyKept_17 : decode cX0_whyKept 17 = .ok (.ireturn, 1) := by decide +kernel
theorem dX0_whyKept_18 : decode cX0_whyKept 18 = .ok (.aload_n 0, 1) := by decide +kernel
theorem dX0_whyKept_19 : decode cX0_whyKept 19 = .ok (.getfield 83, 3) := by decide +kernel
theorem dX0_whyKept_22 : decode cX0_whyKept 22 = .ok (.iload_n 1, 1) := by decide +kernel
theorem dX0_whyKept_23 : decode cX0_whyKept 23 = .ok (.invokestatic 65, 3) := by decide +kernel
theorem dX0_whyKept_26 : decode cX0_whyKept 26 = .ok (.ifCond .eq 5, 3) := by decide +kernel
theorem dX0_whyKept_29 : decode cX0_whyKept 29 = .ok (.iconst 2, 1) := by decide +kernel
theorem dX0_whyKept_30 : decode cX0_whyKept 30 = .ok (.ireturn, 1) := by decide +kernel
theorem dX0_whyKept_31 : decode cX0_whyKept 31 = .ok (.aload_n 0, 1) := by decide +kernel
theorem dX0_whyKept_32 : decode cX0_whyKept 32 = .ok (.invokevirtual 171, 3) := by decide +kernel
theorem dX0_whyKept_35 : decode cX0_whyKept 35 = .ok (.iload_n 1, 1) := by decide +kernel
theorem dX0_whyKept_36 : decode cX0_whyKept 36 = .ok (.invokestatic 65, 3) := by decide +kernel
theorem dX0_whyKept_39 : decode cX0_whyKept 39 = .ok (.ifCond .eq 5, 3) := by decide +kernel
theorem dX0_whyKept_42 : decode cX0_whyKept 42 = .ok (.iconst 3, 1) := by decide +kernel
theorem dX0_whyKept_43 : decode cX0_whyKept 43 = .ok (.ireturn, 1) := by decide +kernel
theorem dX0_whyKept_44 : decode cX0_whyKept 44 = .ok (.aload_n 0, 1) := by decide +kernel
theorem dX0_whyKept_45 : decode cX0_whyKept 45 = .ok (.iload_n 1, 1) := by decide +kernel
theorem dX0_whyKept_46 : decode cX0_whyKept 46 = .ok (.invokevirtual 124, 3) := by decide +kernel
theorem dX0_whyKept_49 : decode cX0_whyKept 49 = .ok (.aload_n 0, 1) := by decide +kernel
theorem dX0_whyKept_50 : decode cX0_whyKept 50 = .ok (.getfield 118, 3) := by decide +kernel
theorem dX0_whyKept_53 : decode cX0_whyKept 53 = .ok (.iconst (-1), 1) := by decide +kernel
theorem dX0_whyKept_54 : decode cX0_whyKept 54 = .ok (.ixor, 1) := by decide +kernel
theorem dX0_whyKept_55 : decode cX0_whyKept 55 = .ok (.iand, 1) := by decide +kernel
theorem dX0_whyKept_56 : decode cX0_whyKept 56 = .ok (.ifCond .ne 7, 3) := by decide +kernel
theorem dX0_whyKept_59 : decode cX0_whyKept 59 = .ok (.iconst 0, 1) := by decide +kernel
theorem dX0_whyKept_60 : decode cX0_whyKept 60 = .ok (.goto 4, 3) := by decide +kernel
theorem dX0_whyKept_63 : decode cX0_whyKept 63 = .ok (.iconst 4, 1) := by decide +kernel
theorem dX0_whyKept_64 : decode cX0_whyKept 64 = .ok (.ireturn, 1) := by decide +kernel
set_option maxRecDepth 20000 in
theorem ggX0_erase_X0_whyKept : GoodIn wsX0_erase wsX0_whyKept := goodIn_ca (goodIn_r _ [6, 7, 8, 9, 10, 11, 5, 12, 13, 14, 1, 15, 16, 17, 18, 19, 20, 21, 22, 23, 24, 25, 26, 27, 28, 29, 30, 31, 32, 33, 34, 40, 41, 42, 43, 44, 45, 46, 47, 48, 49, 50, 51, 52, 53, 54, 55] (by decide +kernel) (by decide +kernel)) (goodIn_sub (fun _ h => List.mem_cons_of_mem _ (List.mem_append_right _ h)) (by decide +kernel))
set_option maxRecDepth 20000 in
theorem gX0_erase_X0_whyKept : GoodIn wsX0_erase (wsV RX0 177 RX0 yX0_whyKept wsX0_whyKept) := goodIn_app (goodIn_of _ (by decide +kernel)) ggX0_erase_X0_whyKept
set_option maxRecDepth 20000 in
theorem ggX0_erase_X0_moveToErased : GoodIn wsX0_erase wsX0_moveToErased := goodIn_r _ [38, 39, 7, 18, 19, 5, 20, 40, 41, 42, 43, 44, 45, 46, 47, 48, 49, 50, 51, 52, 53, 54, 55] (by decide +kernel) (by decide +kernel)
set_option maxRecDepth 20000 in
theorem gX0_erase_X0_moveToErased : GoodIn wsX0_erase (wsV RX0 180 RX0 yX0_moveToErased wsX0_moveToErased) := goodIn_app (goodIn_of _ (by decide +kernel)) ggX0_erase_X0_moveToErased
theorem dX0_erase_0 : decode cX0_erase 0 = .ok (.aload_n 0, 1) := by decide +kernel
theorem dX0_erase_1 : decode cX0_erase 1 = .ok (.getfield 115, 3) := by decide +kernel
theorem dX0_erase_4 : decode cX0_erase 4 = .ok (.iconst 1, 1) := by decide +kernel
theorem dX0_erase_5 : decode cX0_erase 5 = .ok (.isub, 1) := by decide +kernel
theorem dX0_erase_6 : decode cX0_erase 6 = .ok (.istore_n 1, 1) := by decide +kernel
theorem dX0_erase_7 : decode cX0_erase 7 = .ok (.iload_n 1, 1) := by decide +kernel
theorem dX0_erase_8 : decode cX0_erase 8 = .ok (.ifCond .lt 24, 3) := by decide +kernel
theorem dX0_erase_11 : decode cX0_erase 11 = .ok (.aload_n 0, 1) := by decide +kernel
theorem dX0_erase_12 : decode cX0_erase 12 = .ok (.iload_n 1, 1) := by decide +kernel
theorem dX0_erase_13 : decode cX0_erase 13 = .ok (.invokevirtual 177, 3) := by decide +kernel
theorem dX0_erase_16 : decode cX0_erase 16 = .ok (.ifCond .ne 10, 3) := by decide +kernel
theorem dX0_erase_19 : decode cX0_erase 19 = .ok (.aload_n 0, 1) := by decide +kernel
theorem dX0_erase_20 : decode cX0_erase 20 = .ok (.iload_n 1, 1) := by decide +kernel
theorem dX0_erase_21 : decode cX0_erase 21 = .ok (.invokevirtual 180, 3) := by decide +kernel
theorem dX0_erase_24 : decode cX0_erase 24 = .ok (.iload_n 1, 1) := by decide +kernel
theorem dX0_erase_25 : decode cX0_erase 25 = .ok (.ireturn, 1) := by decide +kernel
theorem dX0_erase_26 : decode cX0_erase 26 = .ok (.iinc 1 (-1), 3) := by decide +kernel
theorem dX0_erase_29 : decode cX0_erase 29 = .ok (.goto (-22), 3) := by decide +kernel
theorem dX0_erase_32 : decode cX0_erase 32 = .ok (.iconst (-1), 1) := by decide +kernel
theorem dX0_erase_33 : decode cX0_erase 33 = .ok (.ireturn, 1) := by decide +kernel
set_option maxRecDepth 20000 in
theorem ggX0_eraseAll_X0_whyKept : GoodIn wsX0_eraseAll wsX0_whyKept := goodIn_ca (goodIn_r _ [6, 7, 8, 9, 10, 11, 5, 12, 13, 14, 1, 15, 16, 17, 18, 19, 20, 21, 22, 23, 24, 25, 26, 27, 28, 29, 30, 31, 32, 33, 34, 40, 41, 42, 43, 44, 45, 46, 47, 48, 49, 50, 51, 52, 53, 54, 55] (by decide +kernel) (by decide +kernel)) (goodIn_sub (fun _ h => List.mem_cons_of_mem _ (List.mem_append_right _ h)) (by decide +kernel))
set_option maxRecDepth 20000 in
theorem gX0_eraseAll_X0_whyKept : GoodIn wsX0_eraseAll (wsV RX0 177 RX0 yX0_whyKept wsX0_whyKept) := goodIn_app (goodIn_of _ (by decide +kernel)) ggX0_eraseAll_X0_whyKept
set_option maxRecDepth 20000 in
theorem ggX0_eraseAll_X0_moveToErased : GoodIn wsX0_eraseAll wsX0_moveToErased := goodIn_r _ [38, 39, 7, 18, 19, 5, 20, 40, 41, 42, 43, 44, 45, 46, 47, 48, 49, 50, 51, 52, 53, 54, 55] (by decide +kernel) (by decide +kernel)
set_option maxRecDepth 20000 in
theorem gX0_eraseAll_X0_moveToErased : GoodIn wsX0_eraseAll (wsV RX0 180 RX0 yX0_moveToErased wsX0_moveToErased) := goodIn_app (goodIn_of _ (by decide +kernel)) ggX0_eraseAll_X0_moveToErased
theorem dX0_eraseAll_0 : decode cX0_eraseAll 0 = .ok (.iconst 0, 1) := by decide +kernel
theorem dX0_eraseAll_1 : decode cX0_eraseAll 1 = .ok (.istore_n 1, 1) := by decide +kernel
theorem dX0_eraseAll_2 : decode cX0_eraseAll 2 = .ok (.aload_n 0, 1) := by decide +kernel
theorem dX0_eraseAll_3 : decode cX0_eraseAll 3 = .ok (.getfield 115, 3) := by decide +kernel
theorem dX0_eraseAll_6 : decode cX0_eraseAll 6 = .ok (.iconst 1, 1) := by decide +kernel
theorem dX0_eraseAll_7 : decode cX0_eraseAll 7 = .ok (.isub, 1) := by decide +kernel
theorem dX0_eraseAll_8 : decode cX0_eraseAll 8 = .ok (.istore_n 2, 1) := by decide +kernel
theorem dX0_eraseAll_9 : decode cX0_eraseAll 9 = .ok (.iload_n 2, 1) := by decide +kernel
theorem dX0_eraseAll_10 : decode cX0_eraseAll 10 = .ok (.ifCond .lt 25, 3) := by decide +kernel
theorem dX0_eraseAll_13 : decode cX0_eraseAll 13 = .ok (.aload_n 0, 1) := by decide +kernel
theorem dX0_eraseAll_14 : decode cX0_eraseAll 14 = .ok (.iload_n 2, 1) := by decide +kernel
theorem dX0_eraseAll_15 : decode cX0_eraseAll 15 = .ok (.invokevirtual 177, 3) := by decide +kernel
theorem dX0_eraseAll_18 : decode cX0_eraseAll 18 = .ok (.ifCond .ne 11, 3) := by decide +kernel
theorem dX0_eraseAll_21 : decode cX0_eraseAll 21 = .ok (.aload_n 0, 1) := by decide +kernel
theorem dX0_eraseAll_22 : decode cX0_eraseAll 22 = .ok (.iload_n 2, 1) := by decide +kernel
theorem dX0_eraseAll_23 : decode cX0_eraseAll 23 = .ok (.invokevirtual 180, 3) := by decide +kernel
theorem dX0_eraseAll_26 : decode cX0_eraseAll 26 = .ok (.iinc 1 1, 3) := by decide +kernel
theorem dX0_eraseAll_29 : decode cX0_eraseAll 29 = .ok (.iinc 2 (-1), 3) := by decide +kernel
theorem dX0_eraseAll_32 : decode cX0_eraseAll 32 = .ok (.goto (-23), 3) := by decide +kernel
theorem dX0_eraseAll_35 : decode cX0_eraseAll 35 = .ok (.iload_n 1, 1) := by decide +kernel
theorem dX0_eraseAll_36 : decode cX0_eraseAll 36 = .ok (.ireturn, 1) := by decide +kernel
set_option maxRecDepth 20000 in
theorem ggX0_traces_X0_checkSubject : GoodIn wsX0_traces wsX0_checkSubject := goodIn_ca (goodIn_r _ [6, 7, 8] (by decide +kernel) (by decide +kernel)) (goodIn_sub (fun _ h => List.mem_cons_of_mem _ (List.mem_append_right _ h)) (by decide +kernel))
set_option maxRecDepth 20000 in
theorem gX0_traces_X0_checkSubject : GoodIn wsX0_traces (wsV RX0 62 RX0 yX0_checkSubject wsX0_checkSubject) := goodIn_app (goodIn_of _ (by decide +kernel)) ggX0_traces_X0_checkSubject
set_option maxRecDepth 20000 in
theorem ggX0_traces_X0_recordsOf : GoodIn wsX0_traces wsX0_recordsOf := goodIn_r _ [12, 13, 14, 15, 16, 5, 17, 18, 19, 20, 21, 22, 23, 24, 25, 26, 27, 28, 29, 30, 31, 32, 33, 34, 35, 36] (by decide +kernel) (by decide +kernel)
set_option maxRecDepth 20000 in
theorem gX0_traces_X0_recordsOf : GoodIn wsX0_traces (wsV RX0 174 RX0 yX0_recordsOf wsX0_recordsOf) := goodIn_app (goodIn_of _ (by decide +kernel)) ggX0_traces_X0_recordsOf
theorem dX0_traces_0 : decode cX0_traces 0 = .ok (.aload_n 0, 1) := by decide +kernel
theorem dX0_traces_1 : decode cX0_traces 1 = .ok (.iload_n 1, 1) := by decide +kernel
theorem dX0_traces_2 : decode cX0_traces 2 = .ok (.invokevirtual 62, 3) := by decide +kernel
theorem dX0_traces_5 : decode cX0_traces 5 = .ok (.aload_n 0, 1) := by decide +kernel
theorem dX0_traces_6 : decode cX0_traces 6 = .ok (.iload_n 1, 1) := by decide +kernel
theorem dX0_traces_7 : decode cX0_traces 7 = .ok (.invokevirtual 174, 3) := by decide +kernel
theorem dX0_traces_10 : decode cX0_traces 10 = .ok (.aload_n 0, 1) := by decide +kernel
theorem dX0_traces_11 : decode cX0_traces 11 = .ok (.getfield 118, 3) := by decide +kernel
theorem dX0_traces_14 : decode cX0_traces 14 = .ok (.iconst (-1), 1) := by decide +kernel
theorem dX0_traces_15 : decode cX0_traces 15 = .ok (.ixor, 1) := by decide +kernel
theorem dX0_traces_16 : decode cX0_traces 16 = .ok (.iand, 1) := by decide +kernel
theorem dX0_traces_17 : decode cX0_traces 17 = .ok (.ireturn, 1) := by decide +kernel
set_option maxRecDepth 20000 in
theorem ggX0_tracesFromRoots_X0_checkSubject : GoodIn wsX0_tracesFromRoots wsX0_checkSubject := goodIn_ca (goodIn_r _ [6, 7, 8] (by decide +kernel) (by decide +kernel)) (goodIn_sub (fun _ h => List.mem_cons_of_mem _ (List.mem_append_right _ h)) (by decide +kernel))
set_option maxRecDepth 20000 in
theorem gX0_tracesFromRoots_X0_checkSubject : GoodIn wsX0_tracesFromRoots (wsV RX0 62 RX0 yX0_checkSubject wsX0_checkSubject) := goodIn_app (goodIn_of _ (by decide +kernel)) ggX0_tracesFromRoots_X0_checkSubject
set_option maxRecDepth 20000 in
theorem ggX0_tracesFromRoots_X0_rootsOf : GoodIn wsX0_tracesFromRoots wsX0_rootsOf := goodIn_r _ [12, 13, 14, 15, 16, 17, 5, 18, 19, 20, 21, 22, 23, 24, 25, 30, 31, 32, 33, 34, 35, 36, 37, 38, 39, 40, 41, 42, 43, 44, 45] (by decide +kernel) (by decide +kernel)
set_option maxRecDepth 20000 in
theorem gX0_tracesFromRoots_X0_rootsOf : GoodIn wsX0_tracesFromRoots (wsV RX0 183 RX0 yX0_rootsOf wsX0_rootsOf) := goodIn_app (goodIn_of _ (by decide +kernel)) ggX0_tracesFromRoots_X0_rootsOf
set_option maxRecDepth 20000 in
theorem ggX0_tracesFromRoots_X0_withAllBelow : GoodIn wsX0_tracesFromRoots wsX0_withAllBelow := goodIn_r _ [29, 13, 19, 23, 24, 5, 25, 30, 31, 32, 33, 34, 35, 36, 37, 38, 39, 40, 41, 42, 43, 44, 45] (by decide +kernel) (by decide +kernel)
set_option maxRecDepth 20000 in
theorem gX0_tracesFromRoots_X0_withAllBelow : GoodIn wsX0_tracesFromRoots (wsV RX0 103 RX0 yX0_withAllBelow wsX0_withAllBelow) := goodIn_app (goodIn_of _ (by decide +kernel)) ggX0_tracesFromRoots_X0_withAllBelow
theorem dX0_tracesFromRoots_0 : decode cX0_tracesFromRoots 0 = .ok (.aload_n 0, 1) := by decide +kernel
theorem dX0_tracesFromRoots_1 : decode cX0_tracesFromRoots 1 = .ok (.iload_n 1, 1) := by decide +kernel
theorem dX0_tracesFromRoots_2 : decode cX0_tracesFromRoots 2 = .ok (.invokevirtual 62, 3) := by decide +kernel
theorem dX0_tracesFromRoots_5 : decode cX0_tracesFromRoots 5 = .ok (.aload_n 0, 1) := by decide +kernel
theorem dX0_tracesFromRoots_6 : decode cX0_tracesFromRoots 6 = .ok (.aload_n 0, 1) := by decide +kernel
theorem dX0_tracesFromRoots_7 : decode cX0_tracesFromRoots 7 = .ok (.iload_n 1, 1) := by decide +kernel
theorem dX0_tracesFromRoots_8 : decode cX0_tracesFromRoots 8 = .ok (.invokevirtual 183, 3) := by decide +kernel
theorem dX0_tracesFromRoots_11 : decode cX0_tracesFromRoots 11 = .ok (.invokevirtual 103, 3) := by decide +kernel
theorem dX0_tracesFromRoots_14 : decode cX0_tracesFromRoots 14 = .ok (.aload_n 0, 1) := by decide +kernel
theorem dX0_tracesFromRoots_15 : decode cX0_tracesFromRoots 15 = .ok (.getfield 118, 3) := by decide +kernel
theorem dX0_tracesFromRoots_18 : decode cX0_tracesFromRoots 18 = .ok (.iconst (-1), 1) := by decide +kernel
theorem dX0_tracesFromRoots_19 : decode cX0_tracesFromRoots 19 = .ok (.ixor, 1) := by decide +kernel
theorem dX0_tracesFromRoots_20 : decode cX0_tracesFromRoots 20 = .ok (.iand, 1) := by decide +kernel
theorem dX0_tracesFromRoots_21 : decode cX0_tracesFromRoots 21 = .ok (.ireturn, 1) := by decide +kernel
set_option maxRecDepth 20000 in
theorem ggX0_due_X0_dueRecords : GoodIn wsX0_due wsX0_dueRecords := goodIn_r _ [5, 6, 7, 8, 9, 10, 11, 12, 4, 13, 14, 15, 16, 17, 18, 19, 20, 21, 22, 23, 24, 25, 26, 27, 28, 29, 30, 31, 32, 33, 34, 35, 36, 37, 38, 39, 40, 41, 42, 43, 44, 45, 46, 47, 48, 49, 50, 51, 52, 53] (by decide +kernel) (by decide +kernel)
set_option maxRecDepth 20000 in
theorem gX0_due_X0_dueRecords : GoodIn wsX0_due (wsV RX0 152 RX0 yX0_dueRecords wsX0_dueRecords) := goodIn_app (goodIn_of _ (by decide +kernel)) ggX0_due_X0_dueRecords
theorem dX0_due_0 : decode cX0_due 0 = .ok (.aload_n 0, 1) := by decide +kernel
theorem dX0_due_1 : decode cX0_due 1 = .ok (.invokevirtual 152, 3) := by decide +kernel
theorem dX0_due_4 : decode cX0_due 4 = .ok (.ireturn, 1) := by decide +kernel
theorem dX0_checkSubject_0 : decode cX0_checkSubject 0 = .ok (.iload_n 1, 1) := by decide +kernel
theorem dX0_checkSubject_1 : decode cX0_checkSubject 1 = .ok (.ifCond .lt 9, 3) := by decide +kernel
theorem dX0_checkSubject_4 : decode cX0_checkSubject 4 = .ok (.iload_n 1, 1) := by decide +kernel
theorem dX0_checkSubject_5 : decode cX0_checkSubject 5 = .ok (.bipush 12, 2) := by decide +kernel
theorem dX0_checkSubject_7 : decode cX0_checkSubject 7 = .ok (.if_icmp .lt 13, 3) := by decide +kernel
theorem dX0_checkSubject_10 : decode cX0_checkSubject 10 = .ok (.new 186, 3) := by decide +kernel
theorem dX0_checkSubject_13 : decode cX0_checkSubject 13 = .ok (.dup, 1) := by decide +kernel
theorem dX0_checkSubject_14 : decode cX0_checkSubject 14 = .ok (.ldc 188, 2) := by decide +kernel
theorem dX0_checkSubject_16 : decode cX0_checkSubject 16 = .ok (.invokespecial 190, 3) := by decide +kernel
theorem dX0_checkSubject_19 : decode cX0_checkSubject 19 = .ok (.athrow, 1) := by decide +kernel
theorem dX0_checkSubject_20 : decode cX0_checkSubject 20 = .ok (.return_, 1) := by decide +kernel
theorem dX0_checkPurpose_0 : decode cX0_checkPurpose 0 = .ok (.iload_n 1, 1) := by decide +kernel
theorem dX0_checkPurpose_1 : decode cX0_checkPurpose 1 = .ok (.ifCond .lt 11, 3) := by decide +kernel
theorem dX0_checkPurpose_4 : decode cX0_checkPurpose 4 = .ok (.iload_n 1, 1) := by decide +kernel
theorem dX0_checkPurpose_5 : decode cX0_checkPurpose 5 = .ok (.aload_n 0, 1) := by decide +kernel
theorem dX0_checkPurpose_6 : decode cX0_checkPurpose 6 = .ok (.getfield 41, 3) := by decide +kernel
theorem dX0_checkPurpose_9 : decode cX0_checkPurpose 9 = .ok (.if_icmp .lt 13, 3) := by decide +kernel
theorem dX0_checkPurpose_12 : decode cX0_checkPurpose 12 = .ok (.new 186, 3) := by decide +kernel
theorem dX0_checkPurpose_15 : decode cX0_checkPurpose 15 = .ok (.dup, 1) := by decide +kernel
theorem dX0_checkPurpose_16 : decode cX0_checkPurpose 16 = .ok (.ldc 191, 2) := by decide +kernel
theorem dX0_checkPurpose_18 : decode cX0_checkPurpose 18 = .ok (.invokespecial 190, 3) := by decide +kernel
theorem dX0_checkPurpose_21 : decode cX0_checkPurpose 21 = .ok (.athrow, 1) := by decide +kernel
theorem dX0_checkPurpose_22 : decode cX0_checkPurpose 22 = .ok (.return_, 1) := by decide +kernel
set_option maxRecDepth 20000 in
theorem ggX0_checkPurposes_X0_allPurposes : GoodIn wsX0_checkPurposes wsX0_allPurposes := goodIn_r _ [9, 10, 11, 12, 8, 13, 14, 15, 16, 17, 18, 19, 20, 21, 22, 23, 24, 25, 26, 27, 28, 29] (by decide +kernel) (by decide +kernel)
set_option maxRecDepth 20000 in
theorem gX0_checkPurposes_X0_allPurposes : GoodIn wsX0_checkPurposes (wsV RX0 193 RX0 yX0_allPurposes wsX0_allPurposes) := goodIn_app (goodIn_of _ (by decide +kernel)) ggX0_checkPurposes_X0_allPurposes
theorem dX0_checkPurposes_0 : decode cX0_checkPurposes 0 = .ok (.iload_n 1, 1) := by decide +kernel
theorem dX0_checkPurposes_1 : decode cX0_checkPurposes 1 = .ok (.aload_n 0, 1) := by decide +kernel
theorem dX0_checkPurposes_2 : decode cX0_checkPurposes 2 = .ok (.invokevirtual 193, 3) := by decide +kernel
theorem dX0_checkPurposes_5 : decode cX0_checkPurposes 5 = .ok (.iconst (-1), 1) := by decide +kernel
theorem dX0_checkPurposes_6 : decode cX0_checkPurposes 6 = .ok (.ixor, 1) := by decide +kernel
theorem dX0_checkPurposes_7 : decode cX0_checkPurposes 7 = .ok (.iand, 1) := by decide +kernel
theorem dX0_checkPurposes_8 : decode cX0_checkPurposes 8 = .ok (.ifCond .eq 13, 3) := by decide +kernel
theorem dX0_checkPurposes_11 : decode cX0_checkPurposes 11 = .ok (.new 186, 3) := by decide +kernel
theorem dX0_checkPurposes_14 : decode cX0_checkPurposes 14 = .ok (.dup, 1) := by decide +kernel
theorem dX0_checkPurposes_15 : decode cX0_checkPurposes 15 = .ok (.ldc 196, 2) := by decide +kernel
theorem dX0_checkPurposes_17 : decode cX0_checkPurposes 17 = .ok (.invokespecial 190, 3) := by decide +kernel
theorem dX0_checkPurposes_20 : decode cX0_checkPurposes 20 = .ok (.athrow, 1) := by decide +kernel
theorem dX0_checkPurposes_21 : decode cX0_checkPurposes 21 = .ok (.iload_n 1, 1) := by decide +kernel
theorem dX0_checkPurposes_22 : decode cX0_checkPurposes 22 = .ok (.ifCond .ne 13, 3) := by decide +kernel
theorem dX0_checkPurposes_25 : decode cX0_checkPurposes 25 = .ok (.new 88, 3) := by decide +kernel
theorem dX0_checkPurposes_28 : decode cX0_checkPurposes 28 = .ok (.dup, 1) := by decide +kernel
theorem dX0_checkPurposes_29 : decode cX0_checkPurposes 29 = .ok (.ldc 198, 2) := by decide +kernel
theorem dX0_checkPurposes_31 : decode cX0_checkPurposes 31 = .ok (.invokespecial 92, 3) := by decide +kernel
theorem dX0_checkPurposes_34 : decode cX0_checkPurposes 34 = .ok (.athrow, 1) := by decide +kernel
theorem dX0_checkPurposes_35 : decode cX0_checkPurposes 35 = .ok (.return_, 1) := by decide +kernel
theorem dX0_checkRetention_0 : decode cX0_checkRetention 0 = .ok (.iload_n 1, 1) := by decide +kernel
theorem dX0_checkRetention_1 : decode cX0_checkRetention 1 = .ok (.ifCond .lt 10, 3) := by decide +kernel
theorem dX0_checkRetention_4 : decode cX0_checkRetention 4 = .ok (.iload_n 1, 1) := by decide +kernel
theorem dX0_checkRetention_5 : decode cX0_checkRetention 5 = .ok (.sipush 3650, 3) := by decide +kernel
theorem dX0_checkRetention_8 : decode cX0_checkRetention 8 = .ok (.if_icmp .le 13, 3) := by decide +kernel
theorem dX0_checkRetention_11 : decode cX0_checkRetention 11 = .ok (.new 88, 3) := by decide +kernel
theorem dX0_checkRetention_14 : decode cX0_checkRetention 14 = .ok (.dup, 1) := by decide +kernel
theorem dX0_checkRetention_15 : decode cX0_checkRetention 15 = .ok (.ldc 200, 2) := by decide +kernel
theorem dX0_checkRetention_17 : decode cX0_checkRetention 17 = .ok (.invokespecial 92, 3) := by decide +kernel
theorem dX0_checkRetention_20 : decode cX0_checkRetention 20 = .ok (.athrow, 1) := by decide +kernel
theorem dX0_checkRetention_21 : decode cX0_checkRetention 21 = .ok (.return_, 1) := by decide +kernel
theorem dX0_checkRecord_0 : decode cX0_checkRecord 0 = .ok (.iload_n 1, 1) := by decide +kernel
theorem dX0_checkRecord_1 : decode cX0_checkRecord 1 = .ok (.ifCond .lt 11, 3) := by decide +kernel
theorem dX0_checkRecord_4 : decode cX0_checkRecord 4 = .ok (.iload_n 1, 1) := by decide +kernel
theorem dX0_checkRecord_5 : decode cX0_checkRecord 5 = .ok (.aload_n 0, 1) := by decide +kernel
theorem dX0_checkRecord_6 : decode cX0_checkRecord 6 = .ok (.getfield 115, 3) := by decide +kernel
theorem dX0_checkRecord_9 : decode cX0_checkRecord 9 = .ok (.if_icmp .lt 13, 3) := by decide +kernel
theorem dX0_checkRecord_12 : decode cX0_checkRecord 12 = .ok (.new 186, 3) := by decide +kernel
theorem dX0_checkRecord_15 : decode cX0_checkRecord 15 = .ok (.dup, 1) := by decide +kernel
theorem dX0_checkRecord_16 : decode cX0_checkRecord 16 = .ok (.ldc 202, 2) := by decide +kernel
theorem dX0_checkRecord_18 : decode cX0_checkRecord 18 = .ok (.invokespecial 190, 3) := by decide +kernel
theorem dX0_checkRecord_21 : decode cX0_checkRecord 21 = .ok (.athrow, 1) := by decide +kernel
theorem dX0_checkRecord_22 : decode cX0_checkRecord 22 = .ok (.return_, 1) := by decide +kernel
theorem dX0_checkCase_0 : decode cX0_checkCase 0 = .ok (.iload_n 1, 1) := by decide +kernel
theorem dX0_checkCase_1 : decode cX0_checkCase 1 = .ok (.ifCond .lt 9, 3) := by decide +kernel
theorem dX0_checkCase_4 : decode cX0_checkCase 4 = .ok (.iload_n 1, 1) := by decide +kernel
theorem dX0_checkCase_5 : decode cX0_checkCase 5 = .ok (.bipush 6, 2) := by decide +kernel
theorem dX0_checkCase_7 : decode cX0_checkCase 7 = .ok (.if_icmp .lt 13, 3) := by decide +kernel
theorem dX0_checkCase_10 : decode cX0_checkCase 10 = .ok (.new 186, 3) := by decide +kernel
theorem dX0_checkCase_13 : decode cX0_checkCase 13 = .ok (.dup, 1) := by decide +kernel
theorem dX0_checkCase_14 : decode cX0_checkCase 14 = .ok (.ldc 204, 2) := by decide +kernel
theorem dX0_checkCase_16 : decode cX0_checkCase 16 = .ok (.invokespecial 190, 3) := by decide +kernel
theorem dX0_checkCase_19 : decode cX0_checkCase 19 = .ok (.athrow, 1) := by decide +kernel
theorem dX0_checkCase_20 : decode cX0_checkCase 20 = .ok (.return_, 1) := by decide +kernel
theorem dX0_bit_0 : decode cX0_bit 0 = .ok (.iconst 1, 1) := by decide +kernel
theorem dX0_bit_1 : decode cX0_bit 1 = .ok (.iload_n 0, 1) := by decide +kernel
theorem dX0_bit_2 : decode cX0_bit 2 = .ok (.ishl, 1) := by decide +kernel
theorem dX0_bit_3 : decode cX0_bit 3 = .ok (.ireturn, 1) := by decide +kernel
set_option maxRecDepth 20000 in
theorem ggX0_has_X0_bit : GoodIn wsX0_has wsX0_bit := goodIn_r _ [4] (by decide +kernel) (by decide +kernel)
set_option maxRecDepth 20000 in
theorem gX0_has_X0_bit : GoodIn wsX0_has (va_wsS RX0 55 yX0_bit wsX0_bit) := goodIn_app (goodIn_of _ (by decide +kernel)) ggX0_has_X0_bit
theorem dX0_has_0 : decode cX0_has 0 = .ok (.iload_n 0, 1) := by decide +kernel
theorem dX0_has_1 : decode cX0_has 1 = .ok (.iload_n 1, 1) := by decide +kernel
theorem dX0_has_2 : decode cX0_has 2 = .ok (.invokestatic 55, 3) := by decide +kernel
theorem dX0_has_5 : decode cX0_has 5 = .ok (.iand, 1) := by decide +kernel
theorem dX0_has_6 : decode cX0_has 6 = .ok (.ifCond .eq 7, 3) := by decide +kernel
theorem dX0_has_9 : decode cX0_has 9 = .ok (.iconst 1, 1) := by decide +kernel
theorem dX0_has_10 : decode cX0_has 10 = .ok (.goto 4, 3) := by decide +kernel
theorem dX0_has_13 : decode cX0_has 13 = .ok (.iconst 0, 1) := by decide +kernel
theorem dX0_has_14 : decode cX0_has 14 = .ok (.ireturn, 1) := by decide +kernel
set_option maxRecDepth 20000 in
theorem ggX0_allPurposes_X0_bit : GoodIn wsX0_allPurposes wsX0_bit := goodIn_r _ [5] (by decide +kernel) (by decide +kernel)
set_option maxRecDepth 20000 in
theorem gX0_allPurposes_X0_bit : GoodIn wsX0_allPurposes (va_wsS RX0 55 yX0_bit wsX0_bit) := goodIn_app (goodIn_of _ (by decide +kernel)) ggX0_allPurposes_X0_bit
theorem dX0_allPurposes_0 : decode cX0_allPurposes 0 = .ok (.aload_n 0, 1) := by decide +kernel
theorem dX0_allPurposes_1 : decode cX0_allPurposes 1 = .ok (.getfield 41, 3) := by decide +kernel
theorem dX0_allPurposes_4 : decode cX0_allPurposes 4 = .ok (.invokestatic 55, 3) := by decide +kernel
theorem dX0_allPurposes_7 : decode cX0_allPurposes 7 = .ok (.iconst 1, 1) := by decide +kernel
theorem dX0_allPurposes_8 : decode cX0_allPurposes 8 = .ok (.isub, 1) := by decide +kernel
theorem dX0_allPurposes_9 : decode cX0_allPurposes 9 = .ok (.ireturn, 1) := by decide +kernel
theorem dX0_consentIndex_0 : decode cX0_consentIndex 0 = .ok (.iload_n 0, 1) := by decide +kernel
theorem dX0_consentIndex_1 : decode cX0_consentIndex 1 = .ok (.bipush 8, 2) := by decide +kernel
theorem dX0_consentIndex_3 : decode cX0_consentIndex 3 = .ok (.imul, 1) := by decide +kernel
theorem dX0_consentIndex_4 : decode cX0_consentIndex 4 = .ok (.iload_n 1, 1) := by decide +kernel
theorem dX0_consentIndex_5 : decode cX0_consentIndex 5 = .ok (.iadd, 1) := by decide +kernel
theorem dX0_consentIndex_6 : decode cX0_consentIndex 6 = .ok (.ireturn, 1) := by decide +kernel
theorem dX0_useIndex_0 : decode cX0_useIndex 0 = .ok (.iload_n 0, 1) := by decide +kernel
theorem dX0_useIndex_1 : decode cX0_useIndex 1 = .ok (.bipush 8, 2) := by decide +kernel
theorem dX0_useIndex_3 : decode cX0_useIndex 3 = .ok (.imul, 1) := by decide +kernel
theorem dX0_useIndex_4 : decode cX0_useIndex 4 = .ok (.iload_n 1, 1) := by decide +kernel
theorem dX0_useIndex_5 : decode cX0_useIndex 5 = .ok (.iadd, 1) := by decide +kernel
theorem dX0_useIndex_6 : decode cX0_useIndex 6 = .ok (.ireturn, 1) := by decide +kernel
set_option maxRecDepth 20000 in
theorem ggX0_addRecord_X0_isAnyOpen : GoodIn wsX0_addRecord wsX0_isAnyOpen := goodIn_r _ [14, 15, 16, 17, 18, 13, 19, 20, 21, 22, 23, 24, 25, 26, 27, 28, 29, 30, 31, 32, 33, 34, 35, 4, 36, 37, 38, 39, 40, 41, 42, 43, 44, 45, 46, 47, 48, 49, 50, 51, 52] (by decide +kernel) (by decide +kernel)
set_option maxRecDepth 20000 in
theorem gX0_addRecord_X0_isAnyOpen : GoodIn wsX0_addRecord (wsV RX0 208 RX0 yX0_isAnyOpen wsX0_isAnyOpen) := goodIn_app (goodIn_of _ (by decide +kernel)) ggX0_addRecord_X0_isAnyOpen
set_option maxRecDepth 20000 in
theorem ggX0_addRecord_X0_bit : GoodIn wsX0_addRecord wsX0_bit := goodIn_r _ [28] (by decide +kernel) (by decide +kernel)
set_option maxRecDepth 20000 in
theorem gX0_addRecord_X0_bit : GoodIn wsX0_addRecord (va_wsS RX0 55 yX0_bit wsX0_bit) := goodIn_app (goodIn_of _ (by decide +kernel)) ggX0_addRecord_X0_bit
theorem dX0_addRecord_0 : decode cX0_addRecord 0 = .ok (.aload_n 0, 1) := by decide +kernel
theorem dX0_addRecord_1 : decode cX0_addRecord 1 = .ok (.getfield 115, 3) := by decide +kernel
theorem dX0_addRecord_4 : decode cX0_addRecord 4 = .ok (.bipush 30, 2) := by decide +kernel
theorem dX0_addRecord_6 : decode cX0_addRecord 6 = .ok (.if_icmp .lt 13, 3) := by decide +kernel
theorem dX0_addRecord_9 : decode cX0_addRecord 9 = .ok (.new 45, 3) := by decide +kernel
theorem dX0_addRecord_12 : decode cX0_addRecord 12 = .ok (.dup, 1) := by decide +kernel
theorem dX0_addRecord_13 : decode cX0_addRecord 13 = .ok (.ldc 206, 2) := by decide +kernel
theorem dX0_addRecord_15 : decode cX0_addRecord 15 = .ok (.invokespecial 49, 3) := by decide +kernel
theorem dX0_addRecord_18 : decode cX0_addRecord 18 = .ok (.athrow, 1) := by decide +kernel
theorem dX0_addRecord_19 : decode cX0_addRecord 19 = .ok (.aload_n 0, 1) := by decide +kernel
theorem dX0_addRecord_20 : decode cX0_addRecord 20 = .ok (.iload_n 2, 1) := by decide +kernel
theorem dX0_addRecord_21 : decode cX0_addRecord 21 = .ok (.iload_n 1, 1) := by decide +kernel
theorem dX0_addRecord_22 : decode cX0_addRecord 22 = .ok (.aload_n 0, 1) := by decide +kernel
theorem dX0_addRecord_23 : decode cX0_addRecord 23 = .ok (.getfield 149, 3) := by decide +kernel
theorem dX0_addRecord_26 : decode cX0_addRecord 26 = .ok (.invokevirtual 208, 3) := by decide +kernel
theorem dX0_addRecord_29 : decode cX0_addRecord 29 = .ok (.ifCond .ne 13, 3) := by decide +kernel
theorem dX0_addRecord_32 : decode cX0_addRecord 32 = .ok (.new 45, 3) := by decide +kernel
theorem dX0_addRecord_35 : decode cX0_addRecord 35 = .ok (.dup, 1) := by decide +kernel
theorem dX0_addRecord_36 : decode cX0_addRecord 36 = .ok (.ldc 212, 2) := by decide +kernel
theorem dX0_addRecord_38 : decode cX0_addRecord 38 = .ok (.invokespecial 49, 3) := by decide +kernel
theorem dX0_addRecord_41 : decode cX0_addRecord 41 = .ok (.athrow, 1) := by decide +kernel
theorem dX0_addRecord_42 : decode cX0_addRecord 42 = .ok (.aload_n 0, 1) := by decide +kernel
theorem dX0_addRecord_43 : decode cX0_addRecord 43 = .ok (.getfield 115, 3) := by decide +kernel
theorem dX0_addRecord_46 : decode cX0_addRecord 46 = .ok (.istore 4, 2) := by decide +kernel
theorem dX0_addRecord_48 : decode cX0_addRecord 48 = .ok (.aload_n 0, 1) := by decide +kernel
theorem dX0_addRecord_49 : decode cX0_addRecord 49 = .ok (.getfield 19, 3) := by decide +kernel
theorem dX0_addRecord_52 : decode cX0_addRecord 52 = .ok (.iload 4, 2) := by decide +kernel
theorem dX0_addRecord_54 : decode cX0_addRecord 54 = .ok (.aload_n 0, 1) := by decide +kernel
theorem dX0_addRecord_55 : decode cX0_addRecord 55 = .ok (.getfield 149, 3) := by decide +kernel
theorem dX0_addRecord_58 : decode cX0_addRecord 58 = .ok (.iastore, 1) := by decide +kernel
theorem dX0_addRecord_59 : decode cX0_addRecord 59 = .ok (.aload_n 0, 1) := by decide +kernel
theorem dX0_addRecord_60 : decode cX0_addRecord 60 = .ok (.getfield 22, 3) := by decide +kernel
theorem dX0_addRecord_63 : decode cX0_addRecord 63 = .ok (.iload 4, 2) := by decide +kernel
theorem dX0_addRecord_65 : decode cX0_addRecord 65 = .ok (.iload_n 2, 1) := by decide +kernel
theorem dX0_addRecord_66 : decode cX0_addRecord 66 = .ok (.iastore, 1) := by decide +kernel
theorem dX0_addRecord_67 : decode cX0_addRecord 67 = .ok (.aload_n 0, 1) := by decide +kernel
theorem dX0_addRecord_68 : decode cX0_addRecord 68 = .ok (.getfield 25, 3) := by decide +kernel
theorem dX0_addRecord_71 : decode cX0_addRecord 71 = .ok (.iload 4, 2) := by decide +kernel
theorem dX0_addRecord_73 : decode cX0_addRecord 73 = .ok (.iload_n 1, 1) := by decide +kernel
theorem dX0_addRecord_74 : decode cX0_addRecord 74 = .ok (.iastore, 1) := by decide +kernel
theorem dX0_addRecord_75 : decode cX0_addRecord 75 = .ok (.aload_n 0, 1) := by decide +kernel
theorem dX0_addRecord_76 : decode cX0_addRecord 76 = .ok (.getfield 28, 3) := by decide +kernel
theorem dX0_addRecord_79 : decode cX0_addRecord 79 = .ok (.iload 4, 2) := by decide +kernel
theorem dX0_addRecord_81 : decode cX0_addRecord 81 = .ok (.iload_n 3, 1) := by decide +kernel
theorem dX0_addRecord_82 : decode cX0_addRecord 82 = .ok (.iastore, 1) := by decide +kernel
theorem dX0_addRecord_83 : decode cX0_addRecord 83 = .ok (.aload_n 0, 1) := by decide +kernel
theorem dX0_addRecord_84 : decode cX0_addRecord 84 = .ok (.dup, 1) := by decide +kernel
theorem dX0_addRecord_85 : decode cX0_addRecord 85 = .ok (.getfield 83, 3) := by decide +kernel
theorem dX0_addRecord_88 : decode cX0_addRecord 88 = .ok (.iload 4, 2) := by decide +kernel
theorem dX0_addRecord_90 : decode cX0_addRecord 90 = .ok (.invokestatic 55, 3) := by decide +kernel
theorem dX0_addRecord_93 : decode cX0_addRecord 93 = .ok (.ior, 1) := by decide +kernel
theorem dX0_addRecord_94 : decode cX0_addRecord 94 = .ok (.putfield 83, 3) := by decide +kernel
theorem dX0_addRecord_97 : decode cX0_addRecord 97 = .ok (.aload_n 0, 1) := by decide +kernel
theorem dX0_addRecord_98 : decode cX0_addRecord 98 = .ok (.dup, 1) := by decide +kernel
theorem dX0_addRecord_99 : decode cX0_addRecord 99 = .ok (.getfield 115, 3) := by decide +kernel
theorem dX0_addRecord_102 : decode cX0_addRecord 102 = .ok (.iconst 1, 1) := by decide +kernel
theorem dX0_addRecord_103 : decode cX0_addRecord 103 = .ok (.iadd, 1) := by decide +kernel
theorem dX0_addRecord_104 : decode cX0_addRecord 104 = .ok (.putfield 115, 3) := by decide +kernel
theorem dX0_addRecord_107 : decode cX0_addRecord 107 = .ok (.iload 4, 2) := by decide +kernel
theorem dX0_addRecord_109 : decode cX0_addRecord 109 = .ok (.ireturn, 1) := by decide +kernel
set_option maxRecDepth 20000 in
theorem ggX0_addSubjects_X0_has : GoodIn wsX0_addSubjects wsX0_has := goodIn_r _ [6, 7, 8, 5, 9] (by decide +kernel) (by decide +kernel)
set_option maxRecDepth 20000 in
theorem gX0_addSubjects_X0_has : GoodIn wsX0_addSubjects (va_wsS RX0 65 yX0_has wsX0_has) := goodIn_app (goodIn_of _ (by decide +kernel)) ggX0_addSubjects_X0_has
theorem dX0_addSubjects_0 : decode cX0_addSubjects 0 = .ok (.iconst 0, 1) := by decide +kernel
theorem dX0_addSubjects_1 : decode cX0_addSubjects 1 = .ok (.istore_n 3, 1) := by decide +kernel
theorem dX0_addSubjects_2 : decode cX0_addSubjects 2 = .ok (.iload_n 3, 1) := by decide +kernel
theorem dX0_addSubjects_3 : decode cX0_addSubjects 3 = .ok (.aload_n 0, 1) := by decide +kernel
theorem dX0_addSubjects_4 : decode cX0_addSubjects 4 = .ok (.getfield 115, 3) := by decide +kernel
theorem dX0_addSubjects_7 : decode cX0_addSubjects 7 = .ok (.if_icmp .ge 27, 3) := by decide +kernel
theorem dX0_addSubjects_10 : decode cX0_addSubjects 10 = .ok (.iload_n 1, 1) := by decide +kernel
theorem dX0_addSubjects_11 : decode cX0_addSubjects 11 = .ok (.iload_n 3, 1) := by decide +kernel
theorem dX0_addSubjects_12 : decode cX0_addSubjects 12 = .ok (.invokestatic 65, 3) := by decide +kernel
theorem dX0_addSubjects_15 : decode cX0_addSubjects 15 = .ok (.ifCond .eq 13, 3) := by decide +kernel
theorem dX0_addSubjects_18 : decode cX0_addSubjects 18 = .ok (.aload_n 0, 1) := by decide +kernel
theorem dX0_addSubjects_19 : decode cX0_addSubjects 19 = .ok (.getfield 25, 3) := by decide +kernel
theorem dX0_addSubjects_22 : decode cX0_addSubjects 22 = .ok (.iload_n 3, 1) := by decide +kernel
theorem dX0_addSubjects_23 : decode cX0_addSubjects 23 = .ok (.dup2, 1) := by decide +kernel
theorem dX0_addSubjects_24 : decode cX0_addSubjects 24 = .ok (.iaload, 1) := by decide +kernel
theorem dX0_addSubjects_25 : decode cX0_addSubjects 25 = .ok (.iload_n 2, 1) := by decide +kernel
theorem dX0_addSubjects_26 : decode cX0_addSubjects 26 = .ok (.ior, 1) := by decide +kernel
theorem dX0_addSubjects_27 : decode cX0_addSubjects 27 = .ok (.iastore, 1) := by decide +kernel
theorem dX0_addSubjects_28 : decode cX0_addSubjects 28 = .ok (.iinc 3 1, 3) := by decide +kernel
theorem dX0_addSubjects_31 : decode cX0_addSubjects 31 = .ok (.goto (-29), 3) := by decide +kernel
theorem dX0_addSubjects_34 : decode cX0_addSubjects 34 = .ok (.return_, 1) := by decide +kernel
theorem dX0_isRoot_0 : decode cX0_isRoot 0 = .ok (.aload_n 0, 1) := by decide +kernel
theorem dX0_isRoot_1 : decode cX0_isRoot 1 = .ok (.getfield 28, 3) := by decide +kernel
theorem dX0_isRoot_4 : decode cX0_isRoot 4 = .ok (.iload_n 1, 1) := by decide +kernel
theorem dX0_isRoot_5 : decode cX0_isRoot 5 = .ok (.iaload, 1) := by decide +kernel
theorem dX0_isRoot_6 : decode cX0_isRoot 6 = .ok (.ifCond .ne 7, 3) := by decide +kernel
theorem dX0_isRoot_9 : decode cX0_isRoot 9 = .ok (.iconst 1, 1) := by decide +kernel
theorem dX0_isRoot_10 : decode cX0_isRoot 10 = .ok (.goto 4, 3) := by decide +kernel
theorem dX0_isRoot_13 : decode cX0_isRoot 13 = .ok (.iconst 0, 1) := by decide +kernel
theorem dX0_isRoot_14 : decode cX0_isRoot 14 = .ok (.ireturn, 1) := by decide +kernel
set_option maxRecDepth 20000 in
theorem ggX0_recordsOf_X0_has : GoodIn wsX0_recordsOf wsX0_has := goodIn_r _ [6, 7, 8, 5, 9] (by decide +kernel) (by decide +kernel)
set_option maxRecDepth 20000 in
theorem gX0_recordsOf_X0_has : GoodIn wsX0_recordsOf (va_wsS RX0 65 yX0_has wsX0_has) := goodIn_app (goodIn_of _ (by decide +kernel)) ggX0_recordsOf_X0_has
set_option maxRecDepth 20000 in
theorem ggX0_recordsOf_X0_bit : GoodIn wsX0_recordsOf wsX0_bit := goodIn_r _ [9] (by decide +kernel) (by decide +kernel)
set_option maxRecDepth 20000 in
theorem gX0_recordsOf_X0_bit : GoodIn wsX0_recordsOf (va_wsS RX0 55 yX0_bit wsX0_bit) := goodIn_app (goodIn_of _ (by decide +kernel)) ggX0_recordsOf_X0_bit
theorem dX0_recordsOf_0 : decode cX0_recordsOf 0 = .ok (.iconst 0, 1) := by decide +kernel
theorem dX0_recordsOf_1 : decode cX0_recordsOf 1 = .ok (.istore_n 2, 1) := by decide +kernel
theorem dX0_recordsOf_2 : decode cX0_recordsOf 2 = .ok (.iconst 0, 1) := by decide +kernel
theorem dX0_recordsOf_3 : decode cX0_recordsOf 3 = .ok (.istore_n 3, 1) := by decide +kernel
theorem dX0_recordsOf_4 : decode cX0_recordsOf 4 = .ok (.iload_n 3, 1) := by decide +kernel
theorem dX0_recordsOf_5 : decode cX0_recordsOf 5 = .ok (.aload_n 0, 1) := by decide +kernel
theorem dX0_recordsOf_6 : decode cX0_recordsOf 6 = .ok (.getfield 115, 3) := by decide +kernel
theorem dX0_recordsOf_9 : decode cX0_recordsOf 9 = .ok (.if_icmp .ge 29, 3) := by decide +kernel
theorem dX0_recordsOf_12 : decode cX0_recordsOf 12 = .ok (.aload_n 0, 1) := by decide +kernel
theorem dX0_recordsOf_13 : decode cX0_recordsOf 13 = .ok (.getfield 25, 3) := by decide +kernel
theorem dX0_recordsOf_16 : decode cX0_recordsOf 16 = .ok (.iload_n 3, 1) := by decide +kernel
theorem dX0_recordsOf_17 : decode cX0_recordsOf 17 = .ok (.iaload, 1) := by decide +kernel
theorem dX0_recordsOf_18 : decode cX0_recordsOf 18 = .ok (.iload_n 1, 1) := by decide +kernel
theorem dX0_recordsOf_19 : decode cX0_recordsOf 19 = .ok (.invokestatic 65, 3) := by decide +kernel
theorem dX0_recordsOf_22 : decode cX0_recordsOf 22 = .ok (.ifCond .eq 10, 3) := by decide +kernel
theorem dX0_recordsOf_25 : decode cX0_recordsOf 25 = .ok (.iload_n 2, 1) := by decide +kernel
theorem dX0_recordsOf_26 : decode cX0_recordsOf 26 = .ok (.iload_n 3, 1) := by decide +kernel
theorem dX0_recordsOf_27 : decode cX0_recordsOf 27 = .ok (.invokestatic 55, 3) := by decide +kernel
theorem dX0_recordsOf_30 : decode cX0_recordsOf 30 = .ok (.ior, 1) := by decide +kernel
theorem dX0_recordsOf_31 : decode cX0_recordsOf 31 = .ok (.istore_n 2, 1) := by decide +kernel
theorem dX0_recordsOf_32 : decode cX0_recordsOf 32 = .ok (.iinc 3 1, 3) := by decide +kernel
theorem dX0_recordsOf_35 : decode cX0_recordsOf 35 = .ok (.goto (-31), 3) := by decide +kernel
theorem dX0_recordsOf_38 : decode cX0_recordsOf 38 = .ok (.iload_n 2, 1) := by decide +kernel
theorem dX0_recordsOf_39 : decode cX0_recordsOf 39 = .ok (.ireturn, 1) := by decide +kernel
set_option maxRecDepth 20000 in
theorem ggX0_rootsOf_X0_isRoot : GoodIn wsX0_rootsOf wsX0_isRoot := goodIn_r _ [7, 8, 15, 16, 17, 18, 19, 20, 21, 22, 23, 24, 25, 26, 27, 28, 29, 30] (by decide +kernel) (by decide +kernel)
set_option maxRecDepth 20000 in
theorem gX0_rootsOf_X0_isRoot : GoodIn wsX0_rootsOf (wsV RX0 95 RX0 yX0_isRoot wsX0_isRoot) := goodIn_app (goodIn_of _ (by decide +kernel)) ggX0_rootsOf_X0_isRoot
set_option maxRecDepth 20000 in
theorem ggX0_rootsOf_X0_has : GoodIn wsX0_rootsOf wsX0_has := goodIn_r _ [11, 12, 13, 6, 14] (by decide +kernel) (by decide +kernel)
set_option maxRecDepth 20000 in
theorem gX0_rootsOf_X0_has : GoodIn wsX0_rootsOf (va_wsS RX0 65 yX0_has wsX0_has) := goodIn_app (goodIn_of _ (by decide +kernel)) ggX0_rootsOf_X0_has
set_option maxRecDepth 20000 in
theorem ggX0_rootsOf_X0_bit : GoodIn wsX0_rootsOf wsX0_bit := goodIn_r _ [14] (by decide +kernel) (by decide +kernel)
set_option maxRecDepth 20000 in
theorem gX0_rootsOf_X0_bit : GoodIn wsX0_rootsOf (va_wsS RX0 55 yX0_bit wsX0_bit) := goodIn_app (goodIn_of _ (by decide +kernel)) ggX0_rootsOf_X0_bit
theorem dX0_rootsOf_0 : decode cX0_rootsOf 0 = .ok (.iconst 0, 1) := by decide +kernel
theorem dX0_rootsOf_1 : decode cX0_rootsOf 1 = .ok (.istore_n 2, 1) := by decide +kernel
theorem dX0_rootsOf_2 : decode cX0_rootsOf 2 = .ok (.iconst 0, 1) := by decide +kernel
theorem dX0_rootsOf_3 : decode cX0_rootsOf 3 = .ok (.istore_n 3, 1) := by decide +kernel
theorem dX0_rootsOf_4 : decode cX0_rootsOf 4 = .ok (.iload_n 3, 1) := by decide +kernel
theorem dX0_rootsOf_5 : decode cX0_rootsOf 5 = .ok (.aload_n 0, 1) := by decide +kernel
theorem dX0_rootsOf_6 : decode cX0_rootsOf 6 = .ok (.getfield 115, 3) := by decide +kernel
theorem dX0_rootsOf_9 : decode cX0_rootsOf 9 = .ok (.if_icmp .ge 37, 3) := by decide +kernel
theorem dX0_rootsOf_12 : decode cX0_rootsOf 12 = .ok (.aload_n 0, 1) := by decide +kernel
theorem dX0_rootsOf_13 : decode cX0_rootsOf 13 = .ok (.iload_n 3, 1) := by decide +kernel
theorem dX0_rootsOf_14 : decode cX0_rootsOf 14 = .ok (.invokevirtual 95, 3) := by decide +kernel
theorem dX0_rootsOf_17 : decode cX0_rootsOf 17 = .ok (.ifCond .eq 23, 3) := by decide +kernel
theorem dX0_rootsOf_20 : decode cX0_rootsOf 20 = .ok (.aload_n 0, 1) := by decide +kernel
theorem dX0_rootsOf_21 : decode cX0_rootsOf 21 = .ok (.getfield 25, 3) := by decide +kernel
theorem dX0_rootsOf_24 : decode cX0_rootsOf 24 = .ok (.iload_n 3, 1) := by decide +kernel
theorem dX0_rootsOf_25 : decode cX0_rootsOf 25 = .ok (.iaload, 1) := by decide +kernel
theorem dX0_rootsOf_26 : decode cX0_rootsOf 26 = .ok (.iload_n 1, 1) := by decide +kernel
theorem dX0_rootsOf_27 : decode cX0_rootsOf 27 = .ok (.invokestatic 65, 3) := by decide +kernel
theorem dX0_rootsOf_30 : decode cX0_rootsOf 30 = .ok (.ifCond .eq 10, 3) := by decide +kernel
theorem dX0_rootsOf_33 : decode cX0_rootsOf 33 = .ok (.iload_n 2, 1) := by decide +kernel
theorem dX0_rootsOf_34 : decode cX0_rootsOf 34 = .ok (.iload_n 3, 1) := by decide +kernel
theorem dX0_rootsOf_35 : decode cX0_rootsOf 35 = .ok (.invokestatic 55, 3) := by decide +kernel
theorem dX0_rootsOf_38 : decode cX0_rootsOf 38 = .ok (.ior, 1) := by decide +kernel
theorem dX0_rootsOf_39 : decode cX0_rootsOf 39 = .ok (.istore_n 2, 1) := by decide +kernel
theorem dX0_rootsOf_40 : decode cX0_rootsOf 40 = .ok (.iinc 3 1, 3) := by decide +kernel
theorem dX0_rootsOf_43 : decode cX0_rootsOf 43 = .ok (.goto (-39), 3) := by decide +kernel
theorem dX0_rootsOf_46 : decode cX0_rootsOf 46 = .ok (.iload_n 2, 1) := by decide +kernel
theorem dX0_rootsOf_47 : decode cX0_rootsOf 47 = .ok (.ireturn, 1) := by decide +kernel
set_option maxRecDepth 20000 in
theorem ggX0_withAllBelow_X0_bit : GoodIn wsX0_withAllBelow wsX0_bit := goodIn_r _ [6] (by decide +kernel) (by decide +kernel)
set_option maxRecDepth 20000 in
theorem gX0_withAllBelow_X0_bit : GoodIn wsX0_withAllBelow (va_wsS RX0 55 yX0_bit wsX0_bit) := goodIn_app (goodIn_of _ (by decide +kernel)) ggX0_withAllBelow_X0_bit
theorem dX0_withAllBelow_0 : decode cX0_withAllBelow 0 = .ok (.iload_n 1, 1) := by decide +kernel
theorem dX0_withAllBelow_1 : decode cX0_withAllBelow 1 = .ok (.istore_n 2, 1) := by decide +kernel
theorem dX0_withAllBelow_2 : decode cX0_withAllBelow 2 = .ok (.iconst 0, 1) := by decide +kernel
theorem dX0_withAllBelow_3 : decode cX0_withAllBelow 3 = .ok (.istore_n 3, 1) := by decide +kernel
theorem dX0_withAllBelow_4 : decode cX0_withAllBelow 4 = .ok (.iload_n 3, 1) := by decide +kernel
theorem dX0_withAllBelow_5 : decode cX0_withAllBelow 5 = .ok (.aload_n 0, 1) := by decide +kernel
theorem dX0_withAllBelow_6 : decode cX0_withAllBelow 6 = .ok (.getfield 115, 3) := by decide +kernel
theorem dX0_withAllBelow_9 : decode cX0_withAllBelow 9 = .ok (.if_icmp .ge 27, 3) := by decide +kernel
theorem dX0_withAllBelow_12 : decode cX0_withAllBelow 12 = .ok (.aload_n 0, 1) := by decide +kernel
theorem dX0_withAllBelow_13 : decode cX0_withAllBelow 13 = .ok (.getfield 28, 3) := by decide +kernel
theorem dX0_withAllBelow_16 : decode cX0_withAllBelow 16 = .ok (.iload_n 3, 1) := by decide +kernel
theorem dX0_withAllBelow_17 : decode cX0_withAllBelow 17 = .ok (.iaload, 1) := by decide +kernel
theorem dX0_withAllBelow_18 : decode cX0_withAllBelow 18 = .ok (.iload_n 2, 1) := by decide +kernel
theorem dX0_withAllBelow_19 : decode cX0_withAllBelow 19 = .ok (.iand, 1) := by decide +kernel
theorem dX0_withAllBelow_20 : decode cX0_withAllBelow 20 = .ok (.ifCond .eq 10, 3) := by decide +kernel
theorem dX0_withAllBelow_23 : decode cX0_withAllBelow 23 = .ok (.iload_n 2, 1) := by decide +kernel
theorem dX0_withAllBelow_24 : decode cX0_withAllBelow 24 = .ok (.iload_n 3, 1) := by decide +kernel
theorem dX0_withAllBelow_25 : decode cX0_withAllBelow 25 = .ok (.invokestatic 55, 3) := by decide +kernel
theorem dX0_withAllBelow_28 : decode cX0_withAllBelow 28 = .ok (.ior, 1) := by decide +kernel
theorem dX0_withAllBelow_29 : decode cX0_withAllBelow 29 = .ok (.istore_n 2, 1) := by decide +kernel
theorem dX0_withAllBelow_30 : decode cX0_withAllBelow 30 = .ok (.iinc 3 1, 3) := by decide +kernel
theorem dX0_withAllBelow_33 : decode cX0_withAllBelow 33 = .ok (.goto (-29), 3) := by decide +kernel
theorem dX0_withAllBelow_36 : decode cX0_withAllBelow 36 = .ok (.iload_n 2, 1) := by decide +kernel
theorem dX0_withAllBelow_37 : decode cX0_withAllBelow 37 = .ok (.ireturn, 1) := by decide +kernel
set_option maxRecDepth 20000 in
theorem ggX0_allBelow_X0_bit : GoodIn wsX0_allBelow wsX0_bit := goodIn_r _ [4] (by decide +kernel) (by decide +kernel)
set_option maxRecDepth 20000 in
theorem gX0_allBelow_X0_bit : GoodIn wsX0_allBelow (va_wsS RX0 55 yX0_bit wsX0_bit) := goodIn_app (goodIn_of _ (by decide +kernel)) ggX0_allBelow_X0_bit
set_option maxRecDepth 20000 in
theorem ggX0_allBelow_X0_withAllBelow : GoodIn wsX0_allBelow wsX0_withAllBelow := goodIn_r _ [8, 9, 10, 1, 2, 3, 4, 11, 12, 13, 14, 15, 16, 17, 18, 19, 20, 21, 22, 23, 24, 25, 26] (by decide +kernel) (by decide +kernel)
set_option maxRecDepth 20000 in
theorem gX0_allBelow_X0_withAllBelow : GoodIn wsX0_allBelow (wsV RX0 103 RX0 yX0_withAllBelow wsX0_withAllBelow) := goodIn_app (goodIn_of _ (by decide +kernel)) ggX0_allBelow_X0_withAllBelow
theorem dX0_allBelow_0 : decode cX0_allBelow 0 = .ok (.aload_n 0, 1) := by decide +kernel
theorem dX0_allBelow_1 : decode cX0_allBelow 1 = .ok (.iload_n 1, 1) := by decide +kernel
theorem dX0_allBelow_2 : decode cX0_allBelow 2 = .ok (.invokestatic 55, 3) := by decide +kernel
theorem dX0_allBelow_5 : decode cX0_allBelow 5 = .ok (.invokevirtual 103, 3) := by decide +kernel
theorem dX0_allBelow_8 : decode cX0_allBelow 8 = .ok (.iload_n 1, 1) := by decide +kernel
theorem dX0_allBelow_9 : decode cX0_allBelow 9 = .ok (.invokestatic 55, 3) := by decide +kernel
theorem dX0_allBelow_12 : decode cX0_allBelow 12 = .ok (.iconst (-1), 1) := by decide +kernel
theorem dX0_allBelow_13 : decode cX0_allBelow 13 = .ok (.ixor, 1) := by decide +kernel
theorem dX0_allBelow_14 : decode cX0_allBelow 14 = .ok (.iand, 1) := by decide +kernel
theorem dX0_allBelow_15 : decode cX0_allBelow 15 = .ok (.ireturn, 1) := by decide +kernel
set_option maxRecDepth 20000 in
theorem ggX0_purposesAllowedBy_X0_allPurposes : GoodIn wsX0_purposesAllowedBy wsX0_allPurposes := goodIn_r _ [7, 8, 9, 10, 6, 11, 15, 16, 17, 18, 19, 20, 21, 22, 23, 24, 25, 26, 27, 28, 29, 30] (by decide +kernel) (by decide +kernel)
set_option maxRecDepth 20000 in
theorem gX0_purposesAllowedBy_X0_allPurposes : GoodIn wsX0_purposesAllowedBy (wsV RX0 193 RX0 yX0_allPurposes wsX0_allPurposes) := goodIn_app (goodIn_of _ (by decide +kernel)) ggX0_purposesAllowedBy_X0_allPurposes
set_option maxRecDepth 20000 in
theorem ggX0_purposesAllowedBy_X0_has : GoodIn wsX0_purposesAllowedBy wsX0_has := goodIn_r _ [14, 9, 10, 6, 11] (by decide +kernel) (by decide +kernel)
set_option maxRecDepth 20000 in
theorem gX0_purposesAllowedBy_X0_has : GoodIn wsX0_purposesAllowedBy (va_wsS RX0 65 yX0_has wsX0_has) := goodIn_app (goodIn_of _ (by decide +kernel)) ggX0_purposesAllowedBy_X0_has
theorem dX0_purposesAllowedBy_0 : decode cX0_purposesAllowedBy 0 = .ok (.aload_n 0, 1) := by decide +kernel
theorem dX0_purposesAllowedBy_1 : decode cX0_purposesAllowedBy 1 = .ok (.invokevirtual 193, 3) := by decide +kernel
theorem dX0_purposesAllowedBy_4 : decode cX0_purposesAllowedBy 4 = .ok (.istore_n 2, 1) := by decide +kernel
theorem dX0_purposesAllowedBy_5 : decode cX0_purposesAllowedBy 5 = .ok (.iconst 0, 1) := by decide +kernel
theorem dX0_purposesAllowedBy_6 : decode cX0_purposesAllowedBy 6 = .ok (.istore_n 3, 1) := by decide +kernel
theorem dX0_purposesAllowedBy_7 : decode cX0_purposesAllowedBy 7 = .ok (.iload_n 3, 1) := by decide +kernel
theorem dX0_purposesAllowedBy_8 : decode cX0_purposesAllowedBy 8 = .ok (.bipush 12, 2) := by decide +kernel
theorem dX0_purposesAllowedBy_10 : decode cX0_purposesAllowedBy 10 = .ok (.if_icmp .ge 26, 3) := by decide +kernel
theorem dX0_purposesAllowedBy_13 : decode cX0_purposesAllowedBy 13 = .ok (.iload_n 1, 1) := by decide +kernel
theorem dX0_purposesAllowedBy_14 : decode cX0_purposesAllowedBy 14 = .ok (.iload_n 3, 1) := by decide +kernel
theorem dX0_purposesAllowedBy_15 : decode cX0_purposesAllowedBy 15 = .ok (.invokestatic 65, 3) := by decide +kernel
theorem dX0_purposesAllowedBy_18 : decode cX0_purposesAllowedBy 18 = .ok (.ifCond .eq 12, 3) := by decide +kernel
theorem dX0_purposesAllowedBy_21 : decode cX0_purposesAllowedBy 21 = .ok (.iload_n 2, 1) := by decide +kernel
theorem dX0_purposesAllowedBy_22 : decode cX0_purposesAllowedBy 22 = .ok (.aload_n 0, 1) := by decide +kernel
theorem dX0_purposesAllowedBy_23 : decode cX0_purposesAllowedBy 23 = .ok (.getfield 13, 3) := by decide +kernel
theorem dX0_purposesAllowedBy_26 : decode cX0_purposesAllowedBy 26 = .ok (.iload_n 3, 1) := by decide +kernel
theorem dX0_purposesAllowedBy_27 : decode cX0_purposesAllowedBy 27 = .ok (.iaload, 1) := by decide +kernel
theorem dX0_purposesAllowedBy_28 : decode cX0_purposesAllowedBy 28 = .ok (.iand, 1) := by decide +kernel
theorem dX0_purposesAllowedBy_29 : decode cX0_purposesAllowedBy 29 = .ok (.istore_n 2, 1) := by decide +kernel
theorem dX0_purposesAllowedBy_30 : decode cX0_purposesAllowedBy 30 = .ok (.iinc 3 1, 3) := by decide +kernel
theorem dX0_purposesAllowedBy_33 : decode cX0_purposesAllowedBy 33 = .ok (.goto (-26), 3) := by decide +kernel
theorem dX0_purposesAllowedBy_36 : decode cX0_purposesAllowedBy 36 = .ok (.iload_n 2, 1) := by decide +kernel
theorem dX0_purposesAllowedBy_37 : decode cX0_purposesAllowedBy 37 = .ok (.aload_n 0, 1) := by decide +kernel
theorem dX0_purposesAllowedBy_38 : decode cX0_purposesAllowedBy 38 = .ok (.getfield 52, 3) := by decide +kernel
theorem dX0_purposesAllowedBy_41 : decode cX0_purposesAllowedBy 41 = .ok (.ior, 1) := by decide +kernel
theorem dX0_purposesAllowedBy_42 : decode cX0_purposesAllowedBy 42 = .ok (.ireturn, 1) := by decide +kernel
theorem dX0_isRetained_0 : decode cX0_isRetained 0 = .ok (.aload_n 0, 1) := by decide +kernel
theorem dX0_isRetained_1 : decode cX0_isRetained 1 = .ok (.getfield 149, 3) := by decide +kernel
theorem dX0_isRetained_4 : decode cX0_isRetained 4 = .ok (.iload_n 2, 1) := by decide +kernel
theorem dX0_isRetained_5 : decode cX0_isRetained 5 = .ok (.aload_n 0, 1) := by decide +kernel
theorem dX0_isRetained_6 : decode cX0_isRetained 6 = .ok (.getfield 9, 3) := by decide +kernel
theorem dX0_isRetained_9 : decode cX0_isRetained 9 = .ok (.iload_n 1, 1) := by decide +kernel
theorem dX0_isRetained_10 : decode cX0_isRetained 10 = .ok (.iaload, 1) := by decide +kernel
theorem dX0_isRetained_11 : decode cX0_isRetained 11 = .ok (.iadd, 1) := by decide +kernel
theorem dX0_isRetained_12 : decode cX0_isRetained 12 = .ok (.if_icmp .ge 7, 3) := by decide +kernel
theorem dX0_isRetained_15 : decode cX0_isRetained 15 = .ok (.iconst 1, 1) := by decide +kernel
theorem dX0_isRetained_16 : decode cX0_isRetained 16 = .ok (.goto 4, 3) := by decide +kernel
theorem dX0_isRetained_19 : decode cX0_isRetained 19 = .ok (.iconst 0, 1) := by decide +kernel
theorem dX0_isRetained_20 : decode cX0_isRetained 20 = .ok (.ireturn, 1) := by decide +kernel
set_option maxRecDepth 20000 in
theorem ggX0_isAnyOpen_X0_purposesAllowedBy : GoodIn wsX0_isAnyOpen wsX0_purposesAllowedBy := goodIn_r _ [6, 7, 8, 9, 10, 11, 5, 12, 1, 13, 14, 15, 16, 17, 18, 25, 26, 27, 28, 29, 30, 31, 32, 33, 34, 35, 36, 37, 38, 39, 40] (by decide +kernel) (by decide +kernel)
set_option maxRecDepth 20000 in
theorem gX0_isAnyOpen_X0_purposesAllowedBy : GoodIn wsX0_isAnyOpen (wsV RX0 130 RX0 yX0_purposesAllowedBy wsX0_purposesAllowedBy) := goodIn_app (goodIn_of _ (by decide +kernel)) ggX0_isAnyOpen_X0_purposesAllowedBy
set_option maxRecDepth 20000 in
theorem ggX0_isAnyOpen_X0_has : GoodIn wsX0_isAnyOpen wsX0_has := goodIn_r _ [18, 13, 14, 5, 15] (by decide +kernel) (by decide +kernel)
set_option maxRecDepth 20000 in
theorem gX0_isAnyOpen_X0_has : GoodIn wsX0_isAnyOpen (va_wsS RX0 65 yX0_has wsX0_has) := goodIn_app (goodIn_of _ (by decide +kernel)) ggX0_isAnyOpen_X0_has
set_option maxRecDepth 20000 in
theorem ggX0_isAnyOpen_X0_isRetained : GoodIn wsX0_isAnyOpen wsX0_isRetained := goodIn_r _ [22, 23, 24, 25, 26, 27, 28, 29, 30, 31, 32, 33, 34, 35, 36, 37, 38, 39, 40] (by decide +kernel) (by decide +kernel)
set_option maxRecDepth 20000 in
theorem gX0_isAnyOpen_X0_isRetained : GoodIn wsX0_isAnyOpen (wsV RX0 133 RX0 yX0_isRetained wsX0_isRetained) := goodIn_app (goodIn_of _ (by decide +kernel)) ggX0_isAnyOpen_X0_isRetained
theorem dX0_isAnyOpen_0 : decode cX0_isAnyOpen 0 = .ok (.iload_n 1, 1) := by decide +kernel
theorem dX0_isAnyOpen_1 : decode cX0_isAnyOpen 1 = .ok (.aload_n 0, 1) := by decide +kernel
theorem dX0_isAnyOpen_2 : decode cX0_isAnyOpen 2 = .ok (.iload_n 2, 1) := by decide +kernel
theorem dX0_isAnyOpen_3 : decode cX0_isAnyOpen 3 = .ok (.invokevirtual 130, 3) := by decide +kernel
theorem dX0_isAnyOpen_6 : decode cX0_isAnyOpen 6 = .ok (.iand, 1) := by decide +kernel
theorem dX0_isAnyOpen_7 : decode cX0_isAnyOpen 7 = .ok (.istore 4, 2) := by decide +kernel
theorem dX0_isAnyOpen_9 : decode cX0_isAnyOpen 9 = .ok (.iconst 0, 1) := by decide +kernel
theorem dX0_isAnyOpen_10 : decode cX0_isAnyOpen 10 = .ok (.istore 5, 2) := by decide +kernel
theorem dX0_isAnyOpen_12 : decode cX0_isAnyOpen 12 = .ok (.iload 5, 2) := by decide +kernel
theorem dX0_isAnyOpen_14 : decode cX0_isAnyOpen 14 = .ok (.aload_n 0, 1) := by decide +kernel
theorem dX0_isAnyOpen_15 : decode cX0_isAnyOpen 15 = .ok (.getfield 41, 3) := by decide +kernel
theorem dX0_isAnyOpen_18 : decode cX0_isAnyOpen 18 = .ok (.if_icmp .ge 31, 3) := by decide +kernel
theorem dX0_isAnyOpen_21 : decode cX0_isAnyOpen 21 = .ok (.iload 4, 2) := by decide +kernel
theorem dX0_isAnyOpen_23 : decode cX0_isAnyOpen 23 = .ok (.iload 5, 2) := by decide +kernel
theorem dX0_isAnyOpen_25 : decode cX0_isAnyOpen 25 = .ok (.invokestatic 65, 3) := by decide +kernel
theorem dX0_isAnyOpen_28 : decode cX0_isAnyOpen 28 = .ok (.ifCond .eq 15, 3) := by decide +kernel
theorem dX0_isAnyOpen_31 : decode cX0_isAnyOpen 31 = .ok (.aload_n 0, 1) := by decide +kernel
theorem dX0_isAnyOpen_32 : decode cX0_isAnyOpen 32 = .ok (.iload 5, 2) := by decide +kernel
theorem dX0_isAnyOpen_34 : decode cX0_isAnyOpen 34 = .ok (.iload_n 3, 1) := by decide +kernel
theorem dX0_isAnyOpen_35 : decode cX0_isAnyOpen 35 = .ok (.invokevirtual 133, 3) := by decide +kernel
theorem dX0_isAnyOpen_38 : decode cX0_isAnyOpen 38 = .ok (.ifCond .eq 5, 3) := by decide +kernel
theorem dX0_isAnyOpen_41 : decode cX0_isAnyOpen 41 = .ok (.iconst 1, 1) := by decide +kernel
theorem dX0_isAnyOpen_42 : decode cX0_isAnyOpen 42 = .ok (.ireturn, 1) := by decide +kernel
theorem dX0_isAnyOpen_43 : decode cX0_isAnyOpen 43 = .ok (.iinc 5 1, 3) := by decide +kernel
theorem dX0_isAnyOpen_46 : decode cX0_isAnyOpen 46 = .ok (.goto (-34), 3) := by decide +kernel
theorem dX0_isAnyOpen_49 : decode cX0_isAnyOpen 49 = .ok (.iconst 0, 1) := by decide +kernel
theorem dX0_isAnyOpen_50 : decode cX0_isAnyOpen 50 = .ok (.ireturn, 1) := by decide +kernel
set_option maxRecDepth 20000 in
theorem ggX0_dueRecords_X0_has : GoodIn wsX0_dueRecords wsX0_has := goodIn_r _ [9, 10, 11, 8, 12] (by decide +kernel) (by decide +kernel)
set_option maxRecDepth 20000 in
theorem gX0_dueRecords_X0_has : GoodIn wsX0_dueRecords (va_wsS RX0 65 yX0_has wsX0_has) := goodIn_app (goodIn_of _ (by decide +kernel)) ggX0_dueRecords_X0_has
set_option maxRecDepth 20000 in
theorem ggX0_dueRecords_X0_isAnyOpen : GoodIn wsX0_dueRecords wsX0_isAnyOpen := goodIn_r _ [16, 17, 18, 19, 20, 8, 21, 22, 23, 24, 25, 26, 27, 10, 11, 12, 6, 7, 9, 28, 29, 30, 31, 32, 33, 34, 35, 36, 37, 38, 39, 40, 41, 42, 43, 44, 45, 46, 47, 48, 49] (by decide +kernel) (by decide +kernel)
set_option maxRecDepth 20000 in
theorem gX0_dueRecords_X0_isAnyOpen : GoodIn wsX0_dueRecords (wsV RX0 208 RX0 yX0_isAnyOpen wsX0_isAnyOpen) := goodIn_app (goodIn_of _ (by decide +kernel)) ggX0_dueRecords_X0_isAnyOpen
set_option maxRecDepth 20000 in
theorem ggX0_dueRecords_X0_bit : GoodIn wsX0_dueRecords wsX0_bit := goodIn_r _ [12] (by decide +kernel) (by decide +kernel)
set_option maxRecDepth 20000 in
theorem gX0_dueRecords_X0_bit : GoodIn wsX0_dueRecords (va_wsS RX0 55 yX0_bit wsX0_bit) := goodIn_app (goodIn_of _ (by decide +kernel)) ggX0_dueRecords_X0_bit
theorem dX0_dueRecords_0 : decode cX0_dueRecords 0 = .ok (.iconst 0, 1) := by decide +kernel
theorem dX0_dueRecords_1 : decode cX0_dueRecords 1 = .ok (.istore_n 1, 1) := by decide +kernel
theorem dX0_dueRecords_2 : decode cX0_dueRecords 2 = .ok (.iconst 0, 1) := by decide +kernel
theorem dX0_dueRecords_3 : decode cX0_dueRecords 3 = .ok (.istore_n 2, 1) := by decide +kernel
theorem dX0_dueRecords_4 : decode cX0_dueRecords 4 = .ok (.iload_n 2, 1) := by decide +kernel
theorem dX0_dueRecords_5 : decode cX0_dueRecords 5 = .ok (.aload_n 0, 1) := by decide +kernel
theorem dX0_dueRecords_6 : decode cX0_dueRecords 6 = .ok (.getfield 115, 3) := by decide +kernel
theorem dX0_dueRecords_9 : decode cX0_dueRecords 9 = .ok (.if_icmp .ge 52, 3) := by decide +kernel
theorem dX0_dueRecords_12 : decode cX0_dueRecords 12 = .ok (.aload_n 0, 1) := by decide +kernel
theorem dX0_dueRecords_13 : decode cX0_dueRecords 13 = .ok (.getfield 83, 3) := by decide +kernel
theorem dX0_dueRecords_16 : decode cX0_dueRecords 16 = .ok (.iload_n 2, 1) := by decide +kernel
theorem dX0_dueRecords_17 : decode cX0_dueRecords 17 = .ok (.invokestatic 65, 3) := by decide +kernel
theorem dX0_dueRecords_20 : decode cX0_dueRecords 20 = .ok (.ifCond .eq 35, 3) := by decide +kernel
theorem dX0_dueRecords_23 : decode cX0_dueRecords 23 = .ok (.aload_n 0, 1) := by decide +kernel
theorem dX0_dueRecords_24 : decode cX0_dueRecords 24 = .ok (.aload_n 0, 1) := by decide +kernel
theorem dX0_dueRecords_25 : decode cX0_dueRecords 25 = .ok (.getfield 22, 3) := by decide +kernel
theorem dX0_dueRecords_28 : decode cX0_dueRecords 28 = .ok (.iload_n 2, 1) := by decide +kernel
theorem dX0_dueRecords_29 : decode cX0_dueRecords 29 = .ok (.iaload, 1) := by decide +kernel
theorem dX0_dueRecords_30 : decode cX0_dueRecords 30 = .ok (.aload_n 0, 1) := by decide +kernel
theorem dX0_dueRecords_31 : decode cX0_dueRecords 31 = .ok (.getfield 25, 3) := by decide +kernel
theorem dX0_dueRecords_34 : decode cX0_dueRecords 34 = .ok (.iload_n 2, 1) := by decide +kernel
theorem dX0_dueRecords_35 : decode cX0_dueRecords 35 = .ok (.iaload, 1) := by decide +kernel
theorem dX0_dueRecords_36 : decode cX0_dueRecords 36 = .ok (.aload_n 0, 1) := by decide +kernel
theorem dX0_dueRecords_37 : decode cX0_dueRecords 37 = .ok (.getfield 19, 3) := by decide +kernel
theorem dX0_dueRecords_40 : decode cX0_dueRecords 40 = .ok (.iload_n 2, 1) := by decide +kernel
theorem dX0_dueRecords_41 : decode cX0_dueRecords 41 = .ok (.iaload, 1) := by decide +kernel
theorem dX0_dueRecords_42 : decode cX0_dueRecords 42 = .ok (.invokevirtual 208, 3) := by decide +kernel
theorem dX0_dueRecords_45 : decode cX0_dueRecords 45 = .ok (.ifCond .ne 10, 3) := by decide +kernel
theorem dX0_dueRecords_48 : decode cX0_dueRecords 48 = .ok (.iload_n 1, 1) := by decide +kernel
theorem dX0_dueRecords_49 : decode cX0_dueRecords 49 = .ok (.iload_n 2, 1) := by decide +kernel
theorem dX0_dueRecords_50 : decode cX0_dueRecords 50 = .ok (.invokestatic 55, 3) := by decide +kernel
theorem dX0_dueRecords_53 : decode cX0_dueRecords 53 = .ok (.ior, 1) := by decide +kernel
theorem dX0_dueRecords_54 : decode cX0_dueRecords 54 = .ok (.istore_n 1, 1) := by decide +kernel
theorem dX0_dueRecords_55 : decode cX0_dueRecords 55 = .ok (.iinc 2 1, 3) := by decide +kernel
theorem dX0_dueRecords_58 : decode cX0_dueRecords 58 = .ok (.goto (-54), 3) := by decide +kernel
theorem dX0_dueRecords_61 : decode cX0_dueRecords 61 = .ok (.iload_n 1, 1) := by decide +kernel
theorem dX0_dueRecords_62 : decode cX0_dueRecords 62 = .ok (.ireturn, 1) := by decide +kernel
set_option maxRecDepth 20000 in
theorem ggX0_endNow_X0_purposesAllowedBy : GoodIn wsX0_endNow wsX0_purposesAllowedBy := goodIn_r _ [14, 15, 16, 17, 18, 19, 13, 20, 3, 21, 22, 23, 24, 25, 26, 27, 28, 29, 30, 31, 32, 33, 34, 35, 36, 37, 38, 39, 40, 41, 42] (by decide +kernel) (by decide +kernel)
set_option maxRecDepth 20000 in
theorem gX0_endNow_X0_purposesAllowedBy : GoodIn wsX0_endNow (wsV RX0 130 RX0 yX0_purposesAllowedBy wsX0_purposesAllowedBy) := goodIn_app (goodIn_of _ (by decide +kernel)) ggX0_endNow_X0_purposesAllowedBy
set_option maxRecDepth 20000 in
theorem ggX0_endNow_X0_has : GoodIn wsX0_endNow wsX0_has := goodIn_r _ [26, 21, 22, 13, 23] (by decide +kernel) (by decide +kernel)
set_option maxRecDepth 20000 in
theorem gX0_endNow_X0_has : GoodIn wsX0_endNow (va_wsS RX0 65 yX0_has wsX0_has) := goodIn_app (goodIn_of _ (by decide +kernel)) ggX0_endNow_X0_has
theorem dX0_endNow_0 : decode cX0_endNow 0 = .ok (.aload_n 0, 1) := by decide +kernel
theorem dX0_endNow_1 : decode cX0_endNow 1 = .ok (.getfield 22, 3) := by decide +kernel
theorem dX0_endNow_4 : decode cX0_endNow 4 = .ok (.iload_n 1, 1) := by decide +kernel
theorem dX0_endNow_5 : decode cX0_endNow 5 = .ok (.iaload, 1) := by decide +kernel
theorem dX0_endNow_6 : decode cX0_endNow 6 = .ok (.aload_n 0, 1) := by decide +kernel
theorem dX0_endNow_7 : decode cX0_endNow 7 = .ok (.aload_n 0, 1) := by decide +kernel
theorem dX0_endNow_8 : decode cX0_endNow 8 = .ok (.getfield 25, 3) := by decide +kernel
theorem dX0_endNow_11 : decode cX0_endNow 11 = .ok (.iload_n 1, 1) := by decide +kernel
theorem dX0_endNow_12 : decode cX0_endNow 12 = .ok (.iaload, 1) := by decide +kernel
theorem dX0_endNow_13 : decode cX0_endNow 13 = .ok (.invokevirtual 130, 3) := by decide +kernel
theorem dX0_endNow_16 : decode cX0_endNow 16 = .ok (.iand, 1) := by decide +kernel
theorem dX0_endNow_17 : decode cX0_endNow 17 = .ok (.istore_n 2, 1) := by decide +kernel
theorem dX0_endNow_18 : decode cX0_endNow 18 = .ok (.iconst 0, 1) := by decide +kernel
theorem dX0_endNow_19 : decode cX0_endNow 19 = .ok (.istore_n 3, 1) := by decide +kernel
theorem dX0_endNow_20 : decode cX0_endNow 20 = .ok (.iconst 0, 1) := by decide +kernel
theorem dX0_endNow_21 : decode cX0_endNow 21 = .ok (.istore 4, 2) := by decide +kernel
theorem dX0_endNow_23 : decode cX0_endNow 23 = .ok (.iload 4, 2) := by decide +kernel
theorem dX0_endNow_25 : decode cX0_endNow 25 = .ok (.aload_n 0, 1) := by decide +kernel
theorem dX0_endNow_26 : decode cX0_endNow 26 = .ok (.getfield 41, 3) := by decide +kernel
theorem dX0_endNow_29 : decode cX0_endNow 29 = .ok (.if_icmp .ge 30, 3) := by decide +kernel
theorem dX0_endNow_32 : decode cX0_endNow 32 = .ok (.iload_n 2, 1) := by decide +kernel
theorem dX0_endNow_33 : decode cX0_endNow 33 = .ok (.iload 4, 2) := by decide +kernel
theorem dX0_endNow_35 : decode cX0_endNow 35 = .ok (.invokestatic 65, 3) := by decide +kernel
theorem dX0_endNow_38 : decode cX0_endNow 38 = .ok (.ifCond .eq 15, 3) := by decide +kernel
theorem dX0_endNow_41 : decode cX0_endNow 41 = .ok (.iload_n 3, 1) := by decide +kernel
theorem dX0_endNow_42 : decode cX0_endNow 42 = .ok (.aload_n 0, 1) := by decide +kernel
theorem dX0_endNow_43 : decode cX0_endNow 43 = .ok (.getfield 9, 3) := by decide +kernel
theorem dX0_endNow_46 : decode cX0_endNow 46 = .ok (.iload 4, 2) := by decide +kernel
theorem dX0_endNow_48 : decode cX0_endNow 48 = .ok (.iaload, 1) := by decide +kernel
theorem dX0_endNow_49 : decode cX0_endNow 49 = .ok (.invokestatic 214, 3) := by decide +kernel
theorem dX0_endNow_52 : decode cX0_endNow 52 = .ok (.istore_n 3, 1) := by decide +kernel
theorem dX0_endNow_53 : decode cX0_endNow 53 = .ok (.iinc 4 1, 3) := by decide +kernel
theorem dX0_endNow_56 : decode cX0_endNow 56 = .ok (.goto (-33), 3) := by decide +kernel
theorem dX0_endNow_59 : decode cX0_endNow 59 = .ok (.aload_n 0, 1) := by decide +kernel
theorem dX0_endNow_60 : decode cX0_endNow 60 = .ok (.getfield 19, 3) := by decide +kernel
theorem dX0_endNow_63 : decode cX0_endNow 63 = .ok (.iload_n 1, 1) := by decide +kernel
theorem dX0_endNow_64 : decode cX0_endNow 64 = .ok (.iaload, 1) := by decide +kernel
theorem dX0_endNow_65 : decode cX0_endNow 65 = .ok (.iload_n 3, 1) := by decide +kernel
theorem dX0_endNow_66 : decode cX0_endNow 66 = .ok (.iadd, 1) := by decide +kernel
theorem dX0_endNow_67 : decode cX0_endNow 67 = .ok (.ireturn, 1) := by decide +kernel
set_option maxRecDepth 20000 in
theorem ggX0_countDaysWithConsent_X0_has : GoodIn wsX0_countDaysWithConsent wsX0_has := goodIn_r _ [7, 8, 9, 6, 10] (by decide +kernel) (by decide +kernel)
set_option maxRecDepth 20000 in
theorem gX0_countDaysWithConsent_X0_has : GoodIn wsX0_countDaysWithConsent (va_wsS RX0 65 yX0_has wsX0_has) := goodIn_app (goodIn_of _ (by decide +kernel)) ggX0_countDaysWithConsent_X0_has
set_option maxRecDepth 20000 in
theorem ggX0_countDaysWithConsent_X0_consentIndex : GoodIn wsX0_countDaysWithConsent wsX0_consentIndex := goodIn_r _ [13] (by decide +kernel) (by decide +kernel)
set_option maxRecDepth 20000 in
theorem gX0_countDaysWithConsent_X0_consentIndex : GoodIn wsX0_countDaysWithConsent (va_wsS RX0 69 yX0_consentIndex wsX0_consentIndex) := goodIn_app (goodIn_of _ (by decide +kernel)) ggX0_countDaysWithConsent_X0_consentIndex
theorem dX0_countDaysWithConsent_0 : decode cX0_countDaysWithConsent 0 = .ok (.iconst 0, 1) := by decide +kernel
theorem dX0_countDaysWithConsent_1 : decode cX0_countDaysWithConsent 1 = .ok (.istore_n 2, 1) := by decide +kernel
theorem dX0_countDaysWithConsent_2 : decode cX0_countDaysWithConsent 2 = .ok (.iload_n 2, 1) := by decide +kernel
theorem dX0_countDaysWithConsent_3 : decode cX0_countDaysWithConsent 3 = .ok (.bipush 12, 2) := by decide +kernel
theorem dX0_countDaysWithConsent_5 : decode cX0_countDaysWithConsent 5 = .ok (.if_icmp .ge 52, 3) := by decide +kernel
theorem dX0_countDaysWithConsent_8 : decode cX0_countDaysWithConsent 8 = .ok (.iconst 0, 1) := by decide +kernel
theorem dX0_countDaysWithConsent_9 : decode cX0_countDaysWithConsent 9 = .ok (.istore_n 3, 1) := by decide +kernel
theorem dX0_countDaysWithConsent_10 : decode cX0_countDaysWithConsent 10 = .ok (.iload_n 3, 1) := by decide +kernel
theorem dX0_countDaysWithConsent_11 : decode cX0_countDaysWithConsent 11 = .ok (.aload_n 0, 1) := by decide +kernel
theorem dX0_countDaysWithConsent_12 : decode cX0_countDaysWithConsent 12 = .ok (.getfield 41, 3) := by decide +kernel
theorem dX0_countDaysWithConsent_15 : decode cX0_countDaysWithConsent 15 = .ok (.if_icmp .ge 36, 3) := by decide +kernel
theorem dX0_countDaysWithConsent_18 : decode cX0_countDaysWithConsent 18 = .ok (.aload_n 0, 1) := by decide +kernel
theorem dX0_countDaysWithConsent_19 : decode cX0_countDaysWithConsent 19 = .ok (.getfield 13, 3) := by decide +kernel
theorem dX0_countDaysWithConsent_22 : decode cX0_countDaysWithConsent 22 = .ok (.iload_n 2, 1) := by decide +kernel
theorem dX0_countDaysWithConsent_23 : decode cX0_countDaysWithConsent 23 = .ok (.iaload, 1) := by decide +kernel
theorem dX0_countDaysWithConsent_24 : decode cX0_countDaysWithConsent 24 = .ok (.iload_n 3, 1) := by decide +kernel
theorem dX0_countDaysWithConsent_25 : decode cX0_countDaysWithConsent 25 = .ok (.invokestatic 65, 3) := by decide +kernel
theorem dX0_countDaysWithConsent_28 : decode cX0_countDaysWithConsent 28 = .ok (.ifCond .eq 17, 3) := by decide +kernel
theorem dX0_countDaysWithConsent_31 : decode cX0_countDaysWithConsent 31 = .ok (.aload_n 0, 1) := by decide +kernel
theorem dX0_countDaysWithConsent_32 : decode cX0_countDaysWithConsent 32 = .ok (.getfield 16, 3) := by decide +kernel
theorem dX0_countDaysWithConsent_35 : decode cX0_countDaysWithConsent 35 = .ok (.iload_n 2, 1) := by decide +kernel
theorem dX0_countDaysWithConsent_36 : decode cX0_countDaysWithConsent 36 = .ok (.iload_n 3, 1) := by decide +kernel
theorem dX0_countDaysWithConsent_37 : decode cX0_countDaysWithConsent 37 = .ok (.invokestatic 69, 3) := by decide +kernel
theorem dX0_countDaysWithConsent_40 : decode cX0_countDaysWithConsent 40 = .ok (.dup2, 1) := by decide +kernel
theorem dX0_countDaysWithConsent_41 : decode cX0_countDaysWithConsent 41 = .ok (.iaload, 1) := by decide +kernel
theorem dX0_countDaysWithConsent_42 : decode cX0_countDaysWithConsent 42 = .ok (.iload_n 1, 1) := by decide +kernel
theorem dX0_countDaysWithConsent_43 : decode cX0_countDaysWithConsent 43 = .ok (.iadd, 1) := by decide +kernel
theorem dX0_countDaysWithConsent_44 : decode cX0_countDaysWithConsent 44 = .ok (.iastore, 1) := by decide +kernel
theorem dX0_countDaysWithConsent_45 : decode cX0_countDaysWithConsent 45 = .ok (.iinc 3 1, 3) := by decide +kernel
theorem dX0_countDaysWithConsent_48 : decode cX0_countDaysWithConsent 48 = .ok (.goto (-38), 3) := by decide +kernel
theorem dX0_countDaysWithConsent_51 : decode cX0_countDaysWithConsent 51 = .ok (.iinc 2 1, 3) := by decide +kernel
theorem dX0_countDaysWithConsent_54 : decode cX0_countDaysWithConsent 54 = .ok (.goto (-52), 3) := by decide +kernel
theorem dX0_countDaysWithConsent_57 : decode cX0_countDaysWithConsent 57 = .ok (.return_, 1) := by decide +kernel
set_option maxRecDepth 20000 in
theorem ggX0_requestWithAllBelow_X0_withAllBelow : GoodIn wsX0_requestWithAllBelow wsX0_withAllBelow := goodIn_r _ [7, 8, 9, 10, 11, 6, 12, 20, 21, 22, 23, 24, 25, 26, 27, 28, 29, 30, 31, 32, 33, 34, 35] (by decide +kernel) (by decide +kernel)
set_option maxRecDepth 20000 in
theorem gX0_requestWithAllBelow_X0_withAllBelow : GoodIn wsX0_requestWithAllBelow (wsV RX0 103 RX0 yX0_withAllBelow wsX0_withAllBelow) := goodIn_app (goodIn_of _ (by decide +kernel)) ggX0_requestWithAllBelow_X0_withAllBelow
set_option maxRecDepth 20000 in
theorem ggX0_requestWithAllBelow_J6_bitCount_0f7a4 : GoodIn wsX0_requestWithAllBelow wsJ6_bitCount_0f7a4 := goodIn_r _ [16, 17, 18, 19] (by decide +kernel) (by decide +kernel)
set_option maxRecDepth 20000 in
theorem gX0_requestWithAllBelow_J6_bitCount_0f7a4 : GoodIn wsX0_requestWithAllBelow (va_wsS RX0 110 yJ6_bitCount_0f7a4 wsJ6_bitCount_0f7a4) := goodIn_app (goodIn_of _ (by decide +kernel)) ggX0_requestWithAllBelow_J6_bitCount_0f7a4
theorem dX0_requestWithAllBelow_0 : decode cX0_requestWithAllBelow 0 = .ok (.aload_n 0, 1) := by decide +kernel
theorem dX0_requestWithAllBelow_1 : decode cX0_requestWithAllBelow 1 = .ok (.iload_n 1, 1) := by decide +kernel
theorem dX0_requestWithAllBelow_2 : decode cX0_requestWithAllBelow 2 = .ok (.invokevirtual 103, 3) := by decide +kernel
theorem dX0_requestWithAllBelow_5 : decode cX0_requestWithAllBelow 5 = .ok (.aload_n 0, 1) := by decide +kernel
theorem dX0_requestWithAllBelow_6 : decode cX0_requestWithAllBelow 6 = .ok (.getfield 83, 3) := by decide +kernel
theorem dX0_requestWithAllBelow_9 : decode cX0_requestWithAllBelow 9 = .ok (.iand, 1) := by decide +kernel
theorem dX0_requestWithAllBelow_10 : decode cX0_requestWithAllBelow 10 = .ok (.istore_n 2, 1) := by decide +kernel
theorem dX0_requestWithAllBelow_11 : decode cX0_requestWithAllBelow 11 = .ok (.aload_n 0, 1) := by decide +kernel
theorem dX0_requestWithAllBelow_12 : decode cX0_requestWithAllBelow 12 = .ok (.dup, 1) := by decide +kernel
theorem dX0_requestWithAllBelow_13 : decode cX0_requestWithAllBelow 13 = .ok (.getfield 83, 3) := by decide +kernel
theorem dX0_requestWithAllBelow_16 : decode cX0_requestWithAllBelow 16 = .ok (.iload_n 2, 1) := by decide +kernel
theorem dX0_requestWithAllBelow_17 : decode cX0_requestWithAllBelow 17 = .ok (.iconst (-1), 1) := by decide +kernel
theorem dX0_requestWithAllBelow_18 : decode cX0_requestWithAllBelow 18 = .ok (.ixor, 1) := by decide +kernel
theorem dX0_requestWithAllBelow_19 : decode cX0_requestWithAllBelow 19 = .ok (.iand, 1) := by decide +kernel
theorem dX0_requestWithAllBelow_20 : decode cX0_requestWithAllBelow 20 = .ok (.putfield 83, 3) := by decide +kernel
theorem dX0_requestWithAllBelow_23 : decode cX0_requestWithAllBelow 23 = .ok (.aload_n 0, 1) := by decide +kernel
theorem dX0_requestWithAllBelow_24 : decode cX0_requestWithAllBelow 24 = .ok (.dup, 1) := by decide +kernel
theorem dX0_requestWithAllBelow_25 : decode cX0_requestWithAllBelow 25 = .ok (.getfield 121, 3) := by decide +kernel
theorem dX0_requestWithAllBelow_28 : decode cX0_requestWithAllBelow 28 = .ok (.iload_n 2, 1) := by decide +kernel
theorem dX0_requestWithAllBelow_29 : decode cX0_requestWithAllBelow 29 = .ok (.ior, 1) := by decide +kernel
theorem dX0_requestWithAllBelow_30 : decode cX0_requestWithAllBelow 30 = .ok (.putfield 121, 3) := by decide +kernel
theorem dX0_requestWithAllBelow_33 : decode cX0_requestWithAllBelow 33 = .ok (.iload_n 2, 1) := by decide +kernel
theorem dX0_requestWithAllBelow_34 : decode cX0_requestWithAllBelow 34 = .ok (.invokestatic 110, 3) := by decide +kernel
theorem dX0_requestWithAllBelow_37 : decode cX0_requestWithAllBelow 37 = .ok (.ireturn, 1) := by decide +kernel
theorem dX0_heldRecords_0 : decode cX0_heldRecords 0 = .ok (.iconst 0, 1) := by decide +kernel
theorem dX0_heldRecords_1 : decode cX0_heldRecords 1 = .ok (.istore_n 1, 1) := by decide +kernel
theorem dX0_heldRecords_2 : decode cX0_heldRecords 2 = .ok (.iconst 0, 1) := by decide +kernel
theorem dX0_heldRecords_3 : decode cX0_heldRecords 3 = .ok (.istore_n 2, 1) := by decide +kernel
theorem dX0_heldRecords_4 : decode cX0_heldRecords 4 = .ok (.iload_n 2, 1) := by decide +kernel
theorem dX0_heldRecords_5 : decode cX0_heldRecords 5 = .ok (.bipush 6, 2) := by decide +kernel
theorem dX0_heldRecords_7 : decode cX0_heldRecords 7 = .ok (.if_icmp .ge 18, 3) := by decide +kernel
theorem dX0_heldRecords_10 : decode cX0_heldRecords 10 = .ok (.iload_n 1, 1) := by decide +kernel
theorem dX0_heldRecords_11 : decode cX0_heldRecords 11 = .ok (.aload_n 0, 1) := by decide +kernel
theorem dX0_heldRecords_12 : decode cX0_heldRecords 12 = .ok (.getfield 34, 3) := by decide +kernel
theorem dX0_heldRecords_15 : decode cX0_heldRecords 15 = .ok (.iload_n 2, 1) := by decide +kernel
theorem dX0_heldRecords_16 : decode cX0_heldRecords 16 = .ok (.iaload, 1) := by decide +kernel
theorem dX0_heldRecords_17 : decode cX0_heldRecords 17 = .ok (.ior, 1) := by decide +kernel
theorem dX0_heldRecords_18 : decode cX0_heldRecords 18 = .ok (.istore_n 1, 1) := by decide +kernel
theorem dX0_heldRecords_19 : decode cX0_heldRecords 19 = .ok (.iinc 2 1, 3) := by decide +kernel
theorem dX0_heldRecords_22 : decode cX0_heldRecords 22 = .ok (.goto (-18), 3) := by decide +kernel
theorem dX0_heldRecords_25 : decode cX0_heldRecords 25 = .ok (.iload_n 1, 1) := by decide +kernel
theorem dX0_heldRecords_26 : decode cX0_heldRecords 26 = .ok (.ireturn, 1) := by decide +kernel
set_option maxRecDepth 20000 in
theorem ggX0_moveToErased_X0_bit : GoodIn wsX0_moveToErased wsX0_bit := goodIn_r _ [6] (by decide +kernel) (by decide +kernel)
set_option maxRecDepth 20000 in
theorem gX0_moveToErased_X0_bit : GoodIn wsX0_moveToErased (va_wsS RX0 55 yX0_bit wsX0_bit) := goodIn_app (goodIn_of _ (by decide +kernel)) ggX0_moveToErased_X0_bit
theorem dX0_moveToErased_0 : decode cX0_moveToErased 0 = .ok (.aload_n 0, 1) := by decide +kernel
theorem dX0_moveToErased_1 : decode cX0_moveToErased 1 = .ok (.dup, 1) := by decide +kernel
theorem dX0_moveToErased_2 : decode cX0_moveToErased 2 = .ok (.getfield 121, 3) := by decide +kernel
theorem dX0_moveToErased_5 : decode cX0_moveToErased 5 = .ok (.iload_n 1, 1) := by decide +kernel
theorem dX0_moveToErased_6 : decode cX0_moveToErased 6 = .ok (.invokestatic 55, 3) := by decide +kernel
theorem dX0_moveToErased_9 : decode cX0_moveToErased 9 = .ok (.iconst (-1), 1) := by decide +kernel
theorem dX0_moveToErased_10 : decode cX0_moveToErased 10 = .ok (.ixor, 1) := by decide +kernel
theorem dX0_moveToErased_11 : decode cX0_moveToErased 11 = .ok (.iand, 1) := by decide +kernel
theorem dX0_moveToErased_12 : decode cX0_moveToErased 12 = .ok (.putfield 121, 3) := by decide +kernel
theorem dX0_moveToErased_15 : decode cX0_moveToErased 15 = .ok (.aload_n 0, 1) := by decide +kernel
theorem dX0_moveToErased_16 : decode cX0_moveToErased 16 = .ok (.dup, 1) := by decide +kernel
theorem dX0_moveToErased_17 : decode cX0_moveToErased 17 = .ok (.getfield 118, 3) := by decide +kernel
theorem dX0_moveToErased_20 : decode cX0_moveToErased 20 = .ok (.iload_n 1, 1) := by decide +kernel
theorem dX0_moveToErased_21 : decode cX0_moveToErased 21 = .ok (.invokestatic 55, 3) := by decide +kernel
theorem dX0_moveToErased_24 : decode cX0_moveToErased 24 = .ok (.ior, 1) := by decide +kernel
theorem dX0_moveToErased_25 : decode cX0_moveToErased 25 = .ok (.putfield 118, 3) := by decide +kernel
theorem dX0_moveToErased_28 : decode cX0_moveToErased 28 = .ok (.return_, 1) := by decide +kernel
theorem dJ6_bitCount_0f7a4_0 : decode cJ6_bitCount_0f7a4 0 = .ok (.iload_n 0, 1) := by decide +kernel
theorem dJ6_bitCount_0f7a4_1 : decode cJ6_bitCount_0f7a4 1 = .ok (.iload_n 0, 1) := by decide +kernel
