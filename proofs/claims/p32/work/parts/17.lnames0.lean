theorem dL_cell_0 : decode cL_cell 0 = .ok (.iload_n 1, 1) := by decide +kernel
theorem dL_cell_1 : decode cL_cell 1 = .ok (.aload_n 0, 1) := by decide +kernel
theorem dL_cell_2 : decode cL_cell 2 = .ok (.arraylength, 1) := by decide +kernel
theorem dL_cell_3 : decode cL_cell 3 = .ok (.if_icmp .ge 9, 3) := by decide +kernel
theorem dL_cell_6 : decode cL_cell 6 = .ok (.aload_n 0, 1) := by decide +kernel
theorem dL_cell_7 : decode cL_cell 7 = .ok (.iload_n 1, 1) := by decide +kernel
theorem dL_cell_8 : decode cL_cell 8 = .ok (.iaload, 1) := by decide +kernel
theorem dL_cell_9 : decode cL_cell 9 = .ok (.goto 13, 3) := by decide +kernel
theorem dL_cell_12 : decode cL_cell 12 = .ok (.ldc 7, 2) := by decide +kernel
theorem dL_cell_14 : decode cL_cell 14 = .ok (.iload_n 1, 1) := by decide +kernel
theorem dL_cell_15 : decode cL_cell 15 = .ok (.bipush 31, 2) := by decide +kernel
theorem dL_cell_17 : decode cL_cell 17 = .ok (.iadd, 1) := by decide +kernel
theorem dL_cell_18 : decode cL_cell 18 = .ok (.imul, 1) := by decide +kernel
theorem dL_cell_19 : decode cL_cell 19 = .ok (.ldc 8, 2) := by decide +kernel
theorem dL_cell_21 : decode cL_cell 21 = .ok (.iadd, 1) := by decide +kernel
theorem dL_cell_22 : decode cL_cell 22 = .ok (.ireturn, 1) := by decide +kernel
theorem dL_low_0 : decode cL_low 0 = .ok (.iload_n 0, 1) := by decide +kernel
theorem dL_low_1 : decode cL_low 1 = .ok (.ldc 9, 2) := by decide +kernel
theorem dL_low_3 : decode cL_low 3 = .ok (.iand, 1) := by decide +kernel
theorem dL_low_4 : decode cL_low 4 = .ok (.iload_n 1, 1) := by decide +kernel
theorem dL_low_5 : decode cL_low 5 = .ok (.irem, 1) := by decide +kernel
theorem dL_low_6 : decode cL_low 6 = .ok (.ireturn, 1) := by decide +kernel
set_option maxRecDepth 20000 in
theorem ggL_calls_X0_addPurpose : GoodIn wsL_calls wsX0_addPurpose := goodIn_ca (goodIn_ca (goodIn_r _ [8, 9, 10, 11, 12, 13, 14, 15, 16, 7, 17, 18, 19, 20, 21, 22, 134, 135, 136, 137, 138, 139, 140, 141, 142, 143, 144, 145, 146, 147, 148, 149] (by decide +kernel) (by decide +kernel)) (goodIn_sub (fun _ h => List.mem_cons_of_mem _ (List.mem_append_left _ (List.mem_append_left _ (List.mem_append_right _ h)))) (by decide +kernel))) (goodIn_sub (fun _ h => List.mem_cons_of_mem _ (List.mem_append_left _ (List.mem_append_right _ h))) (by decide +kernel))
set_option maxRecDepth 20000 in
theorem gL_calls_X0_addPurpose : GoodIn wsL_calls (wsV RL 10 RX0 yX0_addPurpose wsX0_addPurpose) := goodIn_app (goodIn_of _ (by decide +kernel)) ggL_calls_X0_addPurpose
set_option maxRecDepth 20000 in
theorem ggL_calls_X0_add : GoodIn wsL_calls wsX0_add := goodIn_ca (goodIn_ca (goodIn_ca (goodIn_r _ [26, 27, 28, 29, 7, 30, 31, 32, 33, 34, 35, 36, 18, 19, 37, 38, 39, 40, 11, 20, 21, 22, 41, 42, 43, 44, 9, 10, 45, 46, 47, 48, 49, 50, 51, 52, 53, 54, 55, 56, 57, 58, 59, 60, 13, 61, 62, 63, 64, 65, 66, 67, 12, 134, 135, 136, 137, 138, 139, 140, 141, 142, 143, 144, 145, 146, 147, 148, 149] (by decide +kernel) (by decide +kernel)) (goodIn_sub (fun _ h => List.mem_cons_of_mem _ (List.mem_append_right _ h)) (by decide +kernel))) (goodIn_sub (fun _ h => List.mem_cons_of_mem _ (List.mem_append_left _ (List.mem_append_right _ h))) (by decide +kernel))) (goodIn_sub (fun _ h => List.mem_cons_of_mem _ (List.mem_append_left _ (List.mem_append_left _ (List.mem_append_right _ h)))) (by decide +kernel))
set_option maxRecDepth 20000 in
theorem gL_calls_X0_add : GoodIn wsL_calls (wsV RL 16 RX0 yX0_add wsX0_add) := goodIn_app (goodIn_of _ (by decide +kernel)) ggL_calls_X0_add
set_option maxRecDepth 20000 in
theorem ggL_calls_X0_derive : GoodIn wsL_calls wsX0_derive := goodIn_ca (goodIn_ca (goodIn_ca (goodIn_r _ [71, 9, 10, 51, 49, 72, 73, 74, 7, 75, 31, 32, 45, 33, 34, 35, 36, 18, 19, 37, 38, 39, 40, 11, 20, 21, 22, 61, 62, 63, 41, 42, 43, 44, 46, 47, 48, 50, 52, 53, 54, 55, 56, 57, 58, 59, 60, 13, 64, 65, 66, 67, 12, 134, 135, 136, 137, 138, 139, 140, 141, 142, 143, 144, 145, 146, 147, 148, 149] (by decide +kernel) (by decide +kernel)) (goodIn_sub (fun _ h => List.mem_cons_of_mem _ (List.mem_append_left _ (List.mem_append_left _ (List.mem_append_right _ h)))) (by decide +kernel))) (goodIn_sub (fun _ h => List.mem_cons_of_mem _ (List.mem_append_right _ h)) (by decide +kernel))) (goodIn_sub (fun _ h => List.mem_cons_of_mem _ (List.mem_append_left _ (List.mem_append_right _ h))) (by decide +kernel))
set_option maxRecDepth 20000 in
theorem gL_calls_X0_derive : GoodIn wsL_calls (wsV RL 20 RX0 yX0_derive wsX0_derive) := goodIn_app (goodIn_of _ (by decide +kernel)) ggL_calls_X0_derive
set_option maxRecDepth 20000 in
theorem ggL_calls_X0_addSource : GoodIn wsL_calls wsX0_addSource := goodIn_ca (goodIn_ca (goodIn_ca (goodIn_r _ [79, 18, 19, 9, 10, 50, 51, 49, 72, 73, 74, 7, 75, 31, 32, 45, 61, 62, 63, 20, 21, 22, 80, 81, 82, 83, 84, 85, 86, 87, 88, 89, 90, 91, 92, 93, 94, 95, 96, 97, 98, 134, 135, 136, 137, 138, 139, 140, 141, 142, 143, 144, 145, 146, 147, 148, 149] (by decide +kernel) (by decide +kernel)) (goodIn_sub (fun _ h => List.mem_cons_of_mem _ (List.mem_append_left _ (List.mem_append_right _ h))) (by decide +kernel))) (goodIn_sub (fun _ h => List.mem_cons_of_mem _ (List.mem_append_left _ (List.mem_append_left _ (List.mem_append_right _ h)))) (by decide +kernel))) (goodIn_sub (fun _ h => List.mem_cons_of_mem _ (List.mem_append_right _ h)) (by decide +kernel))
set_option maxRecDepth 20000 in
theorem gL_calls_X0_addSource : GoodIn wsL_calls (wsV RL 23 RX0 yX0_addSource wsX0_addSource) := goodIn_app (goodIn_of _ (by decide +kernel)) ggL_calls_X0_addSource
set_option maxRecDepth 20000 in
theorem ggL_calls_X0_use : GoodIn wsL_calls wsX0_use := goodIn_ca (goodIn_ca (goodIn_r _ [102, 9, 10, 103, 104, 105, 106, 7, 107, 108, 109, 48, 49, 47, 72, 73, 74, 75, 31, 32, 45, 110, 111, 112, 113, 11, 61, 62, 63, 20, 21, 22, 56, 57, 58, 59, 60, 13, 37, 38, 39, 40, 64, 65, 66, 67, 46, 12, 114, 115, 116, 134, 135, 136, 137, 138, 139, 140, 141, 142, 143, 144, 145, 146, 147, 148, 149] (by decide +kernel) (by decide +kernel)) (goodIn_sub (fun _ h => List.mem_cons_of_mem _ (List.mem_append_left _ (List.mem_append_left _ (List.mem_append_right _ h)))) (by decide +kernel))) (goodIn_sub (fun _ h => List.mem_cons_of_mem _ (List.mem_append_right _ h)) (by decide +kernel))
set_option maxRecDepth 20000 in
theorem gL_calls_X0_use : GoodIn wsL_calls (wsV RL 26 RX0 yX0_use wsX0_use) := goodIn_app (goodIn_of _ (by decide +kernel)) ggL_calls_X0_use
set_option maxRecDepth 20000 in
theorem ggL_calls_X0_hold : GoodIn wsL_calls wsX0_hold := goodIn_ca (goodIn_ca (goodIn_r _ [120, 9, 10, 108, 121, 122, 123, 124, 7, 125, 31, 32, 72, 73, 74, 75, 45, 61, 62, 63, 20, 21, 22, 92, 93, 94, 95, 96, 97, 98, 134, 135, 136, 137, 138, 139, 140, 141, 142, 143, 144, 145, 146, 147, 148, 149] (by decide +kernel) (by decide +kernel)) (goodIn_sub (fun _ h => List.mem_cons_of_mem _ (List.mem_append_left _ (List.mem_append_left _ (List.mem_append_right _ h)))) (by decide +kernel))) (goodIn_sub (fun _ h => List.mem_cons_of_mem _ (List.mem_append_right _ h)) (by decide +kernel))
set_option maxRecDepth 20000 in
theorem gL_calls_X0_hold : GoodIn wsL_calls (wsV RL 29 RX0 yX0_hold wsX0_hold) := goodIn_app (goodIn_of _ (by decide +kernel)) ggL_calls_X0_hold
set_option maxRecDepth 20000 in
theorem ggL_calls_X0_setRetention : GoodIn wsL_calls wsX0_setRetention := goodIn_ca (goodIn_ca (goodIn_r _ [129, 12, 110, 111, 112, 7, 113, 31, 32, 11, 14, 15, 16, 17, 18, 19, 134, 135, 136, 137, 138, 139, 140, 141, 142, 143, 144, 145, 146, 147, 148, 149] (by decide +kernel) (by decide +kernel)) (goodIn_sub (fun _ h => List.mem_cons_of_mem _ (List.mem_append_right _ h)) (by decide +kernel))) (goodIn_sub (fun _ h => List.mem_cons_of_mem _ (List.mem_append_left _ (List.mem_append_right _ h))) (by decide +kernel))
set_option maxRecDepth 20000 in
theorem gL_calls_X0_setRetention : GoodIn wsL_calls (wsV RL 32 RX0 yX0_setRetention wsX0_setRetention) := goodIn_app (goodIn_of _ (by decide +kernel)) ggL_calls_X0_setRetention
set_option maxRecDepth 20000 in
theorem ggL_calls_X0_stateOf : GoodIn wsL_calls wsX0_stateOf := goodIn_ca (goodIn_r _ [133, 108, 109, 72, 73, 74, 7, 75, 31, 32, 45, 61, 62, 63, 20, 21, 22, 134, 135, 136, 137, 138, 139, 140, 141, 142, 143, 144, 145, 146, 147, 148, 149] (by decide +kernel) (by decide +kernel)) (goodIn_sub (fun _ h => List.mem_cons_of_mem _ (List.mem_append_right _ h)) (by decide +kernel))
set_option maxRecDepth 20000 in
theorem gL_calls_X0_stateOf : GoodIn wsL_calls (wsV RL 35 RX0 yX0_stateOf wsX0_stateOf) := goodIn_app (goodIn_of _ (by decide +kernel)) ggL_calls_X0_stateOf
theorem dL_calls_0 : decode cL_calls 0 = .ok (.iload_n 1, 1) := by decide +kernel
theorem dL_calls_1 : decode cL_calls 1 = .ok (.ifCond .ne 21, 3) := by decide +kernel
theorem dL_calls_4 : decode cL_calls 4 = .ok (.aload_n 0, 1) := by decide +kernel
theorem dL_calls_5 : decode cL_calls 5 = .ok (.iload_n 2, 1) := by decide +kernel
theorem dL_calls_6 : decode cL_calls 6 = .ok (.iload_n 3, 1) := by decide +kernel
theorem dL_calls_7 : decode cL_calls 7 = .ok (.iconst 1, 1) := by decide +kernel
theorem dL_calls_8 : decode cL_calls 8 = .ok (.if_icmp .ne 7, 3) := by decide +kernel
theorem dL_calls_11 : decode cL_calls 11 = .ok (.iconst 1, 1) := by decide +kernel
theorem dL_calls_12 : decode cL_calls 12 = .ok (.goto 4, 3) := by decide +kernel
theorem dL_calls_15 : decode cL_calls 15 = .ok (.iconst 0, 1) := by decide +kernel
theorem dL_calls_16 : decode cL_calls 16 = .ok (.invokevirtual 10, 3) := by decide +kernel
theorem dL_calls_19 : decode cL_calls 19 = .ok (.goto 93, 3) := by decide +kernel
theorem dL_calls_22 : decode cL_calls 22 = .ok (.iload_n 1, 1) := by decide +kernel
theorem dL_calls_23 : decode cL_calls 23 = .ok (.iconst 1, 1) := by decide +kernel
theorem dL_calls_24 : decode cL_calls 24 = .ok (.if_icmp .ne 12, 3) := by decide +kernel
theorem dL_calls_27 : decode cL_calls 27 = .ok (.aload_n 0, 1) := by decide +kernel
theorem dL_calls_28 : decode cL_calls 28 = .ok (.iload_n 2, 1) := by decide +kernel
theorem dL_calls_29 : decode cL_calls 29 = .ok (.iload_n 3, 1) := by decide +kernel
theorem dL_calls_30 : decode cL_calls 30 = .ok (.invokevirtual 16, 3) := by decide +kernel
theorem dL_calls_33 : decode cL_calls 33 = .ok (.goto 79, 3) := by decide +kernel
theorem dL_calls_36 : decode cL_calls 36 = .ok (.iload_n 1, 1) := by decide +kernel
theorem dL_calls_37 : decode cL_calls 37 = .ok (.iconst 2, 1) := by decide +kernel
theorem dL_calls_38 : decode cL_calls 38 = .ok (.if_icmp .ne 12, 3) := by decide +kernel
theorem dL_calls_41 : decode cL_calls 41 = .ok (.aload_n 0, 1) := by decide +kernel
theorem dL_calls_42 : decode cL_calls 42 = .ok (.iload_n 2, 1) := by decide +kernel
theorem dL_calls_43 : decode cL_calls 43 = .ok (.iload_n 3, 1) := by decide +kernel
theorem dL_calls_44 : decode cL_calls 44 = .ok (.invokevirtual 20, 3) := by decide +kernel
theorem dL_calls_47 : decode cL_calls 47 = .ok (.goto 65, 3) := by decide +kernel
theorem dL_calls_50 : decode cL_calls 50 = .ok (.iload_n 1, 1) := by decide +kernel
theorem dL_calls_51 : decode cL_calls 51 = .ok (.iconst 3, 1) := by decide +kernel
theorem dL_calls_52 : decode cL_calls 52 = .ok (.if_icmp .ne 12, 3) := by decide +kernel
theorem dL_calls_55 : decode cL_calls 55 = .ok (.aload_n 0, 1) := by decide +kernel
theorem dL_calls_56 : decode cL_calls 56 = .ok (.iload_n 2, 1) := by decide +kernel
theorem dL_calls_57 : decode cL_calls 57 = .ok (.iload_n 3, 1) := by decide +kernel
theorem dL_calls_58 : decode cL_calls 58 = .ok (.invokevirtual 23, 3) := by decide +kernel
theorem dL_calls_61 : decode cL_calls 61 = .ok (.goto 51, 3) := by decide +kernel
theorem dL_calls_64 : decode cL_calls 64 = .ok (.iload_n 1, 1) := by decide +kernel
theorem dL_calls_65 : decode cL_calls 65 = .ok (.iconst 4, 1) := by decide +kernel
theorem dL_calls_66 : decode cL_calls 66 = .ok (.if_icmp .ne 12, 3) := by decide +kernel
theorem dL_calls_69 : decode cL_calls 69 = .ok (.aload_n 0, 1) := by decide +kernel
theorem dL_calls_70 : decode cL_calls 70 = .ok (.iload_n 2, 1) := by decide +kernel
theorem dL_calls_71 : decode cL_calls 71 = .ok (.iload_n 3, 1) := by decide +kernel
theorem dL_calls_72 : decode cL_calls 72 = .ok (.invokevirtual 26, 3) := by decide +kernel
theorem dL_calls_75 : decode cL_calls 75 = .ok (.goto 37, 3) := by decide +kernel
theorem dL_calls_78 : decode cL_calls 78 = .ok (.iload_n 1, 1) := by decide +kernel
theorem dL_calls_79 : decode cL_calls 79 = .ok (.iconst 5, 1) := by decide +kernel
theorem dL_calls_80 : decode cL_calls 80 = .ok (.if_icmp .ne 12, 3) := by decide +kernel
theorem dL_calls_83 : decode cL_calls 83 = .ok (.aload_n 0, 1) := by decide +kernel
theorem dL_calls_84 : decode cL_calls 84 = .ok (.iload_n 2, 1) := by decide +kernel
theorem dL_calls_85 : decode cL_calls 85 = .ok (.iload_n 3, 1) := by decide +kernel
theorem dL_calls_86 : decode cL_calls 86 = .ok (.invokevirtual 29, 3) := by decide +kernel
theorem dL_calls_89 : decode cL_calls 89 = .ok (.goto 23, 3) := by decide +kernel
theorem dL_calls_92 : decode cL_calls 92 = .ok (.iload_n 1, 1) := by decide +kernel
theorem dL_calls_93 : decode cL_calls 93 = .ok (.bipush 6, 2) := by decide +kernel
theorem dL_calls_95 : decode cL_calls 95 = .ok (.if_icmp .ne 12, 3) := by decide +kernel
theorem dL_calls_98 : decode cL_calls 98 = .ok (.aload_n 0, 1) := by decide +kernel
theorem dL_calls_99 : decode cL_calls 99 = .ok (.iload_n 2, 1) := by decide +kernel
theorem dL_calls_100 : decode cL_calls 100 = .ok (.iload_n 3, 1) := by decide +kernel
theorem dL_calls_101 : decode cL_calls 101 = .ok (.invokevirtual 32, 3) := by decide +kernel
theorem dL_calls_104 : decode cL_calls 104 = .ok (.goto 8, 3) := by decide +kernel
theorem dL_calls_107 : decode cL_calls 107 = .ok (.aload_n 0, 1) := by decide +kernel
theorem dL_calls_108 : decode cL_calls 108 = .ok (.iload_n 2, 1) := by decide +kernel
theorem dL_calls_109 : decode cL_calls 109 = .ok (.invokevirtual 35, 3) := by decide +kernel
theorem dL_calls_112 : decode cL_calls 112 = .ok (.ireturn, 1) := by decide +kernel
theorem dL_calls_113 : decode cL_calls 113 = .ok (.astore 4, 2) := by decide +kernel
theorem dL_calls_115 : decode cL_calls 115 = .ok (.iconst (-1), 1) := by decide +kernel
theorem dL_calls_116 : decode cL_calls 116 = .ok (.ireturn, 1) := by decide +kernel
theorem dL_calls_117 : decode cL_calls 117 = .ok (.astore 4, 2) := by decide +kernel
theorem dL_calls_119 : decode cL_calls 119 = .ok (.bipush (-2), 2) := by decide +kernel
theorem dL_calls_121 : decode cL_calls 121 = .ok (.ireturn, 1) := by decide +kernel
theorem dL_calls_122 : decode cL_calls 122 = .ok (.astore 4, 2) := by decide +kernel
theorem dL_calls_124 : decode cL_calls 124 = .ok (.bipush (-3), 2) := by decide +kernel
theorem dL_calls_126 : decode cL_calls 126 = .ok (.ireturn, 1) := by decide +kernel
theorem dL_has_0 : decode cL_has 0 = .ok (.iload_n 0, 1) := by decide +kernel
theorem dL_has_1 : decode cL_has 1 = .ok (.iload_n 1, 1) := by decide +kernel
theorem dL_has_2 : decode cL_has 2 = .ok (.ishr, 1) := by decide +kernel
theorem dL_has_3 : decode cL_has 3 = .ok (.iconst 1, 1) := by decide +kernel
theorem dL_has_4 : decode cL_has 4 = .ok (.iand, 1) := by decide +kernel
theorem dL_has_5 : decode cL_has 5 = .ok (.iconst 1, 1) := by decide +kernel
theorem dL_has_6 : decode cL_has 6 = .ok (.if_icmp .ne 7, 3) := by decide +kernel
theorem dL_has_9 : decode cL_has 9 = .ok (.iconst 1, 1) := by decide +kernel
theorem dL_has_10 : decode cL_has 10 = .ok (.goto 4, 3) := by decide +kernel
theorem dL_has_13 : decode cL_has 13 = .ok (.iconst 0, 1) := by decide +kernel
theorem dL_has_14 : decode cL_has 14 = .ok (.ireturn, 1) := by decide +kernel
set_option maxRecDepth 20000 in
theorem ggL_isAllowed_L_has : GoodIn wsL_isAllowed wsL_has := goodIn_r _ [4] (by decide +kernel) (by decide +kernel)
set_option maxRecDepth 20000 in
theorem gL_isAllowed_L_has : GoodIn wsL_isAllowed (va_wsS RL 45 yL_has wsL_has) := goodIn_app (goodIn_of _ (by decide +kernel)) ggL_isAllowed_L_has
theorem dL_isAllowed_0 : decode cL_isAllowed 0 = .ok (.iconst 1, 1) := by decide +kernel
theorem dL_isAllowed_1 : decode cL_isAllowed 1 = .ok (.istore_n 3, 1) := by decide +kernel
theorem dL_isAllowed_2 : decode cL_isAllowed 2 = .ok (.iconst 0, 1) := by decide +kernel
theorem dL_isAllowed_3 : decode cL_isAllowed 3 = .ok (.istore 4, 2) := by decide +kernel
theorem dL_isAllowed_5 : decode cL_isAllowed 5 = .ok (.iload 4, 2) := by decide +kernel
theorem dL_isAllowed_7 : decode cL_isAllowed 7 = .ok (.bipush 6, 2) := by decide +kernel
theorem dL_isAllowed_9 : decode cL_isAllowed 9 = .ok (.if_icmp .ge 51, 3) := by decide +kernel
theorem dL_isAllowed_12 : decode cL_isAllowed 12 = .ok (.iload_n 3, 1) := by decide +kernel
theorem dL_isAllowed_13 : decode cL_isAllowed 13 = .ok (.ifCond .eq 39, 3) := by decide +kernel
theorem dL_isAllowed_16 : decode cL_isAllowed 16 = .ok (.aload_n 2, 1) := by decide +kernel
theorem dL_isAllowed_17 : decode cL_isAllowed 17 = .ok (.bipush 8, 2) := by decide +kernel
theorem dL_isAllowed_19 : decode cL_isAllowed 19 = .ok (.iload_n 0, 1) := by decide +kernel
theorem dL_isAllowed_20 : decode cL_isAllowed 20 = .ok (.iadd, 1) := by decide +kernel
theorem dL_isAllowed_21 : decode cL_isAllowed 21 = .ok (.iaload, 1) := by decide +kernel
theorem dL_isAllowed_22 : decode cL_isAllowed 22 = .ok (.ifCond .eq 26, 3) := by decide +kernel
theorem dL_isAllowed_25 : decode cL_isAllowed 25 = .ok (.iload_n 1, 1) := by decide +kernel
theorem dL_isAllowed_26 : decode cL_isAllowed 26 = .ok (.iload 4, 2) := by decide +kernel
theorem dL_isAllowed_28 : decode cL_isAllowed 28 = .ok (.invokestatic 45, 3) := by decide +kernel
theorem dL_isAllowed_31 : decode cL_isAllowed 31 = .ok (.ifCond .eq 17, 3) := by decide +kernel
theorem dL_isAllowed_34 : decode cL_isAllowed 34 = .ok (.aload_n 2, 1) := by decide +kernel
theorem dL_isAllowed_35 : decode cL_isAllowed 35 = .ok (.bipush 16, 2) := by decide +kernel
theorem dL_isAllowed_37 : decode cL_isAllowed 37 = .ok (.iload 4, 2) := by decide +kernel
theorem dL_isAllowed_39 : decode cL_isAllowed 39 = .ok (.iadd, 1) := by decide +kernel
theorem dL_isAllowed_40 : decode cL_isAllowed 40 = .ok (.iaload, 1) := by decide +kernel
theorem dL_isAllowed_41 : decode cL_isAllowed 41 = .ok (.iload_n 0, 1) := by decide +kernel
theorem dL_isAllowed_42 : decode cL_isAllowed 42 = .ok (.invokestatic 45, 3) := by decide +kernel
theorem dL_isAllowed_45 : decode cL_isAllowed 45 = .ok (.ifCond .eq 7, 3) := by decide +kernel
theorem dL_isAllowed_48 : decode cL_isAllowed 48 = .ok (.iconst 1, 1) := by decide +kernel
theorem dL_isAllowed_49 : decode cL_isAllowed 49 = .ok (.goto 4, 3) := by decide +kernel
theorem dL_isAllowed_52 : decode cL_isAllowed 52 = .ok (.iconst 0, 1) := by decide +kernel
theorem dL_isAllowed_53 : decode cL_isAllowed 53 = .ok (.istore_n 3, 1) := by decide +kernel
theorem dL_isAllowed_54 : decode cL_isAllowed 54 = .ok (.iinc 4 1, 3) := by decide +kernel
theorem dL_isAllowed_57 : decode cL_isAllowed 57 = .ok (.goto (-52), 3) := by decide +kernel
theorem dL_isAllowed_60 : decode cL_isAllowed 60 = .ok (.iload_n 3, 1) := by decide +kernel
theorem dL_isAllowed_61 : decode cL_isAllowed 61 = .ok (.ireturn, 1) := by decide +kernel
set_option maxRecDepth 20000 in
theorem ggL_isOpen_L_has : GoodIn wsL_isOpen wsL_has := goodIn_r _ [4] (by decide +kernel) (by decide +kernel)
set_option maxRecDepth 20000 in
theorem gL_isOpen_L_has : GoodIn wsL_isOpen (va_wsS RL 45 yL_has wsL_has) := goodIn_app (goodIn_of _ (by decide +kernel)) ggL_isOpen_L_has
set_option maxRecDepth 20000 in
theorem ggL_isOpen_L_isAllowed : GoodIn wsL_isOpen wsL_isAllowed := goodIn_r _ [7, 1, 2, 3, 4] (by decide +kernel) (by decide +kernel)
set_option maxRecDepth 20000 in
theorem gL_isOpen_L_isAllowed : GoodIn wsL_isOpen (va_wsS RL 51 yL_isAllowed wsL_isAllowed) := goodIn_app (goodIn_of _ (by decide +kernel)) ggL_isOpen_L_isAllowed
theorem dL_isOpen_0 : decode cL_isOpen 0 = .ok (.iconst 0, 1) := by decide +kernel
theorem dL_isOpen_1 : decode cL_isOpen 1 = .ok (.istore 5, 2) := by decide +kernel
theorem dL_isOpen_3 : decode cL_isOpen 3 = .ok (.iconst 0, 1) := by decide +kernel
theorem dL_isOpen_4 : decode cL_isOpen 4 = .ok (.istore 6, 2) := by decide +kernel
theorem dL_isOpen_6 : decode cL_isOpen 6 = .ok (.iload 6, 2) := by decide +kernel
theorem dL_isOpen_8 : decode cL_isOpen 8 = .ok (.aload_n 3, 1) := by decide +kernel
theorem dL_isOpen_9 : decode cL_isOpen 9 = .ok (.iconst 1, 1) := by decide +kernel
theorem dL_isOpen_10 : decode cL_isOpen 10 = .ok (.iaload, 1) := by decide +kernel
theorem dL_isOpen_11 : decode cL_isOpen 11 = .ok (.if_icmp .ge 54, 3) := by decide +kernel
theorem dL_isOpen_14 : decode cL_isOpen 14 = .ok (.iload 5, 2) := by decide +kernel
theorem dL_isOpen_16 : decode cL_isOpen 16 = .ok (.ifCond .ne 36, 3) := by decide +kernel
theorem dL_isOpen_19 : decode cL_isOpen 19 = .ok (.iload_n 0, 1) := by decide +kernel
theorem dL_isOpen_20 : decode cL_isOpen 20 = .ok (.iload 6, 2) := by decide +kernel
theorem dL_isOpen_22 : decode cL_isOpen 22 = .ok (.invokestatic 45, 3) := by decide +kernel
theorem dL_isOpen_25 : decode cL_isOpen 25 = .ok (.ifCond .eq 31, 3) := by decide +kernel
theorem dL_isOpen_28 : decode cL_isOpen 28 = .ok (.iload 6, 2) := by decide +kernel
theorem dL_isOpen_30 : decode cL_isOpen 30 = .ok (.iload_n 1, 1) := by decide +kernel
theorem dL_isOpen_31 : decode cL_isOpen 31 = .ok (.aload 4, 2) := by decide +kernel
theorem dL_isOpen_33 : decode cL_isOpen 33 = .ok (.invokestatic 51, 3) := by decide +kernel
theorem dL_isOpen_36 : decode cL_isOpen 36 = .ok (.ifCond .eq 20, 3) := by decide +kernel
theorem dL_isOpen_39 : decode cL_isOpen 39 = .ok (.aload_n 3, 1) := by decide +kernel
theorem dL_isOpen_40 : decode cL_isOpen 40 = .ok (.iconst 0, 1) := by decide +kernel
theorem dL_isOpen_41 : decode cL_isOpen 41 = .ok (.iaload, 1) := by decide +kernel
theorem dL_isOpen_42 : decode cL_isOpen 42 = .ok (.iload_n 2, 1) := by decide +kernel
theorem dL_isOpen_43 : decode cL_isOpen 43 = .ok (.aload 4, 2) := by decide +kernel
theorem dL_isOpen_45 : decode cL_isOpen 45 = .ok (.iload 6, 2) := by decide +kernel
theorem dL_isOpen_47 : decode cL_isOpen 47 = .ok (.iaload, 1) := by decide +kernel
theorem dL_isOpen_48 : decode cL_isOpen 48 = .ok (.iadd, 1) := by decide +kernel
theorem dL_isOpen_49 : decode cL_isOpen 49 = .ok (.if_icmp .ge 7, 3) := by decide +kernel
theorem dL_isOpen_52 : decode cL_isOpen 52 = .ok (.iconst 1, 1) := by decide +kernel
theorem dL_isOpen_53 : decode cL_isOpen 53 = .ok (.goto 4, 3) := by decide +kernel
theorem dL_isOpen_56 : decode cL_isOpen 56 = .ok (.iconst 0, 1) := by decide +kernel
theorem dL_isOpen_57 : decode cL_isOpen 57 = .ok (.istore 5, 2) := by decide +kernel
theorem dL_isOpen_59 : decode cL_isOpen 59 = .ok (.iinc 6 1, 3) := by decide +kernel
theorem dL_isOpen_62 : decode cL_isOpen 62 = .ok (.goto (-56), 3) := by decide +kernel
theorem dL_isOpen_65 : decode cL_isOpen 65 = .ok (.iload 5, 2) := by decide +kernel
theorem dL_isOpen_67 : decode cL_isOpen 67 = .ok (.ireturn, 1) := by decide +kernel
theorem dL_size_0 : decode cL_size 0 = .ok (.iconst 0, 1) := by decide +kernel
theorem dL_size_1 : decode cL_size 1 = .ok (.istore_n 1, 1) := by decide +kernel
theorem dL_size_2 : decode cL_size 2 = .ok (.iload_n 0, 1) := by decide +kernel
theorem dL_size_3 : decode cL_size 3 = .ok (.istore_n 2, 1) := by decide +kernel
theorem dL_size_4 : decode cL_size 4 = .ok (.iload_n 2, 1) := by decide +kernel
theorem dL_size_5 : decode cL_size 5 = .ok (.ifCond .eq 15, 3) := by decide +kernel
theorem dL_size_8 : decode cL_size 8 = .ok (.iinc 1 1, 3) := by decide +kernel
theorem dL_size_11 : decode cL_size 11 = .ok (.iload_n 2, 1) := by decide +kernel
theorem dL_size_12 : decode cL_size 12 = .ok (.iload_n 2, 1) := by decide +kernel
theorem dL_size_13 : decode cL_size 13 = .ok (.iconst 1, 1) := by decide +kernel
theorem dL_size_14 : decode cL_size 14 = .ok (.isub, 1) := by decide +kernel
theorem dL_size_15 : decode cL_size 15 = .ok (.iand, 1) := by decide +kernel
theorem dL_size_16 : decode cL_size 16 = .ok (.istore_n 2, 1) := by decide +kernel
theorem dL_size_17 : decode cL_size 17 = .ok (.goto (-13), 3) := by decide +kernel
theorem dL_size_20 : decode cL_size 20 = .ok (.iload_n 1, 1) := by decide +kernel
theorem dL_size_21 : decode cL_size 21 = .ok (.ireturn, 1) := by decide +kernel
set_option maxRecDepth 20000 in
theorem ggL_lay_L_has : GoodIn wsL_lay wsL_has := goodIn_r _ [4] (by decide +kernel) (by decide +kernel)
set_option maxRecDepth 20000 in
theorem gL_lay_L_has : GoodIn wsL_lay (va_wsS RL 45 yL_has wsL_has) := goodIn_app (goodIn_of _ (by decide +kernel)) ggL_lay_L_has
theorem dL_lay_0 : decode cL_lay 0 = .ok (.aload_n 3, 1) := by decide +kernel
theorem dL_lay_1 : decode cL_lay 1 = .ok (.iconst 2, 1) := by decide +kernel
theorem dL_lay_2 : decode cL_lay 2 = .ok (.iaload, 1) := by decide +kernel
theorem dL_lay_3 : decode cL_lay 3 = .ok (.istore 9, 2) := by decide +kernel
theorem dL_lay_5 : decode cL_lay 5 = .ok (.aload 4, 2) := by decide +kernel
theorem dL_lay_7 : decode cL_lay 7 = .ok (.iload 9, 2) := by decide +kernel
theorem dL_lay_9 : decode cL_lay 9 = .ok (.iload_n 0, 1) := by decide +kernel
theorem dL_lay_10 : decode cL_lay 10 = .ok (.iastore, 1) := by decide +kernel
theorem dL_lay_11 : decode cL_lay 11 = .ok (.aload 6, 2) := by decide +kernel
theorem dL_lay_13 : decode cL_lay 13 = .ok (.iload 9, 2) := by decide +kernel
theorem dL_lay_15 : decode cL_lay 15 = .ok (.iload_n 1, 1) := by decide +kernel
theorem dL_lay_16 : decode cL_lay 16 = .ok (.iastore, 1) := by decide +kernel
theorem dL_lay_17 : decode cL_lay 17 = .ok (.aload 7, 2) := by decide +kernel
theorem dL_lay_19 : decode cL_lay 19 = .ok (.iload 9, 2) := by decide +kernel
theorem dL_lay_21 : decode cL_lay 21 = .ok (.aload_n 3, 1) := by decide +kernel
theorem dL_lay_22 : decode cL_lay 22 = .ok (.iconst 0, 1) := by decide +kernel
theorem dL_lay_23 : decode cL_lay 23 = .ok (.iaload, 1) := by decide +kernel
theorem dL_lay_24 : decode cL_lay 24 = .ok (.iastore, 1) := by decide +kernel
theorem dL_lay_25 : decode cL_lay 25 = .ok (.aload 8, 2) := by decide +kernel
theorem dL_lay_27 : decode cL_lay 27 = .ok (.bipush 30, 2) := by decide +kernel
theorem dL_lay_29 : decode cL_lay 29 = .ok (.iload 9, 2) := by decide +kernel
theorem dL_lay_31 : decode cL_lay 31 = .ok (.iadd, 1) := by decide +kernel
theorem dL_lay_32 : decode cL_lay 32 = .ok (.iload_n 2, 1) := by decide +kernel
theorem dL_lay_33 : decode cL_lay 33 = .ok (.ifCond .ge 7, 3) := by decide +kernel
theorem dL_lay_36 : decode cL_lay 36 = .ok (.iconst 1, 1) := by decide +kernel
theorem dL_lay_37 : decode cL_lay 37 = .ok (.goto 4, 3) := by decide +kernel
theorem dL_lay_40 : decode cL_lay 40 = .ok (.iconst 0, 1) := by decide +kernel
theorem dL_lay_41 : decode cL_lay 41 = .ok (.iastore, 1) := by decide +kernel
theorem dL_lay_42 : decode cL_lay 42 = .ok (.iconst 0, 1) := by decide +kernel
theorem dL_lay_43 : decode cL_lay 43 = .ok (.istore 10, 2) := by decide +kernel
theorem dL_lay_45 : decode cL_lay 45 = .ok (.iload 10, 2) := by decide +kernel
theorem dL_lay_47 : decode cL_lay 47 = .ok (.iload 9, 2) := by decide +kernel
theorem dL_lay_49 : decode cL_lay 49 = .ok (.if_icmp .ge 47, 3) := by decide +kernel
theorem dL_lay_52 : decode cL_lay 52 = .ok (.iload_n 2, 1) := by decide +kernel
theorem dL_lay_53 : decode cL_lay 53 = .ok (.ifCond .lt 43, 3) := by decide +kernel
theorem dL_lay_56 : decode cL_lay 56 = .ok (.aload 5, 2) := by decide +kernel
theorem dL_lay_58 : decode cL_lay 58 = .ok (.iload 10, 2) := by decide +kernel
theorem dL_lay_60 : decode cL_lay 60 = .ok (.dup2, 1) := by decide +kernel
theorem dL_lay_61 : decode cL_lay 61 = .ok (.iaload, 1) := by decide +kernel
theorem dL_lay_62 : decode cL_lay 62 = .ok (.iload 10, 2) := by decide +kernel
theorem dL_lay_64 : decode cL_lay 64 = .ok (.iload_n 2, 1) := by decide +kernel
theorem dL_lay_65 : decode cL_lay 65 = .ok (.if_icmp .eq 15, 3) := by decide +kernel
theorem dL_lay_68 : decode cL_lay 68 = .ok (.aload 5, 2) := by decide +kernel
theorem dL_lay_70 : decode cL_lay 70 = .ok (.iload 10, 2) := by decide +kernel
theorem dL_lay_72 : decode cL_lay 72 = .ok (.iaload, 1) := by decide +kernel
theorem dL_lay_73 : decode cL_lay 73 = .ok (.iload_n 2, 1) := by decide +kernel
theorem dL_lay_74 : decode cL_lay 74 = .ok (.invokestatic 45, 3) := by decide +kernel
theorem dL_lay_77 : decode cL_lay 77 = .ok (.ifCond .eq 10, 3) := by decide +kernel
theorem dL_lay_80 : decode cL_lay 80 = .ok (.iconst 1, 1) := by decide +kernel
theorem dL_lay_81 : decode cL_lay 81 = .ok (.iload 9, 2) := by decide +kernel
theorem dL_lay_83 : decode cL_lay 83 = .ok (.ishl, 1) := by decide +kernel
theorem dL_lay_84 : decode cL_lay 84 = .ok (.goto 4, 3) := by decide +kernel
theorem dL_lay_87 : decode cL_lay 87 = .ok (.iconst 0, 1) := by decide +kernel
theorem dL_lay_88 : decode cL_lay 88 = .ok (.ior, 1) := by decide +kernel
theorem dL_lay_89 : decode cL_lay 89 = .ok (.iastore, 1) := by decide +kernel
theorem dL_lay_90 : decode cL_lay 90 = .ok (.iinc 10 1, 3) := by decide +kernel
theorem dL_lay_93 : decode cL_lay 93 = .ok (.goto (-48), 3) := by decide +kernel
theorem dL_lay_96 : decode cL_lay 96 = .ok (.aload_n 3, 1) := by decide +kernel
theorem dL_lay_97 : decode cL_lay 97 = .ok (.iconst 2, 1) := by decide +kernel
theorem dL_lay_98 : decode cL_lay 98 = .ok (.dup2, 1) := by decide +kernel
theorem dL_lay_99 : decode cL_lay 99 = .ok (.iaload, 1) := by decide +kernel
theorem dL_lay_100 : decode cL_lay 100 = .ok (.iconst 1, 1) := by decide +kernel
theorem dL_lay_101 : decode cL_lay 101 = .ok (.iadd, 1) := by decide +kernel
theorem dL_lay_102 : decode cL_lay 102 = .ok (.iastore, 1) := by decide +kernel
theorem dL_lay_103 : decode cL_lay 103 = .ok (.iload 9, 2) := by decide +kernel
theorem dL_lay_105 : decode cL_lay 105 = .ok (.ireturn, 1) := by decide +kernel
set_option maxRecDepth 20000 in
theorem ggL_asks_L_has : GoodIn wsL_asks wsL_has := goodIn_r _ [4] (by decide +kernel) (by decide +kernel)
set_option maxRecDepth 20000 in
theorem gL_asks_L_has : GoodIn wsL_asks (va_wsS RL 45 yL_has wsL_has) := goodIn_app (goodIn_of _ (by decide +kernel)) ggL_asks_L_has
theorem dL_asks_0 : decode cL_asks 0 = .ok (.iconst 0, 1) := by decide +kernel
theorem dL_asks_1 : decode cL_asks 1 = .ok (.istore 4, 2) := by decide +kernel
theorem dL_asks_3 : decode cL_asks 3 = .ok (.iconst 0, 1) := by decide +kernel
theorem dL_asks_4 : decode cL_asks 4 = .ok (.istore 5, 2) := by decide +kernel
theorem dL_asks_6 : decode cL_asks 6 = .ok (.iload 5, 2) := by decide +kernel
theorem dL_asks_8 : decode cL_asks 8 = .ok (.aload_n 1, 1) := by decide +kernel
theorem dL_asks_9 : decode cL_asks 9 = .ok (.iconst 2, 1) := by decide +kernel
theorem dL_asks_10 : decode cL_asks 10 = .ok (.iaload, 1) := by decide +kernel
theorem dL_asks_11 : decode cL_asks 11 = .ok (.if_icmp .ge 47, 3) := by decide +kernel
theorem dL_asks_14 : decode cL_asks 14 = .ok (.aload_n 3, 1) := by decide +kernel
theorem dL_asks_15 : decode cL_asks 15 = .ok (.iload_n 0, 1) := by decide +kernel
theorem dL_asks_16 : decode cL_asks 16 = .ok (.iaload, 1) := by decide +kernel
theorem dL_asks_17 : decode cL_asks 17 = .ok (.ifCond .ne 41, 3) := by decide +kernel
theorem dL_asks_20 : decode cL_asks 20 = .ok (.iload 5, 2) := by decide +kernel
theorem dL_asks_22 : decode cL_asks 22 = .ok (.iload_n 0, 1) := by decide +kernel
theorem dL_asks_23 : decode cL_asks 23 = .ok (.if_icmp .eq 29, 3) := by decide +kernel
theorem dL_asks_26 : decode cL_asks 26 = .ok (.aload_n 2, 1) := by decide +kernel
theorem dL_asks_27 : decode cL_asks 27 = .ok (.iload_n 0, 1) := by decide +kernel
theorem dL_asks_28 : decode cL_asks 28 = .ok (.iaload, 1) := by decide +kernel
theorem dL_asks_29 : decode cL_asks 29 = .ok (.iload 5, 2) := by decide +kernel
theorem dL_asks_31 : decode cL_asks 31 = .ok (.invokestatic 45, 3) := by decide +kernel
theorem dL_asks_34 : decode cL_asks 34 = .ok (.ifCond .eq 18, 3) := by decide +kernel
theorem dL_asks_37 : decode cL_asks 37 = .ok (.aload_n 3, 1) := by decide +kernel
theorem dL_asks_38 : decode cL_asks 38 = .ok (.iload 5, 2) := by decide +kernel
theorem dL_asks_40 : decode cL_asks 40 = .ok (.iaload, 1) := by decide +kernel
theorem dL_asks_41 : decode cL_asks 41 = .ok (.ifCond .ne 11, 3) := by decide +kernel
theorem dL_asks_44 : decode cL_asks 44 = .ok (.aload_n 3, 1) := by decide +kernel
theorem dL_asks_45 : decode cL_asks 45 = .ok (.iload 5, 2) := by decide +kernel
theorem dL_asks_47 : decode cL_asks 47 = .ok (.iconst 1, 1) := by decide +kernel
theorem dL_asks_48 : decode cL_asks 48 = .ok (.iastore, 1) := by decide +kernel
theorem dL_asks_49 : decode cL_asks 49 = .ok (.iinc 4 1, 3) := by decide +kernel
theorem dL_asks_52 : decode cL_asks 52 = .ok (.iinc 5 1, 3) := by decide +kernel
theorem dL_asks_55 : decode cL_asks 55 = .ok (.goto (-49), 3) := by decide +kernel
theorem dL_asks_58 : decode cL_asks 58 = .ok (.iload 4, 2) := by decide +kernel
theorem dL_asks_60 : decode cL_asks 60 = .ok (.aload_n 3, 1) := by decide +kernel
theorem dL_asks_61 : decode cL_asks 61 = .ok (.iload_n 0, 1) := by decide +kernel
theorem dL_asks_62 : decode cL_asks 62 = .ok (.iaload, 1) := by decide +kernel
theorem dL_asks_63 : decode cL_asks 63 = .ok (.ifCond .ne 7, 3) := by decide +kernel
theorem dL_asks_66 : decode cL_asks 66 = .ok (.iconst 1, 1) := by decide +kernel
theorem dL_asks_67 : decode cL_asks 67 = .ok (.goto 4, 3) := by decide +kernel
theorem dL_asks_70 : decode cL_asks 70 = .ok (.iconst 0, 1) := by decide +kernel
theorem dL_asks_71 : decode cL_asks 71 = .ok (.iadd, 1) := by decide +kernel
theorem dL_asks_72 : decode cL_asks 72 = .ok (.istore 4, 2) := by decide +kernel
theorem dL_asks_74 : decode cL_asks 74 = .ok (.aload_n 3, 1) := by decide +kernel
theorem dL_asks_75 : decode cL_asks 75 = .ok (.iload_n 0, 1) := by decide +kernel
theorem dL_asks_76 : decode cL_asks 76 = .ok (.aload_n 3, 1) := by decide +kernel
theorem dL_asks_77 : decode cL_asks 77 = .ok (.iload_n 0, 1) := by decide +kernel
theorem dL_asks_78 : decode cL_asks 78 = .ok (.iaload, 1) := by decide +kernel
theorem dL_asks_79 : decode cL_asks 79 = .ok (.ifCond .ne 7, 3) := by decide +kernel
theorem dL_asks_82 : decode cL_asks 82 = .ok (.iconst 1, 1) := by decide +kernel
theorem dL_asks_83 : decode cL_asks 83 = .ok (.goto 6, 3) := by decide +kernel
theorem dL_asks_86 : decode cL_asks 86 = .ok (.aload_n 3, 1) := by decide +kernel
theorem dL_asks_87 : decode cL_asks 87 = .ok (.iload_n 0, 1) := by decide +kernel
theorem dL_asks_88 : decode cL_asks 88 = .ok (.iaload, 1) := by decide +kernel
theorem dL_asks_89 : decode cL_asks 89 = .ok (.iastore, 1) := by decide +kernel
theorem dL_asks_90 : decode cL_asks 90 = .ok (.iload 4, 2) := by decide +kernel
theorem dL_asks_92 : decode cL_asks 92 = .ok (.ireturn, 1) := by decide +kernel
set_option maxRecDepth 20000 in
theorem ggL_passes_L_has : GoodIn wsL_passes wsL_has := goodIn_r _ [4] (by decide +kernel) (by decide +kernel)
set_option maxRecDepth 20000 in
theorem gL_passes_L_has : GoodIn wsL_passes (va_wsS RL 45 yL_has wsL_has) := goodIn_app (goodIn_of _ (by decide +kernel)) ggL_passes_L_has
set_option maxRecDepth 20000 in
theorem ggL_passes_L_isOpen : GoodIn wsL_passes wsL_isOpen := goodIn_r _ [7, 1, 2, 3, 4, 8, 9, 10] (by decide +kernel) (by decide +kernel)
set_option maxRecDepth 20000 in
theorem gL_passes_L_isOpen : GoodIn wsL_passes (va_wsS RL 55 yL_isOpen wsL_isOpen) := goodIn_app (goodIn_of _ (by decide +kernel)) ggL_passes_L_isOpen
set_option maxRecDepth 20000 in
theorem ggL_passes_L_asks : GoodIn wsL_passes wsL_asks := goodIn_r _ [13, 1, 2, 3, 4] (by decide +kernel) (by decide +kernel)
set_option maxRecDepth 20000 in
theorem gL_passes_L_asks : GoodIn wsL_passes (va_wsS RL 59 yL_asks wsL_asks) := goodIn_app (goodIn_of _ (by decide +kernel)) ggL_passes_L_asks
theorem dL_passes_0 : decode cL_passes 0 = .ok (.iconst 0, 1) := by decide +kernel
theorem dL_passes_1 : decode cL_passes 1 = .ok (.istore 9, 2) := by decide +kernel
theorem dL_passes_3 : decode cL_passes 3 = .ok (.iconst 0, 1) := by decide +kernel
theorem dL_passes_4 : decode cL_passes 4 = .ok (.istore 10, 2) := by decide +kernel
theorem dL_passes_6 : decode cL_passes 6 = .ok (.iload 10, 2) := by decide +kernel
theorem dL_passes_8 : decode cL_passes 8 = .ok (.iload_n 0, 1) := by decide +kernel
theorem dL_passes_9 : decode cL_passes 9 = .ok (.if_icmp .ge 132, 3) := by decide +kernel
theorem dL_passes_12 : decode cL_passes 12 = .ok (.iconst 0, 1) := by decide +kernel
theorem dL_passes_13 : decode cL_passes 13 = .ok (.istore 11, 2) := by decide +kernel
theorem dL_passes_15 : decode cL_passes 15 = .ok (.iload 11, 2) := by decide +kernel
theorem dL_passes_17 : decode cL_passes 17 = .ok (.bipush 48, 2) := by decide +kernel
theorem dL_passes_19 : decode cL_passes 19 = .ok (.if_icmp .ge 43, 3) := by decide +kernel
theorem dL_passes_22 : decode cL_passes 22 = .ok (.aload 8, 2) := by decide +kernel
theorem dL_passes_24 : decode cL_passes 24 = .ok (.iload 11, 2) := by decide +kernel
theorem dL_passes_26 : decode cL_passes 26 = .ok (.dup2, 1) := by decide +kernel
theorem dL_passes_27 : decode cL_passes 27 = .ok (.iaload, 1) := by decide +kernel
theorem dL_passes_28 : decode cL_passes 28 = .ok (.aload_n 2, 1) := by decide +kernel
theorem dL_passes_29 : decode cL_passes 29 = .ok (.bipush 16, 2) := by decide +kernel
theorem dL_passes_31 : decode cL_passes 31 = .ok (.iload 11, 2) := by decide +kernel
theorem dL_passes_33 : decode cL_passes 33 = .ok (.bipush 8, 2) := by decide +kernel
theorem dL_passes_35 : decode cL_passes 35 = .ok (.idiv, 1) := by decide +kernel
theorem dL_passes_36 : decode cL_passes 36 = .ok (.iadd, 1) := by decide +kernel
theorem dL_passes_37 : decode cL_passes 37 = .ok (.iaload, 1) := by decide +kernel
theorem dL_passes_38 : decode cL_passes 38 = .ok (.iload 11, 2) := by decide +kernel
theorem dL_passes_40 : decode cL_passes 40 = .ok (.bipush 8, 2) := by decide +kernel
theorem dL_passes_42 : decode cL_passes 42 = .ok (.irem, 1) := by decide +kernel
theorem dL_passes_43 : decode cL_passes 43 = .ok (.invokestatic 45, 3) := by decide +kernel
theorem dL_passes_46 : decode cL_passes 46 = .ok (.ifCond .eq 7, 3) := by decide +kernel
theorem dL_passes_49 : decode cL_passes 49 = .ok (.iconst 1, 1) := by decide +kernel
theorem dL_passes_50 : decode cL_passes 50 = .ok (.goto 4, 3) := by decide +kernel
theorem dL_passes_53 : decode cL_passes 53 = .ok (.iconst 0, 1) := by decide +kernel
theorem dL_passes_54 : decode cL_passes 54 = .ok (.iadd, 1) := by decide +kernel
theorem dL_passes_55 : decode cL_passes 55 = .ok (.iastore, 1) := by decide +kernel
theorem dL_passes_56 : decode cL_passes 56 = .ok (.iinc 11 1, 3) := by decide +kernel
theorem dL_passes_59 : decode cL_passes 59 = .ok (.goto (-44), 3) := by decide +kernel
theorem dL_passes_62 : decode cL_passes 62 = .ok (.aload_n 1, 1) := by decide +kernel
theorem dL_passes_63 : decode cL_passes 63 = .ok (.iconst 0, 1) := by decide +kernel
theorem dL_passes_64 : decode cL_passes 64 = .ok (.dup2, 1) := by decide +kernel
theorem dL_passes_65 : decode cL_passes 65 = .ok (.iaload, 1) := by decide +kernel
theorem dL_passes_66 : decode cL_passes 66 = .ok (.iconst 1, 1) := by decide +kernel
theorem dL_passes_67 : decode cL_passes 67 = .ok (.iadd, 1) := by decide +kernel
theorem dL_passes_68 : decode cL_passes 68 = .ok (.iastore, 1) := by decide +kernel
theorem dL_passes_69 : decode cL_passes 69 = .ok (.iconst 0, 1) := by decide +kernel
theorem dL_passes_70 : decode cL_passes 70 = .ok (.istore 11, 2) := by decide +kernel
theorem dL_passes_72 : decode cL_passes 72 = .ok (.iload 11, 2) := by decide +kernel
theorem dL_passes_74 : decode cL_passes 74 = .ok (.aload_n 1, 1) := by decide +kernel
theorem dL_passes_75 : decode cL_passes 75 = .ok (.iconst 2, 1) := by decide +kernel
theorem dL_passes_76 : decode cL_passes 76 = .ok (.iaload, 1) := by decide +kernel
theorem dL_passes_77 : decode cL_passes 77 = .ok (.if_icmp .ge 58, 3) := by decide +kernel
theorem dL_passes_80 : decode cL_passes 80 = .ok (.iload 9, 2) := by decide +kernel
theorem dL_passes_82 : decode cL_passes 82 = .ok (.aload 7, 2) := by decide +kernel
theorem dL_passes_84 : decode cL_passes 84 = .ok (.iload 11, 2) := by decide +kernel
theorem dL_passes_86 : decode cL_passes 86 = .ok (.iaload, 1) := by decide +kernel
theorem dL_passes_87 : decode cL_passes 87 = .ok (.ifCond .ne 38, 3) := by decide +kernel
theorem dL_passes_90 : decode cL_passes 90 = .ok (.aload 5, 2) := by decide +kernel
theorem dL_passes_92 : decode cL_passes 92 = .ok (.iload 11, 2) := by decide +kernel
theorem dL_passes_94 : decode cL_passes 94 = .ok (.iaload, 1) := by decide +kernel
theorem dL_passes_95 : decode cL_passes 95 = .ok (.aload_n 3, 1) := by decide +kernel
theorem dL_passes_96 : decode cL_passes 96 = .ok (.iload 11, 2) := by decide +kernel
theorem dL_passes_98 : decode cL_passes 98 = .ok (.iaload, 1) := by decide +kernel
theorem dL_passes_99 : decode cL_passes 99 = .ok (.aload 6, 2) := by decide +kernel
theorem dL_passes_101 : decode cL_passes 101 = .ok (.iload 11, 2) := by decide +kernel
theorem dL_passes_103 : decode cL_passes 103 = .ok (.iaload, 1) := by decide +kernel
theorem dL_passes_104 : decode cL_passes 104 = .ok (.aload_n 1, 1) := by decide +kernel
theorem dL_passes_105 : decode cL_passes 105 = .ok (.aload_n 2, 1) := by decide +kernel
theorem dL_passes_106 : decode cL_passes 106 = .ok (.invokestatic 55, 3) := by decide +kernel
theorem dL_passes_109 : decode cL_passes 109 = .ok (.ifCond .ne 16, 3) := by decide +kernel
theorem dL_passes_112 : decode cL_passes 112 = .ok (.iload 11, 2) := by decide +kernel
theorem dL_passes_114 : decode cL_passes 114 = .ok (.aload_n 1, 1) := by decide +kernel
theorem dL_passes_115 : decode cL_passes 115 = .ok (.aload 4, 2) := by decide +kernel
theorem dL_passes_117 : decode cL_passes 117 = .ok (.aload 7, 2) := by decide +kernel
theorem dL_passes_119 : decode cL_passes 119 = .ok (.invokestatic 59, 3) := by decide +kernel
theorem dL_passes_122 : decode cL_passes 122 = .ok (.goto 4, 3) := by decide +kernel
theorem dL_passes_125 : decode cL_passes 125 = .ok (.iconst 0, 1) := by decide +kernel
theorem dL_passes_126 : decode cL_passes 126 = .ok (.iadd, 1) := by decide +kernel
theorem dL_passes_127 : decode cL_passes 127 = .ok (.istore 9, 2) := by decide +kernel
theorem dL_passes_129 : decode cL_passes 129 = .ok (.iinc 11 1, 3) := by decide +kernel
theorem dL_passes_132 : decode cL_passes 132 = .ok (.goto (-60), 3) := by decide +kernel
theorem dL_passes_135 : decode cL_passes 135 = .ok (.iinc 10 1, 3) := by decide +kernel
theorem dL_passes_138 : decode cL_passes 138 = .ok (.goto (-132), 3) := by decide +kernel
theorem dL_passes_141 : decode cL_passes 141 = .ok (.iload 9, 2) := by decide +kernel
theorem dL_passes_143 : decode cL_passes 143 = .ok (.ireturn, 1) := by decide +kernel
theorem dL_held_0 : decode cL_held 0 = .ok (.aload_n 0, 1) := by decide +kernel
theorem dL_held_1 : decode cL_held 1 = .ok (.bipush 22, 2) := by decide +kernel
theorem dL_held_3 : decode cL_held 3 = .ok (.iaload, 1) := by decide +kernel
theorem dL_held_4 : decode cL_held 4 = .ok (.aload_n 0, 1) := by decide +kernel
theorem dL_held_5 : decode cL_held 5 = .ok (.bipush 23, 2) := by decide +kernel
theorem dL_held_7 : decode cL_held 7 = .ok (.iaload, 1) := by decide +kernel
theorem dL_held_8 : decode cL_held 8 = .ok (.ior, 1) := by decide +kernel
theorem dL_held_9 : decode cL_held 9 = .ok (.aload_n 0, 1) := by decide +kernel
theorem dL_held_10 : decode cL_held 10 = .ok (.bipush 24, 2) := by decide +kernel
theorem dL_held_12 : decode cL_held 12 = .ok (.iaload, 1) := by decide +kernel
theorem dL_held_13 : decode cL_held 13 = .ok (.ior, 1) := by decide +kernel
theorem dL_held_14 : decode cL_held 14 = .ok (.aload_n 0, 1) := by decide +kernel
theorem dL_held_15 : decode cL_held 15 = .ok (.bipush 25, 2) := by decide +kernel
theorem dL_held_17 : decode cL_held 17 = .ok (.iaload, 1) := by decide +kernel
theorem dL_held_18 : decode cL_held 18 = .ok (.ior, 1) := by decide +kernel
theorem dL_held_19 : decode cL_held 19 = .ok (.aload_n 0, 1) := by decide +kernel
theorem dL_held_20 : decode cL_held 20 = .ok (.bipush 26, 2) := by decide +kernel
theorem dL_held_22 : decode cL_held 22 = .ok (.iaload, 1) := by decide +kernel
theorem dL_held_23 : decode cL_held 23 = .ok (.ior, 1) := by decide +kernel
theorem dL_held_24 : decode cL_held 24 = .ok (.aload_n 0, 1) := by decide +kernel
theorem dL_held_25 : decode cL_held 25 = .ok (.bipush 27, 2) := by decide +kernel
theorem dL_held_27 : decode cL_held 27 = .ok (.iaload, 1) := by decide +kernel
theorem dL_held_28 : decode cL_held 28 = .ok (.ior, 1) := by decide +kernel
theorem dL_held_29 : decode cL_held 29 = .ok (.ireturn, 1) := by decide +kernel
set_option maxRecDepth 20000 in
theorem ggL_kept_L_held : GoodIn wsL_kept wsL_held := goodIn_r _ [4] (by decide +kernel) (by decide +kernel)
set_option maxRecDepth 20000 in
theorem gL_kept_L_held : GoodIn wsL_kept (va_wsS RL 63 yL_held wsL_held) := goodIn_app (goodIn_of _ (by decide +kernel)) ggL_kept_L_held
set_option maxRecDepth 20000 in
theorem ggL_kept_L_has : GoodIn wsL_kept wsL_has := goodIn_r _ [7] (by decide +kernel) (by decide +kernel)
set_option maxRecDepth 20000 in
theorem gL_kept_L_has : GoodIn wsL_kept (va_wsS RL 45 yL_has wsL_has) := goodIn_app (goodIn_of _ (by decide +kernel)) ggL_kept_L_has
theorem dL_kept_0 : decode cL_kept 0 = .ok (.aload 4, 2) := by decide +kernel
theorem dL_kept_2 : decode cL_kept 2 = .ok (.iload_n 0, 1) := by decide +kernel
theorem dL_kept_3 : decode cL_kept 3 = .ok (.iaload, 1) := by decide +kernel
theorem dL_kept_4 : decode cL_kept 4 = .ok (.iconst 2, 1) := by decide +kernel
theorem dL_kept_5 : decode cL_kept 5 = .ok (.if_icmp .ne 7, 3) := by decide +kernel
theorem dL_kept_8 : decode cL_kept 8 = .ok (.iconst 1, 1) := by decide +kernel
theorem dL_kept_9 : decode cL_kept 9 = .ok (.goto 30, 3) := by decide +kernel
theorem dL_kept_12 : decode cL_kept 12 = .ok (.aload 4, 2) := by decide +kernel
theorem dL_kept_14 : decode cL_kept 14 = .ok (.iload_n 0, 1) := by decide +kernel
theorem dL_kept_15 : decode cL_kept 15 = .ok (.iaload, 1) := by decide +kernel
theorem dL_kept_16 : decode cL_kept 16 = .ok (.ifCond .ne 7, 3) := by decide +kernel
theorem dL_kept_19 : decode cL_kept 19 = .ok (.iconst 2, 1) := by decide +kernel
theorem dL_kept_20 : decode cL_kept 20 = .ok (.goto 19, 3) := by decide +kernel
theorem dL_kept_23 : decode cL_kept 23 = .ok (.aload_n 2, 1) := by decide +kernel
theorem dL_kept_24 : decode cL_kept 24 = .ok (.invokestatic 63, 3) := by decide +kernel
theorem dL_kept_27 : decode cL_kept 27 = .ok (.iload_n 0, 1) := by decide +kernel
theorem dL_kept_28 : decode cL_kept 28 = .ok (.invokestatic 45, 3) := by decide +kernel
theorem dL_kept_31 : decode cL_kept 31 = .ok (.ifCond .eq 7, 3) := by decide +kernel
theorem dL_kept_34 : decode cL_kept 34 = .ok (.iconst 3, 1) := by decide +kernel
theorem dL_kept_35 : decode cL_kept 35 = .ok (.goto 4, 3) := by decide +kernel
theorem dL_kept_38 : decode cL_kept 38 = .ok (.iconst 0, 1) := by decide +kernel
theorem dL_kept_39 : decode cL_kept 39 = .ok (.istore 5, 2) := by decide +kernel
theorem dL_kept_41 : decode cL_kept 41 = .ok (.iconst 0, 1) := by decide +kernel
theorem dL_kept_42 : decode cL_kept 42 = .ok (.istore 6, 2) := by decide +kernel
theorem dL_kept_44 : decode cL_kept 44 = .ok (.iload 6, 2) := by decide +kernel
theorem dL_kept_46 : decode cL_kept 46 = .ok (.aload_n 1, 1) := by decide +kernel
theorem dL_kept_47 : decode cL_kept 47 = .ok (.iconst 2, 1) := by decide +kernel
theorem dL_kept_48 : decode cL_kept 48 = .ok (.iaload, 1) := by decide +kernel
theorem dL_kept_49 : decode cL_kept 49 = .ok (.if_icmp .ge 42, 3) := by decide +kernel
theorem dL_kept_52 : decode cL_kept 52 = .ok (.iload 5, 2) := by decide +kernel
theorem dL_kept_54 : decode cL_kept 54 = .ok (.ifCond .ne 27, 3) := by decide +kernel
theorem dL_kept_57 : decode cL_kept 57 = .ok (.aload_n 3, 1) := by decide +kernel
theorem dL_kept_58 : decode cL_kept 58 = .ok (.iload_n 0, 1) := by decide +kernel
theorem dL_kept_59 : decode cL_kept 59 = .ok (.iaload, 1) := by decide +kernel
theorem dL_kept_60 : decode cL_kept 60 = .ok (.iload 6, 2) := by decide +kernel
theorem dL_kept_62 : decode cL_kept 62 = .ok (.invokestatic 45, 3) := by decide +kernel
theorem dL_kept_65 : decode cL_kept 65 = .ok (.ifCond .eq 16, 3) := by decide +kernel
theorem dL_kept_68 : decode cL_kept 68 = .ok (.aload 4, 2) := by decide +kernel
theorem dL_kept_70 : decode cL_kept 70 = .ok (.iload 6, 2) := by decide +kernel
theorem dL_kept_72 : decode cL_kept 72 = .ok (.iaload, 1) := by decide +kernel
theorem dL_kept_73 : decode cL_kept 73 = .ok (.iconst 2, 1) := by decide +kernel
theorem dL_kept_74 : decode cL_kept 74 = .ok (.if_icmp .ge 7, 3) := by decide +kernel
theorem dL_kept_77 : decode cL_kept 77 = .ok (.iconst 4, 1) := by decide +kernel
theorem dL_kept_78 : decode cL_kept 78 = .ok (.goto 5, 3) := by decide +kernel
theorem dL_kept_81 : decode cL_kept 81 = .ok (.iload 5, 2) := by decide +kernel
theorem dL_kept_83 : decode cL_kept 83 = .ok (.istore 5, 2) := by decide +kernel
theorem dL_kept_85 : decode cL_kept 85 = .ok (.iinc 6 1, 3) := by decide +kernel
theorem dL_kept_88 : decode cL_kept 88 = .ok (.goto (-44), 3) := by decide +kernel
theorem dL_kept_91 : decode cL_kept 91 = .ok (.iload 5, 2) := by decide +kernel
theorem dL_kept_93 : decode cL_kept 93 = .ok (.ireturn, 1) := by decide +kernel
set_option maxRecDepth 20000 in
theorem ggL_erases_L_kept : GoodIn wsL_erases wsL_kept := goodIn_r _ [4, 5, 6, 3, 7, 8, 9, 10] (by decide +kernel) (by decide +kernel)
set_option maxRecDepth 20000 in
theorem gL_erases_L_kept : GoodIn wsL_erases (va_wsS RL 67 yL_kept wsL_kept) := goodIn_app (goodIn_of _ (by decide +kernel)) ggL_erases_L_kept
theorem dL_erases_0 : decode cL_erases 0 = .ok (.aload_n 0, 1) := by decide +kernel
theorem dL_erases_1 : decode cL_erases 1 = .ok (.iconst 2, 1) := by decide +kernel
theorem dL_erases_2 : decode cL_erases 2 = .ok (.iaload, 1) := by decide +kernel
theorem dL_erases_3 : decode cL_erases 3 = .ok (.iconst 1, 1) := by decide +kernel
theorem dL_erases_4 : decode cL_erases 4 = .ok (.isub, 1) := by decide +kernel
theorem dL_erases_5 : decode cL_erases 5 = .ok (.istore 4, 2) := by decide +kernel
theorem dL_erases_7 : decode cL_erases 7 = .ok (.iload 4, 2) := by decide +kernel
theorem dL_erases_9 : decode cL_erases 9 = .ok (.ifCond .lt 29, 3) := by decide +kernel
theorem dL_erases_12 : decode cL_erases 12 = .ok (.iload 4, 2) := by decide +kernel
theorem dL_erases_14 : decode cL_erases 14 = .ok (.aload_n 0, 1) := by decide +kernel
theorem dL_erases_15 : decode cL_erases 15 = .ok (.aload_n 1, 1) := by decide +kernel
