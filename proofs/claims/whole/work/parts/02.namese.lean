theorem dX1_addSource_104 : decode cX1_addSource 104 = .ok (.ireturn, 1) := by decide +kernel
theorem dX1_records_0 : decode cX1_records 0 = .ok (.aload_n 0, 1) := by decide +kernel
theorem dX1_records_1 : decode cX1_records 1 = .ok (.iconst 0, 1) := by decide +kernel
theorem dX1_records_2 : decode cX1_records 2 = .ok (.putfield 44, 3) := by decide +kernel
theorem dX1_records_5 : decode cX1_records 5 = .ok (.aload_n 0, 1) := by decide +kernel
theorem dX1_records_6 : decode cX1_records 6 = .ok (.getfield 55, 3) := by decide +kernel
theorem dX1_records_9 : decode cX1_records 9 = .ok (.ireturn, 1) := by decide +kernel
set_option maxRecDepth 20000 in
theorem ggX1_stateOf_X1_isRecord : GoodIn wsX1_stateOf wsX1_isRecord := goodIn_r _ [7, 8, 9, 10, 6, 11, 16, 17, 18, 19, 20, 21, 22, 23, 24, 25, 26, 27, 28, 29, 30] (by decide +kernel) (by decide +kernel)
set_option maxRecDepth 20000 in
theorem gX1_stateOf_X1_isRecord : GoodIn wsX1_stateOf (wsV RX1 95 RX1 yX1_isRecord wsX1_isRecord) := goodIn_app (goodIn_of _ (by decide +kernel)) ggX1_stateOf_X1_isRecord
set_option maxRecDepth 20000 in
theorem ggX1_stateOf_X1_fails : GoodIn wsX1_stateOf wsX1_fails := goodIn_r _ [15, 1, 16, 17, 18, 19, 20, 21, 22, 23, 24, 25, 26, 27, 28, 29, 30] (by decide +kernel) (by decide +kernel)
set_option maxRecDepth 20000 in
theorem gX1_stateOf_X1_fails : GoodIn wsX1_stateOf (wsV RX1 58 RX1 yX1_fails wsX1_fails) := goodIn_app (goodIn_of _ (by decide +kernel)) ggX1_stateOf_X1_fails
theorem dX1_stateOf_0 : decode cX1_stateOf 0 = .ok (.aload_n 0, 1) := by decide +kernel
theorem dX1_stateOf_1 : decode cX1_stateOf 1 = .ok (.iconst 0, 1) := by decide +kernel
theorem dX1_stateOf_2 : decode cX1_stateOf 2 = .ok (.putfield 44, 3) := by decide +kernel
theorem dX1_stateOf_5 : decode cX1_stateOf 5 = .ok (.aload_n 0, 1) := by decide +kernel
theorem dX1_stateOf_6 : decode cX1_stateOf 6 = .ok (.iload_n 1, 1) := by decide +kernel
theorem dX1_stateOf_7 : decode cX1_stateOf 7 = .ok (.invokevirtual 95, 3) := by decide +kernel
theorem dX1_stateOf_10 : decode cX1_stateOf 10 = .ok (.ifCond .eq 12, 3) := by decide +kernel
theorem dX1_stateOf_13 : decode cX1_stateOf 13 = .ok (.aload_n 0, 1) := by decide +kernel
theorem dX1_stateOf_14 : decode cX1_stateOf 14 = .ok (.getfield 35, 3) := by decide +kernel
theorem dX1_stateOf_17 : decode cX1_stateOf 17 = .ok (.iload_n 1, 1) := by decide +kernel
theorem dX1_stateOf_18 : decode cX1_stateOf 18 = .ok (.iaload, 1) := by decide +kernel
theorem dX1_stateOf_19 : decode cX1_stateOf 19 = .ok (.goto 8, 3) := by decide +kernel
theorem dX1_stateOf_22 : decode cX1_stateOf 22 = .ok (.aload_n 0, 1) := by decide +kernel
theorem dX1_stateOf_23 : decode cX1_stateOf 23 = .ok (.iconst 1, 1) := by decide +kernel
theorem dX1_stateOf_24 : decode cX1_stateOf 24 = .ok (.invokevirtual 58, 3) := by decide +kernel
theorem dX1_stateOf_27 : decode cX1_stateOf 27 = .ok (.ireturn, 1) := by decide +kernel
set_option maxRecDepth 20000 in
theorem ggX1_subjectsOf_X1_isRecord : GoodIn wsX1_subjectsOf wsX1_isRecord := goodIn_r _ [6, 7, 8, 9, 5, 10, 28, 29, 30, 31, 32, 33, 34, 35, 36, 37, 38, 39, 40, 41, 42] (by decide +kernel) (by decide +kernel)
set_option maxRecDepth 20000 in
theorem gX1_subjectsOf_X1_isRecord : GoodIn wsX1_subjectsOf (wsV RX1 95 RX1 yX1_isRecord wsX1_isRecord) := goodIn_app (goodIn_of _ (by decide +kernel)) ggX1_subjectsOf_X1_isRecord
set_option maxRecDepth 20000 in
theorem ggX1_subjectsOf_X1_subjects : GoodIn wsX1_subjectsOf wsX1_subjects := goodIn_r _ [14, 15, 16, 17, 18, 19, 5, 20, 21, 22, 23, 28, 29, 30, 31, 32, 33, 34, 35, 36, 37, 38, 39, 40, 41, 42] (by decide +kernel) (by decide +kernel)
set_option maxRecDepth 20000 in
theorem gX1_subjectsOf_X1_subjects : GoodIn wsX1_subjectsOf (wsV RX1 79 RX1 yX1_subjects wsX1_subjects) := goodIn_app (goodIn_of _ (by decide +kernel)) ggX1_subjectsOf_X1_subjects
set_option maxRecDepth 20000 in
theorem ggX1_subjectsOf_X1_fails : GoodIn wsX1_subjectsOf wsX1_fails := goodIn_r _ [27, 1, 28, 29, 30, 31, 32, 33, 34, 35, 36, 37, 38, 39, 40, 41, 42] (by decide +kernel) (by decide +kernel)
set_option maxRecDepth 20000 in
theorem gX1_subjectsOf_X1_fails : GoodIn wsX1_subjectsOf (wsV RX1 58 RX1 yX1_fails wsX1_fails) := goodIn_app (goodIn_of _ (by decide +kernel)) ggX1_subjectsOf_X1_fails
theorem dX1_subjectsOf_0 : decode cX1_subjectsOf 0 = .ok (.aload_n 0, 1) := by decide +kernel
theorem dX1_subjectsOf_1 : decode cX1_subjectsOf 1 = .ok (.iconst 0, 1) := by decide +kernel
theorem dX1_subjectsOf_2 : decode cX1_subjectsOf 2 = .ok (.putfield 44, 3) := by decide +kernel
theorem dX1_subjectsOf_5 : decode cX1_subjectsOf 5 = .ok (.aload_n 0, 1) := by decide +kernel
theorem dX1_subjectsOf_6 : decode cX1_subjectsOf 6 = .ok (.iload_n 1, 1) := by decide +kernel
theorem dX1_subjectsOf_7 : decode cX1_subjectsOf 7 = .ok (.invokevirtual 95, 3) := by decide +kernel
theorem dX1_subjectsOf_10 : decode cX1_subjectsOf 10 = .ok (.ifCond .eq 11, 3) := by decide +kernel
theorem dX1_subjectsOf_13 : decode cX1_subjectsOf 13 = .ok (.aload_n 0, 1) := by decide +kernel
theorem dX1_subjectsOf_14 : decode cX1_subjectsOf 14 = .ok (.iload_n 1, 1) := by decide +kernel
theorem dX1_subjectsOf_15 : decode cX1_subjectsOf 15 = .ok (.invokevirtual 79, 3) := by decide +kernel
theorem dX1_subjectsOf_18 : decode cX1_subjectsOf 18 = .ok (.goto 8, 3) := by decide +kernel
theorem dX1_subjectsOf_21 : decode cX1_subjectsOf 21 = .ok (.aload_n 0, 1) := by decide +kernel
theorem dX1_subjectsOf_22 : decode cX1_subjectsOf 22 = .ok (.iconst 1, 1) := by decide +kernel
theorem dX1_subjectsOf_23 : decode cX1_subjectsOf 23 = .ok (.invokevirtual 58, 3) := by decide +kernel
theorem dX1_subjectsOf_26 : decode cX1_subjectsOf 26 = .ok (.ireturn, 1) := by decide +kernel
set_option maxRecDepth 20000 in
theorem ggX1_below_X1_isRecord : GoodIn wsX1_below wsX1_isRecord := goodIn_r _ [6, 7, 8, 9, 5, 10, 23, 24, 25, 26, 27, 28, 29, 30, 31, 32, 33, 34, 35, 36, 37] (by decide +kernel) (by decide +kernel)
set_option maxRecDepth 20000 in
theorem gX1_below_X1_isRecord : GoodIn wsX1_below (wsV RX1 95 RX1 yX1_isRecord wsX1_isRecord) := goodIn_app (goodIn_of _ (by decide +kernel)) ggX1_below_X1_isRecord
set_option maxRecDepth 20000 in
theorem ggX1_below_X1_belowOf : GoodIn wsX1_below wsX1_belowOf := goodIn_r _ [14, 7, 15, 16, 17, 5, 18, 23, 24, 25, 26, 27, 28, 29, 30, 31, 32, 33, 34, 35, 36, 37] (by decide +kernel) (by decide +kernel)
set_option maxRecDepth 20000 in
theorem gX1_below_X1_belowOf : GoodIn wsX1_below (wsV RX1 101 RX1 yX1_belowOf wsX1_belowOf) := goodIn_app (goodIn_of _ (by decide +kernel)) ggX1_below_X1_belowOf
set_option maxRecDepth 20000 in
theorem ggX1_below_X1_fails : GoodIn wsX1_below wsX1_fails := goodIn_r _ [22, 1, 23, 24, 25, 26, 27, 28, 29, 30, 31, 32, 33, 34, 35, 36, 37] (by decide +kernel) (by decide +kernel)
set_option maxRecDepth 20000 in
theorem gX1_below_X1_fails : GoodIn wsX1_below (wsV RX1 58 RX1 yX1_fails wsX1_fails) := goodIn_app (goodIn_of _ (by decide +kernel)) ggX1_below_X1_fails
theorem dX1_below_0 : decode cX1_below 0 = .ok (.aload_n 0, 1) := by decide +kernel
theorem dX1_below_1 : decode cX1_below 1 = .ok (.iconst 0, 1) := by decide +kernel
theorem dX1_below_2 : decode cX1_below 2 = .ok (.putfield 44, 3) := by decide +kernel
theorem dX1_below_5 : decode cX1_below 5 = .ok (.aload_n 0, 1) := by decide +kernel
theorem dX1_below_6 : decode cX1_below 6 = .ok (.iload_n 1, 1) := by decide +kernel
theorem dX1_below_7 : decode cX1_below 7 = .ok (.invokevirtual 95, 3) := by decide +kernel
theorem dX1_below_10 : decode cX1_below 10 = .ok (.ifCond .eq 11, 3) := by decide +kernel
theorem dX1_below_13 : decode cX1_below 13 = .ok (.aload_n 0, 1) := by decide +kernel
theorem dX1_below_14 : decode cX1_below 14 = .ok (.iload_n 1, 1) := by decide +kernel
theorem dX1_below_15 : decode cX1_below 15 = .ok (.invokevirtual 101, 3) := by decide +kernel
theorem dX1_below_18 : decode cX1_below 18 = .ok (.goto 8, 3) := by decide +kernel
theorem dX1_below_21 : decode cX1_below 21 = .ok (.aload_n 0, 1) := by decide +kernel
theorem dX1_below_22 : decode cX1_below 22 = .ok (.iconst 1, 1) := by decide +kernel
theorem dX1_below_23 : decode cX1_below 23 = .ok (.invokevirtual 58, 3) := by decide +kernel
theorem dX1_below_26 : decode cX1_below 26 = .ok (.ireturn, 1) := by decide +kernel
set_option maxRecDepth 20000 in
theorem ggX1_endOf_X1_isRecord : GoodIn wsX1_endOf wsX1_isRecord := goodIn_r _ [6, 7, 8, 9, 5, 10, 46, 47, 48, 49, 50, 51, 52, 53, 54, 55, 56, 57, 58, 59, 60] (by decide +kernel) (by decide +kernel)
set_option maxRecDepth 20000 in
theorem gX1_endOf_X1_isRecord : GoodIn wsX1_endOf (wsV RX1 95 RX1 yX1_isRecord wsX1_isRecord) := goodIn_app (goodIn_of _ (by decide +kernel)) ggX1_endOf_X1_isRecord
set_option maxRecDepth 20000 in
theorem ggX1_endOf_X1_end : GoodIn wsX1_endOf wsX1_end := goodIn_r _ [14, 15, 16, 17, 18, 19, 5, 20, 21, 22, 23, 24, 25, 26, 27, 28, 29, 30, 31, 32, 33, 34, 35, 36, 37, 38, 39, 40, 41, 46, 47, 48, 49, 50, 51, 52, 53, 54, 55, 56, 57, 58, 59, 60] (by decide +kernel) (by decide +kernel)
set_option maxRecDepth 20000 in
theorem gX1_endOf_X1_end : GoodIn wsX1_endOf (wsV RX1 104 RX1 yX1_end wsX1_end) := goodIn_app (goodIn_of _ (by decide +kernel)) ggX1_endOf_X1_end
set_option maxRecDepth 20000 in
theorem ggX1_endOf_X1_fails : GoodIn wsX1_endOf wsX1_fails := goodIn_r _ [45, 1, 46, 47, 48, 49, 50, 51, 52, 53, 54, 55, 56, 57, 58, 59, 60] (by decide +kernel) (by decide +kernel)
set_option maxRecDepth 20000 in
theorem gX1_endOf_X1_fails : GoodIn wsX1_endOf (wsV RX1 58 RX1 yX1_fails wsX1_fails) := goodIn_app (goodIn_of _ (by decide +kernel)) ggX1_endOf_X1_fails
theorem dX1_endOf_0 : decode cX1_endOf 0 = .ok (.aload_n 0, 1) := by decide +kernel
theorem dX1_endOf_1 : decode cX1_endOf 1 = .ok (.iconst 0, 1) := by decide +kernel
theorem dX1_endOf_2 : decode cX1_endOf 2 = .ok (.putfield 44, 3) := by decide +kernel
theorem dX1_endOf_5 : decode cX1_endOf 5 = .ok (.aload_n 0, 1) := by decide +kernel
theorem dX1_endOf_6 : decode cX1_endOf 6 = .ok (.iload_n 1, 1) := by decide +kernel
theorem dX1_endOf_7 : decode cX1_endOf 7 = .ok (.invokevirtual 95, 3) := by decide +kernel
theorem dX1_endOf_10 : decode cX1_endOf 10 = .ok (.ifCond .eq 11, 3) := by decide +kernel
theorem dX1_endOf_13 : decode cX1_endOf 13 = .ok (.aload_n 0, 1) := by decide +kernel
theorem dX1_endOf_14 : decode cX1_endOf 14 = .ok (.iload_n 1, 1) := by decide +kernel
theorem dX1_endOf_15 : decode cX1_endOf 15 = .ok (.invokevirtual 104, 3) := by decide +kernel
theorem dX1_endOf_18 : decode cX1_endOf 18 = .ok (.goto 8, 3) := by decide +kernel
theorem dX1_endOf_21 : decode cX1_endOf 21 = .ok (.aload_n 0, 1) := by decide +kernel
theorem dX1_endOf_22 : decode cX1_endOf 22 = .ok (.iconst 1, 1) := by decide +kernel
theorem dX1_endOf_23 : decode cX1_endOf 23 = .ok (.invokevirtual 58, 3) := by decide +kernel
theorem dX1_endOf_26 : decode cX1_endOf 26 = .ok (.ireturn, 1) := by decide +kernel
set_option maxRecDepth 20000 in
theorem ggX1_reason_X1_has : GoodIn wsX1_reason wsX1_has := goodIn_r _ [9] (by decide +kernel) (by decide +kernel)
set_option maxRecDepth 20000 in
theorem gX1_reason_X1_has : GoodIn wsX1_reason (va_wsS RX1 69 yX1_has wsX1_has) := goodIn_app (goodIn_of _ (by decide +kernel)) ggX1_reason_X1_has
set_option maxRecDepth 20000 in
theorem ggX1_reason_X1_subjects : GoodIn wsX1_reason wsX1_subjects := goodIn_r _ [13, 14, 15, 16, 17, 18, 8, 19, 6, 7, 9, 26, 27, 28, 29, 30, 31, 32, 33, 34, 35, 36, 37, 38, 39, 40] (by decide +kernel) (by decide +kernel)
set_option maxRecDepth 20000 in
theorem gX1_reason_X1_subjects : GoodIn wsX1_reason (wsV RX1 79 RX1 yX1_subjects wsX1_subjects) := goodIn_app (goodIn_of _ (by decide +kernel)) ggX1_reason_X1_subjects
set_option maxRecDepth 20000 in
theorem ggX1_reason_X1_isAllowed : GoodIn wsX1_reason wsX1_isAllowed := goodIn_r _ [23, 24, 25, 6, 7, 8, 9, 26, 27, 28, 29, 30, 31, 32, 33, 34, 35, 36, 37, 38, 39, 40] (by decide +kernel) (by decide +kernel)
set_option maxRecDepth 20000 in
theorem gX1_reason_X1_isAllowed : GoodIn wsX1_reason (wsV RX1 76 RX1 yX1_isAllowed wsX1_isAllowed) := goodIn_app (goodIn_of _ (by decide +kernel)) ggX1_reason_X1_isAllowed
theorem dX1_reason_0 : decode cX1_reason 0 = .ok (.aload_n 0, 1) := by decide +kernel
theorem dX1_reason_1 : decode cX1_reason 1 = .ok (.getfield 35, 3) := by decide +kernel
theorem dX1_reason_4 : decode cX1_reason 4 = .ok (.iload_n 1, 1) := by decide +kernel
theorem dX1_reason_5 : decode cX1_reason 5 = .ok (.iaload, 1) := by decide +kernel
theorem dX1_reason_6 : decode cX1_reason 6 = .ok (.ifCond .eq 19, 3) := by decide +kernel
theorem dX1_reason_9 : decode cX1_reason 9 = .ok (.aload_n 0, 1) := by decide +kernel
theorem dX1_reason_10 : decode cX1_reason 10 = .ok (.getfield 35, 3) := by decide +kernel
theorem dX1_reason_13 : decode cX1_reason 13 = .ok (.iload_n 1, 1) := by decide +kernel
theorem dX1_reason_14 : decode cX1_reason 14 = .ok (.iaload, 1) := by decide +kernel
theorem dX1_reason_15 : decode cX1_reason 15 = .ok (.iconst 2, 1) := by decide +kernel
theorem dX1_reason_16 : decode cX1_reason 16 = .ok (.if_icmp .ne 7, 3) := by decide +kernel
theorem dX1_reason_19 : decode cX1_reason 19 = .ok (.iconst 1, 1) := by decide +kernel
theorem dX1_reason_20 : decode cX1_reason 20 = .ok (.goto 4, 3) := by decide +kernel
theorem dX1_reason_23 : decode cX1_reason 23 = .ok (.iconst 2, 1) := by decide +kernel
theorem dX1_reason_24 : decode cX1_reason 24 = .ok (.ireturn, 1) := by decide +kernel
theorem dX1_reason_25 : decode cX1_reason 25 = .ok (.aload_n 0, 1) := by decide +kernel
theorem dX1_reason_26 : decode cX1_reason 26 = .ok (.getfield 29, 3) := by decide +kernel
theorem dX1_reason_29 : decode cX1_reason 29 = .ok (.iload_n 1, 1) := by decide +kernel
theorem dX1_reason_30 : decode cX1_reason 30 = .ok (.iaload, 1) := by decide +kernel
theorem dX1_reason_31 : decode cX1_reason 31 = .ok (.iload_n 2, 1) := by decide +kernel
theorem dX1_reason_32 : decode cX1_reason 32 = .ok (.invokestatic 69, 3) := by decide +kernel
theorem dX1_reason_35 : decode cX1_reason 35 = .ok (.ifCond .ne 5, 3) := by decide +kernel
theorem dX1_reason_38 : decode cX1_reason 38 = .ok (.iconst 3, 1) := by decide +kernel
theorem dX1_reason_39 : decode cX1_reason 39 = .ok (.ireturn, 1) := by decide +kernel
theorem dX1_reason_40 : decode cX1_reason 40 = .ok (.aload_n 0, 1) := by decide +kernel
theorem dX1_reason_41 : decode cX1_reason 41 = .ok (.iload_n 2, 1) := by decide +kernel
theorem dX1_reason_42 : decode cX1_reason 42 = .ok (.aload_n 0, 1) := by decide +kernel
theorem dX1_reason_43 : decode cX1_reason 43 = .ok (.iload_n 1, 1) := by decide +kernel
theorem dX1_reason_44 : decode cX1_reason 44 = .ok (.invokevirtual 79, 3) := by decide +kernel
theorem dX1_reason_47 : decode cX1_reason 47 = .ok (.invokevirtual 76, 3) := by decide +kernel
theorem dX1_reason_50 : decode cX1_reason 50 = .ok (.ifCond .ne 7, 3) := by decide +kernel
theorem dX1_reason_53 : decode cX1_reason 53 = .ok (.iconst 4, 1) := by decide +kernel
theorem dX1_reason_54 : decode cX1_reason 54 = .ok (.goto 28, 3) := by decide +kernel
theorem dX1_reason_57 : decode cX1_reason 57 = .ok (.aload_n 0, 1) := by decide +kernel
theorem dX1_reason_58 : decode cX1_reason 58 = .ok (.getfield 86, 3) := by decide +kernel
theorem dX1_reason_61 : decode cX1_reason 61 = .ok (.aload_n 0, 1) := by decide +kernel
theorem dX1_reason_62 : decode cX1_reason 62 = .ok (.getfield 32, 3) := by decide +kernel
theorem dX1_reason_65 : decode cX1_reason 65 = .ok (.iload_n 1, 1) := by decide +kernel
theorem dX1_reason_66 : decode cX1_reason 66 = .ok (.iaload, 1) := by decide +kernel
theorem dX1_reason_67 : decode cX1_reason 67 = .ok (.aload_n 0, 1) := by decide +kernel
theorem dX1_reason_68 : decode cX1_reason 68 = .ok (.getfield 7, 3) := by decide +kernel
theorem dX1_reason_71 : decode cX1_reason 71 = .ok (.iload_n 2, 1) := by decide +kernel
theorem dX1_reason_72 : decode cX1_reason 72 = .ok (.iaload, 1) := by decide +kernel
theorem dX1_reason_73 : decode cX1_reason 73 = .ok (.iadd, 1) := by decide +kernel
theorem dX1_reason_74 : decode cX1_reason 74 = .ok (.if_icmp .lt 7, 3) := by decide +kernel
theorem dX1_reason_77 : decode cX1_reason 77 = .ok (.iconst 5, 1) := by decide +kernel
theorem dX1_reason_78 : decode cX1_reason 78 = .ok (.goto 4, 3) := by decide +kernel
theorem dX1_reason_81 : decode cX1_reason 81 = .ok (.iconst 0, 1) := by decide +kernel
theorem dX1_reason_82 : decode cX1_reason 82 = .ok (.ireturn, 1) := by decide +kernel
set_option maxRecDepth 20000 in
theorem ggX1_whyNoUse_X1_isRecord : GoodIn wsX1_whyNoUse wsX1_isRecord := goodIn_r _ [6, 7, 8, 9, 5, 10, 48, 49, 50, 51, 52, 53, 54, 55, 56, 57, 58, 59, 60, 61, 62] (by decide +kernel) (by decide +kernel)
set_option maxRecDepth 20000 in
theorem gX1_whyNoUse_X1_isRecord : GoodIn wsX1_whyNoUse (wsV RX1 95 RX1 yX1_isRecord wsX1_isRecord) := goodIn_app (goodIn_of _ (by decide +kernel)) ggX1_whyNoUse_X1_isRecord
set_option maxRecDepth 20000 in
theorem ggX1_whyNoUse_X1_isPurpose : GoodIn wsX1_whyNoUse wsX1_isPurpose := goodIn_r _ [14, 15, 8, 9, 5, 10, 48, 49, 50, 51, 52, 53, 54, 55, 56, 57, 58, 59, 60, 61, 62] (by decide +kernel) (by decide +kernel)
set_option maxRecDepth 20000 in
theorem gX1_whyNoUse_X1_isPurpose : GoodIn wsX1_whyNoUse (wsV RX1 62 RX1 yX1_isPurpose wsX1_isPurpose) := goodIn_app (goodIn_of _ (by decide +kernel)) ggX1_whyNoUse_X1_isPurpose
set_option maxRecDepth 20000 in
theorem ggX1_whyNoUse_X1_reason : GoodIn wsX1_whyNoUse wsX1_reason := goodIn_r _ [19, 20, 21, 22, 23, 24, 25, 26, 5, 27, 28, 29, 30, 31, 32, 33, 34, 35, 36, 37, 38, 39, 40, 41, 42, 43, 48, 49, 50, 51, 52, 53, 54, 55, 56, 57, 58, 59, 60, 61, 62] (by decide +kernel) (by decide +kernel)
set_option maxRecDepth 20000 in
theorem gX1_whyNoUse_X1_reason : GoodIn wsX1_whyNoUse (wsV RX1 107 RX1 yX1_reason wsX1_reason) := goodIn_app (goodIn_of _ (by decide +kernel)) ggX1_whyNoUse_X1_reason
set_option maxRecDepth 20000 in
theorem ggX1_whyNoUse_X1_fails : GoodIn wsX1_whyNoUse wsX1_fails := goodIn_r _ [47, 1, 48, 49, 50, 51, 52, 53, 54, 55, 56, 57, 58, 59, 60, 61, 62] (by decide +kernel) (by decide +kernel)
set_option maxRecDepth 20000 in
theorem gX1_whyNoUse_X1_fails : GoodIn wsX1_whyNoUse (wsV RX1 58 RX1 yX1_fails wsX1_fails) := goodIn_app (goodIn_of _ (by decide +kernel)) ggX1_whyNoUse_X1_fails
theorem dX1_whyNoUse_0 : decode cX1_whyNoUse 0 = .ok (.aload_n 0, 1) := by decide +kernel
theorem dX1_whyNoUse_1 : decode cX1_whyNoUse 1 = .ok (.iconst 0, 1) := by decide +kernel
theorem dX1_whyNoUse_2 : decode cX1_whyNoUse 2 = .ok (.putfield 44, 3) := by decide +kernel
theorem dX1_whyNoUse_5 : decode cX1_whyNoUse 5 = .ok (.aload_n 0, 1) := by decide +kernel
theorem dX1_whyNoUse_6 : decode cX1_whyNoUse 6 = .ok (.iload_n 1, 1) := by decide +kernel
theorem dX1_whyNoUse_7 : decode cX1_whyNoUse 7 = .ok (.invokevirtual 95, 3) := by decide +kernel
theorem dX1_whyNoUse_10 : decode cX1_whyNoUse 10 = .ok (.ifCond .eq 20, 3) := by decide +kernel
theorem dX1_whyNoUse_13 : decode cX1_whyNoUse 13 = .ok (.aload_n 0, 1) := by decide +kernel
theorem dX1_whyNoUse_14 : decode cX1_whyNoUse 14 = .ok (.iload_n 2, 1) := by decide +kernel
theorem dX1_whyNoUse_15 : decode cX1_whyNoUse 15 = .ok (.invokevirtual 62, 3) := by decide +kernel
theorem dX1_whyNoUse_18 : decode cX1_whyNoUse 18 = .ok (.ifCond .eq 12, 3) := by decide +kernel
theorem dX1_whyNoUse_21 : decode cX1_whyNoUse 21 = .ok (.aload_n 0, 1) := by decide +kernel
theorem dX1_whyNoUse_22 : decode cX1_whyNoUse 22 = .ok (.iload_n 1, 1) := by decide +kernel
theorem dX1_whyNoUse_23 : decode cX1_whyNoUse 23 = .ok (.iload_n 2, 1) := by decide +kernel
theorem dX1_whyNoUse_24 : decode cX1_whyNoUse 24 = .ok (.invokevirtual 107, 3) := by decide +kernel
theorem dX1_whyNoUse_27 : decode cX1_whyNoUse 27 = .ok (.goto 8, 3) := by decide +kernel
theorem dX1_whyNoUse_30 : decode cX1_whyNoUse 30 = .ok (.aload_n 0, 1) := by decide +kernel
theorem dX1_whyNoUse_31 : decode cX1_whyNoUse 31 = .ok (.iconst 1, 1) := by decide +kernel
theorem dX1_whyNoUse_32 : decode cX1_whyNoUse 32 = .ok (.invokevirtual 58, 3) := by decide +kernel
theorem dX1_whyNoUse_35 : decode cX1_whyNoUse 35 = .ok (.ireturn, 1) := by decide +kernel
set_option maxRecDepth 20000 in
theorem ggX1_use_X1_isRecord : GoodIn wsX1_use wsX1_isRecord := goodIn_r _ [7, 8, 9, 10, 6, 11, 49, 50, 51, 52, 53, 54, 55, 56, 57, 58, 59, 60, 61, 62, 63] (by decide +kernel) (by decide +kernel)
set_option maxRecDepth 20000 in
theorem gX1_use_X1_isRecord : GoodIn wsX1_use (wsV RX1 95 RX1 yX1_isRecord wsX1_isRecord) := goodIn_app (goodIn_of _ (by decide +kernel)) ggX1_use_X1_isRecord
set_option maxRecDepth 20000 in
theorem ggX1_use_X1_isPurpose : GoodIn wsX1_use wsX1_isPurpose := goodIn_r _ [15, 16, 9, 10, 6, 11, 49, 50, 51, 52, 53, 54, 55, 56, 57, 58, 59, 60, 61, 62, 63] (by decide +kernel) (by decide +kernel)
set_option maxRecDepth 20000 in
theorem gX1_use_X1_isPurpose : GoodIn wsX1_use (wsV RX1 62 RX1 yX1_isPurpose wsX1_isPurpose) := goodIn_app (goodIn_of _ (by decide +kernel)) ggX1_use_X1_isPurpose
set_option maxRecDepth 20000 in
theorem ggX1_use_X1_fails : GoodIn wsX1_use wsX1_fails := goodIn_r _ [20, 1, 49, 50, 51, 52, 53, 54, 55, 56, 57, 58, 59, 60, 61, 62, 63] (by decide +kernel) (by decide +kernel)
set_option maxRecDepth 20000 in
theorem gX1_use_X1_fails : GoodIn wsX1_use (wsV RX1 58 RX1 yX1_fails wsX1_fails) := goodIn_app (goodIn_of _ (by decide +kernel)) ggX1_use_X1_fails
set_option maxRecDepth 20000 in
theorem ggX1_use_X1_reason : GoodIn wsX1_use wsX1_reason := goodIn_r _ [24, 25, 26, 27, 28, 29, 30, 31, 6, 32, 33, 34, 35, 36, 37, 38, 39, 40, 41, 42, 43, 44, 45, 46, 47, 48, 49, 50, 51, 52, 53, 54, 55, 56, 57, 58, 59, 60, 61, 62, 63] (by decide +kernel) (by decide +kernel)
set_option maxRecDepth 20000 in
theorem gX1_use_X1_reason : GoodIn wsX1_use (wsV RX1 107 RX1 yX1_reason wsX1_reason) := goodIn_app (goodIn_of _ (by decide +kernel)) ggX1_use_X1_reason
theorem dX1_use_0 : decode cX1_use 0 = .ok (.aload_n 0, 1) := by decide +kernel
theorem dX1_use_1 : decode cX1_use 1 = .ok (.iconst 0, 1) := by decide +kernel
theorem dX1_use_2 : decode cX1_use 2 = .ok (.putfield 44, 3) := by decide +kernel
theorem dX1_use_5 : decode cX1_use 5 = .ok (.aload_n 0, 1) := by decide +kernel
theorem dX1_use_6 : decode cX1_use 6 = .ok (.iload_n 1, 1) := by decide +kernel
theorem dX1_use_7 : decode cX1_use 7 = .ok (.invokevirtual 95, 3) := by decide +kernel
theorem dX1_use_10 : decode cX1_use 10 = .ok (.ifCond .eq 11, 3) := by decide +kernel
theorem dX1_use_13 : decode cX1_use 13 = .ok (.aload_n 0, 1) := by decide +kernel
theorem dX1_use_14 : decode cX1_use 14 = .ok (.iload_n 2, 1) := by decide +kernel
theorem dX1_use_15 : decode cX1_use 15 = .ok (.invokevirtual 62, 3) := by decide +kernel
theorem dX1_use_18 : decode cX1_use 18 = .ok (.ifCond .ne 9, 3) := by decide +kernel
theorem dX1_use_21 : decode cX1_use 21 = .ok (.aload_n 0, 1) := by decide +kernel
theorem dX1_use_22 : decode cX1_use 22 = .ok (.iconst 1, 1) := by decide +kernel
theorem dX1_use_23 : decode cX1_use 23 = .ok (.invokevirtual 58, 3) := by decide +kernel
theorem dX1_use_26 : decode cX1_use 26 = .ok (.ireturn, 1) := by decide +kernel
theorem dX1_use_27 : decode cX1_use 27 = .ok (.aload_n 0, 1) := by decide +kernel
theorem dX1_use_28 : decode cX1_use 28 = .ok (.iload_n 1, 1) := by decide +kernel
theorem dX1_use_29 : decode cX1_use 29 = .ok (.iload_n 2, 1) := by decide +kernel
theorem dX1_use_30 : decode cX1_use 30 = .ok (.invokevirtual 107, 3) := by decide +kernel
theorem dX1_use_33 : decode cX1_use 33 = .ok (.ifCond .le 9, 3) := by decide +kernel
theorem dX1_use_36 : decode cX1_use 36 = .ok (.aload_n 0, 1) := by decide +kernel
theorem dX1_use_37 : decode cX1_use 37 = .ok (.iconst 2, 1) := by decide +kernel
theorem dX1_use_38 : decode cX1_use 38 = .ok (.invokevirtual 58, 3) := by decide +kernel
theorem dX1_use_41 : decode cX1_use 41 = .ok (.ireturn, 1) := by decide +kernel
theorem dX1_use_42 : decode cX1_use 42 = .ok (.aload_n 0, 1) := by decide +kernel
theorem dX1_use_43 : decode cX1_use 43 = .ok (.getfield 38, 3) := by decide +kernel
theorem dX1_use_46 : decode cX1_use 46 = .ok (.bipush 8, 2) := by decide +kernel
theorem dX1_use_48 : decode cX1_use 48 = .ok (.iload_n 1, 1) := by decide +kernel
theorem dX1_use_49 : decode cX1_use 49 = .ok (.imul, 1) := by decide +kernel
theorem dX1_use_50 : decode cX1_use 50 = .ok (.iload_n 2, 1) := by decide +kernel
theorem dX1_use_51 : decode cX1_use 51 = .ok (.iadd, 1) := by decide +kernel
theorem dX1_use_52 : decode cX1_use 52 = .ok (.dup2, 1) := by decide +kernel
theorem dX1_use_53 : decode cX1_use 53 = .ok (.iaload, 1) := by decide +kernel
theorem dX1_use_54 : decode cX1_use 54 = .ok (.iconst 1, 1) := by decide +kernel
theorem dX1_use_55 : decode cX1_use 55 = .ok (.iadd, 1) := by decide +kernel
theorem dX1_use_56 : decode cX1_use 56 = .ok (.iastore, 1) := by decide +kernel
theorem dX1_use_57 : decode cX1_use 57 = .ok (.aload_n 0, 1) := by decide +kernel
theorem dX1_use_58 : decode cX1_use 58 = .ok (.getfield 38, 3) := by decide +kernel
theorem dX1_use_61 : decode cX1_use 61 = .ok (.bipush 8, 2) := by decide +kernel
theorem dX1_use_63 : decode cX1_use 63 = .ok (.iload_n 1, 1) := by decide +kernel
theorem dX1_use_64 : decode cX1_use 64 = .ok (.imul, 1) := by decide +kernel
theorem dX1_use_65 : decode cX1_use 65 = .ok (.iload_n 2, 1) := by decide +kernel
theorem dX1_use_66 : decode cX1_use 66 = .ok (.iadd, 1) := by decide +kernel
theorem dX1_use_67 : decode cX1_use 67 = .ok (.iaload, 1) := by decide +kernel
theorem dX1_use_68 : decode cX1_use 68 = .ok (.ireturn, 1) := by decide +kernel
set_option maxRecDepth 20000 in
theorem ggX1_uses_X1_isSubject : GoodIn wsX1_uses wsX1_isSubject := goodIn_r _ [7, 8, 9, 6, 10] (by decide +kernel) (by decide +kernel)
set_option maxRecDepth 20000 in
theorem gX1_uses_X1_isSubject : GoodIn wsX1_uses (va_wsS RX1 66 yX1_isSubject wsX1_isSubject) := goodIn_app (goodIn_of _ (by decide +kernel)) ggX1_uses_X1_isSubject
set_option maxRecDepth 20000 in
theorem ggX1_uses_X1_isPurpose : GoodIn wsX1_uses wsX1_isPurpose := goodIn_r _ [14, 15, 8, 9, 6, 10, 33, 34, 35, 36, 37, 38, 39, 40, 41, 42, 43, 44, 45, 46, 47] (by decide +kernel) (by decide +kernel)
set_option maxRecDepth 20000 in
theorem gX1_uses_X1_isPurpose : GoodIn wsX1_uses (wsV RX1 62 RX1 yX1_isPurpose wsX1_isPurpose) := goodIn_app (goodIn_of _ (by decide +kernel)) ggX1_uses_X1_isPurpose
set_option maxRecDepth 20000 in
theorem ggX1_uses_X1_fails : GoodIn wsX1_uses wsX1_fails := goodIn_r _ [19, 1, 33, 34, 35, 36, 37, 38, 39, 40, 41, 42, 43, 44, 45, 46, 47] (by decide +kernel) (by decide +kernel)
set_option maxRecDepth 20000 in
theorem gX1_uses_X1_fails : GoodIn wsX1_uses (wsV RX1 58 RX1 yX1_fails wsX1_fails) := goodIn_app (goodIn_of _ (by decide +kernel)) ggX1_uses_X1_fails
set_option maxRecDepth 20000 in
theorem ggX1_uses_X1_subjects : GoodIn wsX1_uses wsX1_subjects := goodIn_r _ [23, 24, 25, 26, 27, 28, 6, 29, 30, 31, 32, 33, 34, 35, 36, 37, 38, 39, 40, 41, 42, 43, 44, 45, 46, 47] (by decide +kernel) (by decide +kernel)
set_option maxRecDepth 20000 in
theorem gX1_uses_X1_subjects : GoodIn wsX1_uses (wsV RX1 79 RX1 yX1_subjects wsX1_subjects) := goodIn_app (goodIn_of _ (by decide +kernel)) ggX1_uses_X1_subjects
set_option maxRecDepth 20000 in
theorem ggX1_uses_X1_has : GoodIn wsX1_uses wsX1_has := goodIn_r _ [32] (by decide +kernel) (by decide +kernel)
set_option maxRecDepth 20000 in
theorem gX1_uses_X1_has : GoodIn wsX1_uses (va_wsS RX1 69 yX1_has wsX1_has) := goodIn_app (goodIn_of _ (by decide +kernel)) ggX1_uses_X1_has
theorem dX1_uses_0 : decode cX1_uses 0 = .ok (.aload_n 0, 1) := by decide +kernel
theorem dX1_uses_1 : decode cX1_uses 1 = .ok (.iconst 0, 1) := by decide +kernel
theorem dX1_uses_2 : decode cX1_uses 2 = .ok (.putfield 44, 3) := by decide +kernel
theorem dX1_uses_5 : decode cX1_uses 5 = .ok (.iload_n 1, 1) := by decide +kernel
theorem dX1_uses_6 : decode cX1_uses 6 = .ok (.invokestatic 66, 3) := by decide +kernel
theorem dX1_uses_9 : decode cX1_uses 9 = .ok (.ifCond .eq 11, 3) := by decide +kernel
theorem dX1_uses_12 : decode cX1_uses 12 = .ok (.aload_n 0, 1) := by decide +kernel
theorem dX1_uses_13 : decode cX1_uses 13 = .ok (.iload_n 2, 1) := by decide +kernel
theorem dX1_uses_14 : decode cX1_uses 14 = .ok (.invokevirtual 62, 3) := by decide +kernel
theorem dX1_uses_17 : decode cX1_uses 17 = .ok (.ifCond .ne 9, 3) := by decide +kernel
theorem dX1_uses_20 : decode cX1_uses 20 = .ok (.aload_n 0, 1) := by decide +kernel
theorem dX1_uses_21 : decode cX1_uses 21 = .ok (.iconst 1, 1) := by decide +kernel
theorem dX1_uses_22 : decode cX1_uses 22 = .ok (.invokevirtual 58, 3) := by decide +kernel
theorem dX1_uses_25 : decode cX1_uses 25 = .ok (.ireturn, 1) := by decide +kernel
theorem dX1_uses_26 : decode cX1_uses 26 = .ok (.iconst 0, 1) := by decide +kernel
theorem dX1_uses_27 : decode cX1_uses 27 = .ok (.istore_n 3, 1) := by decide +kernel
theorem dX1_uses_28 : decode cX1_uses 28 = .ok (.iconst 0, 1) := by decide +kernel
theorem dX1_uses_29 : decode cX1_uses 29 = .ok (.istore 4, 2) := by decide +kernel
theorem dX1_uses_31 : decode cX1_uses 31 = .ok (.iload 4, 2) := by decide +kernel
theorem dX1_uses_33 : decode cX1_uses 33 = .ok (.aload_n 0, 1) := by decide +kernel
theorem dX1_uses_34 : decode cX1_uses 34 = .ok (.getfield 55, 3) := by decide +kernel
theorem dX1_uses_37 : decode cX1_uses 37 = .ok (.if_icmp .ge 41, 3) := by decide +kernel
theorem dX1_uses_40 : decode cX1_uses 40 = .ok (.iload_n 3, 1) := by decide +kernel
theorem dX1_uses_41 : decode cX1_uses 41 = .ok (.aload_n 0, 1) := by decide +kernel
theorem dX1_uses_42 : decode cX1_uses 42 = .ok (.iload 4, 2) := by decide +kernel
theorem dX1_uses_44 : decode cX1_uses 44 = .ok (.invokevirtual 79, 3) := by decide +kernel
theorem dX1_uses_47 : decode cX1_uses 47 = .ok (.iload_n 1, 1) := by decide +kernel
theorem dX1_uses_48 : decode cX1_uses 48 = .ok (.invokestatic 69, 3) := by decide +kernel
theorem dX1_uses_51 : decode cX1_uses 51 = .ok (.ifCond .eq 18, 3) := by decide +kernel
theorem dX1_uses_54 : decode cX1_uses 54 = .ok (.aload_n 0, 1) := by decide +kernel
theorem dX1_uses_55 : decode cX1_uses 55 = .ok (.getfield 38, 3) := by decide +kernel
theorem dX1_uses_58 : decode cX1_uses 58 = .ok (.bipush 8, 2) := by decide +kernel
theorem dX1_uses_60 : decode cX1_uses 60 = .ok (.iload 4, 2) := by decide +kernel
theorem dX1_uses_62 : decode cX1_uses 62 = .ok (.imul, 1) := by decide +kernel
theorem dX1_uses_63 : decode cX1_uses 63 = .ok (.iload_n 2, 1) := by decide +kernel
theorem dX1_uses_64 : decode cX1_uses 64 = .ok (.iadd, 1) := by decide +kernel
theorem dX1_uses_65 : decode cX1_uses 65 = .ok (.iaload, 1) := by decide +kernel
theorem dX1_uses_66 : decode cX1_uses 66 = .ok (.goto 4, 3) := by decide +kernel
theorem dX1_uses_69 : decode cX1_uses 69 = .ok (.iconst 0, 1) := by decide +kernel
theorem dX1_uses_70 : decode cX1_uses 70 = .ok (.iadd, 1) := by decide +kernel
theorem dX1_uses_71 : decode cX1_uses 71 = .ok (.istore_n 3, 1) := by decide +kernel
theorem dX1_uses_72 : decode cX1_uses 72 = .ok (.iinc 4 1, 3) := by decide +kernel
theorem dX1_uses_75 : decode cX1_uses 75 = .ok (.goto (-44), 3) := by decide +kernel
theorem dX1_uses_78 : decode cX1_uses 78 = .ok (.iload_n 3, 1) := by decide +kernel
theorem dX1_uses_79 : decode cX1_uses 79 = .ok (.ireturn, 1) := by decide +kernel
set_option maxRecDepth 20000 in
theorem ggX1_asks_X1_belowOf : GoodIn wsX1_asks wsX1_belowOf := goodIn_r _ [7, 2, 8, 9, 10, 6, 11, 12, 13, 14, 15, 16, 17, 18, 19, 20, 21, 22, 23, 24, 25, 26] (by decide +kernel) (by decide +kernel)
set_option maxRecDepth 20000 in
theorem gX1_asks_X1_belowOf : GoodIn wsX1_asks (wsV RX1 101 RX1 yX1_belowOf wsX1_belowOf) := goodIn_app (goodIn_of _ (by decide +kernel)) ggX1_asks_X1_belowOf
set_option maxRecDepth 20000 in
theorem ggX1_asks_X1_has : GoodIn wsX1_asks wsX1_has := goodIn_r _ [11] (by decide +kernel) (by decide +kernel)
set_option maxRecDepth 20000 in
theorem gX1_asks_X1_has : GoodIn wsX1_asks (va_wsS RX1 69 yX1_has wsX1_has) := goodIn_app (goodIn_of _ (by decide +kernel)) ggX1_asks_X1_has
theorem dX1_asks_0 : decode cX1_asks 0 = .ok (.aload_n 0, 1) := by decide +kernel
theorem dX1_asks_1 : decode cX1_asks 1 = .ok (.getfield 35, 3) := by decide +kernel
theorem dX1_asks_4 : decode cX1_asks 4 = .ok (.iload_n 1, 1) := by decide +kernel
theorem dX1_asks_5 : decode cX1_asks 5 = .ok (.iaload, 1) := by decide +kernel
theorem dX1_asks_6 : decode cX1_asks 6 = .ok (.ifCond .ne 15, 3) := by decide +kernel
theorem dX1_asks_9 : decode cX1_asks 9 = .ok (.aload_n 0, 1) := by decide +kernel
theorem dX1_asks_10 : decode cX1_asks 10 = .ok (.iload_n 1, 1) := by decide +kernel
theorem dX1_asks_11 : decode cX1_asks 11 = .ok (.invokevirtual 101, 3) := by decide +kernel
theorem dX1_asks_14 : decode cX1_asks 14 = .ok (.iconst 1, 1) := by decide +kernel
theorem dX1_asks_15 : decode cX1_asks 15 = .ok (.iload_n 1, 1) := by decide +kernel
theorem dX1_asks_16 : decode cX1_asks 16 = .ok (.ishl, 1) := by decide +kernel
theorem dX1_asks_17 : decode cX1_asks 17 = .ok (.ior, 1) := by decide +kernel
theorem dX1_asks_18 : decode cX1_asks 18 = .ok (.goto 4, 3) := by decide +kernel
theorem dX1_asks_21 : decode cX1_asks 21 = .ok (.iconst 0, 1) := by decide +kernel
theorem dX1_asks_22 : decode cX1_asks 22 = .ok (.istore_n 2, 1) := by decide +kernel
theorem dX1_asks_23 : decode cX1_asks 23 = .ok (.iconst 0, 1) := by decide +kernel
theorem dX1_asks_24 : decode cX1_asks 24 = .ok (.istore_n 3, 1) := by decide +kernel
theorem dX1_asks_25 : decode cX1_asks 25 = .ok (.iload_n 1, 1) := by decide +kernel
theorem dX1_asks_26 : decode cX1_asks 26 = .ok (.istore 4, 2) := by decide +kernel
theorem dX1_asks_28 : decode cX1_asks 28 = .ok (.iload 4, 2) := by decide +kernel
theorem dX1_asks_30 : decode cX1_asks 30 = .ok (.aload_n 0, 1) := by decide +kernel
theorem dX1_asks_31 : decode cX1_asks 31 = .ok (.getfield 55, 3) := by decide +kernel
theorem dX1_asks_34 : decode cX1_asks 34 = .ok (.if_icmp .ge 39, 3) := by decide +kernel
theorem dX1_asks_37 : decode cX1_asks 37 = .ok (.iload_n 2, 1) := by decide +kernel
theorem dX1_asks_38 : decode cX1_asks 38 = .ok (.iload 4, 2) := by decide +kernel
theorem dX1_asks_40 : decode cX1_asks 40 = .ok (.invokestatic 69, 3) := by decide +kernel
theorem dX1_asks_43 : decode cX1_asks 43 = .ok (.ifCond .eq 24, 3) := by decide +kernel
theorem dX1_asks_46 : decode cX1_asks 46 = .ok (.aload_n 0, 1) := by decide +kernel
theorem dX1_asks_47 : decode cX1_asks 47 = .ok (.getfield 35, 3) := by decide +kernel
theorem dX1_asks_50 : decode cX1_asks 50 = .ok (.iload 4, 2) := by decide +kernel
theorem dX1_asks_52 : decode cX1_asks 52 = .ok (.iaload, 1) := by decide +kernel
theorem dX1_asks_53 : decode cX1_asks 53 = .ok (.ifCond .ne 14, 3) := by decide +kernel
theorem dX1_asks_56 : decode cX1_asks 56 = .ok (.aload_n 0, 1) := by decide +kernel
theorem dX1_asks_57 : decode cX1_asks 57 = .ok (.getfield 35, 3) := by decide +kernel
theorem dX1_asks_60 : decode cX1_asks 60 = .ok (.iload 4, 2) := by decide +kernel
theorem dX1_asks_62 : decode cX1_asks 62 = .ok (.iconst 1, 1) := by decide +kernel
theorem dX1_asks_63 : decode cX1_asks 63 = .ok (.iastore, 1) := by decide +kernel
theorem dX1_asks_64 : decode cX1_asks 64 = .ok (.iinc 3 1, 3) := by decide +kernel
theorem dX1_asks_67 : decode cX1_asks 67 = .ok (.iinc 4 1, 3) := by decide +kernel
theorem dX1_asks_70 : decode cX1_asks 70 = .ok (.goto (-42), 3) := by decide +kernel
theorem dX1_asks_73 : decode cX1_asks 73 = .ok (.iload_n 3, 1) := by decide +kernel
theorem dX1_asks_74 : decode cX1_asks 74 = .ok (.ireturn, 1) := by decide +kernel
set_option maxRecDepth 20000 in
theorem ggX1_dueSet_X1_end : GoodIn wsX1_dueSet wsX1_end := goodIn_r _ [8, 9, 10, 11, 12, 13, 7, 14, 15, 16, 17, 18, 19, 20, 21, 22, 23, 24, 25, 26, 27, 28, 29, 30, 31, 32, 33, 34, 35, 36, 37, 38, 39, 40, 41, 42, 43, 44, 45, 46, 47, 48, 49, 50] (by decide +kernel) (by decide +kernel)
set_option maxRecDepth 20000 in
theorem gX1_dueSet_X1_end : GoodIn wsX1_dueSet (wsV RX1 104 RX1 yX1_end wsX1_end) := goodIn_app (goodIn_of _ (by decide +kernel)) ggX1_dueSet_X1_end
theorem dX1_dueSet_0 : decode cX1_dueSet 0 = .ok (.iconst 0, 1) := by decide +kernel
theorem dX1_dueSet_1 : decode cX1_dueSet 1 = .ok (.istore_n 1, 1) := by decide +kernel
theorem dX1_dueSet_2 : decode cX1_dueSet 2 = .ok (.iconst 0, 1) := by decide +kernel
theorem dX1_dueSet_3 : decode cX1_dueSet 3 = .ok (.istore_n 2, 1) := by decide +kernel
theorem dX1_dueSet_4 : decode cX1_dueSet 4 = .ok (.iload_n 2, 1) := by decide +kernel
theorem dX1_dueSet_5 : decode cX1_dueSet 5 = .ok (.aload_n 0, 1) := by decide +kernel
theorem dX1_dueSet_6 : decode cX1_dueSet 6 = .ok (.getfield 55, 3) := by decide +kernel
theorem dX1_dueSet_9 : decode cX1_dueSet 9 = .ok (.if_icmp .ge 40, 3) := by decide +kernel
theorem dX1_dueSet_12 : decode cX1_dueSet 12 = .ok (.iload_n 1, 1) := by decide +kernel
theorem dX1_dueSet_13 : decode cX1_dueSet 13 = .ok (.aload_n 0, 1) := by decide +kernel
theorem dX1_dueSet_14 : decode cX1_dueSet 14 = .ok (.getfield 35, 3) := by decide +kernel
theorem dX1_dueSet_17 : decode cX1_dueSet 17 = .ok (.iload_n 2, 1) := by decide +kernel
theorem dX1_dueSet_18 : decode cX1_dueSet 18 = .ok (.iaload, 1) := by decide +kernel
theorem dX1_dueSet_19 : decode cX1_dueSet 19 = .ok (.ifCond .ne 21, 3) := by decide +kernel
theorem dX1_dueSet_22 : decode cX1_dueSet 22 = .ok (.aload_n 0, 1) := by decide +kernel
theorem dX1_dueSet_23 : decode cX1_dueSet 23 = .ok (.iload_n 2, 1) := by decide +kernel
theorem dX1_dueSet_24 : decode cX1_dueSet 24 = .ok (.invokevirtual 104, 3) := by decide +kernel
theorem dX1_dueSet_27 : decode cX1_dueSet 27 = .ok (.aload_n 0, 1) := by decide +kernel
theorem dX1_dueSet_28 : decode cX1_dueSet 28 = .ok (.getfield 86, 3) := by decide +kernel
theorem dX1_dueSet_31 : decode cX1_dueSet 31 = .ok (.if_icmp .gt 9, 3) := by decide +kernel
theorem dX1_dueSet_34 : decode cX1_dueSet 34 = .ok (.iconst 1, 1) := by decide +kernel
theorem dX1_dueSet_35 : decode cX1_dueSet 35 = .ok (.iload_n 2, 1) := by decide +kernel
theorem dX1_dueSet_36 : decode cX1_dueSet 36 = .ok (.ishl, 1) := by decide +kernel
theorem dX1_dueSet_37 : decode cX1_dueSet 37 = .ok (.goto 4, 3) := by decide +kernel
theorem dX1_dueSet_40 : decode cX1_dueSet 40 = .ok (.iconst 0, 1) := by decide +kernel
theorem dX1_dueSet_41 : decode cX1_dueSet 41 = .ok (.ior, 1) := by decide +kernel
theorem dX1_dueSet_42 : decode cX1_dueSet 42 = .ok (.istore_n 1, 1) := by decide +kernel
theorem dX1_dueSet_43 : decode cX1_dueSet 43 = .ok (.iinc 2 1, 3) := by decide +kernel
theorem dX1_dueSet_46 : decode cX1_dueSet 46 = .ok (.goto (-42), 3) := by decide +kernel
theorem dX1_dueSet_49 : decode cX1_dueSet 49 = .ok (.iload_n 1, 1) := by decide +kernel
theorem dX1_dueSet_50 : decode cX1_dueSet 50 = .ok (.ireturn, 1) := by decide +kernel
set_option maxRecDepth 20000 in
theorem ggX1_passDays_X1_in : GoodIn wsX1_passDays wsX1_in := goodIn_r _ [9] (by decide +kernel) (by decide +kernel)
set_option maxRecDepth 20000 in
theorem gX1_passDays_X1_in : GoodIn wsX1_passDays (va_wsS RX1 48 yX1_in wsX1_in) := goodIn_app (goodIn_of _ (by decide +kernel)) ggX1_passDays_X1_in
set_option maxRecDepth 20000 in
theorem ggX1_passDays_X1_fails : GoodIn wsX1_passDays wsX1_fails := goodIn_r _ [13, 1, 57, 58, 59, 60, 61, 62, 63, 64, 65, 66, 67, 68, 69, 70, 71] (by decide +kernel) (by decide +kernel)
set_option maxRecDepth 20000 in
theorem gX1_passDays_X1_fails : GoodIn wsX1_passDays (wsV RX1 58 RX1 yX1_fails wsX1_fails) := goodIn_app (goodIn_of _ (by decide +kernel)) ggX1_passDays_X1_fails
set_option maxRecDepth 20000 in
theorem ggX1_passDays_X1_has : GoodIn wsX1_passDays wsX1_has := goodIn_r _ [16] (by decide +kernel) (by decide +kernel)
set_option maxRecDepth 20000 in
theorem gX1_passDays_X1_has : GoodIn wsX1_passDays (va_wsS RX1 69 yX1_has wsX1_has) := goodIn_app (goodIn_of _ (by decide +kernel)) ggX1_passDays_X1_has
set_option maxRecDepth 20000 in
theorem ggX1_passDays_X1_dueSet : GoodIn wsX1_passDays wsX1_dueSet := goodIn_r _ [20, 5, 21, 4, 22, 23, 24, 8, 25, 26, 27, 28, 29, 30, 31, 32, 33, 34, 35, 36, 37, 14, 15, 16, 38, 39, 40, 41, 42, 43, 44, 45, 46, 47, 48, 3, 57, 58, 59, 60, 61, 62, 63, 64, 65, 66, 67, 68, 69, 70, 71] (by decide +kernel) (by decide +kernel)
set_option maxRecDepth 20000 in
theorem gX1_passDays_X1_dueSet : GoodIn wsX1_passDays (wsV RX1 111 RX1 yX1_dueSet wsX1_dueSet) := goodIn_app (goodIn_of _ (by decide +kernel)) ggX1_passDays_X1_dueSet
set_option maxRecDepth 20000 in
theorem ggX1_passDays_X1_asks : GoodIn wsX1_passDays wsX1_asks := goodIn_r _ [52, 21, 5, 53, 54, 55, 8, 56, 32, 14, 15, 16, 57, 58, 59, 60, 61, 62, 63, 64, 65, 66, 67, 68, 69, 70, 71] (by decide +kernel) (by decide +kernel)
set_option maxRecDepth 20000 in
theorem gX1_passDays_X1_asks : GoodIn wsX1_passDays (wsV RX1 115 RX1 yX1_asks wsX1_asks) := goodIn_app (goodIn_of _ (by decide +kernel)) ggX1_passDays_X1_asks
theorem dX1_passDays_0 : decode cX1_passDays 0 = .ok (.aload_n 0, 1) := by decide +kernel
theorem dX1_passDays_1 : decode cX1_passDays 1 = .ok (.iconst 0, 1) := by decide +kernel
theorem dX1_passDays_2 : decode cX1_passDays 2 = .ok (.putfield 44, 3) := by decide +kernel
theorem dX1_passDays_5 : decode cX1_passDays 5 = .ok (.iload_n 1, 1) := by decide +kernel
theorem dX1_passDays_6 : decode cX1_passDays 6 = .ok (.iconst 1, 1) := by decide +kernel
theorem dX1_passDays_7 : decode cX1_passDays 7 = .ok (.sipush 1000, 3) := by decide +kernel
theorem dX1_passDays_10 : decode cX1_passDays 10 = .ok (.invokestatic 48, 3) := by decide +kernel
theorem dX1_passDays_13 : decode cX1_passDays 13 = .ok (.ifCond .ne 9, 3) := by decide +kernel
theorem dX1_passDays_16 : decode cX1_passDays 16 = .ok (.aload_n 0, 1) := by decide +kernel
theorem dX1_passDays_17 : decode cX1_passDays 17 = .ok (.iconst 1, 1) := by decide +kernel
theorem dX1_passDays_18 : decode cX1_passDays 18 = .ok (.invokevirtual 58, 3) := by decide +kernel
theorem dX1_passDays_21 : decode cX1_passDays 21 = .ok (.ireturn, 1) := by decide +kernel
theorem dX1_passDays_22 : decode cX1_passDays 22 = .ok (.iconst 0, 1) := by decide +kernel
theorem dX1_passDays_23 : decode cX1_passDays 23 = .ok (.istore_n 2, 1) := by decide +kernel
theorem dX1_passDays_24 : decode cX1_passDays 24 = .ok (.iload_n 2, 1) := by decide +kernel
theorem dX1_passDays_25 : decode cX1_passDays 25 = .ok (.bipush 96, 2) := by decide +kernel
theorem dX1_passDays_27 : decode cX1_passDays 27 = .ok (.if_icmp .ge 42, 3) := by decide +kernel
theorem dX1_passDays_30 : decode cX1_passDays 30 = .ok (.aload_n 0, 1) := by decide +kernel
theorem dX1_passDays_31 : decode cX1_passDays 31 = .ok (.getfield 20, 3) := by decide +kernel
theorem dX1_passDays_34 : decode cX1_passDays 34 = .ok (.iload_n 2, 1) := by decide +kernel
theorem dX1_passDays_35 : decode cX1_passDays 35 = .ok (.dup2, 1) := by decide +kernel
theorem dX1_passDays_36 : decode cX1_passDays 36 = .ok (.iaload, 1) := by decide +kernel
theorem dX1_passDays_37 : decode cX1_passDays 37 = .ok (.aload_n 0, 1) := by decide +kernel
theorem dX1_passDays_38 : decode cX1_passDays 38 = .ok (.getfield 17, 3) := by decide +kernel
theorem dX1_passDays_41 : decode cX1_passDays 41 = .ok (.iload_n 2, 1) := by decide +kernel
theorem dX1_passDays_42 : decode cX1_passDays 42 = .ok (.bipush 8, 2) := by decide +kernel
theorem dX1_passDays_44 : decode cX1_passDays 44 = .ok (.idiv, 1) := by decide +kernel
theorem dX1_passDays_45 : decode cX1_passDays 45 = .ok (.iaload, 1) := by decide +kernel
theorem dX1_passDays_46 : decode cX1_passDays 46 = .ok (.iload_n 2, 1) := by decide +kernel
theorem dX1_passDays_47 : decode cX1_passDays 47 = .ok (.bipush 8, 2) := by decide +kernel
theorem dX1_passDays_49 : decode cX1_passDays 49 = .ok (.irem, 1) := by decide +kernel
theorem dX1_passDays_50 : decode cX1_passDays 50 = .ok (.invokestatic 69, 3) := by decide +kernel
theorem dX1_passDays_53 : decode cX1_passDays 53 = .ok (.ifCond .eq 7, 3) := by decide +kernel
theorem dX1_passDays_56 : decode cX1_passDays 56 = .ok (.iload_n 1, 1) := by decide +kernel
theorem dX1_passDays_57 : decode cX1_passDays 57 = .ok (.goto 4, 3) := by decide +kernel
theorem dX1_passDays_60 : decode cX1_passDays 60 = .ok (.iconst 0, 1) := by decide +kernel
theorem dX1_passDays_61 : decode cX1_passDays 61 = .ok (.iadd, 1) := by decide +kernel
theorem dX1_passDays_62 : decode cX1_passDays 62 = .ok (.iastore, 1) := by decide +kernel
theorem dX1_passDays_63 : decode cX1_passDays 63 = .ok (.iinc 2 1, 3) := by decide +kernel
theorem dX1_passDays_66 : decode cX1_passDays 66 = .ok (.goto (-42), 3) := by decide +kernel
theorem dX1_passDays_69 : decode cX1_passDays 69 = .ok (.aload_n 0, 1) := by decide +kernel
theorem dX1_passDays_70 : decode cX1_passDays 70 = .ok (.dup, 1) := by decide +kernel
theorem dX1_passDays_71 : decode cX1_passDays 71 = .ok (.getfield 86, 3) := by decide +kernel
theorem dX1_passDays_74 : decode cX1_passDays 74 = .ok (.iload_n 1, 1) := by decide +kernel
theorem dX1_passDays_75 : decode cX1_passDays 75 = .ok (.iadd, 1) := by decide +kernel
theorem dX1_passDays_76 : decode cX1_passDays 76 = .ok (.putfield 86, 3) := by decide +kernel
theorem dX1_passDays_79 : decode cX1_passDays 79 = .ok (.iconst 0, 1) := by decide +kernel
theorem dX1_passDays_80 : decode cX1_passDays 80 = .ok (.istore_n 2, 1) := by decide +kernel
theorem dX1_passDays_81 : decode cX1_passDays 81 = .ok (.aload_n 0, 1) := by decide +kernel
theorem dX1_passDays_82 : decode cX1_passDays 82 = .ok (.invokevirtual 111, 3) := by decide +kernel
theorem dX1_passDays_85 : decode cX1_passDays 85 = .ok (.istore_n 3, 1) := by decide +kernel
theorem dX1_passDays_86 : decode cX1_passDays 86 = .ok (.iconst 0, 1) := by decide +kernel
theorem dX1_passDays_87 : decode cX1_passDays 87 = .ok (.istore 4, 2) := by decide +kernel
theorem dX1_passDays_89 : decode cX1_passDays 89 = .ok (.iload 4, 2) := by decide +kernel
theorem dX1_passDays_91 : decode cX1_passDays 91 = .ok (.aload_n 0, 1) := by decide +kernel
theorem dX1_passDays_92 : decode cX1_passDays 92 = .ok (.getfield 55, 3) := by decide +kernel
theorem dX1_passDays_95 : decode cX1_passDays 95 = .ok (.if_icmp .ge 31, 3) := by decide +kernel
theorem dX1_passDays_98 : decode cX1_passDays 98 = .ok (.iload_n 2, 1) := by decide +kernel
theorem dX1_passDays_99 : decode cX1_passDays 99 = .ok (.iload_n 3, 1) := by decide +kernel
theorem dX1_passDays_100 : decode cX1_passDays 100 = .ok (.iload 4, 2) := by decide +kernel
theorem dX1_passDays_102 : decode cX1_passDays 102 = .ok (.invokestatic 69, 3) := by decide +kernel
theorem dX1_passDays_105 : decode cX1_passDays 105 = .ok (.ifCond .eq 12, 3) := by decide +kernel
theorem dX1_passDays_108 : decode cX1_passDays 108 = .ok (.aload_n 0, 1) := by decide +kernel
theorem dX1_passDays_109 : decode cX1_passDays 109 = .ok (.iload 4, 2) := by decide +kernel
theorem dX1_passDays_111 : decode cX1_passDays 111 = .ok (.invokevirtual 115, 3) := by decide +kernel
theorem dX1_passDays_114 : decode cX1_passDays 114 = .ok (.goto 4, 3) := by decide +kernel
theorem dX1_passDays_117 : decode cX1_passDays 117 = .ok (.iconst 0, 1) := by decide +kernel
theorem dX1_passDays_118 : decode cX1_passDays 118 = .ok (.iadd, 1) := by decide +kernel
theorem dX1_passDays_119 : decode cX1_passDays 119 = .ok (.istore_n 2, 1) := by decide +kernel
theorem dX1_passDays_120 : decode cX1_passDays 120 = .ok (.iinc 4 1, 3) := by decide +kernel
theorem dX1_passDays_123 : decode cX1_passDays 123 = .ok (.goto (-34), 3) := by decide +kernel
theorem dX1_passDays_126 : decode cX1_passDays 126 = .ok (.iload_n 2, 1) := by decide +kernel
theorem dX1_passDays_127 : decode cX1_passDays 127 = .ok (.ireturn, 1) := by decide +kernel
theorem dX1_day_0 : decode cX1_day 0 = .ok (.aload_n 0, 1) := by decide +kernel
theorem dX1_day_1 : decode cX1_day 1 = .ok (.iconst 0, 1) := by decide +kernel
theorem dX1_day_2 : decode cX1_day 2 = .ok (.putfield 44, 3) := by decide +kernel
theorem dX1_day_5 : decode cX1_day 5 = .ok (.aload_n 0, 1) := by decide +kernel
theorem dX1_day_6 : decode cX1_day 6 = .ok (.getfield 86, 3) := by decide +kernel
theorem dX1_day_9 : decode cX1_day 9 = .ok (.ireturn, 1) := by decide +kernel
set_option maxRecDepth 20000 in
theorem ggX1_nextEnd_X1_end : GoodIn wsX1_nextEnd wsX1_end := goodIn_r _ [8, 9, 10, 11, 12, 13, 7, 14, 15, 16, 17, 18, 19, 20, 21, 22, 23, 24, 25, 26, 27, 28, 29, 30, 31, 32, 33, 34, 35, 36, 37, 38, 39, 40, 41, 42, 43, 44, 45, 46, 47, 48, 49, 50] (by decide +kernel) (by decide +kernel)
set_option maxRecDepth 20000 in
theorem gX1_nextEnd_X1_end : GoodIn wsX1_nextEnd (wsV RX1 104 RX1 yX1_end wsX1_end) := goodIn_app (goodIn_of _ (by decide +kernel)) ggX1_nextEnd_X1_end
theorem dX1_nextEnd_0 : decode cX1_nextEnd 0 = .ok (.aload_n 0, 1) := by decide +kernel
theorem dX1_nextEnd_1 : decode cX1_nextEnd 1 = .ok (.iconst 0, 1) := by decide +kernel
theorem dX1_nextEnd_2 : decode cX1_nextEnd 2 = .ok (.putfield 44, 3) := by decide +kernel
theorem dX1_nextEnd_5 : decode cX1_nextEnd 5 = .ok (.iconst (-1), 1) := by decide +kernel
theorem dX1_nextEnd_6 : decode cX1_nextEnd 6 = .ok (.istore_n 1, 1) := by decide +kernel
theorem dX1_nextEnd_7 : decode cX1_nextEnd 7 = .ok (.iconst 0, 1) := by decide +kernel
theorem dX1_nextEnd_8 : decode cX1_nextEnd 8 = .ok (.istore_n 2, 1) := by decide +kernel
theorem dX1_nextEnd_9 : decode cX1_nextEnd 9 = .ok (.iload_n 2, 1) := by decide +kernel
theorem dX1_nextEnd_10 : decode cX1_nextEnd 10 = .ok (.aload_n 0, 1) := by decide +kernel
theorem dX1_nextEnd_11 : decode cX1_nextEnd 11 = .ok (.getfield 55, 3) := by decide +kernel
theorem dX1_nextEnd_14 : decode cX1_nextEnd 14 = .ok (.if_icmp .ge 42, 3) := by decide +kernel
theorem dX1_nextEnd_17 : decode cX1_nextEnd 17 = .ok (.aload_n 0, 1) := by decide +kernel
theorem dX1_nextEnd_18 : decode cX1_nextEnd 18 = .ok (.getfield 35, 3) := by decide +kernel
theorem dX1_nextEnd_21 : decode cX1_nextEnd 21 = .ok (.iload_n 2, 1) := by decide +kernel
theorem dX1_nextEnd_22 : decode cX1_nextEnd 22 = .ok (.iaload, 1) := by decide +kernel
theorem dX1_nextEnd_23 : decode cX1_nextEnd 23 = .ok (.ifCond .ne 25, 3) := by decide +kernel
theorem dX1_nextEnd_26 : decode cX1_nextEnd 26 = .ok (.iload_n 1, 1) := by decide +kernel
theorem dX1_nextEnd_27 : decode cX1_nextEnd 27 = .ok (.iconst (-1), 1) := by decide +kernel
theorem dX1_nextEnd_28 : decode cX1_nextEnd 28 = .ok (.if_icmp .eq 12, 3) := by decide +kernel
theorem dX1_nextEnd_31 : decode cX1_nextEnd 31 = .ok (.aload_n 0, 1) := by decide +kernel
theorem dX1_nextEnd_32 : decode cX1_nextEnd 32 = .ok (.iload_n 2, 1) := by decide +kernel
theorem dX1_nextEnd_33 : decode cX1_nextEnd 33 = .ok (.invokevirtual 104, 3) := by decide +kernel
theorem dX1_nextEnd_36 : decode cX1_nextEnd 36 = .ok (.iload_n 1, 1) := by decide +kernel
theorem dX1_nextEnd_37 : decode cX1_nextEnd 37 = .ok (.if_icmp .ge 11, 3) := by decide +kernel
theorem dX1_nextEnd_40 : decode cX1_nextEnd 40 = .ok (.aload_n 0, 1) := by decide +kernel
theorem dX1_nextEnd_41 : decode cX1_nextEnd 41 = .ok (.iload_n 2, 1) := by decide +kernel
theorem dX1_nextEnd_42 : decode cX1_nextEnd 42 = .ok (.invokevirtual 104, 3) := by decide +kernel
theorem dX1_nextEnd_45 : decode cX1_nextEnd 45 = .ok (.goto 4, 3) := by decide +kernel
theorem dX1_nextEnd_48 : decode cX1_nextEnd 48 = .ok (.iload_n 1, 1) := by decide +kernel
theorem dX1_nextEnd_49 : decode cX1_nextEnd 49 = .ok (.istore_n 1, 1) := by decide +kernel
theorem dX1_nextEnd_50 : decode cX1_nextEnd 50 = .ok (.iinc 2 1, 3) := by decide +kernel
theorem dX1_nextEnd_53 : decode cX1_nextEnd 53 = .ok (.goto (-44), 3) := by decide +kernel
theorem dX1_nextEnd_56 : decode cX1_nextEnd 56 = .ok (.iload_n 1, 1) := by decide +kernel
theorem dX1_nextEnd_57 : decode cX1_nextEnd 57 = .ok (.ireturn, 1) := by decide +kernel
theorem dX1_heldSet_0 : decode cX1_heldSet 0 = .ok (.iconst 0, 1) := by decide +kernel
theorem dX1_heldSet_1 : decode cX1_heldSet 1 = .ok (.istore_n 1, 1) := by decide +kernel
theorem dX1_heldSet_2 : decode cX1_heldSet 2 = .ok (.iconst 0, 1) := by decide +kernel
theorem dX1_heldSet_3 : decode cX1_heldSet 3 = .ok (.istore_n 2, 1) := by decide +kernel
theorem dX1_heldSet_4 : decode cX1_heldSet 4 = .ok (.iload_n 2, 1) := by decide +kernel
theorem dX1_heldSet_5 : decode cX1_heldSet 5 = .ok (.bipush 6, 2) := by decide +kernel
theorem dX1_heldSet_7 : decode cX1_heldSet 7 = .ok (.if_icmp .ge 18, 3) := by decide +kernel
theorem dX1_heldSet_10 : decode cX1_heldSet 10 = .ok (.iload_n 1, 1) := by decide +kernel
theorem dX1_heldSet_11 : decode cX1_heldSet 11 = .ok (.aload_n 0, 1) := by decide +kernel
theorem dX1_heldSet_12 : decode cX1_heldSet 12 = .ok (.getfield 41, 3) := by decide +kernel
theorem dX1_heldSet_15 : decode cX1_heldSet 15 = .ok (.iload_n 2, 1) := by decide +kernel
theorem dX1_heldSet_16 : decode cX1_heldSet 16 = .ok (.iaload, 1) := by decide +kernel
theorem dX1_heldSet_17 : decode cX1_heldSet 17 = .ok (.ior, 1) := by decide +kernel
theorem dX1_heldSet_18 : decode cX1_heldSet 18 = .ok (.istore_n 1, 1) := by decide +kernel
theorem dX1_heldSet_19 : decode cX1_heldSet 19 = .ok (.iinc 2 1, 3) := by decide +kernel
theorem dX1_heldSet_22 : decode cX1_heldSet 22 = .ok (.goto (-18), 3) := by decide +kernel
theorem dX1_heldSet_25 : decode cX1_heldSet 25 = .ok (.iload_n 1, 1) := by decide +kernel
theorem dX1_heldSet_26 : decode cX1_heldSet 26 = .ok (.ireturn, 1) := by decide +kernel
set_option maxRecDepth 20000 in
theorem ggX1_hold_X1_in : GoodIn wsX1_hold wsX1_in := goodIn_r _ [7] (by decide +kernel) (by decide +kernel)
set_option maxRecDepth 20000 in
theorem gX1_hold_X1_in : GoodIn wsX1_hold (va_wsS RX1 48 yX1_in wsX1_in) := goodIn_app (goodIn_of _ (by decide +kernel)) ggX1_hold_X1_in
set_option maxRecDepth 20000 in
theorem ggX1_hold_X1_isRecord : GoodIn wsX1_hold wsX1_isRecord := goodIn_r _ [11, 12, 4, 5, 6, 7, 23, 24, 25, 26, 27, 28, 29, 30, 31, 32, 33, 34, 35, 36, 37] (by decide +kernel) (by decide +kernel)
set_option maxRecDepth 20000 in
theorem gX1_hold_X1_isRecord : GoodIn wsX1_hold (wsV RX1 95 RX1 yX1_isRecord wsX1_isRecord) := goodIn_app (goodIn_of _ (by decide +kernel)) ggX1_hold_X1_isRecord
set_option maxRecDepth 20000 in
theorem ggX1_hold_X1_fails : GoodIn wsX1_hold wsX1_fails := goodIn_r _ [16, 1, 23, 24, 25, 26, 27, 28, 29, 30, 31, 32, 33, 34, 35, 36, 37] (by decide +kernel) (by decide +kernel)
set_option maxRecDepth 20000 in
theorem gX1_hold_X1_fails : GoodIn wsX1_hold (wsV RX1 58 RX1 yX1_fails wsX1_fails) := goodIn_app (goodIn_of _ (by decide +kernel)) ggX1_hold_X1_fails
set_option maxRecDepth 20000 in
theorem ggX1_hold_X1_has : GoodIn wsX1_hold wsX1_has := goodIn_r _ [19] (by decide +kernel) (by decide +kernel)
set_option maxRecDepth 20000 in
theorem gX1_hold_X1_has : GoodIn wsX1_hold (va_wsS RX1 69 yX1_has wsX1_has) := goodIn_app (goodIn_of _ (by decide +kernel)) ggX1_hold_X1_has
set_option maxRecDepth 20000 in
theorem ggX1_hold_X1_sizeOf : GoodIn wsX1_hold wsX1_sizeOf := goodIn_r _ [22] (by decide +kernel) (by decide +kernel)
set_option maxRecDepth 20000 in
theorem gX1_hold_X1_sizeOf : GoodIn wsX1_hold (va_wsS RX1 98 yX1_sizeOf wsX1_sizeOf) := goodIn_app (goodIn_of _ (by decide +kernel)) ggX1_hold_X1_sizeOf
theorem dX1_hold_0 : decode cX1_hold 0 = .ok (.aload_n 0, 1) := by decide +kernel
theorem dX1_hold_1 : decode cX1_hold 1 = .ok (.iconst 0, 1) := by decide +kernel
theorem dX1_hold_2 : decode cX1_hold 2 = .ok (.putfield 44, 3) := by decide +kernel
theorem dX1_hold_5 : decode cX1_hold 5 = .ok (.iload_n 1, 1) := by decide +kernel
theorem dX1_hold_6 : decode cX1_hold 6 = .ok (.iconst 0, 1) := by decide +kernel
theorem dX1_hold_7 : decode cX1_hold 7 = .ok (.iconst 5, 1) := by decide +kernel
theorem dX1_hold_8 : decode cX1_hold 8 = .ok (.invokestatic 48, 3) := by decide +kernel
theorem dX1_hold_11 : decode cX1_hold 11 = .ok (.ifCond .eq 11, 3) := by decide +kernel
theorem dX1_hold_14 : decode cX1_hold 14 = .ok (.aload_n 0, 1) := by decide +kernel
theorem dX1_hold_15 : decode cX1_hold 15 = .ok (.iload_n 2, 1) := by decide +kernel
theorem dX1_hold_16 : decode cX1_hold 16 = .ok (.invokevirtual 95, 3) := by decide +kernel
theorem dX1_hold_19 : decode cX1_hold 19 = .ok (.ifCond .ne 9, 3) := by decide +kernel
theorem dX1_hold_22 : decode cX1_hold 22 = .ok (.aload_n 0, 1) := by decide +kernel
theorem dX1_hold_23 : decode cX1_hold 23 = .ok (.iconst 1, 1) := by decide +kernel
theorem dX1_hold_24 : decode cX1_hold 24 = .ok (.invokevirtual 58, 3) := by decide +kernel
theorem dX1_hold_27 : decode cX1_hold 27 = .ok (.ireturn, 1) := by decide +kernel
theorem dX1_hold_28 : decode cX1_hold 28 = .ok (.aload_n 0, 1) := by decide +kernel
theorem dX1_hold_29 : decode cX1_hold 29 = .ok (.getfield 35, 3) := by decide +kernel
theorem dX1_hold_32 : decode cX1_hold 32 = .ok (.iload_n 2, 1) := by decide +kernel
theorem dX1_hold_33 : decode cX1_hold 33 = .ok (.iaload, 1) := by decide +kernel
theorem dX1_hold_34 : decode cX1_hold 34 = .ok (.iconst 2, 1) := by decide +kernel
theorem dX1_hold_35 : decode cX1_hold 35 = .ok (.if_icmp .eq 16, 3) := by decide +kernel
theorem dX1_hold_38 : decode cX1_hold 38 = .ok (.aload_n 0, 1) := by decide +kernel
theorem dX1_hold_39 : decode cX1_hold 39 = .ok (.getfield 41, 3) := by decide +kernel
theorem dX1_hold_42 : decode cX1_hold 42 = .ok (.iload_n 1, 1) := by decide +kernel
theorem dX1_hold_43 : decode cX1_hold 43 = .ok (.iaload, 1) := by decide +kernel
theorem dX1_hold_44 : decode cX1_hold 44 = .ok (.iload_n 2, 1) := by decide +kernel
theorem dX1_hold_45 : decode cX1_hold 45 = .ok (.invokestatic 69, 3) := by decide +kernel
theorem dX1_hold_48 : decode cX1_hold 48 = .ok (.ifCond .eq 9, 3) := by decide +kernel
theorem dX1_hold_51 : decode cX1_hold 51 = .ok (.aload_n 0, 1) := by decide +kernel
theorem dX1_hold_52 : decode cX1_hold 52 = .ok (.iconst 2, 1) := by decide +kernel
theorem dX1_hold_53 : decode cX1_hold 53 = .ok (.invokevirtual 58, 3) := by decide +kernel
theorem dX1_hold_56 : decode cX1_hold 56 = .ok (.ireturn, 1) := by decide +kernel
theorem dX1_hold_57 : decode cX1_hold 57 = .ok (.aload_n 0, 1) := by decide +kernel
theorem dX1_hold_58 : decode cX1_hold 58 = .ok (.getfield 41, 3) := by decide +kernel
theorem dX1_hold_61 : decode cX1_hold 61 = .ok (.iload_n 1, 1) := by decide +kernel
theorem dX1_hold_62 : decode cX1_hold 62 = .ok (.dup2, 1) := by decide +kernel
theorem dX1_hold_63 : decode cX1_hold 63 = .ok (.iaload, 1) := by decide +kernel
theorem dX1_hold_64 : decode cX1_hold 64 = .ok (.iconst 1, 1) := by decide +kernel
theorem dX1_hold_65 : decode cX1_hold 65 = .ok (.iload_n 2, 1) := by decide +kernel
theorem dX1_hold_66 : decode cX1_hold 66 = .ok (.ishl, 1) := by decide +kernel
theorem dX1_hold_67 : decode cX1_hold 67 = .ok (.ior, 1) := by decide +kernel
theorem dX1_hold_68 : decode cX1_hold 68 = .ok (.iastore, 1) := by decide +kernel
theorem dX1_hold_69 : decode cX1_hold 69 = .ok (.aload_n 0, 1) := by decide +kernel
theorem dX1_hold_70 : decode cX1_hold 70 = .ok (.getfield 41, 3) := by decide +kernel
theorem dX1_hold_73 : decode cX1_hold 73 = .ok (.iload_n 1, 1) := by decide +kernel
theorem dX1_hold_74 : decode cX1_hold 74 = .ok (.iaload, 1) := by decide +kernel
theorem dX1_hold_75 : decode cX1_hold 75 = .ok (.invokestatic 98, 3) := by decide +kernel
theorem dX1_hold_78 : decode cX1_hold 78 = .ok (.ireturn, 1) := by decide +kernel
set_option maxRecDepth 20000 in
theorem ggX1_close_X1_in : GoodIn wsX1_close wsX1_in := goodIn_r _ [6] (by decide +kernel) (by decide +kernel)
set_option maxRecDepth 20000 in
theorem gX1_close_X1_in : GoodIn wsX1_close (va_wsS RX1 48 yX1_in wsX1_in) := goodIn_app (goodIn_of _ (by decide +kernel)) ggX1_close_X1_in
set_option maxRecDepth 20000 in
theorem ggX1_close_X1_fails : GoodIn wsX1_close wsX1_fails := goodIn_r _ [10, 1, 18, 19, 20, 21, 22, 23, 24, 25, 26, 27, 28, 29, 30, 31, 32] (by decide +kernel) (by decide +kernel)
set_option maxRecDepth 20000 in
theorem gX1_close_X1_fails : GoodIn wsX1_close (wsV RX1 58 RX1 yX1_fails wsX1_fails) := goodIn_app (goodIn_of _ (by decide +kernel)) ggX1_close_X1_fails
set_option maxRecDepth 20000 in
theorem ggX1_close_X1_heldSet : GoodIn wsX1_close wsX1_heldSet := goodIn_r _ [14, 2, 18, 19, 20, 21, 22, 23, 24, 25, 26, 27, 28, 29, 30, 31, 32] (by decide +kernel) (by decide +kernel)
set_option maxRecDepth 20000 in
theorem gX1_close_X1_heldSet : GoodIn wsX1_close (wsV RX1 118 RX1 yX1_heldSet wsX1_heldSet) := goodIn_app (goodIn_of _ (by decide +kernel)) ggX1_close_X1_heldSet
set_option maxRecDepth 20000 in
theorem ggX1_close_X1_sizeOf : GoodIn wsX1_close wsX1_sizeOf := goodIn_r _ [17] (by decide +kernel) (by decide +kernel)
set_option maxRecDepth 20000 in
theorem gX1_close_X1_sizeOf : GoodIn wsX1_close (va_wsS RX1 98 yX1_sizeOf wsX1_sizeOf) := goodIn_app (goodIn_of _ (by decide +kernel)) ggX1_close_X1_sizeOf
theorem dX1_close_0 : decode cX1_close 0 = .ok (.aload_n 0, 1) := by decide +kernel
theorem dX1_close_1 : decode cX1_close 1 = .ok (.iconst 0, 1) := by decide +kernel
theorem dX1_close_2 : decode cX1_close 2 = .ok (.putfield 44, 3) := by decide +kernel
theorem dX1_close_5 : decode cX1_close 5 = .ok (.iload_n 1, 1) := by decide +kernel
theorem dX1_close_6 : decode cX1_close 6 = .ok (.iconst 0, 1) := by decide +kernel
theorem dX1_close_7 : decode cX1_close 7 = .ok (.iconst 5, 1) := by decide +kernel
theorem dX1_close_8 : decode cX1_close 8 = .ok (.invokestatic 48, 3) := by decide +kernel
theorem dX1_close_11 : decode cX1_close 11 = .ok (.ifCond .ne 9, 3) := by decide +kernel
theorem dX1_close_14 : decode cX1_close 14 = .ok (.aload_n 0, 1) := by decide +kernel
theorem dX1_close_15 : decode cX1_close 15 = .ok (.iconst 1, 1) := by decide +kernel
theorem dX1_close_16 : decode cX1_close 16 = .ok (.invokevirtual 58, 3) := by decide +kernel
theorem dX1_close_19 : decode cX1_close 19 = .ok (.ireturn, 1) := by decide +kernel
theorem dX1_close_20 : decode cX1_close 20 = .ok (.aload_n 0, 1) := by decide +kernel
theorem dX1_close_21 : decode cX1_close 21 = .ok (.invokevirtual 118, 3) := by decide +kernel
theorem dX1_close_24 : decode cX1_close 24 = .ok (.invokestatic 98, 3) := by decide +kernel
theorem dX1_close_27 : decode cX1_close 27 = .ok (.istore_n 2, 1) := by decide +kernel
theorem dX1_close_28 : decode cX1_close 28 = .ok (.aload_n 0, 1) := by decide +kernel
theorem dX1_close_29 : decode cX1_close 29 = .ok (.getfield 41, 3) := by decide +kernel
theorem dX1_close_32 : decode cX1_close 32 = .ok (.iload_n 1, 1) := by decide +kernel
theorem dX1_close_33 : decode cX1_close 33 = .ok (.iconst 0, 1) := by decide +kernel
theorem dX1_close_34 : decode cX1_close 34 = .ok (.iastore, 1) := by decide +kernel
theorem dX1_close_35 : decode cX1_close 35 = .ok (.iload_n 2, 1) := by decide +kernel
theorem dX1_close_36 : decode cX1_close 36 = .ok (.aload_n 0, 1) := by decide +kernel
theorem dX1_close_37 : decode cX1_close 37 = .ok (.invokevirtual 118, 3) := by decide +kernel
theorem dX1_close_40 : decode cX1_close 40 = .ok (.invokestatic 98, 3) := by decide +kernel
theorem dX1_close_43 : decode cX1_close 43 = .ok (.isub, 1) := by decide +kernel
theorem dX1_close_44 : decode cX1_close 44 = .ok (.ireturn, 1) := by decide +kernel
set_option maxRecDepth 20000 in
theorem ggX1_held_X1_heldSet : GoodIn wsX1_held wsX1_heldSet := goodIn_r _ [6, 7, 8, 9, 10, 11, 12, 13, 14, 15, 16, 17, 18, 19, 20, 21, 22] (by decide +kernel) (by decide +kernel)
set_option maxRecDepth 20000 in
theorem gX1_held_X1_heldSet : GoodIn wsX1_held (wsV RX1 118 RX1 yX1_heldSet wsX1_heldSet) := goodIn_app (goodIn_of _ (by decide +kernel)) ggX1_held_X1_heldSet
theorem dX1_held_0 : decode cX1_held 0 = .ok (.aload_n 0, 1) := by decide +kernel
theorem dX1_held_1 : decode cX1_held 1 = .ok (.iconst 0, 1) := by decide +kernel
theorem dX1_held_2 : decode cX1_held 2 = .ok (.putfield 44, 3) := by decide +kernel
theorem dX1_held_5 : decode cX1_held 5 = .ok (.aload_n 0, 1) := by decide +kernel
theorem dX1_held_6 : decode cX1_held 6 = .ok (.invokevirtual 118, 3) := by decide +kernel
theorem dX1_held_9 : decode cX1_held 9 = .ok (.ireturn, 1) := by decide +kernel
set_option maxRecDepth 20000 in
theorem ggX1_request_X1_isSubject : GoodIn wsX1_request wsX1_isSubject := goodIn_r _ [6, 7, 8, 5, 9] (by decide +kernel) (by decide +kernel)
set_option maxRecDepth 20000 in
theorem gX1_request_X1_isSubject : GoodIn wsX1_request (va_wsS RX1 66 yX1_isSubject wsX1_isSubject) := goodIn_app (goodIn_of _ (by decide +kernel)) ggX1_request_X1_isSubject
set_option maxRecDepth 20000 in
theorem ggX1_request_X1_fails : GoodIn wsX1_request wsX1_fails := goodIn_r _ [13, 1, 36, 37, 38, 39, 40, 41, 42, 43, 44, 45, 46, 47, 48, 49, 50] (by decide +kernel) (by decide +kernel)
set_option maxRecDepth 20000 in
theorem gX1_request_X1_fails : GoodIn wsX1_request (wsV RX1 58 RX1 yX1_fails wsX1_fails) := goodIn_app (goodIn_of _ (by decide +kernel)) ggX1_request_X1_fails
set_option maxRecDepth 20000 in
theorem ggX1_request_X1_subjects : GoodIn wsX1_request wsX1_subjects := goodIn_r _ [17, 18, 19, 20, 21, 22, 5, 23, 24, 25, 26, 36, 37, 38, 39, 40, 41, 42, 43, 44, 45, 46, 47, 48, 49, 50] (by decide +kernel) (by decide +kernel)
set_option maxRecDepth 20000 in
theorem gX1_request_X1_subjects : GoodIn wsX1_request (wsV RX1 79 RX1 yX1_subjects wsX1_subjects) := goodIn_app (goodIn_of _ (by decide +kernel)) ggX1_request_X1_subjects
set_option maxRecDepth 20000 in
theorem ggX1_request_X1_has : GoodIn wsX1_request wsX1_has := goodIn_r _ [26] (by decide +kernel) (by decide +kernel)
set_option maxRecDepth 20000 in
theorem gX1_request_X1_has : GoodIn wsX1_request (va_wsS RX1 69 yX1_has wsX1_has) := goodIn_app (goodIn_of _ (by decide +kernel)) ggX1_request_X1_has
set_option maxRecDepth 20000 in
theorem ggX1_request_X1_asks : GoodIn wsX1_request wsX1_asks := goodIn_r _ [30, 31, 2, 32, 33, 34, 5, 35, 18, 24, 25, 26, 36, 37, 38, 39, 40, 41, 42, 43, 44, 45, 46, 47, 48, 49, 50] (by decide +kernel) (by decide +kernel)
set_option maxRecDepth 20000 in
theorem gX1_request_X1_asks : GoodIn wsX1_request (wsV RX1 115 RX1 yX1_asks wsX1_asks) := goodIn_app (goodIn_of _ (by decide +kernel)) ggX1_request_X1_asks
theorem dX1_request_0 : decode cX1_request 0 = .ok (.aload_n 0, 1) := by decide +kernel
theorem dX1_request_1 : decode cX1_request 1 = .ok (.iconst 0, 1) := by decide +kernel
theorem dX1_request_2 : decode cX1_request 2 = .ok (.putfield 44, 3) := by decide +kernel
theorem dX1_request_5 : decode cX1_request 5 = .ok (.iload_n 1, 1) := by decide +kernel
theorem dX1_request_6 : decode cX1_request 6 = .ok (.invokestatic 66, 3) := by decide +kernel
theorem dX1_request_9 : decode cX1_request 9 = .ok (.ifCond .ne 9, 3) := by decide +kernel
theorem dX1_request_12 : decode cX1_request 12 = .ok (.aload_n 0, 1) := by decide +kernel
theorem dX1_request_13 : decode cX1_request 13 = .ok (.iconst 1, 1) := by decide +kernel
theorem dX1_request_14 : decode cX1_request 14 = .ok (.invokevirtual 58, 3) := by decide +kernel
theorem dX1_request_17 : decode cX1_request 17 = .ok (.ireturn, 1) := by decide +kernel
theorem dX1_request_18 : decode cX1_request 18 = .ok (.iconst 0, 1) := by decide +kernel
theorem dX1_request_19 : decode cX1_request 19 = .ok (.istore_n 2, 1) := by decide +kernel
theorem dX1_request_20 : decode cX1_request 20 = .ok (.iconst 0, 1) := by decide +kernel
theorem dX1_request_21 : decode cX1_request 21 = .ok (.istore_n 3, 1) := by decide +kernel
theorem dX1_request_22 : decode cX1_request 22 = .ok (.iload_n 3, 1) := by decide +kernel
theorem dX1_request_23 : decode cX1_request 23 = .ok (.aload_n 0, 1) := by decide +kernel
theorem dX1_request_24 : decode cX1_request 24 = .ok (.getfield 55, 3) := by decide +kernel
theorem dX1_request_27 : decode cX1_request 27 = .ok (.if_icmp .ge 33, 3) := by decide +kernel
theorem dX1_request_30 : decode cX1_request 30 = .ok (.iload_n 2, 1) := by decide +kernel
theorem dX1_request_31 : decode cX1_request 31 = .ok (.aload_n 0, 1) := by decide +kernel
theorem dX1_request_32 : decode cX1_request 32 = .ok (.iload_n 3, 1) := by decide +kernel
theorem dX1_request_33 : decode cX1_request 33 = .ok (.invokevirtual 79, 3) := by decide +kernel
theorem dX1_request_36 : decode cX1_request 36 = .ok (.iload_n 1, 1) := by decide +kernel
theorem dX1_request_37 : decode cX1_request 37 = .ok (.invokestatic 69, 3) := by decide +kernel
theorem dX1_request_40 : decode cX1_request 40 = .ok (.ifCond .eq 11, 3) := by decide +kernel
theorem dX1_request_43 : decode cX1_request 43 = .ok (.aload_n 0, 1) := by decide +kernel
theorem dX1_request_44 : decode cX1_request 44 = .ok (.iload_n 3, 1) := by decide +kernel
theorem dX1_request_45 : decode cX1_request 45 = .ok (.invokevirtual 115, 3) := by decide +kernel
theorem dX1_request_48 : decode cX1_request 48 = .ok (.goto 4, 3) := by decide +kernel
theorem dX1_request_51 : decode cX1_request 51 = .ok (.iconst 0, 1) := by decide +kernel
theorem dX1_request_52 : decode cX1_request 52 = .ok (.iadd, 1) := by decide +kernel
theorem dX1_request_53 : decode cX1_request 53 = .ok (.istore_n 2, 1) := by decide +kernel
theorem dX1_request_54 : decode cX1_request 54 = .ok (.iinc 3 1, 3) := by decide +kernel
theorem dX1_request_57 : decode cX1_request 57 = .ok (.goto (-35), 3) := by decide +kernel
theorem dX1_request_60 : decode cX1_request 60 = .ok (.iload_n 2, 1) := by decide +kernel
theorem dX1_request_61 : decode cX1_request 61 = .ok (.ireturn, 1) := by decide +kernel
set_option maxRecDepth 20000 in
theorem ggX1_kept_X1_heldSet : GoodIn wsX1_kept wsX1_heldSet := goodIn_r _ [7, 8, 17, 18, 19, 20, 21, 22, 23, 24, 25, 26, 27, 28, 29, 30, 31] (by decide +kernel) (by decide +kernel)
set_option maxRecDepth 20000 in
theorem gX1_kept_X1_heldSet : GoodIn wsX1_kept (wsV RX1 118 RX1 yX1_heldSet wsX1_heldSet) := goodIn_app (goodIn_of _ (by decide +kernel)) ggX1_kept_X1_heldSet
set_option maxRecDepth 20000 in
theorem ggX1_kept_X1_has : GoodIn wsX1_kept wsX1_has := goodIn_r _ [11] (by decide +kernel) (by decide +kernel)
set_option maxRecDepth 20000 in
theorem gX1_kept_X1_has : GoodIn wsX1_kept (va_wsS RX1 69 yX1_has wsX1_has) := goodIn_app (goodIn_of _ (by decide +kernel)) ggX1_kept_X1_has
set_option maxRecDepth 20000 in
theorem ggX1_kept_X1_belowOf : GoodIn wsX1_kept wsX1_belowOf := goodIn_r _ [15, 2, 16, 9, 10, 6, 11, 17, 18, 19, 20, 21, 22, 23, 24, 25, 26, 27, 28, 29, 30, 31] (by decide +kernel) (by decide +kernel)
set_option maxRecDepth 20000 in
theorem gX1_kept_X1_belowOf : GoodIn wsX1_kept (wsV RX1 101 RX1 yX1_belowOf wsX1_belowOf) := goodIn_app (goodIn_of _ (by decide +kernel)) ggX1_kept_X1_belowOf
theorem dX1_kept_0 : decode cX1_kept 0 = .ok (.aload_n 0, 1) := by decide +kernel
theorem dX1_kept_1 : decode cX1_kept 1 = .ok (.getfield 35, 3) := by decide +kernel
theorem dX1_kept_4 : decode cX1_kept 4 = .ok (.iload_n 1, 1) := by decide +kernel
theorem dX1_kept_5 : decode cX1_kept 5 = .ok (.iaload, 1) := by decide +kernel
theorem dX1_kept_6 : decode cX1_kept 6 = .ok (.iconst 1, 1) := by decide +kernel
theorem dX1_kept_7 : decode cX1_kept 7 = .ok (.if_icmp .eq 19, 3) := by decide +kernel
theorem dX1_kept_10 : decode cX1_kept 10 = .ok (.aload_n 0, 1) := by decide +kernel
theorem dX1_kept_11 : decode cX1_kept 11 = .ok (.getfield 35, 3) := by decide +kernel
theorem dX1_kept_14 : decode cX1_kept 14 = .ok (.iload_n 1, 1) := by decide +kernel
theorem dX1_kept_15 : decode cX1_kept 15 = .ok (.iaload, 1) := by decide +kernel
theorem dX1_kept_16 : decode cX1_kept 16 = .ok (.iconst 2, 1) := by decide +kernel
theorem dX1_kept_17 : decode cX1_kept 17 = .ok (.if_icmp .ne 7, 3) := by decide +kernel
theorem dX1_kept_20 : decode cX1_kept 20 = .ok (.iconst 1, 1) := by decide +kernel
theorem dX1_kept_21 : decode cX1_kept 21 = .ok (.goto 4, 3) := by decide +kernel
theorem dX1_kept_24 : decode cX1_kept 24 = .ok (.iconst 2, 1) := by decide +kernel
theorem dX1_kept_25 : decode cX1_kept 25 = .ok (.ireturn, 1) := by decide +kernel
theorem dX1_kept_26 : decode cX1_kept 26 = .ok (.aload_n 0, 1) := by decide +kernel
theorem dX1_kept_27 : decode cX1_kept 27 = .ok (.invokevirtual 118, 3) := by decide +kernel
theorem dX1_kept_30 : decode cX1_kept 30 = .ok (.iload_n 1, 1) := by decide +kernel
theorem dX1_kept_31 : decode cX1_kept 31 = .ok (.invokestatic 69, 3) := by decide +kernel
theorem dX1_kept_34 : decode cX1_kept 34 = .ok (.ifCond .eq 5, 3) := by decide +kernel
theorem dX1_kept_37 : decode cX1_kept 37 = .ok (.iconst 3, 1) := by decide +kernel
theorem dX1_kept_38 : decode cX1_kept 38 = .ok (.ireturn, 1) := by decide +kernel
theorem dX1_kept_39 : decode cX1_kept 39 = .ok (.aload_n 0, 1) := by decide +kernel
theorem dX1_kept_40 : decode cX1_kept 40 = .ok (.iload_n 1, 1) := by decide +kernel
theorem dX1_kept_41 : decode cX1_kept 41 = .ok (.invokevirtual 101, 3) := by decide +kernel
theorem dX1_kept_44 : decode cX1_kept 44 = .ok (.istore_n 2, 1) := by decide +kernel
theorem dX1_kept_45 : decode cX1_kept 45 = .ok (.iconst 0, 1) := by decide +kernel
theorem dX1_kept_46 : decode cX1_kept 46 = .ok (.istore_n 3, 1) := by decide +kernel
theorem dX1_kept_47 : decode cX1_kept 47 = .ok (.iload_n 1, 1) := by decide +kernel
theorem dX1_kept_48 : decode cX1_kept 48 = .ok (.iconst 1, 1) := by decide +kernel
theorem dX1_kept_49 : decode cX1_kept 49 = .ok (.iadd, 1) := by decide +kernel
theorem dX1_kept_50 : decode cX1_kept 50 = .ok (.istore 4, 2) := by decide +kernel
theorem dX1_kept_52 : decode cX1_kept 52 = .ok (.iload 4, 2) := by decide +kernel
theorem dX1_kept_54 : decode cX1_kept 54 = .ok (.aload_n 0, 1) := by decide +kernel
theorem dX1_kept_55 : decode cX1_kept 55 = .ok (.getfield 55, 3) := by decide +kernel
theorem dX1_kept_58 : decode cX1_kept 58 = .ok (.if_icmp .ge 35, 3) := by decide +kernel
theorem dX1_kept_61 : decode cX1_kept 61 = .ok (.iload_n 2, 1) := by decide +kernel
theorem dX1_kept_62 : decode cX1_kept 62 = .ok (.iload 4, 2) := by decide +kernel
theorem dX1_kept_64 : decode cX1_kept 64 = .ok (.invokestatic 69, 3) := by decide +kernel
theorem dX1_kept_67 : decode cX1_kept 67 = .ok (.ifCond .eq 18, 3) := by decide +kernel
theorem dX1_kept_70 : decode cX1_kept 70 = .ok (.aload_n 0, 1) := by decide +kernel
theorem dX1_kept_71 : decode cX1_kept 71 = .ok (.getfield 35, 3) := by decide +kernel
theorem dX1_kept_74 : decode cX1_kept 74 = .ok (.iload 4, 2) := by decide +kernel
theorem dX1_kept_76 : decode cX1_kept 76 = .ok (.iaload, 1) := by decide +kernel
theorem dX1_kept_77 : decode cX1_kept 77 = .ok (.iconst 2, 1) := by decide +kernel
theorem dX1_kept_78 : decode cX1_kept 78 = .ok (.if_icmp .eq 7, 3) := by decide +kernel
theorem dX1_kept_81 : decode cX1_kept 81 = .ok (.iconst 4, 1) := by decide +kernel
theorem dX1_kept_82 : decode cX1_kept 82 = .ok (.goto 4, 3) := by decide +kernel
theorem dX1_kept_85 : decode cX1_kept 85 = .ok (.iload_n 3, 1) := by decide +kernel
theorem dX1_kept_86 : decode cX1_kept 86 = .ok (.istore_n 3, 1) := by decide +kernel
theorem dX1_kept_87 : decode cX1_kept 87 = .ok (.iinc 4 1, 3) := by decide +kernel
theorem dX1_kept_90 : decode cX1_kept 90 = .ok (.goto (-38), 3) := by decide +kernel
theorem dX1_kept_93 : decode cX1_kept 93 = .ok (.iload_n 3, 1) := by decide +kernel
theorem dX1_kept_94 : decode cX1_kept 94 = .ok (.ireturn, 1) := by decide +kernel
set_option maxRecDepth 20000 in
theorem ggX1_whyKept_X1_isRecord : GoodIn wsX1_whyKept wsX1_isRecord := goodIn_r _ [6, 7, 8, 9, 5, 10, 33, 34, 35, 36, 37, 38, 39, 40, 41, 42, 43, 44, 45, 46, 47] (by decide +kernel) (by decide +kernel)
set_option maxRecDepth 20000 in
theorem gX1_whyKept_X1_isRecord : GoodIn wsX1_whyKept (wsV RX1 95 RX1 yX1_isRecord wsX1_isRecord) := goodIn_app (goodIn_of _ (by decide +kernel)) ggX1_whyKept_X1_isRecord
set_option maxRecDepth 20000 in
theorem ggX1_whyKept_X1_kept : GoodIn wsX1_whyKept wsX1_kept := goodIn_r _ [14, 15, 7, 16, 17, 18, 5, 19, 20, 21, 22, 23, 24, 25, 26, 27, 28, 33, 34, 35, 36, 37, 38, 39, 40, 41, 42, 43, 44, 45, 46, 47] (by decide +kernel) (by decide +kernel)
set_option maxRecDepth 20000 in
theorem gX1_whyKept_X1_kept : GoodIn wsX1_whyKept (wsV RX1 121 RX1 yX1_kept wsX1_kept) := goodIn_app (goodIn_of _ (by decide +kernel)) ggX1_whyKept_X1_kept
set_option maxRecDepth 20000 in
theorem ggX1_whyKept_X1_fails : GoodIn wsX1_whyKept wsX1_fails := goodIn_r _ [32, 1, 33, 34, 35, 36, 37, 38, 39, 40, 41, 42, 43, 44, 45, 46, 47] (by decide +kernel) (by decide +kernel)
set_option maxRecDepth 20000 in
theorem gX1_whyKept_X1_fails : GoodIn wsX1_whyKept (wsV RX1 58 RX1 yX1_fails wsX1_fails) := goodIn_app (goodIn_of _ (by decide +kernel)) ggX1_whyKept_X1_fails
theorem dX1_whyKept_0 : decode cX1_whyKept 0 = .ok (.aload_n 0, 1) := by decide +kernel
theorem dX1_whyKept_1 : decode cX1_whyKept 1 = .ok (.iconst 0, 1) := by decide +kernel
theorem dX1_whyKept_2 : decode cX1_whyKept 2 = .ok (.putfield 44, 3) := by decide +kernel
theorem dX1_whyKept_5 : decode cX1_whyKept 5 = .ok (.aload_n 0, 1) := by decide +kernel
theorem dX1_whyKept_6 : decode cX1_whyKept 6 = .ok (.iload_n 1, 1) := by decide +kernel
theorem dX1_whyKept_7 : decode cX1_whyKept 7 = .ok (.invokevirtual 95, 3) := by decide +kernel
theorem dX1_whyKept_10 : decode cX1_whyKept 10 = .ok (.ifCond .eq 11, 3) := by decide +kernel
theorem dX1_whyKept_13 : decode cX1_whyKept 13 = .ok (.aload_n 0, 1) := by decide +kernel
theorem dX1_whyKept_14 : decode cX1_whyKept 14 = .ok (.iload_n 1, 1) := by decide +kernel
theorem dX1_whyKept_15 : decode cX1_whyKept 15 = .ok (.invokevirtual 121, 3) := by decide +kernel
theorem dX1_whyKept_18 : decode cX1_whyKept 18 = .ok (.goto 8, 3) := by decide +kernel
theorem dX1_whyKept_21 : decode cX1_whyKept 21 = .ok (.aload_n 0, 1) := by decide +kernel
theorem dX1_whyKept_22 : decode cX1_whyKept 22 = .ok (.iconst 1, 1) := by decide +kernel
theorem dX1_whyKept_23 : decode cX1_whyKept 23 = .ok (.invokevirtual 58, 3) := by decide +kernel
theorem dX1_whyKept_26 : decode cX1_whyKept 26 = .ok (.ireturn, 1) := by decide +kernel
set_option maxRecDepth 20000 in
theorem ggX1_eraseOne_X1_kept : GoodIn wsX1_eraseOne wsX1_kept := goodIn_r _ [7, 2, 1, 8, 9, 10, 6, 11, 12, 13, 14, 15, 16, 17, 18, 19, 20, 21, 22, 23, 24, 25, 26, 27, 28, 29, 30, 31, 32, 33, 34, 35] (by decide +kernel) (by decide +kernel)
