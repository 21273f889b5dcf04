theorem dX0_moveToErased_15 : decode cX0_moveToErased 15 = .ok (.aload_n 0, 1) := by decide +kernel
theorem dX0_moveToErased_16 : decode cX0_moveToErased 16 = .ok (.dup, 1) := by decide +kernel
theorem dX0_moveToErased_17 : decode cX0_moveToErased 17 = .ok (.getfield 118, 3) := by decide +kernel
theorem dX0_moveToErased_20 : decode cX0_moveToErased 20 = .ok (.iload_n 1, 1) := by decide +kernel
theorem dX0_moveToErased_21 : decode cX0_moveToErased 21 = .ok (.invokestatic 55, 3) := by decide +kernel
theorem dX0_moveToErased_24 : decode cX0_moveToErased 24 = .ok (.ior, 1) := by decide +kernel
theorem dX0_moveToErased_25 : decode cX0_moveToErased 25 = .ok (.putfield 118, 3) := by decide +kernel
theorem dX0_moveToErased_28 : decode cX0_moveToErased 28 = .ok (.return_, 1) := by decide +kernel
theorem dX1_init_0 : decode cX1_init 0 = .ok (.aload_n 0, 1) := by decide +kernel
theorem dX1_init_1 : decode cX1_init 1 = .ok (.invokespecial 1, 3) := by decide +kernel
theorem dX1_init_4 : decode cX1_init 4 = .ok (.aload_n 0, 1) := by decide +kernel
theorem dX1_init_5 : decode cX1_init 5 = .ok (.bipush 8, 2) := by decide +kernel
theorem dX1_init_7 : decode cX1_init 7 = .ok (.newarray .int, 2) := by decide +kernel
theorem dX1_init_9 : decode cX1_init 9 = .ok (.putfield 7, 3) := by decide +kernel
theorem dX1_init_12 : decode cX1_init 12 = .ok (.aload_n 0, 1) := by decide +kernel
theorem dX1_init_13 : decode cX1_init 13 = .ok (.bipush 8, 2) := by decide +kernel
theorem dX1_init_15 : decode cX1_init 15 = .ok (.newarray .boolean, 2) := by decide +kernel
theorem dX1_init_17 : decode cX1_init 17 = .ok (.putfield 13, 3) := by decide +kernel
theorem dX1_init_20 : decode cX1_init 20 = .ok (.aload_n 0, 1) := by decide +kernel
theorem dX1_init_21 : decode cX1_init 21 = .ok (.bipush 12, 2) := by decide +kernel
theorem dX1_init_23 : decode cX1_init 23 = .ok (.newarray .int, 2) := by decide +kernel
theorem dX1_init_25 : decode cX1_init 25 = .ok (.putfield 17, 3) := by decide +kernel
theorem dX1_init_28 : decode cX1_init 28 = .ok (.aload_n 0, 1) := by decide +kernel
theorem dX1_init_29 : decode cX1_init 29 = .ok (.bipush 96, 2) := by decide +kernel
theorem dX1_init_31 : decode cX1_init 31 = .ok (.newarray .int, 2) := by decide +kernel
theorem dX1_init_33 : decode cX1_init 33 = .ok (.putfield 20, 3) := by decide +kernel
theorem dX1_init_36 : decode cX1_init 36 = .ok (.aload_n 0, 1) := by decide +kernel
theorem dX1_init_37 : decode cX1_init 37 = .ok (.bipush 30, 2) := by decide +kernel
theorem dX1_init_39 : decode cX1_init 39 = .ok (.newarray .int, 2) := by decide +kernel
theorem dX1_init_41 : decode cX1_init 41 = .ok (.putfield 23, 3) := by decide +kernel
theorem dX1_init_44 : decode cX1_init 44 = .ok (.aload_n 0, 1) := by decide +kernel
theorem dX1_init_45 : decode cX1_init 45 = .ok (.bipush 30, 2) := by decide +kernel
theorem dX1_init_47 : decode cX1_init 47 = .ok (.newarray .int, 2) := by decide +kernel
theorem dX1_init_49 : decode cX1_init 49 = .ok (.putfield 26, 3) := by decide +kernel
theorem dX1_init_52 : decode cX1_init 52 = .ok (.aload_n 0, 1) := by decide +kernel
theorem dX1_init_53 : decode cX1_init 53 = .ok (.bipush 30, 2) := by decide +kernel
theorem dX1_init_55 : decode cX1_init 55 = .ok (.newarray .int, 2) := by decide +kernel
theorem dX1_init_57 : decode cX1_init 57 = .ok (.putfield 29, 3) := by decide +kernel
theorem dX1_init_60 : decode cX1_init 60 = .ok (.aload_n 0, 1) := by decide +kernel
theorem dX1_init_61 : decode cX1_init 61 = .ok (.bipush 30, 2) := by decide +kernel
theorem dX1_init_63 : decode cX1_init 63 = .ok (.newarray .int, 2) := by decide +kernel
theorem dX1_init_65 : decode cX1_init 65 = .ok (.putfield 32, 3) := by decide +kernel
theorem dX1_init_68 : decode cX1_init 68 = .ok (.aload_n 0, 1) := by decide +kernel
theorem dX1_init_69 : decode cX1_init 69 = .ok (.bipush 30, 2) := by decide +kernel
theorem dX1_init_71 : decode cX1_init 71 = .ok (.newarray .int, 2) := by decide +kernel
theorem dX1_init_73 : decode cX1_init 73 = .ok (.putfield 35, 3) := by decide +kernel
theorem dX1_init_76 : decode cX1_init 76 = .ok (.aload_n 0, 1) := by decide +kernel
theorem dX1_init_77 : decode cX1_init 77 = .ok (.sipush 240, 3) := by decide +kernel
theorem dX1_init_80 : decode cX1_init 80 = .ok (.newarray .int, 2) := by decide +kernel
theorem dX1_init_82 : decode cX1_init 82 = .ok (.putfield 38, 3) := by decide +kernel
theorem dX1_init_85 : decode cX1_init 85 = .ok (.aload_n 0, 1) := by decide +kernel
theorem dX1_init_86 : decode cX1_init 86 = .ok (.bipush 6, 2) := by decide +kernel
theorem dX1_init_88 : decode cX1_init 88 = .ok (.newarray .int, 2) := by decide +kernel
theorem dX1_init_90 : decode cX1_init 90 = .ok (.putfield 41, 3) := by decide +kernel
theorem dX1_init_93 : decode cX1_init 93 = .ok (.return_, 1) := by decide +kernel
theorem dX1_thrown_0 : decode cX1_thrown 0 = .ok (.aload_n 0, 1) := by decide +kernel
theorem dX1_thrown_1 : decode cX1_thrown 1 = .ok (.getfield 44, 3) := by decide +kernel
theorem dX1_thrown_4 : decode cX1_thrown 4 = .ok (.ireturn, 1) := by decide +kernel
theorem dX1_fails_0 : decode cX1_fails 0 = .ok (.aload_n 0, 1) := by decide +kernel
theorem dX1_fails_1 : decode cX1_fails 1 = .ok (.iload_n 1, 1) := by decide +kernel
theorem dX1_fails_2 : decode cX1_fails 2 = .ok (.putfield 44, 3) := by decide +kernel
theorem dX1_fails_5 : decode cX1_fails 5 = .ok (.iconst 0, 1) := by decide +kernel
theorem dX1_fails_6 : decode cX1_fails 6 = .ok (.ireturn, 1) := by decide +kernel
theorem dX1_in_0 : decode cX1_in 0 = .ok (.iload_n 0, 1) := by decide +kernel
theorem dX1_in_1 : decode cX1_in 1 = .ok (.iload_n 1, 1) := by decide +kernel
theorem dX1_in_2 : decode cX1_in 2 = .ok (.if_icmp .lt 12, 3) := by decide +kernel
theorem dX1_in_5 : decode cX1_in 5 = .ok (.iload_n 0, 1) := by decide +kernel
theorem dX1_in_6 : decode cX1_in 6 = .ok (.iload_n 2, 1) := by decide +kernel
theorem dX1_in_7 : decode cX1_in 7 = .ok (.if_icmp .gt 7, 3) := by decide +kernel
theorem dX1_in_10 : decode cX1_in 10 = .ok (.iconst 1, 1) := by decide +kernel
theorem dX1_in_11 : decode cX1_in 11 = .ok (.goto 4, 3) := by decide +kernel
theorem dX1_in_14 : decode cX1_in 14 = .ok (.iconst 0, 1) := by decide +kernel
theorem dX1_in_15 : decode cX1_in 15 = .ok (.ireturn, 1) := by decide +kernel
theorem dX1_has_0 : decode cX1_has 0 = .ok (.iload_n 0, 1) := by decide +kernel
theorem dX1_has_1 : decode cX1_has 1 = .ok (.iload_n 1, 1) := by decide +kernel
theorem dX1_has_2 : decode cX1_has 2 = .ok (.ishr, 1) := by decide +kernel
theorem dX1_has_3 : decode cX1_has 3 = .ok (.iconst 1, 1) := by decide +kernel
theorem dX1_has_4 : decode cX1_has 4 = .ok (.iand, 1) := by decide +kernel
theorem dX1_has_5 : decode cX1_has 5 = .ok (.iconst 1, 1) := by decide +kernel
theorem dX1_has_6 : decode cX1_has 6 = .ok (.if_icmp .ne 7, 3) := by decide +kernel
theorem dX1_has_9 : decode cX1_has 9 = .ok (.iconst 1, 1) := by decide +kernel
theorem dX1_has_10 : decode cX1_has 10 = .ok (.goto 4, 3) := by decide +kernel
theorem dX1_has_13 : decode cX1_has 13 = .ok (.iconst 0, 1) := by decide +kernel
theorem dX1_has_14 : decode cX1_has 14 = .ok (.ireturn, 1) := by decide +kernel
theorem dX1_sizeOf_0 : decode cX1_sizeOf 0 = .ok (.iconst 0, 1) := by decide +kernel
theorem dX1_sizeOf_1 : decode cX1_sizeOf 1 = .ok (.istore_n 1, 1) := by decide +kernel
theorem dX1_sizeOf_2 : decode cX1_sizeOf 2 = .ok (.iconst 0, 1) := by decide +kernel
theorem dX1_sizeOf_3 : decode cX1_sizeOf 3 = .ok (.istore_n 2, 1) := by decide +kernel
theorem dX1_sizeOf_4 : decode cX1_sizeOf 4 = .ok (.iload_n 2, 1) := by decide +kernel
theorem dX1_sizeOf_5 : decode cX1_sizeOf 5 = .ok (.bipush 30, 2) := by decide +kernel
theorem dX1_sizeOf_7 : decode cX1_sizeOf 7 = .ok (.if_icmp .ge 17, 3) := by decide +kernel
theorem dX1_sizeOf_10 : decode cX1_sizeOf 10 = .ok (.iload_n 1, 1) := by decide +kernel
theorem dX1_sizeOf_11 : decode cX1_sizeOf 11 = .ok (.iload_n 0, 1) := by decide +kernel
theorem dX1_sizeOf_12 : decode cX1_sizeOf 12 = .ok (.iload_n 2, 1) := by decide +kernel
theorem dX1_sizeOf_13 : decode cX1_sizeOf 13 = .ok (.ishr, 1) := by decide +kernel
theorem dX1_sizeOf_14 : decode cX1_sizeOf 14 = .ok (.iconst 1, 1) := by decide +kernel
theorem dX1_sizeOf_15 : decode cX1_sizeOf 15 = .ok (.iand, 1) := by decide +kernel
theorem dX1_sizeOf_16 : decode cX1_sizeOf 16 = .ok (.iadd, 1) := by decide +kernel
theorem dX1_sizeOf_17 : decode cX1_sizeOf 17 = .ok (.istore_n 1, 1) := by decide +kernel
theorem dX1_sizeOf_18 : decode cX1_sizeOf 18 = .ok (.iinc 2 1, 3) := by decide +kernel
theorem dX1_sizeOf_21 : decode cX1_sizeOf 21 = .ok (.goto (-17), 3) := by decide +kernel
theorem dX1_sizeOf_24 : decode cX1_sizeOf 24 = .ok (.iload_n 1, 1) := by decide +kernel
theorem dX1_sizeOf_25 : decode cX1_sizeOf 25 = .ok (.ireturn, 1) := by decide +kernel
set_option maxRecDepth 20000 in
theorem ggX1_isSubject_X1_in : GoodIn wsX1_isSubject wsX1_in := goodIn_r _ [4] (by decide +kernel) (by decide +kernel)
set_option maxRecDepth 20000 in
theorem gX1_isSubject_X1_in : GoodIn wsX1_isSubject (va_wsS RX1 48 yX1_in wsX1_in) := goodIn_app (goodIn_of _ (by decide +kernel)) ggX1_isSubject_X1_in
theorem dX1_isSubject_0 : decode cX1_isSubject 0 = .ok (.iload_n 0, 1) := by decide +kernel
theorem dX1_isSubject_1 : decode cX1_isSubject 1 = .ok (.iconst 0, 1) := by decide +kernel
theorem dX1_isSubject_2 : decode cX1_isSubject 2 = .ok (.bipush 11, 2) := by decide +kernel
theorem dX1_isSubject_4 : decode cX1_isSubject 4 = .ok (.invokestatic 48, 3) := by decide +kernel
theorem dX1_isSubject_7 : decode cX1_isSubject 7 = .ok (.ireturn, 1) := by decide +kernel
set_option maxRecDepth 20000 in
theorem ggX1_isPurpose_X1_in : GoodIn wsX1_isPurpose wsX1_in := goodIn_r _ [5] (by decide +kernel) (by decide +kernel)
set_option maxRecDepth 20000 in
theorem gX1_isPurpose_X1_in : GoodIn wsX1_isPurpose (va_wsS RX1 48 yX1_in wsX1_in) := goodIn_app (goodIn_of _ (by decide +kernel)) ggX1_isPurpose_X1_in
theorem dX1_isPurpose_0 : decode cX1_isPurpose 0 = .ok (.iload_n 1, 1) := by decide +kernel
theorem dX1_isPurpose_1 : decode cX1_isPurpose 1 = .ok (.iconst 0, 1) := by decide +kernel
theorem dX1_isPurpose_2 : decode cX1_isPurpose 2 = .ok (.aload_n 0, 1) := by decide +kernel
theorem dX1_isPurpose_3 : decode cX1_isPurpose 3 = .ok (.getfield 52, 3) := by decide +kernel
theorem dX1_isPurpose_6 : decode cX1_isPurpose 6 = .ok (.iconst 1, 1) := by decide +kernel
theorem dX1_isPurpose_7 : decode cX1_isPurpose 7 = .ok (.isub, 1) := by decide +kernel
theorem dX1_isPurpose_8 : decode cX1_isPurpose 8 = .ok (.invokestatic 48, 3) := by decide +kernel
theorem dX1_isPurpose_11 : decode cX1_isPurpose 11 = .ok (.ireturn, 1) := by decide +kernel
set_option maxRecDepth 20000 in
theorem ggX1_isRecord_X1_in : GoodIn wsX1_isRecord wsX1_in := goodIn_r _ [5] (by decide +kernel) (by decide +kernel)
set_option maxRecDepth 20000 in
theorem gX1_isRecord_X1_in : GoodIn wsX1_isRecord (va_wsS RX1 48 yX1_in wsX1_in) := goodIn_app (goodIn_of _ (by decide +kernel)) ggX1_isRecord_X1_in
theorem dX1_isRecord_0 : decode cX1_isRecord 0 = .ok (.iload_n 1, 1) := by decide +kernel
theorem dX1_isRecord_1 : decode cX1_isRecord 1 = .ok (.iconst 0, 1) := by decide +kernel
theorem dX1_isRecord_2 : decode cX1_isRecord 2 = .ok (.aload_n 0, 1) := by decide +kernel
theorem dX1_isRecord_3 : decode cX1_isRecord 3 = .ok (.getfield 55, 3) := by decide +kernel
theorem dX1_isRecord_6 : decode cX1_isRecord 6 = .ok (.iconst 1, 1) := by decide +kernel
theorem dX1_isRecord_7 : decode cX1_isRecord 7 = .ok (.isub, 1) := by decide +kernel
theorem dX1_isRecord_8 : decode cX1_isRecord 8 = .ok (.invokestatic 48, 3) := by decide +kernel
theorem dX1_isRecord_11 : decode cX1_isRecord 11 = .ok (.ireturn, 1) := by decide +kernel
set_option maxRecDepth 20000 in
theorem ggX1_isSet_X1_in : GoodIn wsX1_isSet wsX1_in := goodIn_r _ [5] (by decide +kernel) (by decide +kernel)
set_option maxRecDepth 20000 in
theorem gX1_isSet_X1_in : GoodIn wsX1_isSet (va_wsS RX1 48 yX1_in wsX1_in) := goodIn_app (goodIn_of _ (by decide +kernel)) ggX1_isSet_X1_in
theorem dX1_isSet_0 : decode cX1_isSet 0 = .ok (.iload_n 1, 1) := by decide +kernel
theorem dX1_isSet_1 : decode cX1_isSet 1 = .ok (.iconst 0, 1) := by decide +kernel
theorem dX1_isSet_2 : decode cX1_isSet 2 = .ok (.iconst 1, 1) := by decide +kernel
theorem dX1_isSet_3 : decode cX1_isSet 3 = .ok (.aload_n 0, 1) := by decide +kernel
theorem dX1_isSet_4 : decode cX1_isSet 4 = .ok (.getfield 52, 3) := by decide +kernel
theorem dX1_isSet_7 : decode cX1_isSet 7 = .ok (.ishl, 1) := by decide +kernel
theorem dX1_isSet_8 : decode cX1_isSet 8 = .ok (.iconst 1, 1) := by decide +kernel
theorem dX1_isSet_9 : decode cX1_isSet 9 = .ok (.isub, 1) := by decide +kernel
theorem dX1_isSet_10 : decode cX1_isSet 10 = .ok (.invokestatic 48, 3) := by decide +kernel
theorem dX1_isSet_13 : decode cX1_isSet 13 = .ok (.ireturn, 1) := by decide +kernel
set_option maxRecDepth 20000 in
theorem ggX1_addPurpose_X1_in : GoodIn wsX1_addPurpose wsX1_in := goodIn_r _ [8] (by decide +kernel) (by decide +kernel)
set_option maxRecDepth 20000 in
theorem gX1_addPurpose_X1_in : GoodIn wsX1_addPurpose (va_wsS RX1 48 yX1_in wsX1_in) := goodIn_app (goodIn_of _ (by decide +kernel)) ggX1_addPurpose_X1_in
set_option maxRecDepth 20000 in
theorem ggX1_addPurpose_X1_fails : GoodIn wsX1_addPurpose wsX1_fails := goodIn_r _ [12, 1, 13, 14, 15, 16, 17, 18, 19, 20, 21, 22, 23, 24, 25, 26, 27] (by decide +kernel) (by decide +kernel)
set_option maxRecDepth 20000 in
theorem gX1_addPurpose_X1_fails : GoodIn wsX1_addPurpose (wsV RX1 58 RX1 yX1_fails wsX1_fails) := goodIn_app (goodIn_of _ (by decide +kernel)) ggX1_addPurpose_X1_fails
theorem dX1_addPurpose_0 : decode cX1_addPurpose 0 = .ok (.aload_n 0, 1) := by decide +kernel
theorem dX1_addPurpose_1 : decode cX1_addPurpose 1 = .ok (.iconst 0, 1) := by decide +kernel
theorem dX1_addPurpose_2 : decode cX1_addPurpose 2 = .ok (.putfield 44, 3) := by decide +kernel
theorem dX1_addPurpose_5 : decode cX1_addPurpose 5 = .ok (.iload_n 1, 1) := by decide +kernel
theorem dX1_addPurpose_6 : decode cX1_addPurpose 6 = .ok (.iconst 0, 1) := by decide +kernel
theorem dX1_addPurpose_7 : decode cX1_addPurpose 7 = .ok (.sipush 3650, 3) := by decide +kernel
theorem dX1_addPurpose_10 : decode cX1_addPurpose 10 = .ok (.invokestatic 48, 3) := by decide +kernel
theorem dX1_addPurpose_13 : decode cX1_addPurpose 13 = .ok (.ifCond .ne 9, 3) := by decide +kernel
theorem dX1_addPurpose_16 : decode cX1_addPurpose 16 = .ok (.aload_n 0, 1) := by decide +kernel
theorem dX1_addPurpose_17 : decode cX1_addPurpose 17 = .ok (.iconst 1, 1) := by decide +kernel
theorem dX1_addPurpose_18 : decode cX1_addPurpose 18 = .ok (.invokevirtual 58, 3) := by decide +kernel
theorem dX1_addPurpose_21 : decode cX1_addPurpose 21 = .ok (.ireturn, 1) := by decide +kernel
theorem dX1_addPurpose_22 : decode cX1_addPurpose 22 = .ok (.aload_n 0, 1) := by decide +kernel
theorem dX1_addPurpose_23 : decode cX1_addPurpose 23 = .ok (.getfield 52, 3) := by decide +kernel
theorem dX1_addPurpose_26 : decode cX1_addPurpose 26 = .ok (.bipush 8, 2) := by decide +kernel
theorem dX1_addPurpose_28 : decode cX1_addPurpose 28 = .ok (.if_icmp .ne 9, 3) := by decide +kernel
theorem dX1_addPurpose_31 : decode cX1_addPurpose 31 = .ok (.aload_n 0, 1) := by decide +kernel
theorem dX1_addPurpose_32 : decode cX1_addPurpose 32 = .ok (.iconst 2, 1) := by decide +kernel
theorem dX1_addPurpose_33 : decode cX1_addPurpose 33 = .ok (.invokevirtual 58, 3) := by decide +kernel
theorem dX1_addPurpose_36 : decode cX1_addPurpose 36 = .ok (.ireturn, 1) := by decide +kernel
theorem dX1_addPurpose_37 : decode cX1_addPurpose 37 = .ok (.aload_n 0, 1) := by decide +kernel
theorem dX1_addPurpose_38 : decode cX1_addPurpose 38 = .ok (.getfield 7, 3) := by decide +kernel
theorem dX1_addPurpose_41 : decode cX1_addPurpose 41 = .ok (.aload_n 0, 1) := by decide +kernel
theorem dX1_addPurpose_42 : decode cX1_addPurpose 42 = .ok (.getfield 52, 3) := by decide +kernel
theorem dX1_addPurpose_45 : decode cX1_addPurpose 45 = .ok (.iload_n 1, 1) := by decide +kernel
theorem dX1_addPurpose_46 : decode cX1_addPurpose 46 = .ok (.iastore, 1) := by decide +kernel
theorem dX1_addPurpose_47 : decode cX1_addPurpose 47 = .ok (.aload_n 0, 1) := by decide +kernel
theorem dX1_addPurpose_48 : decode cX1_addPurpose 48 = .ok (.getfield 13, 3) := by decide +kernel
theorem dX1_addPurpose_51 : decode cX1_addPurpose 51 = .ok (.aload_n 0, 1) := by decide +kernel
theorem dX1_addPurpose_52 : decode cX1_addPurpose 52 = .ok (.getfield 52, 3) := by decide +kernel
theorem dX1_addPurpose_55 : decode cX1_addPurpose 55 = .ok (.iload_n 2, 1) := by decide +kernel
theorem dX1_addPurpose_56 : decode cX1_addPurpose 56 = .ok (.bastore, 1) := by decide +kernel
theorem dX1_addPurpose_57 : decode cX1_addPurpose 57 = .ok (.aload_n 0, 1) := by decide +kernel
theorem dX1_addPurpose_58 : decode cX1_addPurpose 58 = .ok (.dup, 1) := by decide +kernel
theorem dX1_addPurpose_59 : decode cX1_addPurpose 59 = .ok (.getfield 52, 3) := by decide +kernel
theorem dX1_addPurpose_62 : decode cX1_addPurpose 62 = .ok (.iconst 1, 1) := by decide +kernel
theorem dX1_addPurpose_63 : decode cX1_addPurpose 63 = .ok (.iadd, 1) := by decide +kernel
theorem dX1_addPurpose_64 : decode cX1_addPurpose 64 = .ok (.putfield 52, 3) := by decide +kernel
theorem dX1_addPurpose_67 : decode cX1_addPurpose 67 = .ok (.aload_n 0, 1) := by decide +kernel
theorem dX1_addPurpose_68 : decode cX1_addPurpose 68 = .ok (.getfield 52, 3) := by decide +kernel
theorem dX1_addPurpose_71 : decode cX1_addPurpose 71 = .ok (.iconst 1, 1) := by decide +kernel
theorem dX1_addPurpose_72 : decode cX1_addPurpose 72 = .ok (.isub, 1) := by decide +kernel
theorem dX1_addPurpose_73 : decode cX1_addPurpose 73 = .ok (.ireturn, 1) := by decide +kernel
set_option maxRecDepth 20000 in
theorem ggX1_setRetention_X1_isPurpose : GoodIn wsX1_setRetention wsX1_isPurpose := goodIn_r _ [7, 8, 9, 10, 6, 11, 16, 17, 18, 19, 20, 21, 22, 23, 24, 25, 26, 27, 28, 29, 30] (by decide +kernel) (by decide +kernel)
set_option maxRecDepth 20000 in
theorem gX1_setRetention_X1_isPurpose : GoodIn wsX1_setRetention (wsV RX1 62 RX1 yX1_isPurpose wsX1_isPurpose) := goodIn_app (goodIn_of _ (by decide +kernel)) ggX1_setRetention_X1_isPurpose
set_option maxRecDepth 20000 in
theorem ggX1_setRetention_X1_fails : GoodIn wsX1_setRetention wsX1_fails := goodIn_r _ [15, 1, 16, 17, 18, 19, 20, 21, 22, 23, 24, 25, 26, 27, 28, 29, 30] (by decide +kernel) (by decide +kernel)
set_option maxRecDepth 20000 in
theorem gX1_setRetention_X1_fails : GoodIn wsX1_setRetention (wsV RX1 58 RX1 yX1_fails wsX1_fails) := goodIn_app (goodIn_of _ (by decide +kernel)) ggX1_setRetention_X1_fails
set_option maxRecDepth 20000 in
theorem ggX1_setRetention_X1_in : GoodIn wsX1_setRetention wsX1_in := goodIn_r _ [11] (by decide +kernel) (by decide +kernel)
set_option maxRecDepth 20000 in
theorem gX1_setRetention_X1_in : GoodIn wsX1_setRetention (va_wsS RX1 48 yX1_in wsX1_in) := goodIn_app (goodIn_of _ (by decide +kernel)) ggX1_setRetention_X1_in
theorem dX1_setRetention_0 : decode cX1_setRetention 0 = .ok (.aload_n 0, 1) := by decide +kernel
theorem dX1_setRetention_1 : decode cX1_setRetention 1 = .ok (.iconst 0, 1) := by decide +kernel
theorem dX1_setRetention_2 : decode cX1_setRetention 2 = .ok (.putfield 44, 3) := by decide +kernel
theorem dX1_setRetention_5 : decode cX1_setRetention 5 = .ok (.aload_n 0, 1) := by decide +kernel
theorem dX1_setRetention_6 : decode cX1_setRetention 6 = .ok (.iload_n 1, 1) := by decide +kernel
theorem dX1_setRetention_7 : decode cX1_setRetention 7 = .ok (.invokevirtual 62, 3) := by decide +kernel
theorem dX1_setRetention_10 : decode cX1_setRetention 10 = .ok (.ifCond .ne 9, 3) := by decide +kernel
theorem dX1_setRetention_13 : decode cX1_setRetention 13 = .ok (.aload_n 0, 1) := by decide +kernel
theorem dX1_setRetention_14 : decode cX1_setRetention 14 = .ok (.iconst 1, 1) := by decide +kernel
theorem dX1_setRetention_15 : decode cX1_setRetention 15 = .ok (.invokevirtual 58, 3) := by decide +kernel
theorem dX1_setRetention_18 : decode cX1_setRetention 18 = .ok (.ireturn, 1) := by decide +kernel
theorem dX1_setRetention_19 : decode cX1_setRetention 19 = .ok (.iload_n 2, 1) := by decide +kernel
theorem dX1_setRetention_20 : decode cX1_setRetention 20 = .ok (.iconst 0, 1) := by decide +kernel
theorem dX1_setRetention_21 : decode cX1_setRetention 21 = .ok (.sipush 3650, 3) := by decide +kernel
theorem dX1_setRetention_24 : decode cX1_setRetention 24 = .ok (.invokestatic 48, 3) := by decide +kernel
theorem dX1_setRetention_27 : decode cX1_setRetention 27 = .ok (.ifCond .ne 9, 3) := by decide +kernel
theorem dX1_setRetention_30 : decode cX1_setRetention 30 = .ok (.aload_n 0, 1) := by decide +kernel
theorem dX1_setRetention_31 : decode cX1_setRetention 31 = .ok (.iconst 2, 1) := by decide +kernel
theorem dX1_setRetention_32 : decode cX1_setRetention 32 = .ok (.invokevirtual 58, 3) := by decide +kernel
theorem dX1_setRetention_35 : decode cX1_setRetention 35 = .ok (.ireturn, 1) := by decide +kernel
theorem dX1_setRetention_36 : decode cX1_setRetention 36 = .ok (.aload_n 0, 1) := by decide +kernel
theorem dX1_setRetention_37 : decode cX1_setRetention 37 = .ok (.getfield 7, 3) := by decide +kernel
theorem dX1_setRetention_40 : decode cX1_setRetention 40 = .ok (.iload_n 1, 1) := by decide +kernel
theorem dX1_setRetention_41 : decode cX1_setRetention 41 = .ok (.iaload, 1) := by decide +kernel
theorem dX1_setRetention_42 : decode cX1_setRetention 42 = .ok (.istore_n 3, 1) := by decide +kernel
theorem dX1_setRetention_43 : decode cX1_setRetention 43 = .ok (.aload_n 0, 1) := by decide +kernel
theorem dX1_setRetention_44 : decode cX1_setRetention 44 = .ok (.getfield 7, 3) := by decide +kernel
theorem dX1_setRetention_47 : decode cX1_setRetention 47 = .ok (.iload_n 1, 1) := by decide +kernel
theorem dX1_setRetention_48 : decode cX1_setRetention 48 = .ok (.iload_n 2, 1) := by decide +kernel
theorem dX1_setRetention_49 : decode cX1_setRetention 49 = .ok (.iastore, 1) := by decide +kernel
theorem dX1_setRetention_50 : decode cX1_setRetention 50 = .ok (.iload_n 3, 1) := by decide +kernel
theorem dX1_setRetention_51 : decode cX1_setRetention 51 = .ok (.ireturn, 1) := by decide +kernel
set_option maxRecDepth 20000 in
theorem ggX1_consent_X1_isSubject : GoodIn wsX1_consent wsX1_isSubject := goodIn_r _ [6, 7, 8, 5, 9] (by decide +kernel) (by decide +kernel)
set_option maxRecDepth 20000 in
theorem gX1_consent_X1_isSubject : GoodIn wsX1_consent (va_wsS RX1 66 yX1_isSubject wsX1_isSubject) := goodIn_app (goodIn_of _ (by decide +kernel)) ggX1_consent_X1_isSubject
set_option maxRecDepth 20000 in
theorem ggX1_consent_X1_isPurpose : GoodIn wsX1_consent wsX1_isPurpose := goodIn_r _ [13, 14, 7, 8, 5, 9, 18, 19, 20, 21, 22, 23, 24, 25, 26, 27, 28, 29, 30, 31, 32] (by decide +kernel) (by decide +kernel)
set_option maxRecDepth 20000 in
theorem gX1_consent_X1_isPurpose : GoodIn wsX1_consent (wsV RX1 62 RX1 yX1_isPurpose wsX1_isPurpose) := goodIn_app (goodIn_of _ (by decide +kernel)) ggX1_consent_X1_isPurpose
set_option maxRecDepth 20000 in
theorem ggX1_consent_X1_has : GoodIn wsX1_consent wsX1_has := goodIn_r _ [17] (by decide +kernel) (by decide +kernel)
set_option maxRecDepth 20000 in
theorem gX1_consent_X1_has : GoodIn wsX1_consent (va_wsS RX1 69 yX1_has wsX1_has) := goodIn_app (goodIn_of _ (by decide +kernel)) ggX1_consent_X1_has
theorem dX1_consent_0 : decode cX1_consent 0 = .ok (.aload_n 0, 1) := by decide +kernel
theorem dX1_consent_1 : decode cX1_consent 1 = .ok (.iload_n 1, 1) := by decide +kernel
theorem dX1_consent_2 : decode cX1_consent 2 = .ok (.invokestatic 66, 3) := by decide +kernel
theorem dX1_consent_5 : decode cX1_consent 5 = .ok (.ifCond .eq 15, 3) := by decide +kernel
theorem dX1_consent_8 : decode cX1_consent 8 = .ok (.aload_n 0, 1) := by decide +kernel
theorem dX1_consent_9 : decode cX1_consent 9 = .ok (.iload_n 2, 1) := by decide +kernel
theorem dX1_consent_10 : decode cX1_consent 10 = .ok (.invokevirtual 62, 3) := by decide +kernel
theorem dX1_consent_13 : decode cX1_consent 13 = .ok (.ifCond .eq 7, 3) := by decide +kernel
theorem dX1_consent_16 : decode cX1_consent 16 = .ok (.iconst 0, 1) := by decide +kernel
theorem dX1_consent_17 : decode cX1_consent 17 = .ok (.goto 4, 3) := by decide +kernel
theorem dX1_consent_20 : decode cX1_consent 20 = .ok (.iconst 1, 1) := by decide +kernel
theorem dX1_consent_21 : decode cX1_consent 21 = .ok (.putfield 44, 3) := by decide +kernel
theorem dX1_consent_24 : decode cX1_consent 24 = .ok (.aload_n 0, 1) := by decide +kernel
theorem dX1_consent_25 : decode cX1_consent 25 = .ok (.getfield 44, 3) := by decide +kernel
theorem dX1_consent_28 : decode cX1_consent 28 = .ok (.ifCond .gt 17, 3) := by decide +kernel
theorem dX1_consent_31 : decode cX1_consent 31 = .ok (.aload_n 0, 1) := by decide +kernel
theorem dX1_consent_32 : decode cX1_consent 32 = .ok (.getfield 17, 3) := by decide +kernel
theorem dX1_consent_35 : decode cX1_consent 35 = .ok (.iload_n 1, 1) := by decide +kernel
theorem dX1_consent_36 : decode cX1_consent 36 = .ok (.iaload, 1) := by decide +kernel
theorem dX1_consent_37 : decode cX1_consent 37 = .ok (.iload_n 2, 1) := by decide +kernel
theorem dX1_consent_38 : decode cX1_consent 38 = .ok (.invokestatic 69, 3) := by decide +kernel
theorem dX1_consent_41 : decode cX1_consent 41 = .ok (.iload_n 3, 1) := by decide +kernel
theorem dX1_consent_42 : decode cX1_consent 42 = .ok (.if_icmp .ne 5, 3) := by decide +kernel
theorem dX1_consent_45 : decode cX1_consent 45 = .ok (.iconst 0, 1) := by decide +kernel
theorem dX1_consent_46 : decode cX1_consent 46 = .ok (.ireturn, 1) := by decide +kernel
theorem dX1_consent_47 : decode cX1_consent 47 = .ok (.aload_n 0, 1) := by decide +kernel
theorem dX1_consent_48 : decode cX1_consent 48 = .ok (.getfield 17, 3) := by decide +kernel
theorem dX1_consent_51 : decode cX1_consent 51 = .ok (.iload_n 1, 1) := by decide +kernel
theorem dX1_consent_52 : decode cX1_consent 52 = .ok (.dup2, 1) := by decide +kernel
theorem dX1_consent_53 : decode cX1_consent 53 = .ok (.iaload, 1) := by decide +kernel
theorem dX1_consent_54 : decode cX1_consent 54 = .ok (.iconst 1, 1) := by decide +kernel
theorem dX1_consent_55 : decode cX1_consent 55 = .ok (.iload_n 2, 1) := by decide +kernel
theorem dX1_consent_56 : decode cX1_consent 56 = .ok (.ishl, 1) := by decide +kernel
theorem dX1_consent_57 : decode cX1_consent 57 = .ok (.ixor, 1) := by decide +kernel
theorem dX1_consent_58 : decode cX1_consent 58 = .ok (.iastore, 1) := by decide +kernel
theorem dX1_consent_59 : decode cX1_consent 59 = .ok (.iconst 1, 1) := by decide +kernel
theorem dX1_consent_60 : decode cX1_consent 60 = .ok (.ireturn, 1) := by decide +kernel
set_option maxRecDepth 20000 in
theorem ggX1_consents_X1_isSubject : GoodIn wsX1_consents wsX1_isSubject := goodIn_r _ [6, 7, 8, 5, 9] (by decide +kernel) (by decide +kernel)
set_option maxRecDepth 20000 in
theorem gX1_consents_X1_isSubject : GoodIn wsX1_consents (va_wsS RX1 66 yX1_isSubject wsX1_isSubject) := goodIn_app (goodIn_of _ (by decide +kernel)) ggX1_consents_X1_isSubject
set_option maxRecDepth 20000 in
theorem ggX1_consents_X1_fails : GoodIn wsX1_consents wsX1_fails := goodIn_r _ [13, 1, 14, 15, 16, 17, 18, 19, 20, 21, 22, 23, 24, 25, 26, 27, 28] (by decide +kernel) (by decide +kernel)
set_option maxRecDepth 20000 in
theorem gX1_consents_X1_fails : GoodIn wsX1_consents (wsV RX1 58 RX1 yX1_fails wsX1_fails) := goodIn_app (goodIn_of _ (by decide +kernel)) ggX1_consents_X1_fails
theorem dX1_consents_0 : decode cX1_consents 0 = .ok (.aload_n 0, 1) := by decide +kernel
theorem dX1_consents_1 : decode cX1_consents 1 = .ok (.iconst 0, 1) := by decide +kernel
theorem dX1_consents_2 : decode cX1_consents 2 = .ok (.putfield 44, 3) := by decide +kernel
theorem dX1_consents_5 : decode cX1_consents 5 = .ok (.iload_n 1, 1) := by decide +kernel
theorem dX1_consents_6 : decode cX1_consents 6 = .ok (.invokestatic 66, 3) := by decide +kernel
theorem dX1_consents_9 : decode cX1_consents 9 = .ok (.ifCond .eq 12, 3) := by decide +kernel
theorem dX1_consents_12 : decode cX1_consents 12 = .ok (.aload_n 0, 1) := by decide +kernel
theorem dX1_consents_13 : decode cX1_consents 13 = .ok (.getfield 17, 3) := by decide +kernel
theorem dX1_consents_16 : decode cX1_consents 16 = .ok (.iload_n 1, 1) := by decide +kernel
theorem dX1_consents_17 : decode cX1_consents 17 = .ok (.iaload, 1) := by decide +kernel
theorem dX1_consents_18 : decode cX1_consents 18 = .ok (.goto 8, 3) := by decide +kernel
theorem dX1_consents_21 : decode cX1_consents 21 = .ok (.aload_n 0, 1) := by decide +kernel
theorem dX1_consents_22 : decode cX1_consents 22 = .ok (.iconst 1, 1) := by decide +kernel
theorem dX1_consents_23 : decode cX1_consents 23 = .ok (.invokevirtual 58, 3) := by decide +kernel
theorem dX1_consents_26 : decode cX1_consents 26 = .ok (.ireturn, 1) := by decide +kernel
set_option maxRecDepth 20000 in
theorem ggX1_daysWithConsent_X1_isSubject : GoodIn wsX1_daysWithConsent wsX1_isSubject := goodIn_r _ [6, 7, 8, 5, 9] (by decide +kernel) (by decide +kernel)
set_option maxRecDepth 20000 in
theorem gX1_daysWithConsent_X1_isSubject : GoodIn wsX1_daysWithConsent (va_wsS RX1 66 yX1_isSubject wsX1_isSubject) := goodIn_app (goodIn_of _ (by decide +kernel)) ggX1_daysWithConsent_X1_isSubject
set_option maxRecDepth 20000 in
theorem ggX1_daysWithConsent_X1_isPurpose : GoodIn wsX1_daysWithConsent wsX1_isPurpose := goodIn_r _ [13, 14, 7, 8, 5, 9, 19, 20, 21, 22, 23, 24, 25, 26, 27, 28, 29, 30, 31, 32, 33] (by decide +kernel) (by decide +kernel)
set_option maxRecDepth 20000 in
theorem gX1_daysWithConsent_X1_isPurpose : GoodIn wsX1_daysWithConsent (wsV RX1 62 RX1 yX1_isPurpose wsX1_isPurpose) := goodIn_app (goodIn_of _ (by decide +kernel)) ggX1_daysWithConsent_X1_isPurpose
set_option maxRecDepth 20000 in
theorem ggX1_daysWithConsent_X1_fails : GoodIn wsX1_daysWithConsent wsX1_fails := goodIn_r _ [18, 1, 19, 20, 21, 22, 23, 24, 25, 26, 27, 28, 29, 30, 31, 32, 33] (by decide +kernel) (by decide +kernel)
set_option maxRecDepth 20000 in
theorem gX1_daysWithConsent_X1_fails : GoodIn wsX1_daysWithConsent (wsV RX1 58 RX1 yX1_fails wsX1_fails) := goodIn_app (goodIn_of _ (by decide +kernel)) ggX1_daysWithConsent_X1_fails
theorem dX1_daysWithConsent_0 : decode cX1_daysWithConsent 0 = .ok (.aload_n 0, 1) := by decide +kernel
theorem dX1_daysWithConsent_1 : decode cX1_daysWithConsent 1 = .ok (.iconst 0, 1) := by decide +kernel
theorem dX1_daysWithConsent_2 : decode cX1_daysWithConsent 2 = .ok (.putfield 44, 3) := by decide +kernel
theorem dX1_daysWithConsent_5 : decode cX1_daysWithConsent 5 = .ok (.iload_n 1, 1) := by decide +kernel
theorem dX1_daysWithConsent_6 : decode cX1_daysWithConsent 6 = .ok (.invokestatic 66, 3) := by decide +kernel
theorem dX1_daysWithConsent_9 : decode cX1_daysWithConsent 9 = .ok (.ifCond .eq 25, 3) := by decide +kernel
theorem dX1_daysWithConsent_12 : decode cX1_daysWithConsent 12 = .ok (.aload_n 0, 1) := by decide +kernel
theorem dX1_daysWithConsent_13 : decode cX1_daysWithConsent 13 = .ok (.iload_n 2, 1) := by decide +kernel
theorem dX1_daysWithConsent_14 : decode cX1_daysWithConsent 14 = .ok (.invokevirtual 62, 3) := by decide +kernel
theorem dX1_daysWithConsent_17 : decode cX1_daysWithConsent 17 = .ok (.ifCond .eq 17, 3) := by decide +kernel
theorem dX1_daysWithConsent_20 : decode cX1_daysWithConsent 20 = .ok (.aload_n 0, 1) := by decide +kernel
theorem dX1_daysWithConsent_21 : decode cX1_daysWithConsent 21 = .ok (.getfield 20, 3) := by decide +kernel
theorem dX1_daysWithConsent_24 : decode cX1_daysWithConsent 24 = .ok (.bipush 8, 2) := by decide +kernel
theorem dX1_daysWithConsent_26 : decode cX1_daysWithConsent 26 = .ok (.iload_n 1, 1) := by decide +kernel
theorem dX1_daysWithConsent_27 : decode cX1_daysWithConsent 27 = .ok (.imul, 1) := by decide +kernel
theorem dX1_daysWithConsent_28 : decode cX1_daysWithConsent 28 = .ok (.iload_n 2, 1) := by decide +kernel
theorem dX1_daysWithConsent_29 : decode cX1_daysWithConsent 29 = .ok (.iadd, 1) := by decide +kernel
theorem dX1_daysWithConsent_30 : decode cX1_daysWithConsent 30 = .ok (.iaload, 1) := by decide +kernel
theorem dX1_daysWithConsent_31 : decode cX1_daysWithConsent 31 = .ok (.goto 8, 3) := by decide +kernel
theorem dX1_daysWithConsent_34 : decode cX1_daysWithConsent 34 = .ok (.aload_n 0, 1) := by decide +kernel
theorem dX1_daysWithConsent_35 : decode cX1_daysWithConsent 35 = .ok (.iconst 1, 1) := by decide +kernel
theorem dX1_daysWithConsent_36 : decode cX1_daysWithConsent 36 = .ok (.invokevirtual 58, 3) := by decide +kernel
theorem dX1_daysWithConsent_39 : decode cX1_daysWithConsent 39 = .ok (.ireturn, 1) := by decide +kernel
set_option maxRecDepth 20000 in
theorem ggX1_subjects_X1_aboveOf : GoodIn wsX1_subjects wsX1_aboveOf := goodIn_r _ [7, 1, 8, 9, 6, 10, 11, 12, 13, 14, 15, 16, 17, 18, 19, 20, 21, 22, 23, 24, 25] (by decide +kernel) (by decide +kernel)
set_option maxRecDepth 20000 in
theorem gX1_subjects_X1_aboveOf : GoodIn wsX1_subjects (wsV RX1 73 RX1 yX1_aboveOf wsX1_aboveOf) := goodIn_app (goodIn_of _ (by decide +kernel)) ggX1_subjects_X1_aboveOf
set_option maxRecDepth 20000 in
theorem ggX1_subjects_X1_has : GoodIn wsX1_subjects wsX1_has := goodIn_r _ [10] (by decide +kernel) (by decide +kernel)
set_option maxRecDepth 20000 in
theorem gX1_subjects_X1_has : GoodIn wsX1_subjects (va_wsS RX1 69 yX1_has wsX1_has) := goodIn_app (goodIn_of _ (by decide +kernel)) ggX1_subjects_X1_has
theorem dX1_subjects_0 : decode cX1_subjects 0 = .ok (.aload_n 0, 1) := by decide +kernel
theorem dX1_subjects_1 : decode cX1_subjects 1 = .ok (.getfield 26, 3) := by decide +kernel
theorem dX1_subjects_4 : decode cX1_subjects 4 = .ok (.iload_n 1, 1) := by decide +kernel
theorem dX1_subjects_5 : decode cX1_subjects 5 = .ok (.iaload, 1) := by decide +kernel
theorem dX1_subjects_6 : decode cX1_subjects 6 = .ok (.ifCond .ne 12, 3) := by decide +kernel
theorem dX1_subjects_9 : decode cX1_subjects 9 = .ok (.iconst 1, 1) := by decide +kernel
theorem dX1_subjects_10 : decode cX1_subjects 10 = .ok (.aload_n 0, 1) := by decide +kernel
theorem dX1_subjects_11 : decode cX1_subjects 11 = .ok (.getfield 23, 3) := by decide +kernel
theorem dX1_subjects_14 : decode cX1_subjects 14 = .ok (.iload_n 1, 1) := by decide +kernel
theorem dX1_subjects_15 : decode cX1_subjects 15 = .ok (.iaload, 1) := by decide +kernel
theorem dX1_subjects_16 : decode cX1_subjects 16 = .ok (.ishl, 1) := by decide +kernel
theorem dX1_subjects_17 : decode cX1_subjects 17 = .ok (.ireturn, 1) := by decide +kernel
theorem dX1_subjects_18 : decode cX1_subjects 18 = .ok (.iconst 0, 1) := by decide +kernel
theorem dX1_subjects_19 : decode cX1_subjects 19 = .ok (.istore_n 2, 1) := by decide +kernel
theorem dX1_subjects_20 : decode cX1_subjects 20 = .ok (.aload_n 0, 1) := by decide +kernel
theorem dX1_subjects_21 : decode cX1_subjects 21 = .ok (.iload_n 1, 1) := by decide +kernel
theorem dX1_subjects_22 : decode cX1_subjects 22 = .ok (.invokevirtual 73, 3) := by decide +kernel
theorem dX1_subjects_25 : decode cX1_subjects 25 = .ok (.istore_n 3, 1) := by decide +kernel
theorem dX1_subjects_26 : decode cX1_subjects 26 = .ok (.iconst 0, 1) := by decide +kernel
theorem dX1_subjects_27 : decode cX1_subjects 27 = .ok (.istore 4, 2) := by decide +kernel
theorem dX1_subjects_29 : decode cX1_subjects 29 = .ok (.iload 4, 2) := by decide +kernel
theorem dX1_subjects_31 : decode cX1_subjects 31 = .ok (.iload_n 1, 1) := by decide +kernel
theorem dX1_subjects_32 : decode cX1_subjects 32 = .ok (.if_icmp .ge 44, 3) := by decide +kernel
theorem dX1_subjects_35 : decode cX1_subjects 35 = .ok (.iload_n 2, 1) := by decide +kernel
theorem dX1_subjects_36 : decode cX1_subjects 36 = .ok (.iload_n 3, 1) := by decide +kernel
theorem dX1_subjects_37 : decode cX1_subjects 37 = .ok (.iload 4, 2) := by decide +kernel
theorem dX1_subjects_39 : decode cX1_subjects 39 = .ok (.invokestatic 69, 3) := by decide +kernel
theorem dX1_subjects_42 : decode cX1_subjects 42 = .ok (.ifCond .eq 25, 3) := by decide +kernel
theorem dX1_subjects_45 : decode cX1_subjects 45 = .ok (.aload_n 0, 1) := by decide +kernel
theorem dX1_subjects_46 : decode cX1_subjects 46 = .ok (.getfield 26, 3) := by decide +kernel
theorem dX1_subjects_49 : decode cX1_subjects 49 = .ok (.iload 4, 2) := by decide +kernel
theorem dX1_subjects_51 : decode cX1_subjects 51 = .ok (.iaload, 1) := by decide +kernel
theorem dX1_subjects_52 : decode cX1_subjects 52 = .ok (.ifCond .ne 15, 3) := by decide +kernel
theorem dX1_subjects_55 : decode cX1_subjects 55 = .ok (.iconst 1, 1) := by decide +kernel
theorem dX1_subjects_56 : decode cX1_subjects 56 = .ok (.aload_n 0, 1) := by decide +kernel
theorem dX1_subjects_57 : decode cX1_subjects 57 = .ok (.getfield 23, 3) := by decide +kernel
theorem dX1_subjects_60 : decode cX1_subjects 60 = .ok (.iload 4, 2) := by decide +kernel
theorem dX1_subjects_62 : decode cX1_subjects 62 = .ok (.iaload, 1) := by decide +kernel
theorem dX1_subjects_63 : decode cX1_subjects 63 = .ok (.ishl, 1) := by decide +kernel
theorem dX1_subjects_64 : decode cX1_subjects 64 = .ok (.goto 4, 3) := by decide +kernel
theorem dX1_subjects_67 : decode cX1_subjects 67 = .ok (.iconst 0, 1) := by decide +kernel
theorem dX1_subjects_68 : decode cX1_subjects 68 = .ok (.ior, 1) := by decide +kernel
theorem dX1_subjects_69 : decode cX1_subjects 69 = .ok (.istore_n 2, 1) := by decide +kernel
theorem dX1_subjects_70 : decode cX1_subjects 70 = .ok (.iinc 4 1, 3) := by decide +kernel
theorem dX1_subjects_73 : decode cX1_subjects 73 = .ok (.goto (-44), 3) := by decide +kernel
theorem dX1_subjects_76 : decode cX1_subjects 76 = .ok (.iload_n 2, 1) := by decide +kernel
theorem dX1_subjects_77 : decode cX1_subjects 77 = .ok (.ireturn, 1) := by decide +kernel
set_option maxRecDepth 20000 in
theorem ggX1_aboveOf_X1_has : GoodIn wsX1_aboveOf wsX1_has := goodIn_r _ [5] (by decide +kernel) (by decide +kernel)
set_option maxRecDepth 20000 in
theorem gX1_aboveOf_X1_has : GoodIn wsX1_aboveOf (va_wsS RX1 69 yX1_has wsX1_has) := goodIn_app (goodIn_of _ (by decide +kernel)) ggX1_aboveOf_X1_has
theorem dX1_aboveOf_0 : decode cX1_aboveOf 0 = .ok (.aload_n 0, 1) := by decide +kernel
theorem dX1_aboveOf_1 : decode cX1_aboveOf 1 = .ok (.getfield 26, 3) := by decide +kernel
theorem dX1_aboveOf_4 : decode cX1_aboveOf 4 = .ok (.iload_n 1, 1) := by decide +kernel
theorem dX1_aboveOf_5 : decode cX1_aboveOf 5 = .ok (.iaload, 1) := by decide +kernel
theorem dX1_aboveOf_6 : decode cX1_aboveOf 6 = .ok (.istore_n 2, 1) := by decide +kernel
theorem dX1_aboveOf_7 : decode cX1_aboveOf 7 = .ok (.iload_n 1, 1) := by decide +kernel
theorem dX1_aboveOf_8 : decode cX1_aboveOf 8 = .ok (.iconst 1, 1) := by decide +kernel
theorem dX1_aboveOf_9 : decode cX1_aboveOf 9 = .ok (.isub, 1) := by decide +kernel
theorem dX1_aboveOf_10 : decode cX1_aboveOf 10 = .ok (.istore_n 3, 1) := by decide +kernel
theorem dX1_aboveOf_11 : decode cX1_aboveOf 11 = .ok (.iload_n 3, 1) := by decide +kernel
theorem dX1_aboveOf_12 : decode cX1_aboveOf 12 = .ok (.ifCond .lt 30, 3) := by decide +kernel
theorem dX1_aboveOf_15 : decode cX1_aboveOf 15 = .ok (.iload_n 2, 1) := by decide +kernel
theorem dX1_aboveOf_16 : decode cX1_aboveOf 16 = .ok (.iload_n 2, 1) := by decide +kernel
theorem dX1_aboveOf_17 : decode cX1_aboveOf 17 = .ok (.iload_n 3, 1) := by decide +kernel
theorem dX1_aboveOf_18 : decode cX1_aboveOf 18 = .ok (.invokestatic 69, 3) := by decide +kernel
theorem dX1_aboveOf_21 : decode cX1_aboveOf 21 = .ok (.ifCond .eq 12, 3) := by decide +kernel
theorem dX1_aboveOf_24 : decode cX1_aboveOf 24 = .ok (.aload_n 0, 1) := by decide +kernel
theorem dX1_aboveOf_25 : decode cX1_aboveOf 25 = .ok (.getfield 26, 3) := by decide +kernel
theorem dX1_aboveOf_28 : decode cX1_aboveOf 28 = .ok (.iload_n 3, 1) := by decide +kernel
theorem dX1_aboveOf_29 : decode cX1_aboveOf 29 = .ok (.iaload, 1) := by decide +kernel
theorem dX1_aboveOf_30 : decode cX1_aboveOf 30 = .ok (.goto 4, 3) := by decide +kernel
theorem dX1_aboveOf_33 : decode cX1_aboveOf 33 = .ok (.iconst 0, 1) := by decide +kernel
theorem dX1_aboveOf_34 : decode cX1_aboveOf 34 = .ok (.ior, 1) := by decide +kernel
theorem dX1_aboveOf_35 : decode cX1_aboveOf 35 = .ok (.istore_n 2, 1) := by decide +kernel
theorem dX1_aboveOf_36 : decode cX1_aboveOf 36 = .ok (.iinc 3 (-1), 3) := by decide +kernel
theorem dX1_aboveOf_39 : decode cX1_aboveOf 39 = .ok (.goto (-28), 3) := by decide +kernel
theorem dX1_aboveOf_42 : decode cX1_aboveOf 42 = .ok (.iload_n 2, 1) := by decide +kernel
theorem dX1_aboveOf_43 : decode cX1_aboveOf 43 = .ok (.ireturn, 1) := by decide +kernel
set_option maxRecDepth 20000 in
theorem ggX1_belowOf_X1_has : GoodIn wsX1_belowOf wsX1_has := goodIn_r _ [6] (by decide +kernel) (by decide +kernel)
set_option maxRecDepth 20000 in
theorem gX1_belowOf_X1_has : GoodIn wsX1_belowOf (va_wsS RX1 69 yX1_has wsX1_has) := goodIn_app (goodIn_of _ (by decide +kernel)) ggX1_belowOf_X1_has
theorem dX1_belowOf_0 : decode cX1_belowOf 0 = .ok (.iconst 0, 1) := by decide +kernel
theorem dX1_belowOf_1 : decode cX1_belowOf 1 = .ok (.istore_n 2, 1) := by decide +kernel
theorem dX1_belowOf_2 : decode cX1_belowOf 2 = .ok (.iload_n 1, 1) := by decide +kernel
theorem dX1_belowOf_3 : decode cX1_belowOf 3 = .ok (.iconst 1, 1) := by decide +kernel
theorem dX1_belowOf_4 : decode cX1_belowOf 4 = .ok (.iadd, 1) := by decide +kernel
theorem dX1_belowOf_5 : decode cX1_belowOf 5 = .ok (.istore_n 3, 1) := by decide +kernel
theorem dX1_belowOf_6 : decode cX1_belowOf 6 = .ok (.iload_n 3, 1) := by decide +kernel
theorem dX1_belowOf_7 : decode cX1_belowOf 7 = .ok (.aload_n 0, 1) := by decide +kernel
theorem dX1_belowOf_8 : decode cX1_belowOf 8 = .ok (.getfield 55, 3) := by decide +kernel
theorem dX1_belowOf_11 : decode cX1_belowOf 11 = .ok (.if_icmp .ge 43, 3) := by decide +kernel
theorem dX1_belowOf_14 : decode cX1_belowOf 14 = .ok (.iload_n 2, 1) := by decide +kernel
theorem dX1_belowOf_15 : decode cX1_belowOf 15 = .ok (.aload_n 0, 1) := by decide +kernel
theorem dX1_belowOf_16 : decode cX1_belowOf 16 = .ok (.getfield 26, 3) := by decide +kernel
theorem dX1_belowOf_19 : decode cX1_belowOf 19 = .ok (.iload_n 3, 1) := by decide +kernel
theorem dX1_belowOf_20 : decode cX1_belowOf 20 = .ok (.iaload, 1) := by decide +kernel
theorem dX1_belowOf_21 : decode cX1_belowOf 21 = .ok (.iload_n 1, 1) := by decide +kernel
theorem dX1_belowOf_22 : decode cX1_belowOf 22 = .ok (.invokestatic 69, 3) := by decide +kernel
theorem dX1_belowOf_25 : decode cX1_belowOf 25 = .ok (.ifCond .ne 14, 3) := by decide +kernel
theorem dX1_belowOf_28 : decode cX1_belowOf 28 = .ok (.aload_n 0, 1) := by decide +kernel
theorem dX1_belowOf_29 : decode cX1_belowOf 29 = .ok (.getfield 26, 3) := by decide +kernel
theorem dX1_belowOf_32 : decode cX1_belowOf 32 = .ok (.iload_n 3, 1) := by decide +kernel
theorem dX1_belowOf_33 : decode cX1_belowOf 33 = .ok (.iaload, 1) := by decide +kernel
theorem dX1_belowOf_34 : decode cX1_belowOf 34 = .ok (.iload_n 2, 1) := by decide +kernel
theorem dX1_belowOf_35 : decode cX1_belowOf 35 = .ok (.iand, 1) := by decide +kernel
theorem dX1_belowOf_36 : decode cX1_belowOf 36 = .ok (.ifCond .eq 9, 3) := by decide +kernel
theorem dX1_belowOf_39 : decode cX1_belowOf 39 = .ok (.iconst 1, 1) := by decide +kernel
theorem dX1_belowOf_40 : decode cX1_belowOf 40 = .ok (.iload_n 3, 1) := by decide +kernel
theorem dX1_belowOf_41 : decode cX1_belowOf 41 = .ok (.ishl, 1) := by decide +kernel
theorem dX1_belowOf_42 : decode cX1_belowOf 42 = .ok (.goto 4, 3) := by decide +kernel
theorem dX1_belowOf_45 : decode cX1_belowOf 45 = .ok (.iconst 0, 1) := by decide +kernel
theorem dX1_belowOf_46 : decode cX1_belowOf 46 = .ok (.ior, 1) := by decide +kernel
theorem dX1_belowOf_47 : decode cX1_belowOf 47 = .ok (.istore_n 2, 1) := by decide +kernel
theorem dX1_belowOf_48 : decode cX1_belowOf 48 = .ok (.iinc 3 1, 3) := by decide +kernel
theorem dX1_belowOf_51 : decode cX1_belowOf 51 = .ok (.goto (-45), 3) := by decide +kernel
theorem dX1_belowOf_54 : decode cX1_belowOf 54 = .ok (.iload_n 2, 1) := by decide +kernel
theorem dX1_belowOf_55 : decode cX1_belowOf 55 = .ok (.ireturn, 1) := by decide +kernel
set_option maxRecDepth 20000 in
theorem ggX1_isAllowed_X1_has : GoodIn wsX1_isAllowed wsX1_has := goodIn_r _ [6] (by decide +kernel) (by decide +kernel)
set_option maxRecDepth 20000 in
theorem gX1_isAllowed_X1_has : GoodIn wsX1_isAllowed (va_wsS RX1 69 yX1_has wsX1_has) := goodIn_app (goodIn_of _ (by decide +kernel)) ggX1_isAllowed_X1_has
theorem dX1_isAllowed_0 : decode cX1_isAllowed 0 = .ok (.iconst 1, 1) := by decide +kernel
theorem dX1_isAllowed_1 : decode cX1_isAllowed 1 = .ok (.istore_n 3, 1) := by decide +kernel
theorem dX1_isAllowed_2 : decode cX1_isAllowed 2 = .ok (.iconst 0, 1) := by decide +kernel
theorem dX1_isAllowed_3 : decode cX1_isAllowed 3 = .ok (.istore 4, 2) := by decide +kernel
theorem dX1_isAllowed_5 : decode cX1_isAllowed 5 = .ok (.iload 4, 2) := by decide +kernel
theorem dX1_isAllowed_7 : decode cX1_isAllowed 7 = .ok (.bipush 12, 2) := by decide +kernel
theorem dX1_isAllowed_9 : decode cX1_isAllowed 9 = .ok (.if_icmp .ge 51, 3) := by decide +kernel
theorem dX1_isAllowed_12 : decode cX1_isAllowed 12 = .ok (.aload_n 0, 1) := by decide +kernel
theorem dX1_isAllowed_13 : decode cX1_isAllowed 13 = .ok (.getfield 13, 3) := by decide +kernel
theorem dX1_isAllowed_16 : decode cX1_isAllowed 16 = .ok (.iload_n 1, 1) := by decide +kernel
theorem dX1_isAllowed_17 : decode cX1_isAllowed 17 = .ok (.baload, 1) := by decide +kernel
theorem dX1_isAllowed_18 : decode cX1_isAllowed 18 = .ok (.ifCond .eq 42, 3) := by decide +kernel
theorem dX1_isAllowed_21 : decode cX1_isAllowed 21 = .ok (.iload_n 3, 1) := by decide +kernel
theorem dX1_isAllowed_22 : decode cX1_isAllowed 22 = .ok (.ifCond .eq 30, 3) := by decide +kernel
theorem dX1_isAllowed_25 : decode cX1_isAllowed 25 = .ok (.iload_n 2, 1) := by decide +kernel
theorem dX1_isAllowed_26 : decode cX1_isAllowed 26 = .ok (.iload 4, 2) := by decide +kernel
theorem dX1_isAllowed_28 : decode cX1_isAllowed 28 = .ok (.invokestatic 69, 3) := by decide +kernel
theorem dX1_isAllowed_31 : decode cX1_isAllowed 31 = .ok (.ifCond .eq 17, 3) := by decide +kernel
theorem dX1_isAllowed_34 : decode cX1_isAllowed 34 = .ok (.aload_n 0, 1) := by decide +kernel
theorem dX1_isAllowed_35 : decode cX1_isAllowed 35 = .ok (.getfield 17, 3) := by decide +kernel
theorem dX1_isAllowed_38 : decode cX1_isAllowed 38 = .ok (.iload 4, 2) := by decide +kernel
theorem dX1_isAllowed_40 : decode cX1_isAllowed 40 = .ok (.iaload, 1) := by decide +kernel
theorem dX1_isAllowed_41 : decode cX1_isAllowed 41 = .ok (.iload_n 1, 1) := by decide +kernel
theorem dX1_isAllowed_42 : decode cX1_isAllowed 42 = .ok (.invokestatic 69, 3) := by decide +kernel
theorem dX1_isAllowed_45 : decode cX1_isAllowed 45 = .ok (.ifCond .eq 7, 3) := by decide +kernel
theorem dX1_isAllowed_48 : decode cX1_isAllowed 48 = .ok (.iconst 1, 1) := by decide +kernel
theorem dX1_isAllowed_49 : decode cX1_isAllowed 49 = .ok (.goto 4, 3) := by decide +kernel
theorem dX1_isAllowed_52 : decode cX1_isAllowed 52 = .ok (.iconst 0, 1) := by decide +kernel
theorem dX1_isAllowed_53 : decode cX1_isAllowed 53 = .ok (.istore_n 3, 1) := by decide +kernel
theorem dX1_isAllowed_54 : decode cX1_isAllowed 54 = .ok (.iinc 4 1, 3) := by decide +kernel
theorem dX1_isAllowed_57 : decode cX1_isAllowed 57 = .ok (.goto (-52), 3) := by decide +kernel
theorem dX1_isAllowed_60 : decode cX1_isAllowed 60 = .ok (.iload_n 3, 1) := by decide +kernel
theorem dX1_isAllowed_61 : decode cX1_isAllowed 61 = .ok (.ireturn, 1) := by decide +kernel
set_option maxRecDepth 20000 in
theorem ggX1_endBy_X1_has : GoodIn wsX1_endBy wsX1_has := goodIn_r _ [6] (by decide +kernel) (by decide +kernel)
set_option maxRecDepth 20000 in
theorem gX1_endBy_X1_has : GoodIn wsX1_endBy (va_wsS RX1 69 yX1_has wsX1_has) := goodIn_app (goodIn_of _ (by decide +kernel)) ggX1_endBy_X1_has
set_option maxRecDepth 20000 in
theorem ggX1_endBy_X1_isAllowed : GoodIn wsX1_endBy wsX1_isAllowed := goodIn_r _ [10, 11, 12, 3, 4, 5, 6, 13, 14, 15, 16, 17, 18, 19, 20, 21, 22, 23, 24, 25, 26, 27] (by decide +kernel) (by decide +kernel)
set_option maxRecDepth 20000 in
theorem gX1_endBy_X1_isAllowed : GoodIn wsX1_endBy (wsV RX1 76 RX1 yX1_isAllowed wsX1_isAllowed) := goodIn_app (goodIn_of _ (by decide +kernel)) ggX1_endBy_X1_isAllowed
theorem dX1_endBy_0 : decode cX1_endBy 0 = .ok (.iload_n 3, 1) := by decide +kernel
theorem dX1_endBy_1 : decode cX1_endBy 1 = .ok (.istore 4, 2) := by decide +kernel
theorem dX1_endBy_3 : decode cX1_endBy 3 = .ok (.iconst 0, 1) := by decide +kernel
theorem dX1_endBy_4 : decode cX1_endBy 4 = .ok (.istore 5, 2) := by decide +kernel
theorem dX1_endBy_6 : decode cX1_endBy 6 = .ok (.iload 5, 2) := by decide +kernel
theorem dX1_endBy_8 : decode cX1_endBy 8 = .ok (.aload_n 0, 1) := by decide +kernel
theorem dX1_endBy_9 : decode cX1_endBy 9 = .ok (.getfield 52, 3) := by decide +kernel
theorem dX1_endBy_12 : decode cX1_endBy 12 = .ok (.if_icmp .ge 58, 3) := by decide +kernel
theorem dX1_endBy_15 : decode cX1_endBy 15 = .ok (.iload_n 1, 1) := by decide +kernel
theorem dX1_endBy_16 : decode cX1_endBy 16 = .ok (.iload 5, 2) := by decide +kernel
theorem dX1_endBy_18 : decode cX1_endBy 18 = .ok (.invokestatic 69, 3) := by decide +kernel
theorem dX1_endBy_21 : decode cX1_endBy 21 = .ok (.ifCond .eq 39, 3) := by decide +kernel
theorem dX1_endBy_24 : decode cX1_endBy 24 = .ok (.aload_n 0, 1) := by decide +kernel
theorem dX1_endBy_25 : decode cX1_endBy 25 = .ok (.iload 5, 2) := by decide +kernel
theorem dX1_endBy_27 : decode cX1_endBy 27 = .ok (.iload_n 2, 1) := by decide +kernel
theorem dX1_endBy_28 : decode cX1_endBy 28 = .ok (.invokevirtual 76, 3) := by decide +kernel
theorem dX1_endBy_31 : decode cX1_endBy 31 = .ok (.ifCond .eq 29, 3) := by decide +kernel
theorem dX1_endBy_34 : decode cX1_endBy 34 = .ok (.iload_n 3, 1) := by decide +kernel
theorem dX1_endBy_35 : decode cX1_endBy 35 = .ok (.aload_n 0, 1) := by decide +kernel
theorem dX1_endBy_36 : decode cX1_endBy 36 = .ok (.getfield 7, 3) := by decide +kernel
theorem dX1_endBy_39 : decode cX1_endBy 39 = .ok (.iload 5, 2) := by decide +kernel
theorem dX1_endBy_41 : decode cX1_endBy 41 = .ok (.iaload, 1) := by decide +kernel
theorem dX1_endBy_42 : decode cX1_endBy 42 = .ok (.iadd, 1) := by decide +kernel
theorem dX1_endBy_43 : decode cX1_endBy 43 = .ok (.iload 4, 2) := by decide +kernel
theorem dX1_endBy_45 : decode cX1_endBy 45 = .ok (.if_icmp .le 15, 3) := by decide +kernel
theorem dX1_endBy_48 : decode cX1_endBy 48 = .ok (.iload_n 3, 1) := by decide +kernel
theorem dX1_endBy_49 : decode cX1_endBy 49 = .ok (.aload_n 0, 1) := by decide +kernel
theorem dX1_endBy_50 : decode cX1_endBy 50 = .ok (.getfield 7, 3) := by decide +kernel
theorem dX1_endBy_53 : decode cX1_endBy 53 = .ok (.iload 5, 2) := by decide +kernel
theorem dX1_endBy_55 : decode cX1_endBy 55 = .ok (.iaload, 1) := by decide +kernel
theorem dX1_endBy_56 : decode cX1_endBy 56 = .ok (.iadd, 1) := by decide +kernel
theorem dX1_endBy_57 : decode cX1_endBy 57 = .ok (.goto 5, 3) := by decide +kernel
theorem dX1_endBy_60 : decode cX1_endBy 60 = .ok (.iload 4, 2) := by decide +kernel
theorem dX1_endBy_62 : decode cX1_endBy 62 = .ok (.istore 4, 2) := by decide +kernel
theorem dX1_endBy_64 : decode cX1_endBy 64 = .ok (.iinc 5 1, 3) := by decide +kernel
theorem dX1_endBy_67 : decode cX1_endBy 67 = .ok (.goto (-61), 3) := by decide +kernel
theorem dX1_endBy_70 : decode cX1_endBy 70 = .ok (.iload 4, 2) := by decide +kernel
theorem dX1_endBy_72 : decode cX1_endBy 72 = .ok (.ireturn, 1) := by decide +kernel
set_option maxRecDepth 20000 in
theorem ggX1_end_X1_subjects : GoodIn wsX1_end wsX1_subjects := goodIn_r _ [7, 8, 9, 10, 11, 12, 6, 13, 14, 15, 16, 29, 30, 31, 32, 33, 34, 35, 36, 37, 38, 39, 40, 41, 42, 43] (by decide +kernel) (by decide +kernel)
set_option maxRecDepth 20000 in
theorem gX1_end_X1_subjects : GoodIn wsX1_end (wsV RX1 79 RX1 yX1_subjects wsX1_subjects) := goodIn_app (goodIn_of _ (by decide +kernel)) ggX1_end_X1_subjects
set_option maxRecDepth 20000 in
theorem ggX1_end_X1_endBy : GoodIn wsX1_end wsX1_endBy := goodIn_r _ [20, 21, 22, 14, 15, 6, 16, 23, 24, 25, 26, 27, 28, 29, 30, 31, 32, 33, 34, 35, 36, 37, 38, 39, 40, 41, 42, 43] (by decide +kernel) (by decide +kernel)
set_option maxRecDepth 20000 in
theorem gX1_end_X1_endBy : GoodIn wsX1_end (wsV RX1 82 RX1 yX1_endBy wsX1_endBy) := goodIn_app (goodIn_of _ (by decide +kernel)) ggX1_end_X1_endBy
theorem dX1_end_0 : decode cX1_end 0 = .ok (.aload_n 0, 1) := by decide +kernel
theorem dX1_end_1 : decode cX1_end 1 = .ok (.aload_n 0, 1) := by decide +kernel
theorem dX1_end_2 : decode cX1_end 2 = .ok (.getfield 29, 3) := by decide +kernel
theorem dX1_end_5 : decode cX1_end 5 = .ok (.iload_n 1, 1) := by decide +kernel
theorem dX1_end_6 : decode cX1_end 6 = .ok (.iaload, 1) := by decide +kernel
theorem dX1_end_7 : decode cX1_end 7 = .ok (.aload_n 0, 1) := by decide +kernel
theorem dX1_end_8 : decode cX1_end 8 = .ok (.iload_n 1, 1) := by decide +kernel
theorem dX1_end_9 : decode cX1_end 9 = .ok (.invokevirtual 79, 3) := by decide +kernel
theorem dX1_end_12 : decode cX1_end 12 = .ok (.aload_n 0, 1) := by decide +kernel
theorem dX1_end_13 : decode cX1_end 13 = .ok (.getfield 32, 3) := by decide +kernel
theorem dX1_end_16 : decode cX1_end 16 = .ok (.iload_n 1, 1) := by decide +kernel
theorem dX1_end_17 : decode cX1_end 17 = .ok (.iaload, 1) := by decide +kernel
theorem dX1_end_18 : decode cX1_end 18 = .ok (.invokevirtual 82, 3) := by decide +kernel
theorem dX1_end_21 : decode cX1_end 21 = .ok (.ireturn, 1) := by decide +kernel
theorem dX1_lays_0 : decode cX1_lays 0 = .ok (.aload_n 0, 1) := by decide +kernel
theorem dX1_lays_1 : decode cX1_lays 1 = .ok (.getfield 23, 3) := by decide +kernel
theorem dX1_lays_4 : decode cX1_lays 4 = .ok (.aload_n 0, 1) := by decide +kernel
theorem dX1_lays_5 : decode cX1_lays 5 = .ok (.getfield 55, 3) := by decide +kernel
theorem dX1_lays_8 : decode cX1_lays 8 = .ok (.iload_n 1, 1) := by decide +kernel
theorem dX1_lays_9 : decode cX1_lays 9 = .ok (.iastore, 1) := by decide +kernel
theorem dX1_lays_10 : decode cX1_lays 10 = .ok (.aload_n 0, 1) := by decide +kernel
theorem dX1_lays_11 : decode cX1_lays 11 = .ok (.getfield 26, 3) := by decide +kernel
theorem dX1_lays_14 : decode cX1_lays 14 = .ok (.aload_n 0, 1) := by decide +kernel
theorem dX1_lays_15 : decode cX1_lays 15 = .ok (.getfield 55, 3) := by decide +kernel
theorem dX1_lays_18 : decode cX1_lays 18 = .ok (.iload_n 2, 1) := by decide +kernel
theorem dX1_lays_19 : decode cX1_lays 19 = .ok (.iastore, 1) := by decide +kernel
theorem dX1_lays_20 : decode cX1_lays 20 = .ok (.aload_n 0, 1) := by decide +kernel
theorem dX1_lays_21 : decode cX1_lays 21 = .ok (.getfield 29, 3) := by decide +kernel
theorem dX1_lays_24 : decode cX1_lays 24 = .ok (.aload_n 0, 1) := by decide +kernel
theorem dX1_lays_25 : decode cX1_lays 25 = .ok (.getfield 55, 3) := by decide +kernel
theorem dX1_lays_28 : decode cX1_lays 28 = .ok (.iload_n 3, 1) := by decide +kernel
theorem dX1_lays_29 : decode cX1_lays 29 = .ok (.iastore, 1) := by decide +kernel
theorem dX1_lays_30 : decode cX1_lays 30 = .ok (.aload_n 0, 1) := by decide +kernel
theorem dX1_lays_31 : decode cX1_lays 31 = .ok (.getfield 32, 3) := by decide +kernel
theorem dX1_lays_34 : decode cX1_lays 34 = .ok (.aload_n 0, 1) := by decide +kernel
theorem dX1_lays_35 : decode cX1_lays 35 = .ok (.getfield 55, 3) := by decide +kernel
theorem dX1_lays_38 : decode cX1_lays 38 = .ok (.aload_n 0, 1) := by decide +kernel
theorem dX1_lays_39 : decode cX1_lays 39 = .ok (.getfield 86, 3) := by decide +kernel
theorem dX1_lays_42 : decode cX1_lays 42 = .ok (.iastore, 1) := by decide +kernel
theorem dX1_lays_43 : decode cX1_lays 43 = .ok (.aload_n 0, 1) := by decide +kernel
theorem dX1_lays_44 : decode cX1_lays 44 = .ok (.getfield 35, 3) := by decide +kernel
theorem dX1_lays_47 : decode cX1_lays 47 = .ok (.aload_n 0, 1) := by decide +kernel
theorem dX1_lays_48 : decode cX1_lays 48 = .ok (.getfield 55, 3) := by decide +kernel
theorem dX1_lays_51 : decode cX1_lays 51 = .ok (.iconst 0, 1) := by decide +kernel
theorem dX1_lays_52 : decode cX1_lays 52 = .ok (.iastore, 1) := by decide +kernel
theorem dX1_lays_53 : decode cX1_lays 53 = .ok (.aload_n 0, 1) := by decide +kernel
theorem dX1_lays_54 : decode cX1_lays 54 = .ok (.dup, 1) := by decide +kernel
theorem dX1_lays_55 : decode cX1_lays 55 = .ok (.getfield 55, 3) := by decide +kernel
theorem dX1_lays_58 : decode cX1_lays 58 = .ok (.iconst 1, 1) := by decide +kernel
theorem dX1_lays_59 : decode cX1_lays 59 = .ok (.iadd, 1) := by decide +kernel
theorem dX1_lays_60 : decode cX1_lays 60 = .ok (.putfield 55, 3) := by decide +kernel
theorem dX1_lays_63 : decode cX1_lays 63 = .ok (.aload_n 0, 1) := by decide +kernel
theorem dX1_lays_64 : decode cX1_lays 64 = .ok (.getfield 55, 3) := by decide +kernel
theorem dX1_lays_67 : decode cX1_lays 67 = .ok (.iconst 1, 1) := by decide +kernel
theorem dX1_lays_68 : decode cX1_lays 68 = .ok (.isub, 1) := by decide +kernel
theorem dX1_lays_69 : decode cX1_lays 69 = .ok (.ireturn, 1) := by decide +kernel
set_option maxRecDepth 20000 in
theorem ggX1_add_X1_isSubject : GoodIn wsX1_add wsX1_isSubject := goodIn_r _ [7, 8, 9, 6, 10] (by decide +kernel) (by decide +kernel)
set_option maxRecDepth 20000 in
theorem gX1_add_X1_isSubject : GoodIn wsX1_add (va_wsS RX1 66 yX1_isSubject wsX1_isSubject) := goodIn_app (goodIn_of _ (by decide +kernel)) ggX1_add_X1_isSubject
set_option maxRecDepth 20000 in
theorem ggX1_add_X1_isSet : GoodIn wsX1_add wsX1_isSet := goodIn_r _ [14, 15, 8, 9, 6, 10, 43, 44, 45, 46, 47, 48, 49, 50, 51, 52, 53, 54, 55, 56, 57] (by decide +kernel) (by decide +kernel)
set_option maxRecDepth 20000 in
theorem gX1_add_X1_isSet : GoodIn wsX1_add (wsV RX1 89 RX1 yX1_isSet wsX1_isSet) := goodIn_app (goodIn_of _ (by decide +kernel)) ggX1_add_X1_isSet
set_option maxRecDepth 20000 in
theorem ggX1_add_X1_fails : GoodIn wsX1_add wsX1_fails := goodIn_r _ [19, 1, 43, 44, 45, 46, 47, 48, 49, 50, 51, 52, 53, 54, 55, 56, 57] (by decide +kernel) (by decide +kernel)
set_option maxRecDepth 20000 in
theorem gX1_add_X1_fails : GoodIn wsX1_add (wsV RX1 58 RX1 yX1_fails wsX1_fails) := goodIn_app (goodIn_of _ (by decide +kernel)) ggX1_add_X1_fails
set_option maxRecDepth 20000 in
theorem ggX1_add_X1_endBy : GoodIn wsX1_add wsX1_endBy := goodIn_r _ [23, 15, 24, 25, 26, 6, 27, 28, 29, 30, 31, 32, 33, 43, 44, 45, 46, 47, 48, 49, 50, 51, 52, 53, 54, 55, 56, 57] (by decide +kernel) (by decide +kernel)
set_option maxRecDepth 20000 in
theorem gX1_add_X1_endBy : GoodIn wsX1_add (wsV RX1 82 RX1 yX1_endBy wsX1_endBy) := goodIn_app (goodIn_of _ (by decide +kernel)) ggX1_add_X1_endBy
set_option maxRecDepth 20000 in
theorem ggX1_add_X1_lays : GoodIn wsX1_add wsX1_lays := goodIn_r _ [37, 38, 2, 39, 40, 41, 3, 42, 43, 44, 45, 46, 47, 48, 49, 50, 51, 52, 53, 54, 55, 56, 57] (by decide +kernel) (by decide +kernel)
set_option maxRecDepth 20000 in
theorem gX1_add_X1_lays : GoodIn wsX1_add (wsV RX1 92 RX1 yX1_lays wsX1_lays) := goodIn_app (goodIn_of _ (by decide +kernel)) ggX1_add_X1_lays
theorem dX1_add_0 : decode cX1_add 0 = .ok (.aload_n 0, 1) := by decide +kernel
theorem dX1_add_1 : decode cX1_add 1 = .ok (.iconst 0, 1) := by decide +kernel
theorem dX1_add_2 : decode cX1_add 2 = .ok (.putfield 44, 3) := by decide +kernel
theorem dX1_add_5 : decode cX1_add 5 = .ok (.iload_n 1, 1) := by decide +kernel
theorem dX1_add_6 : decode cX1_add 6 = .ok (.invokestatic 66, 3) := by decide +kernel
theorem dX1_add_9 : decode cX1_add 9 = .ok (.ifCond .eq 11, 3) := by decide +kernel
theorem dX1_add_12 : decode cX1_add 12 = .ok (.aload_n 0, 1) := by decide +kernel
theorem dX1_add_13 : decode cX1_add 13 = .ok (.iload_n 2, 1) := by decide +kernel
theorem dX1_add_14 : decode cX1_add 14 = .ok (.invokevirtual 89, 3) := by decide +kernel
theorem dX1_add_17 : decode cX1_add 17 = .ok (.ifCond .ne 9, 3) := by decide +kernel
theorem dX1_add_20 : decode cX1_add 20 = .ok (.aload_n 0, 1) := by decide +kernel
theorem dX1_add_21 : decode cX1_add 21 = .ok (.iconst 1, 1) := by decide +kernel
theorem dX1_add_22 : decode cX1_add 22 = .ok (.invokevirtual 58, 3) := by decide +kernel
theorem dX1_add_25 : decode cX1_add 25 = .ok (.ireturn, 1) := by decide +kernel
theorem dX1_add_26 : decode cX1_add 26 = .ok (.iload_n 2, 1) := by decide +kernel
theorem dX1_add_27 : decode cX1_add 27 = .ok (.ifCond .ne 9, 3) := by decide +kernel
theorem dX1_add_30 : decode cX1_add 30 = .ok (.aload_n 0, 1) := by decide +kernel
theorem dX1_add_31 : decode cX1_add 31 = .ok (.iconst 2, 1) := by decide +kernel
theorem dX1_add_32 : decode cX1_add 32 = .ok (.invokevirtual 58, 3) := by decide +kernel
theorem dX1_add_35 : decode cX1_add 35 = .ok (.ireturn, 1) := by decide +kernel
theorem dX1_add_36 : decode cX1_add 36 = .ok (.aload_n 0, 1) := by decide +kernel
theorem dX1_add_37 : decode cX1_add 37 = .ok (.getfield 55, 3) := by decide +kernel
theorem dX1_add_40 : decode cX1_add 40 = .ok (.bipush 30, 2) := by decide +kernel
theorem dX1_add_42 : decode cX1_add 42 = .ok (.if_icmp .eq 22, 3) := by decide +kernel
theorem dX1_add_45 : decode cX1_add 45 = .ok (.aload_n 0, 1) := by decide +kernel
theorem dX1_add_46 : decode cX1_add 46 = .ok (.iload_n 2, 1) := by decide +kernel
theorem dX1_add_47 : decode cX1_add 47 = .ok (.iconst 1, 1) := by decide +kernel
theorem dX1_add_48 : decode cX1_add 48 = .ok (.iload_n 1, 1) := by decide +kernel
theorem dX1_add_49 : decode cX1_add 49 = .ok (.ishl, 1) := by decide +kernel
theorem dX1_add_50 : decode cX1_add 50 = .ok (.aload_n 0, 1) := by decide +kernel
theorem dX1_add_51 : decode cX1_add 51 = .ok (.getfield 86, 3) := by decide +kernel
theorem dX1_add_54 : decode cX1_add 54 = .ok (.invokevirtual 82, 3) := by decide +kernel
theorem dX1_add_57 : decode cX1_add 57 = .ok (.aload_n 0, 1) := by decide +kernel
theorem dX1_add_58 : decode cX1_add 58 = .ok (.getfield 86, 3) := by decide +kernel
theorem dX1_add_61 : decode cX1_add 61 = .ok (.if_icmp .gt 9, 3) := by decide +kernel
theorem dX1_add_64 : decode cX1_add 64 = .ok (.aload_n 0, 1) := by decide +kernel
theorem dX1_add_65 : decode cX1_add 65 = .ok (.iconst 3, 1) := by decide +kernel
theorem dX1_add_66 : decode cX1_add 66 = .ok (.invokevirtual 58, 3) := by decide +kernel
theorem dX1_add_69 : decode cX1_add 69 = .ok (.ireturn, 1) := by decide +kernel
theorem dX1_add_70 : decode cX1_add 70 = .ok (.aload_n 0, 1) := by decide +kernel
theorem dX1_add_71 : decode cX1_add 71 = .ok (.iload_n 1, 1) := by decide +kernel
theorem dX1_add_72 : decode cX1_add 72 = .ok (.iconst 0, 1) := by decide +kernel
theorem dX1_add_73 : decode cX1_add 73 = .ok (.iload_n 2, 1) := by decide +kernel
theorem dX1_add_74 : decode cX1_add 74 = .ok (.invokevirtual 92, 3) := by decide +kernel
theorem dX1_add_77 : decode cX1_add 77 = .ok (.ireturn, 1) := by decide +kernel
set_option maxRecDepth 20000 in
theorem ggX1_derive_X1_isRecord : GoodIn wsX1_derive wsX1_isRecord := goodIn_r _ [9, 2, 10, 11, 8, 12, 52, 53, 54, 55, 56, 57, 58, 59, 60, 61, 62, 63, 64, 65, 66] (by decide +kernel) (by decide +kernel)
set_option maxRecDepth 20000 in
theorem gX1_derive_X1_isRecord : GoodIn wsX1_derive (wsV RX1 95 RX1 yX1_isRecord wsX1_isRecord) := goodIn_app (goodIn_of _ (by decide +kernel)) ggX1_derive_X1_isRecord
set_option maxRecDepth 20000 in
theorem ggX1_derive_X1_isSet : GoodIn wsX1_derive wsX1_isSet := goodIn_r _ [16, 17, 10, 11, 8, 12, 52, 53, 54, 55, 56, 57, 58, 59, 60, 61, 62, 63, 64, 65, 66] (by decide +kernel) (by decide +kernel)
set_option maxRecDepth 20000 in
theorem gX1_derive_X1_isSet : GoodIn wsX1_derive (wsV RX1 89 RX1 yX1_isSet wsX1_isSet) := goodIn_app (goodIn_of _ (by decide +kernel)) ggX1_derive_X1_isSet
set_option maxRecDepth 20000 in
theorem ggX1_derive_X1_fails : GoodIn wsX1_derive wsX1_fails := goodIn_r _ [21, 1, 52, 53, 54, 55, 56, 57, 58, 59, 60, 61, 62, 63, 64, 65, 66] (by decide +kernel) (by decide +kernel)
set_option maxRecDepth 20000 in
theorem gX1_derive_X1_fails : GoodIn wsX1_derive (wsV RX1 58 RX1 yX1_fails wsX1_fails) := goodIn_app (goodIn_of _ (by decide +kernel)) ggX1_derive_X1_fails
set_option maxRecDepth 20000 in
theorem ggX1_derive_X1_subjects : GoodIn wsX1_derive wsX1_subjects := goodIn_r _ [25, 26, 27, 28, 29, 30, 8, 31, 32, 33, 34, 52, 53, 54, 55, 56, 57, 58, 59, 60, 61, 62, 63, 64, 65, 66] (by decide +kernel) (by decide +kernel)
set_option maxRecDepth 20000 in
theorem gX1_derive_X1_subjects : GoodIn wsX1_derive (wsV RX1 79 RX1 yX1_subjects wsX1_subjects) := goodIn_app (goodIn_of _ (by decide +kernel)) ggX1_derive_X1_subjects
set_option maxRecDepth 20000 in
theorem ggX1_derive_X1_endBy : GoodIn wsX1_derive wsX1_endBy := goodIn_r _ [38, 17, 39, 32, 33, 8, 34, 40, 41, 42, 43, 44, 45, 52, 53, 54, 55, 56, 57, 58, 59, 60, 61, 62, 63, 64, 65, 66] (by decide +kernel) (by decide +kernel)
set_option maxRecDepth 20000 in
theorem gX1_derive_X1_endBy : GoodIn wsX1_derive (wsV RX1 82 RX1 yX1_endBy wsX1_endBy) := goodIn_app (goodIn_of _ (by decide +kernel)) ggX1_derive_X1_endBy
set_option maxRecDepth 20000 in
theorem ggX1_derive_X1_lays : GoodIn wsX1_derive wsX1_lays := goodIn_r _ [49, 27, 2, 26, 50, 51, 4, 3, 52, 53, 54, 55, 56, 57, 58, 59, 60, 61, 62, 63, 64, 65, 66] (by decide +kernel) (by decide +kernel)
set_option maxRecDepth 20000 in
theorem gX1_derive_X1_lays : GoodIn wsX1_derive (wsV RX1 92 RX1 yX1_lays wsX1_lays) := goodIn_app (goodIn_of _ (by decide +kernel)) ggX1_derive_X1_lays
theorem dX1_derive_0 : decode cX1_derive 0 = .ok (.aload_n 0, 1) := by decide +kernel
theorem dX1_derive_1 : decode cX1_derive 1 = .ok (.iconst 0, 1) := by decide +kernel
theorem dX1_derive_2 : decode cX1_derive 2 = .ok (.putfield 44, 3) := by decide +kernel
theorem dX1_derive_5 : decode cX1_derive 5 = .ok (.aload_n 0, 1) := by decide +kernel
theorem dX1_derive_6 : decode cX1_derive 6 = .ok (.iload_n 1, 1) := by decide +kernel
theorem dX1_derive_7 : decode cX1_derive 7 = .ok (.invokevirtual 95, 3) := by decide +kernel
theorem dX1_derive_10 : decode cX1_derive 10 = .ok (.ifCond .eq 11, 3) := by decide +kernel
theorem dX1_derive_13 : decode cX1_derive 13 = .ok (.aload_n 0, 1) := by decide +kernel
theorem dX1_derive_14 : decode cX1_derive 14 = .ok (.iload_n 2, 1) := by decide +kernel
theorem dX1_derive_15 : decode cX1_derive 15 = .ok (.invokevirtual 89, 3) := by decide +kernel
theorem dX1_derive_18 : decode cX1_derive 18 = .ok (.ifCond .ne 9, 3) := by decide +kernel
theorem dX1_derive_21 : decode cX1_derive 21 = .ok (.aload_n 0, 1) := by decide +kernel
theorem dX1_derive_22 : decode cX1_derive 22 = .ok (.iconst 1, 1) := by decide +kernel
theorem dX1_derive_23 : decode cX1_derive 23 = .ok (.invokevirtual 58, 3) := by decide +kernel
theorem dX1_derive_26 : decode cX1_derive 26 = .ok (.ireturn, 1) := by decide +kernel
theorem dX1_derive_27 : decode cX1_derive 27 = .ok (.iload_n 2, 1) := by decide +kernel
theorem dX1_derive_28 : decode cX1_derive 28 = .ok (.ifCond .ne 9, 3) := by decide +kernel
theorem dX1_derive_31 : decode cX1_derive 31 = .ok (.aload_n 0, 1) := by decide +kernel
theorem dX1_derive_32 : decode cX1_derive 32 = .ok (.iconst 2, 1) := by decide +kernel
theorem dX1_derive_33 : decode cX1_derive 33 = .ok (.invokevirtual 58, 3) := by decide +kernel
theorem dX1_derive_36 : decode cX1_derive 36 = .ok (.ireturn, 1) := by decide +kernel
theorem dX1_derive_37 : decode cX1_derive 37 = .ok (.aload_n 0, 1) := by decide +kernel
theorem dX1_derive_38 : decode cX1_derive 38 = .ok (.getfield 55, 3) := by decide +kernel
theorem dX1_derive_41 : decode cX1_derive 41 = .ok (.bipush 30, 2) := by decide +kernel
theorem dX1_derive_43 : decode cX1_derive 43 = .ok (.if_icmp .eq 33, 3) := by decide +kernel
theorem dX1_derive_46 : decode cX1_derive 46 = .ok (.aload_n 0, 1) := by decide +kernel
theorem dX1_derive_47 : decode cX1_derive 47 = .ok (.getfield 35, 3) := by decide +kernel
theorem dX1_derive_50 : decode cX1_derive 50 = .ok (.iload_n 1, 1) := by decide +kernel
theorem dX1_derive_51 : decode cX1_derive 51 = .ok (.iaload, 1) := by decide +kernel
theorem dX1_derive_52 : decode cX1_derive 52 = .ok (.ifCond .ne 24, 3) := by decide +kernel
theorem dX1_derive_55 : decode cX1_derive 55 = .ok (.aload_n 0, 1) := by decide +kernel
theorem dX1_derive_56 : decode cX1_derive 56 = .ok (.iload_n 2, 1) := by decide +kernel
theorem dX1_derive_57 : decode cX1_derive 57 = .ok (.aload_n 0, 1) := by decide +kernel
theorem dX1_derive_58 : decode cX1_derive 58 = .ok (.iload_n 1, 1) := by decide +kernel
theorem dX1_derive_59 : decode cX1_derive 59 = .ok (.invokevirtual 79, 3) := by decide +kernel
theorem dX1_derive_62 : decode cX1_derive 62 = .ok (.aload_n 0, 1) := by decide +kernel
theorem dX1_derive_63 : decode cX1_derive 63 = .ok (.getfield 86, 3) := by decide +kernel
theorem dX1_derive_66 : decode cX1_derive 66 = .ok (.invokevirtual 82, 3) := by decide +kernel
theorem dX1_derive_69 : decode cX1_derive 69 = .ok (.aload_n 0, 1) := by decide +kernel
theorem dX1_derive_70 : decode cX1_derive 70 = .ok (.getfield 86, 3) := by decide +kernel
theorem dX1_derive_73 : decode cX1_derive 73 = .ok (.if_icmp .gt 9, 3) := by decide +kernel
theorem dX1_derive_76 : decode cX1_derive 76 = .ok (.aload_n 0, 1) := by decide +kernel
theorem dX1_derive_77 : decode cX1_derive 77 = .ok (.iconst 3, 1) := by decide +kernel
theorem dX1_derive_78 : decode cX1_derive 78 = .ok (.invokevirtual 58, 3) := by decide +kernel
theorem dX1_derive_81 : decode cX1_derive 81 = .ok (.ireturn, 1) := by decide +kernel
theorem dX1_derive_82 : decode cX1_derive 82 = .ok (.aload_n 0, 1) := by decide +kernel
theorem dX1_derive_83 : decode cX1_derive 83 = .ok (.iconst (-1), 1) := by decide +kernel
theorem dX1_derive_84 : decode cX1_derive 84 = .ok (.iconst 1, 1) := by decide +kernel
theorem dX1_derive_85 : decode cX1_derive 85 = .ok (.iload_n 1, 1) := by decide +kernel
theorem dX1_derive_86 : decode cX1_derive 86 = .ok (.ishl, 1) := by decide +kernel
theorem dX1_derive_87 : decode cX1_derive 87 = .ok (.iload_n 2, 1) := by decide +kernel
theorem dX1_derive_88 : decode cX1_derive 88 = .ok (.invokevirtual 92, 3) := by decide +kernel
theorem dX1_derive_91 : decode cX1_derive 91 = .ok (.ireturn, 1) := by decide +kernel
set_option maxRecDepth 20000 in
theorem ggX1_addSource_X1_isRecord : GoodIn wsX1_addSource wsX1_isRecord := goodIn_r _ [8, 9, 10, 11, 7, 12, 32, 33, 34, 35, 36, 37, 38, 39, 40, 41, 42, 43, 44, 45, 46] (by decide +kernel) (by decide +kernel)
set_option maxRecDepth 20000 in
theorem gX1_addSource_X1_isRecord : GoodIn wsX1_addSource (wsV RX1 95 RX1 yX1_isRecord wsX1_isRecord) := goodIn_app (goodIn_of _ (by decide +kernel)) ggX1_addSource_X1_isRecord
set_option maxRecDepth 20000 in
theorem ggX1_addSource_X1_fails : GoodIn wsX1_addSource wsX1_fails := goodIn_r _ [16, 1, 32, 33, 34, 35, 36, 37, 38, 39, 40, 41, 42, 43, 44, 45, 46] (by decide +kernel) (by decide +kernel)
set_option maxRecDepth 20000 in
theorem gX1_addSource_X1_fails : GoodIn wsX1_addSource (wsV RX1 58 RX1 yX1_fails wsX1_fails) := goodIn_app (goodIn_of _ (by decide +kernel)) ggX1_addSource_X1_fails
set_option maxRecDepth 20000 in
theorem ggX1_addSource_X1_has : GoodIn wsX1_addSource wsX1_has := goodIn_r _ [19] (by decide +kernel) (by decide +kernel)
set_option maxRecDepth 20000 in
theorem gX1_addSource_X1_has : GoodIn wsX1_addSource (va_wsS RX1 69 yX1_has wsX1_has) := goodIn_app (goodIn_of _ (by decide +kernel)) ggX1_addSource_X1_has
set_option maxRecDepth 20000 in
theorem ggX1_addSource_X1_subjects : GoodIn wsX1_addSource wsX1_subjects := goodIn_r _ [23, 2, 24, 25, 26, 27, 7, 28, 17, 18, 19, 32, 33, 34, 35, 36, 37, 38, 39, 40, 41, 42, 43, 44, 45, 46] (by decide +kernel) (by decide +kernel)
set_option maxRecDepth 20000 in
theorem gX1_addSource_X1_subjects : GoodIn wsX1_addSource (wsV RX1 79 RX1 yX1_subjects wsX1_subjects) := goodIn_app (goodIn_of _ (by decide +kernel)) ggX1_addSource_X1_subjects
set_option maxRecDepth 20000 in
theorem ggX1_addSource_X1_sizeOf : GoodIn wsX1_addSource wsX1_sizeOf := goodIn_r _ [31] (by decide +kernel) (by decide +kernel)
set_option maxRecDepth 20000 in
theorem gX1_addSource_X1_sizeOf : GoodIn wsX1_addSource (va_wsS RX1 98 yX1_sizeOf wsX1_sizeOf) := goodIn_app (goodIn_of _ (by decide +kernel)) ggX1_addSource_X1_sizeOf
theorem dX1_addSource_0 : decode cX1_addSource 0 = .ok (.aload_n 0, 1) := by decide +kernel
theorem dX1_addSource_1 : decode cX1_addSource 1 = .ok (.iconst 0, 1) := by decide +kernel
theorem dX1_addSource_2 : decode cX1_addSource 2 = .ok (.putfield 44, 3) := by decide +kernel
theorem dX1_addSource_5 : decode cX1_addSource 5 = .ok (.aload_n 0, 1) := by decide +kernel
theorem dX1_addSource_6 : decode cX1_addSource 6 = .ok (.iload_n 1, 1) := by decide +kernel
theorem dX1_addSource_7 : decode cX1_addSource 7 = .ok (.invokevirtual 95, 3) := by decide +kernel
theorem dX1_addSource_10 : decode cX1_addSource 10 = .ok (.ifCond .eq 11, 3) := by decide +kernel
theorem dX1_addSource_13 : decode cX1_addSource 13 = .ok (.aload_n 0, 1) := by decide +kernel
theorem dX1_addSource_14 : decode cX1_addSource 14 = .ok (.iload_n 2, 1) := by decide +kernel
theorem dX1_addSource_15 : decode cX1_addSource 15 = .ok (.invokevirtual 95, 3) := by decide +kernel
theorem dX1_addSource_18 : decode cX1_addSource 18 = .ok (.ifCond .ne 9, 3) := by decide +kernel
theorem dX1_addSource_21 : decode cX1_addSource 21 = .ok (.aload_n 0, 1) := by decide +kernel
theorem dX1_addSource_22 : decode cX1_addSource 22 = .ok (.iconst 1, 1) := by decide +kernel
theorem dX1_addSource_23 : decode cX1_addSource 23 = .ok (.invokevirtual 58, 3) := by decide +kernel
theorem dX1_addSource_26 : decode cX1_addSource 26 = .ok (.ireturn, 1) := by decide +kernel
theorem dX1_addSource_27 : decode cX1_addSource 27 = .ok (.iload_n 2, 1) := by decide +kernel
theorem dX1_addSource_28 : decode cX1_addSource 28 = .ok (.iload_n 1, 1) := by decide +kernel
theorem dX1_addSource_29 : decode cX1_addSource 29 = .ok (.if_icmp .ge 16, 3) := by decide +kernel
theorem dX1_addSource_32 : decode cX1_addSource 32 = .ok (.aload_n 0, 1) := by decide +kernel
theorem dX1_addSource_33 : decode cX1_addSource 33 = .ok (.getfield 26, 3) := by decide +kernel
theorem dX1_addSource_36 : decode cX1_addSource 36 = .ok (.iload_n 1, 1) := by decide +kernel
theorem dX1_addSource_37 : decode cX1_addSource 37 = .ok (.iaload, 1) := by decide +kernel
theorem dX1_addSource_38 : decode cX1_addSource 38 = .ok (.iload_n 2, 1) := by decide +kernel
theorem dX1_addSource_39 : decode cX1_addSource 39 = .ok (.invokestatic 69, 3) := by decide +kernel
theorem dX1_addSource_42 : decode cX1_addSource 42 = .ok (.ifCond .eq 9, 3) := by decide +kernel
theorem dX1_addSource_45 : decode cX1_addSource 45 = .ok (.aload_n 0, 1) := by decide +kernel
theorem dX1_addSource_46 : decode cX1_addSource 46 = .ok (.iconst 2, 1) := by decide +kernel
theorem dX1_addSource_47 : decode cX1_addSource 47 = .ok (.invokevirtual 58, 3) := by decide +kernel
theorem dX1_addSource_50 : decode cX1_addSource 50 = .ok (.ireturn, 1) := by decide +kernel
theorem dX1_addSource_51 : decode cX1_addSource 51 = .ok (.aload_n 0, 1) := by decide +kernel
theorem dX1_addSource_52 : decode cX1_addSource 52 = .ok (.getfield 26, 3) := by decide +kernel
theorem dX1_addSource_55 : decode cX1_addSource 55 = .ok (.iload_n 1, 1) := by decide +kernel
theorem dX1_addSource_56 : decode cX1_addSource 56 = .ok (.iaload, 1) := by decide +kernel
theorem dX1_addSource_57 : decode cX1_addSource 57 = .ok (.ifCond .eq 21, 3) := by decide +kernel
theorem dX1_addSource_60 : decode cX1_addSource 60 = .ok (.aload_n 0, 1) := by decide +kernel
theorem dX1_addSource_61 : decode cX1_addSource 61 = .ok (.getfield 35, 3) := by decide +kernel
theorem dX1_addSource_64 : decode cX1_addSource 64 = .ok (.iload_n 1, 1) := by decide +kernel
theorem dX1_addSource_65 : decode cX1_addSource 65 = .ok (.iaload, 1) := by decide +kernel
theorem dX1_addSource_66 : decode cX1_addSource 66 = .ok (.ifCond .ne 12, 3) := by decide +kernel
theorem dX1_addSource_69 : decode cX1_addSource 69 = .ok (.aload_n 0, 1) := by decide +kernel
theorem dX1_addSource_70 : decode cX1_addSource 70 = .ok (.getfield 35, 3) := by decide +kernel
theorem dX1_addSource_73 : decode cX1_addSource 73 = .ok (.iload_n 2, 1) := by decide +kernel
theorem dX1_addSource_74 : decode cX1_addSource 74 = .ok (.iaload, 1) := by decide +kernel
theorem dX1_addSource_75 : decode cX1_addSource 75 = .ok (.ifCond .eq 9, 3) := by decide +kernel
theorem dX1_addSource_78 : decode cX1_addSource 78 = .ok (.aload_n 0, 1) := by decide +kernel
theorem dX1_addSource_79 : decode cX1_addSource 79 = .ok (.iconst 3, 1) := by decide +kernel
theorem dX1_addSource_80 : decode cX1_addSource 80 = .ok (.invokevirtual 58, 3) := by decide +kernel
theorem dX1_addSource_83 : decode cX1_addSource 83 = .ok (.ireturn, 1) := by decide +kernel
theorem dX1_addSource_84 : decode cX1_addSource 84 = .ok (.aload_n 0, 1) := by decide +kernel
theorem dX1_addSource_85 : decode cX1_addSource 85 = .ok (.getfield 26, 3) := by decide +kernel
theorem dX1_addSource_88 : decode cX1_addSource 88 = .ok (.iload_n 1, 1) := by decide +kernel
theorem dX1_addSource_89 : decode cX1_addSource 89 = .ok (.dup2, 1) := by decide +kernel
theorem dX1_addSource_90 : decode cX1_addSource 90 = .ok (.iaload, 1) := by decide +kernel
theorem dX1_addSource_91 : decode cX1_addSource 91 = .ok (.iconst 1, 1) := by decide +kernel
theorem dX1_addSource_92 : decode cX1_addSource 92 = .ok (.iload_n 2, 1) := by decide +kernel
theorem dX1_addSource_93 : decode cX1_addSource 93 = .ok (.ishl, 1) := by decide +kernel
theorem dX1_addSource_94 : decode cX1_addSource 94 = .ok (.ior, 1) := by decide +kernel
theorem dX1_addSource_95 : decode cX1_addSource 95 = .ok (.iastore, 1) := by decide +kernel
theorem dX1_addSource_96 : decode cX1_addSource 96 = .ok (.aload_n 0, 1) := by decide +kernel
theorem dX1_addSource_97 : decode cX1_addSource 97 = .ok (.iload_n 1, 1) := by decide +kernel
theorem dX1_addSource_98 : decode cX1_addSource 98 = .ok (.invokevirtual 79, 3) := by decide +kernel
theorem dX1_addSource_101 : decode cX1_addSource 101 = .ok (.invokestatic 98, 3) := by decide +kernel
