theorem dX0_init_0 : decode cX0_init 0 = .ok (.aload_n 0, 1) := by decide +kernel
theorem dX0_init_1 : decode cX0_init 1 = .ok (.invokespecial 1, 3) := by decide +kernel
theorem dX0_init_4 : decode cX0_init 4 = .ok (.aload_n 0, 1) := by decide +kernel
theorem dX0_init_5 : decode cX0_init 5 = .ok (.bipush 8, 2) := by decide +kernel
theorem dX0_init_7 : decode cX0_init 7 = .ok (.newarray .int, 2) := by decide +kernel
theorem dX0_init_9 : decode cX0_init 9 = .ok (.putfield 9, 3) := by decide +kernel
theorem dX0_init_12 : decode cX0_init 12 = .ok (.aload_n 0, 1) := by decide +kernel
theorem dX0_init_13 : decode cX0_init 13 = .ok (.bipush 12, 2) := by decide +kernel
theorem dX0_init_15 : decode cX0_init 15 = .ok (.newarray .int, 2) := by decide +kernel
theorem dX0_init_17 : decode cX0_init 17 = .ok (.putfield 13, 3) := by decide +kernel
theorem dX0_init_20 : decode cX0_init 20 = .ok (.aload_n 0, 1) := by decide +kernel
theorem dX0_init_21 : decode cX0_init 21 = .ok (.bipush 96, 2) := by decide +kernel
theorem dX0_init_23 : decode cX0_init 23 = .ok (.newarray .int, 2) := by decide +kernel
theorem dX0_init_25 : decode cX0_init 25 = .ok (.putfield 16, 3) := by decide +kernel
theorem dX0_init_28 : decode cX0_init 28 = .ok (.aload_n 0, 1) := by decide +kernel
theorem dX0_init_29 : decode cX0_init 29 = .ok (.bipush 30, 2) := by decide +kernel
theorem dX0_init_31 : decode cX0_init 31 = .ok (.newarray .int, 2) := by decide +kernel
theorem dX0_init_33 : decode cX0_init 33 = .ok (.putfield 19, 3) := by decide +kernel
theorem dX0_init_36 : decode cX0_init 36 = .ok (.aload_n 0, 1) := by decide +kernel
theorem dX0_init_37 : decode cX0_init 37 = .ok (.bipush 30, 2) := by decide +kernel
theorem dX0_init_39 : decode cX0_init 39 = .ok (.newarray .int, 2) := by decide +kernel
theorem dX0_init_41 : decode cX0_init 41 = .ok (.putfield 22, 3) := by decide +kernel
theorem dX0_init_44 : decode cX0_init 44 = .ok (.aload_n 0, 1) := by decide +kernel
theorem dX0_init_45 : decode cX0_init 45 = .ok (.bipush 30, 2) := by decide +kernel
theorem dX0_init_47 : decode cX0_init 47 = .ok (.newarray .int, 2) := by decide +kernel
theorem dX0_init_49 : decode cX0_init 49 = .ok (.putfield 25, 3) := by decide +kernel
theorem dX0_init_52 : decode cX0_init 52 = .ok (.aload_n 0, 1) := by decide +kernel
theorem dX0_init_53 : decode cX0_init 53 = .ok (.bipush 30, 2) := by decide +kernel
theorem dX0_init_55 : decode cX0_init 55 = .ok (.newarray .int, 2) := by decide +kernel
theorem dX0_init_57 : decode cX0_init 57 = .ok (.putfield 28, 3) := by decide +kernel
theorem dX0_init_60 : decode cX0_init 60 = .ok (.aload_n 0, 1) := by decide +kernel
theorem dX0_init_61 : decode cX0_init 61 = .ok (.sipush 240, 3) := by decide +kernel
theorem dX0_init_64 : decode cX0_init 64 = .ok (.newarray .int, 2) := by decide +kernel
theorem dX0_init_66 : decode cX0_init 66 = .ok (.putfield 31, 3) := by decide +kernel
theorem dX0_init_69 : decode cX0_init 69 = .ok (.aload_n 0, 1) := by decide +kernel
theorem dX0_init_70 : decode cX0_init 70 = .ok (.bipush 6, 2) := by decide +kernel
theorem dX0_init_72 : decode cX0_init 72 = .ok (.newarray .int, 2) := by decide +kernel
theorem dX0_init_74 : decode cX0_init 74 = .ok (.putfield 34, 3) := by decide +kernel
theorem dX0_init_77 : decode cX0_init 77 = .ok (.return_, 1) := by decide +kernel
set_option maxRecDepth 20000 in
theorem ggX0_addPurpose_X0_checkRetention : GoodIn wsX0_addPurpose wsX0_checkRetention := goodIn_ca (goodIn_r _ [10, 11, 12] (by decide +kernel) (by decide +kernel)) (goodIn_sub (fun _ h => List.mem_cons_of_mem _ (List.mem_append_right _ h)) (by decide +kernel))
set_option maxRecDepth 20000 in
theorem gX0_addPurpose_X0_checkRetention : GoodIn wsX0_addPurpose (wsV RX0 37 RX0 yX0_checkRetention wsX0_checkRetention) := goodIn_app (goodIn_of _ (by decide +kernel)) ggX0_addPurpose_X0_checkRetention
set_option maxRecDepth 20000 in
theorem ggX0_addPurpose_X0_bit : GoodIn wsX0_addPurpose wsX0_bit := goodIn_r _ [15] (by decide +kernel) (by decide +kernel)
set_option maxRecDepth 20000 in
theorem gX0_addPurpose_X0_bit : GoodIn wsX0_addPurpose (va_wsS RX0 55 yX0_bit wsX0_bit) := goodIn_app (goodIn_of _ (by decide +kernel)) ggX0_addPurpose_X0_bit
theorem dX0_addPurpose_0 : decode cX0_addPurpose 0 = .ok (.aload_n 0, 1) := by decide +kernel
theorem dX0_addPurpose_1 : decode cX0_addPurpose 1 = .ok (.iload_n 1, 1) := by decide +kernel
theorem dX0_addPurpose_2 : decode cX0_addPurpose 2 = .ok (.invokevirtual 37, 3) := by decide +kernel
theorem dX0_addPurpose_5 : decode cX0_addPurpose 5 = .ok (.aload_n 0, 1) := by decide +kernel
theorem dX0_addPurpose_6 : decode cX0_addPurpose 6 = .ok (.getfield 41, 3) := by decide +kernel
theorem dX0_addPurpose_9 : decode cX0_addPurpose 9 = .ok (.bipush 8, 2) := by decide +kernel
theorem dX0_addPurpose_11 : decode cX0_addPurpose 11 = .ok (.if_icmp .lt 13, 3) := by decide +kernel
theorem dX0_addPurpose_14 : decode cX0_addPurpose 14 = .ok (.new 45, 3) := by decide +kernel
theorem dX0_addPurpose_17 : decode cX0_addPurpose 17 = .ok (.dup, 1) := by decide +kernel
theorem dX0_addPurpose_18 : decode cX0_addPurpose 18 = .ok (.ldc 47, 2) := by decide +kernel
theorem dX0_addPurpose_20 : decode cX0_addPurpose 20 = .ok (.invokespecial 49, 3) := by decide +kernel
theorem dX0_addPurpose_23 : decode cX0_addPurpose 23 = .ok (.athrow, 1) := by decide +kernel
theorem dX0_addPurpose_24 : decode cX0_addPurpose 24 = .ok (.aload_n 0, 1) := by decide +kernel
theorem dX0_addPurpose_25 : decode cX0_addPurpose 25 = .ok (.getfield 41, 3) := by decide +kernel
theorem dX0_addPurpose_28 : decode cX0_addPurpose 28 = .ok (.istore_n 3, 1) := by decide +kernel
theorem dX0_addPurpose_29 : decode cX0_addPurpose 29 = .ok (.aload_n 0, 1) := by decide +kernel
theorem dX0_addPurpose_30 : decode cX0_addPurpose 30 = .ok (.getfield 9, 3) := by decide +kernel
theorem dX0_addPurpose_33 : decode cX0_addPurpose 33 = .ok (.iload_n 3, 1) := by decide +kernel
theorem dX0_addPurpose_34 : decode cX0_addPurpose 34 = .ok (.iload_n 1, 1) := by decide +kernel
theorem dX0_addPurpose_35 : decode cX0_addPurpose 35 = .ok (.iastore, 1) := by decide +kernel
theorem dX0_addPurpose_36 : decode cX0_addPurpose 36 = .ok (.iload_n 2, 1) := by decide +kernel
theorem dX0_addPurpose_37 : decode cX0_addPurpose 37 = .ok (.ifCond .ne 16, 3) := by decide +kernel
theorem dX0_addPurpose_40 : decode cX0_addPurpose 40 = .ok (.aload_n 0, 1) := by decide +kernel
theorem dX0_addPurpose_41 : decode cX0_addPurpose 41 = .ok (.dup, 1) := by decide +kernel
theorem dX0_addPurpose_42 : decode cX0_addPurpose 42 = .ok (.getfield 52, 3) := by decide +kernel
theorem dX0_addPurpose_45 : decode cX0_addPurpose 45 = .ok (.iload_n 3, 1) := by decide +kernel
theorem dX0_addPurpose_46 : decode cX0_addPurpose 46 = .ok (.invokestatic 55, 3) := by decide +kernel
theorem dX0_addPurpose_49 : decode cX0_addPurpose 49 = .ok (.ior, 1) := by decide +kernel
theorem dX0_addPurpose_50 : decode cX0_addPurpose 50 = .ok (.putfield 52, 3) := by decide +kernel
theorem dX0_addPurpose_53 : decode cX0_addPurpose 53 = .ok (.aload_n 0, 1) := by decide +kernel
theorem dX0_addPurpose_54 : decode cX0_addPurpose 54 = .ok (.dup, 1) := by decide +kernel
theorem dX0_addPurpose_55 : decode cX0_addPurpose 55 = .ok (.getfield 41, 3) := by decide +kernel
theorem dX0_addPurpose_58 : decode cX0_addPurpose 58 = .ok (.iconst 1, 1) := by decide +kernel
theorem dX0_addPurpose_59 : decode cX0_addPurpose 59 = .ok (.iadd, 1) := by decide +kernel
theorem dX0_addPurpose_60 : decode cX0_addPurpose 60 = .ok (.putfield 41, 3) := by decide +kernel
theorem dX0_addPurpose_63 : decode cX0_addPurpose 63 = .ok (.iload_n 3, 1) := by decide +kernel
theorem dX0_addPurpose_64 : decode cX0_addPurpose 64 = .ok (.ireturn, 1) := by decide +kernel
set_option maxRecDepth 20000 in
theorem ggX0_setRetention_X0_checkPurpose : GoodIn wsX0_setRetention wsX0_checkPurpose := goodIn_ca (goodIn_r _ [6, 7, 8, 9, 16, 17, 18, 19, 20, 21, 22, 23, 24, 25, 26, 27, 28, 29, 30, 31] (by decide +kernel) (by decide +kernel)) (goodIn_sub (fun _ h => List.mem_cons_of_mem _ (List.mem_append_left _ (List.mem_append_right _ h))) (by decide +kernel))
set_option maxRecDepth 20000 in
theorem gX0_setRetention_X0_checkPurpose : GoodIn wsX0_setRetention (wsV RX0 59 RX0 yX0_checkPurpose wsX0_checkPurpose) := goodIn_app (goodIn_of _ (by decide +kernel)) ggX0_setRetention_X0_checkPurpose
set_option maxRecDepth 20000 in
theorem ggX0_setRetention_X0_checkRetention : GoodIn wsX0_setRetention wsX0_checkRetention := goodIn_ca (goodIn_r _ [13, 14, 15] (by decide +kernel) (by decide +kernel)) (goodIn_sub (fun _ h => List.mem_cons_of_mem _ (List.mem_append_right _ h)) (by decide +kernel))
set_option maxRecDepth 20000 in
theorem gX0_setRetention_X0_checkRetention : GoodIn wsX0_setRetention (wsV RX0 37 RX0 yX0_checkRetention wsX0_checkRetention) := goodIn_app (goodIn_of _ (by decide +kernel)) ggX0_setRetention_X0_checkRetention
theorem dX0_setRetention_0 : decode cX0_setRetention 0 = .ok (.aload_n 0, 1) := by decide +kernel
theorem dX0_setRetention_1 : decode cX0_setRetention 1 = .ok (.iload_n 1, 1) := by decide +kernel
theorem dX0_setRetention_2 : decode cX0_setRetention 2 = .ok (.invokevirtual 59, 3) := by decide +kernel
theorem dX0_setRetention_5 : decode cX0_setRetention 5 = .ok (.aload_n 0, 1) := by decide +kernel
theorem dX0_setRetention_6 : decode cX0_setRetention 6 = .ok (.iload_n 2, 1) := by decide +kernel
theorem dX0_setRetention_7 : decode cX0_setRetention 7 = .ok (.invokevirtual 37, 3) := by decide +kernel
theorem dX0_setRetention_10 : decode cX0_setRetention 10 = .ok (.aload_n 0, 1) := by decide +kernel
theorem dX0_setRetention_11 : decode cX0_setRetention 11 = .ok (.getfield 9, 3) := by decide +kernel
theorem dX0_setRetention_14 : decode cX0_setRetention 14 = .ok (.iload_n 1, 1) := by decide +kernel
theorem dX0_setRetention_15 : decode cX0_setRetention 15 = .ok (.iaload, 1) := by decide +kernel
theorem dX0_setRetention_16 : decode cX0_setRetention 16 = .ok (.istore_n 3, 1) := by decide +kernel
theorem dX0_setRetention_17 : decode cX0_setRetention 17 = .ok (.aload_n 0, 1) := by decide +kernel
theorem dX0_setRetention_18 : decode cX0_setRetention 18 = .ok (.getfield 9, 3) := by decide +kernel
theorem dX0_setRetention_21 : decode cX0_setRetention 21 = .ok (.iload_n 1, 1) := by decide +kernel
theorem dX0_setRetention_22 : decode cX0_setRetention 22 = .ok (.iload_n 2, 1) := by decide +kernel
theorem dX0_setRetention_23 : decode cX0_setRetention 23 = .ok (.iastore, 1) := by decide +kernel
theorem dX0_setRetention_24 : decode cX0_setRetention 24 = .ok (.iload_n 3, 1) := by decide +kernel
theorem dX0_setRetention_25 : decode cX0_setRetention 25 = .ok (.ireturn, 1) := by decide +kernel
set_option maxRecDepth 20000 in
theorem ggX0_consent_X0_checkSubject : GoodIn wsX0_consent wsX0_checkSubject := goodIn_ca (goodIn_r _ [6, 7, 8] (by decide +kernel) (by decide +kernel)) (goodIn_sub (fun _ h => List.mem_cons_of_mem _ (List.mem_append_right _ h)) (by decide +kernel))
set_option maxRecDepth 20000 in
theorem gX0_consent_X0_checkSubject : GoodIn wsX0_consent (wsV RX0 62 RX0 yX0_checkSubject wsX0_checkSubject) := goodIn_app (goodIn_of _ (by decide +kernel)) ggX0_consent_X0_checkSubject
set_option maxRecDepth 20000 in
theorem ggX0_consent_X0_checkPurpose : GoodIn wsX0_consent wsX0_checkPurpose := goodIn_ca (goodIn_r _ [12, 7, 8, 13, 20, 21, 22, 23, 24, 25, 26, 27, 28, 29, 30, 31, 32, 33, 34, 35] (by decide +kernel) (by decide +kernel)) (goodIn_sub (fun _ h => List.mem_cons_of_mem _ (List.mem_append_right _ h)) (by decide +kernel))
set_option maxRecDepth 20000 in
theorem gX0_consent_X0_checkPurpose : GoodIn wsX0_consent (wsV RX0 59 RX0 yX0_checkPurpose wsX0_checkPurpose) := goodIn_app (goodIn_of _ (by decide +kernel)) ggX0_consent_X0_checkPurpose
set_option maxRecDepth 20000 in
theorem ggX0_consent_X0_has : GoodIn wsX0_consent wsX0_has := goodIn_r _ [16, 17, 18, 5, 19] (by decide +kernel) (by decide +kernel)
set_option maxRecDepth 20000 in
theorem gX0_consent_X0_has : GoodIn wsX0_consent (va_wsS RX0 65 yX0_has wsX0_has) := goodIn_app (goodIn_of _ (by decide +kernel)) ggX0_consent_X0_has
set_option maxRecDepth 20000 in
theorem ggX0_consent_X0_bit : GoodIn wsX0_consent wsX0_bit := goodIn_r _ [19] (by decide +kernel) (by decide +kernel)
set_option maxRecDepth 20000 in
theorem gX0_consent_X0_bit : GoodIn wsX0_consent (va_wsS RX0 55 yX0_bit wsX0_bit) := goodIn_app (goodIn_of _ (by decide +kernel)) ggX0_consent_X0_bit
theorem dX0_consent_0 : decode cX0_consent 0 = .ok (.aload_n 0, 1) := by decide +kernel
theorem dX0_consent_1 : decode cX0_consent 1 = .ok (.iload_n 1, 1) := by decide +kernel
theorem dX0_consent_2 : decode cX0_consent 2 = .ok (.invokevirtual 62, 3) := by decide +kernel
theorem dX0_consent_5 : decode cX0_consent 5 = .ok (.aload_n 0, 1) := by decide +kernel
theorem dX0_consent_6 : decode cX0_consent 6 = .ok (.iload_n 2, 1) := by decide +kernel
theorem dX0_consent_7 : decode cX0_consent 7 = .ok (.invokevirtual 59, 3) := by decide +kernel
theorem dX0_consent_10 : decode cX0_consent 10 = .ok (.aload_n 0, 1) := by decide +kernel
theorem dX0_consent_11 : decode cX0_consent 11 = .ok (.getfield 13, 3) := by decide +kernel
theorem dX0_consent_14 : decode cX0_consent 14 = .ok (.iload_n 1, 1) := by decide +kernel
theorem dX0_consent_15 : decode cX0_consent 15 = .ok (.iaload, 1) := by decide +kernel
theorem dX0_consent_16 : decode cX0_consent 16 = .ok (.iload_n 2, 1) := by decide +kernel
theorem dX0_consent_17 : decode cX0_consent 17 = .ok (.invokestatic 65, 3) := by decide +kernel
theorem dX0_consent_20 : decode cX0_consent 20 = .ok (.iload_n 3, 1) := by decide +kernel
theorem dX0_consent_21 : decode cX0_consent 21 = .ok (.if_icmp .ne 5, 3) := by decide +kernel
theorem dX0_consent_24 : decode cX0_consent 24 = .ok (.iconst 0, 1) := by decide +kernel
theorem dX0_consent_25 : decode cX0_consent 25 = .ok (.ireturn, 1) := by decide +kernel
theorem dX0_consent_26 : decode cX0_consent 26 = .ok (.aload_n 0, 1) := by decide +kernel
theorem dX0_consent_27 : decode cX0_consent 27 = .ok (.getfield 13, 3) := by decide +kernel
theorem dX0_consent_30 : decode cX0_consent 30 = .ok (.iload_n 1, 1) := by decide +kernel
theorem dX0_consent_31 : decode cX0_consent 31 = .ok (.dup2, 1) := by decide +kernel
theorem dX0_consent_32 : decode cX0_consent 32 = .ok (.iaload, 1) := by decide +kernel
theorem dX0_consent_33 : decode cX0_consent 33 = .ok (.iload_n 2, 1) := by decide +kernel
theorem dX0_consent_34 : decode cX0_consent 34 = .ok (.invokestatic 55, 3) := by decide +kernel
theorem dX0_consent_37 : decode cX0_consent 37 = .ok (.ixor, 1) := by decide +kernel
theorem dX0_consent_38 : decode cX0_consent 38 = .ok (.iastore, 1) := by decide +kernel
theorem dX0_consent_39 : decode cX0_consent 39 = .ok (.iconst 1, 1) := by decide +kernel
theorem dX0_consent_40 : decode cX0_consent 40 = .ok (.ireturn, 1) := by decide +kernel
set_option maxRecDepth 20000 in
theorem ggX0_consents_X0_checkSubject : GoodIn wsX0_consents wsX0_checkSubject := goodIn_ca (goodIn_r _ [6, 7, 8] (by decide +kernel) (by decide +kernel)) (goodIn_sub (fun _ h => List.mem_cons_of_mem _ (List.mem_append_right _ h)) (by decide +kernel))
set_option maxRecDepth 20000 in
theorem gX0_consents_X0_checkSubject : GoodIn wsX0_consents (wsV RX0 62 RX0 yX0_checkSubject wsX0_checkSubject) := goodIn_app (goodIn_of _ (by decide +kernel)) ggX0_consents_X0_checkSubject
theorem dX0_consents_0 : decode cX0_consents 0 = .ok (.aload_n 0, 1) := by decide +kernel
theorem dX0_consents_1 : decode cX0_consents 1 = .ok (.iload_n 1, 1) := by decide +kernel
theorem dX0_consents_2 : decode cX0_consents 2 = .ok (.invokevirtual 62, 3) := by decide +kernel
theorem dX0_consents_5 : decode cX0_consents 5 = .ok (.aload_n 0, 1) := by decide +kernel
theorem dX0_consents_6 : decode cX0_consents 6 = .ok (.getfield 13, 3) := by decide +kernel
theorem dX0_consents_9 : decode cX0_consents 9 = .ok (.iload_n 1, 1) := by decide +kernel
theorem dX0_consents_10 : decode cX0_consents 10 = .ok (.iaload, 1) := by decide +kernel
theorem dX0_consents_11 : decode cX0_consents 11 = .ok (.ireturn, 1) := by decide +kernel
set_option maxRecDepth 20000 in
theorem ggX0_daysWithConsent_X0_checkSubject : GoodIn wsX0_daysWithConsent wsX0_checkSubject := goodIn_ca (goodIn_r _ [6, 7, 8] (by decide +kernel) (by decide +kernel)) (goodIn_sub (fun _ h => List.mem_cons_of_mem _ (List.mem_append_right _ h)) (by decide +kernel))
set_option maxRecDepth 20000 in
theorem gX0_daysWithConsent_X0_checkSubject : GoodIn wsX0_daysWithConsent (wsV RX0 62 RX0 yX0_checkSubject wsX0_checkSubject) := goodIn_app (goodIn_of _ (by decide +kernel)) ggX0_daysWithConsent_X0_checkSubject
set_option maxRecDepth 20000 in
theorem ggX0_daysWithConsent_X0_checkPurpose : GoodIn wsX0_daysWithConsent wsX0_checkPurpose := goodIn_ca (goodIn_r _ [12, 7, 8, 13, 17, 18, 19, 20, 21, 22, 23, 24, 25, 26, 27, 28, 29, 30, 31, 32] (by decide +kernel) (by decide +kernel)) (goodIn_sub (fun _ h => List.mem_cons_of_mem _ (List.mem_append_right _ h)) (by decide +kernel))
set_option maxRecDepth 20000 in
theorem gX0_daysWithConsent_X0_checkPurpose : GoodIn wsX0_daysWithConsent (wsV RX0 59 RX0 yX0_checkPurpose wsX0_checkPurpose) := goodIn_app (goodIn_of _ (by decide +kernel)) ggX0_daysWithConsent_X0_checkPurpose
set_option maxRecDepth 20000 in
theorem ggX0_daysWithConsent_X0_consentIndex : GoodIn wsX0_daysWithConsent wsX0_consentIndex := goodIn_r _ [16] (by decide +kernel) (by decide +kernel)
set_option maxRecDepth 20000 in
theorem gX0_daysWithConsent_X0_consentIndex : GoodIn wsX0_daysWithConsent (va_wsS RX0 69 yX0_consentIndex wsX0_consentIndex) := goodIn_app (goodIn_of _ (by decide +kernel)) ggX0_daysWithConsent_X0_consentIndex
theorem dX0_daysWithConsent_0 : decode cX0_daysWithConsent 0 = .ok (.aload_n 0, 1) := by decide +kernel
theorem dX0_daysWithConsent_1 : decode cX0_daysWithConsent 1 = .ok (.iload_n 1, 1) := by decide +kernel
theorem dX0_daysWithConsent_2 : decode cX0_daysWithConsent 2 = .ok (.invokevirtual 62, 3) := by decide +kernel
theorem dX0_daysWithConsent_5 : decode cX0_daysWithConsent 5 = .ok (.aload_n 0, 1) := by decide +kernel
theorem dX0_daysWithConsent_6 : decode cX0_daysWithConsent 6 = .ok (.iload_n 2, 1) := by decide +kernel
theorem dX0_daysWithConsent_7 : decode cX0_daysWithConsent 7 = .ok (.invokevirtual 59, 3) := by decide +kernel
theorem dX0_daysWithConsent_10 : decode cX0_daysWithConsent 10 = .ok (.aload_n 0, 1) := by decide +kernel
theorem dX0_daysWithConsent_11 : decode cX0_daysWithConsent 11 = .ok (.getfield 16, 3) := by decide +kernel
theorem dX0_daysWithConsent_14 : decode cX0_daysWithConsent 14 = .ok (.iload_n 1, 1) := by decide +kernel
theorem dX0_daysWithConsent_15 : decode cX0_daysWithConsent 15 = .ok (.iload_n 2, 1) := by decide +kernel
theorem dX0_daysWithConsent_16 : decode cX0_daysWithConsent 16 = .ok (.invokestatic 69, 3) := by decide +kernel
theorem dX0_daysWithConsent_19 : decode cX0_daysWithConsent 19 = .ok (.iaload, 1) := by decide +kernel
theorem dX0_daysWithConsent_20 : decode cX0_daysWithConsent 20 = .ok (.ireturn, 1) := by decide +kernel
set_option maxRecDepth 20000 in
theorem ggX0_add_X0_checkSubject : GoodIn wsX0_add wsX0_checkSubject := goodIn_ca (goodIn_r _ [5, 6, 7] (by decide +kernel) (by decide +kernel)) (goodIn_sub (fun _ h => List.mem_cons_of_mem _ (List.mem_append_left _ (List.mem_append_left _ (List.mem_append_right _ h)))) (by decide +kernel))
set_option maxRecDepth 20000 in
theorem gX0_add_X0_checkSubject : GoodIn wsX0_add (wsV RX0 62 RX0 yX0_checkSubject wsX0_checkSubject) := goodIn_app (goodIn_of _ (by decide +kernel)) ggX0_add_X0_checkSubject
set_option maxRecDepth 20000 in
theorem ggX0_add_X0_checkPurposes : GoodIn wsX0_add wsX0_checkPurposes := goodIn_ca (goodIn_ca (goodIn_r _ [11, 6, 7, 12, 13, 14, 15, 16, 4, 17, 18, 19, 20, 21, 53, 54, 55, 56, 57, 58, 59, 60, 61, 62, 63, 64, 65, 66, 67, 68] (by decide +kernel) (by decide +kernel)) (goodIn_sub (fun _ h => List.mem_cons_of_mem _ (List.mem_append_left _ (List.mem_append_left _ (List.mem_append_right _ h)))) (by decide +kernel))) (goodIn_sub (fun _ h => List.mem_cons_of_mem _ (List.mem_append_left _ (List.mem_append_right _ h))) (by decide +kernel))
set_option maxRecDepth 20000 in
theorem gX0_add_X0_checkPurposes : GoodIn wsX0_add (wsV RX0 73 RX0 yX0_checkPurposes wsX0_checkPurposes) := goodIn_app (goodIn_of _ (by decide +kernel)) ggX0_add_X0_checkPurposes
set_option maxRecDepth 20000 in
theorem ggX0_add_X0_bit : GoodIn wsX0_add wsX0_bit := goodIn_r _ [21] (by decide +kernel) (by decide +kernel)
set_option maxRecDepth 20000 in
theorem gX0_add_X0_bit : GoodIn wsX0_add (va_wsS RX0 55 yX0_bit wsX0_bit) := goodIn_app (goodIn_of _ (by decide +kernel)) ggX0_add_X0_bit
set_option maxRecDepth 20000 in
theorem ggX0_add_X0_addRecord : GoodIn wsX0_add wsX0_addRecord := goodIn_ca (goodIn_r _ [25, 26, 27, 28, 29, 30, 31, 32, 33, 34, 35, 36, 37, 4, 38, 18, 39, 40, 41, 42, 43, 44, 14, 15, 16, 17, 19, 20, 21, 45, 46, 47, 48, 49, 50, 51, 52, 53, 54, 55, 56, 57, 58, 59, 60, 61, 62, 63, 64, 65, 66, 67, 68] (by decide +kernel) (by decide +kernel)) (goodIn_sub (fun _ h => List.mem_cons_of_mem _ (List.mem_append_right _ h)) (by decide +kernel))
set_option maxRecDepth 20000 in
theorem gX0_add_X0_addRecord : GoodIn wsX0_add (wsV RX0 76 RX0 yX0_addRecord wsX0_addRecord) := goodIn_app (goodIn_of _ (by decide +kernel)) ggX0_add_X0_addRecord
theorem dX0_add_0 : decode cX0_add 0 = .ok (.aload_n 0, 1) := by decide +kernel
theorem dX0_add_1 : decode cX0_add 1 = .ok (.iload_n 1, 1) := by decide +kernel
theorem dX0_add_2 : decode cX0_add 2 = .ok (.invokevirtual 62, 3) := by decide +kernel
theorem dX0_add_5 : decode cX0_add 5 = .ok (.aload_n 0, 1) := by decide +kernel
theorem dX0_add_6 : decode cX0_add 6 = .ok (.iload_n 2, 1) := by decide +kernel
theorem dX0_add_7 : decode cX0_add 7 = .ok (.invokevirtual 73, 3) := by decide +kernel
theorem dX0_add_10 : decode cX0_add 10 = .ok (.aload_n 0, 1) := by decide +kernel
theorem dX0_add_11 : decode cX0_add 11 = .ok (.iload_n 1, 1) := by decide +kernel
theorem dX0_add_12 : decode cX0_add 12 = .ok (.invokestatic 55, 3) := by decide +kernel
theorem dX0_add_15 : decode cX0_add 15 = .ok (.iload_n 2, 1) := by decide +kernel
theorem dX0_add_16 : decode cX0_add 16 = .ok (.iconst 0, 1) := by decide +kernel
theorem dX0_add_17 : decode cX0_add 17 = .ok (.invokevirtual 76, 3) := by decide +kernel
theorem dX0_add_20 : decode cX0_add 20 = .ok (.ireturn, 1) := by decide +kernel
set_option maxRecDepth 20000 in
theorem ggX0_derive_X0_checkRecord : GoodIn wsX0_derive wsX0_checkRecord := goodIn_ca (goodIn_r _ [9, 10, 11, 12, 53, 54, 55, 56, 57, 58, 59, 60, 61, 62, 63, 64, 65, 66, 67, 68] (by decide +kernel) (by decide +kernel)) (goodIn_sub (fun _ h => List.mem_cons_of_mem _ (List.mem_append_left _ (List.mem_append_right _ h))) (by decide +kernel))
set_option maxRecDepth 20000 in
theorem gX0_derive_X0_checkRecord : GoodIn wsX0_derive (wsV RX0 80 RX0 yX0_checkRecord wsX0_checkRecord) := goodIn_app (goodIn_of _ (by decide +kernel)) ggX0_derive_X0_checkRecord
set_option maxRecDepth 20000 in
theorem ggX0_derive_X0_checkPurposes : GoodIn wsX0_derive wsX0_checkPurposes := goodIn_ca (goodIn_ca (goodIn_r _ [16, 10, 11, 17, 18, 19, 20, 21, 8, 22, 23, 24, 25, 26, 53, 54, 55, 56, 57, 58, 59, 60, 61, 62, 63, 64, 65, 66, 67, 68] (by decide +kernel) (by decide +kernel)) (goodIn_sub (fun _ h => List.mem_cons_of_mem _ (List.mem_append_left _ (List.mem_append_right _ h))) (by decide +kernel))) (goodIn_sub (fun _ h => List.mem_cons_of_mem _ (List.mem_append_right _ h)) (by decide +kernel))
set_option maxRecDepth 20000 in
theorem gX0_derive_X0_checkPurposes : GoodIn wsX0_derive (wsV RX0 73 RX0 yX0_checkPurposes wsX0_checkPurposes) := goodIn_app (goodIn_of _ (by decide +kernel)) ggX0_derive_X0_checkPurposes
set_option maxRecDepth 20000 in
theorem ggX0_derive_X0_has : GoodIn wsX0_derive wsX0_has := goodIn_r _ [29, 24, 25, 8, 26] (by decide +kernel) (by decide +kernel)
set_option maxRecDepth 20000 in
theorem gX0_derive_X0_has : GoodIn wsX0_derive (va_wsS RX0 65 yX0_has wsX0_has) := goodIn_app (goodIn_of _ (by decide +kernel)) ggX0_derive_X0_has
set_option maxRecDepth 20000 in
theorem ggX0_derive_X0_bit : GoodIn wsX0_derive wsX0_bit := goodIn_r _ [26] (by decide +kernel) (by decide +kernel)
set_option maxRecDepth 20000 in
theorem gX0_derive_X0_bit : GoodIn wsX0_derive (va_wsS RX0 55 yX0_bit wsX0_bit) := goodIn_app (goodIn_of _ (by decide +kernel)) ggX0_derive_X0_bit
set_option maxRecDepth 20000 in
theorem ggX0_derive_X0_addRecord : GoodIn wsX0_derive wsX0_addRecord := goodIn_ca (goodIn_r _ [33, 1, 2, 12, 34, 35, 36, 4, 37, 3, 38, 39, 40, 8, 41, 23, 42, 43, 44, 45, 46, 47, 19, 20, 21, 22, 24, 25, 26, 27, 28, 29, 48, 49, 50, 51, 52, 53, 54, 55, 56, 57, 58, 59, 60, 61, 62, 63, 64, 65, 66, 67, 68] (by decide +kernel) (by decide +kernel)) (goodIn_sub (fun _ h => List.mem_cons_of_mem _ (List.mem_append_left _ (List.mem_append_left _ (List.mem_append_right _ h)))) (by decide +kernel))
set_option maxRecDepth 20000 in
theorem gX0_derive_X0_addRecord : GoodIn wsX0_derive (wsV RX0 76 RX0 yX0_addRecord wsX0_addRecord) := goodIn_app (goodIn_of _ (by decide +kernel)) ggX0_derive_X0_addRecord
theorem dX0_derive_0 : decode cX0_derive 0 = .ok (.aload_n 0, 1) := by decide +kernel
theorem dX0_derive_1 : decode cX0_derive 1 = .ok (.iload_n 1, 1) := by decide +kernel
theorem dX0_derive_2 : decode cX0_derive 2 = .ok (.invokevirtual 80, 3) := by decide +kernel
theorem dX0_derive_5 : decode cX0_derive 5 = .ok (.aload_n 0, 1) := by decide +kernel
theorem dX0_derive_6 : decode cX0_derive 6 = .ok (.iload_n 2, 1) := by decide +kernel
theorem dX0_derive_7 : decode cX0_derive 7 = .ok (.invokevirtual 73, 3) := by decide +kernel
theorem dX0_derive_10 : decode cX0_derive 10 = .ok (.aload_n 0, 1) := by decide +kernel
theorem dX0_derive_11 : decode cX0_derive 11 = .ok (.getfield 83, 3) := by decide +kernel
theorem dX0_derive_14 : decode cX0_derive 14 = .ok (.iload_n 1, 1) := by decide +kernel
theorem dX0_derive_15 : decode cX0_derive 15 = .ok (.invokestatic 65, 3) := by decide +kernel
theorem dX0_derive_18 : decode cX0_derive 18 = .ok (.ifCond .ne 13, 3) := by decide +kernel
theorem dX0_derive_21 : decode cX0_derive 21 = .ok (.new 45, 3) := by decide +kernel
theorem dX0_derive_24 : decode cX0_derive 24 = .ok (.dup, 1) := by decide +kernel
theorem dX0_derive_25 : decode cX0_derive 25 = .ok (.ldc 86, 2) := by decide +kernel
theorem dX0_derive_27 : decode cX0_derive 27 = .ok (.invokespecial 49, 3) := by decide +kernel
theorem dX0_derive_30 : decode cX0_derive 30 = .ok (.athrow, 1) := by decide +kernel
theorem dX0_derive_31 : decode cX0_derive 31 = .ok (.aload_n 0, 1) := by decide +kernel
theorem dX0_derive_32 : decode cX0_derive 32 = .ok (.aload_n 0, 1) := by decide +kernel
theorem dX0_derive_33 : decode cX0_derive 33 = .ok (.getfield 25, 3) := by decide +kernel
theorem dX0_derive_36 : decode cX0_derive 36 = .ok (.iload_n 1, 1) := by decide +kernel
theorem dX0_derive_37 : decode cX0_derive 37 = .ok (.iaload, 1) := by decide +kernel
theorem dX0_derive_38 : decode cX0_derive 38 = .ok (.iload_n 2, 1) := by decide +kernel
theorem dX0_derive_39 : decode cX0_derive 39 = .ok (.iload_n 1, 1) := by decide +kernel
theorem dX0_derive_40 : decode cX0_derive 40 = .ok (.invokestatic 55, 3) := by decide +kernel
theorem dX0_derive_43 : decode cX0_derive 43 = .ok (.invokevirtual 76, 3) := by decide +kernel
theorem dX0_derive_46 : decode cX0_derive 46 = .ok (.ireturn, 1) := by decide +kernel
set_option maxRecDepth 20000 in
theorem ggX0_addSource_X0_checkRecord : GoodIn wsX0_addSource wsX0_checkRecord := goodIn_ca (goodIn_r _ [12, 13, 14, 15, 41, 42, 43, 44, 45, 46, 47, 48, 49, 50, 51, 52, 53, 54, 55, 56] (by decide +kernel) (by decide +kernel)) (goodIn_sub (fun _ h => List.mem_cons_of_mem _ (List.mem_append_right _ h)) (by decide +kernel))
set_option maxRecDepth 20000 in
theorem gX0_addSource_X0_checkRecord : GoodIn wsX0_addSource (wsV RX0 80 RX0 yX0_checkRecord wsX0_checkRecord) := goodIn_app (goodIn_of _ (by decide +kernel)) ggX0_addSource_X0_checkRecord
set_option maxRecDepth 20000 in
theorem ggX0_addSource_X0_has : GoodIn wsX0_addSource wsX0_has := goodIn_r _ [18, 19, 20, 11, 21] (by decide +kernel) (by decide +kernel)
set_option maxRecDepth 20000 in
theorem gX0_addSource_X0_has : GoodIn wsX0_addSource (va_wsS RX0 65 yX0_has wsX0_has) := goodIn_app (goodIn_of _ (by decide +kernel)) ggX0_addSource_X0_has
set_option maxRecDepth 20000 in
theorem ggX0_addSource_X0_isRoot : GoodIn wsX0_addSource wsX0_isRoot := goodIn_r _ [25, 5, 41, 42, 43, 44, 45, 46, 47, 48, 49, 50, 51, 52, 53, 54, 55, 56] (by decide +kernel) (by decide +kernel)
set_option maxRecDepth 20000 in
theorem gX0_addSource_X0_isRoot : GoodIn wsX0_addSource (wsV RX0 95 RX0 yX0_isRoot wsX0_isRoot) := goodIn_app (goodIn_of _ (by decide +kernel)) ggX0_addSource_X0_isRoot
set_option maxRecDepth 20000 in
theorem ggX0_addSource_X0_bit : GoodIn wsX0_addSource wsX0_bit := goodIn_r _ [21] (by decide +kernel) (by decide +kernel)
set_option maxRecDepth 20000 in
theorem gX0_addSource_X0_bit : GoodIn wsX0_addSource (va_wsS RX0 55 yX0_bit wsX0_bit) := goodIn_app (goodIn_of _ (by decide +kernel)) ggX0_addSource_X0_bit
set_option maxRecDepth 20000 in
theorem ggX0_addSource_X0_withAllBelow : GoodIn wsX0_addSource wsX0_withAllBelow := goodIn_r _ [29, 15, 5, 19, 20, 11, 21, 41, 42, 43, 44, 45, 46, 47, 48, 49, 50, 51, 52, 53, 54, 55, 56] (by decide +kernel) (by decide +kernel)
set_option maxRecDepth 20000 in
theorem gX0_addSource_X0_withAllBelow : GoodIn wsX0_addSource (wsV RX0 103 RX0 yX0_withAllBelow wsX0_withAllBelow) := goodIn_app (goodIn_of _ (by decide +kernel)) ggX0_addSource_X0_withAllBelow
set_option maxRecDepth 20000 in
theorem ggX0_addSource_X0_addSubjects : GoodIn wsX0_addSource wsX0_addSubjects := goodIn_r _ [33, 15, 7, 16, 17, 11, 18, 19, 20, 21, 41, 42, 43, 44, 45, 46, 47, 48, 49, 50, 51, 52, 53, 54, 55, 56] (by decide +kernel) (by decide +kernel)
set_option maxRecDepth 20000 in
theorem gX0_addSource_X0_addSubjects : GoodIn wsX0_addSource (wsV RX0 106 RX0 yX0_addSubjects wsX0_addSubjects) := goodIn_app (goodIn_of _ (by decide +kernel)) ggX0_addSource_X0_addSubjects
set_option maxRecDepth 20000 in
theorem ggX0_addSource_J6_bitCount_0f7a4 : GoodIn wsX0_addSource wsJ6_bitCount_0f7a4 := goodIn_r _ [37, 38, 39, 40] (by decide +kernel) (by decide +kernel)
set_option maxRecDepth 20000 in
theorem gX0_addSource_J6_bitCount_0f7a4 : GoodIn wsX0_addSource (va_wsS RX0 110 yJ6_bitCount_0f7a4 wsJ6_bitCount_0f7a4) := goodIn_app (goodIn_of _ (by decide +kernel)) ggX0_addSource_J6_bitCount_0f7a4
theorem dX0_addSource_0 : decode cX0_addSource 0 = .ok (.aload_n 0, 1) := by decide +kernel
theorem dX0_addSource_1 : decode cX0_addSource 1 = .ok (.iload_n 1, 1) := by decide +kernel
theorem dX0_addSource_2 : decode cX0_addSource 2 = .ok (.invokevirtual 80, 3) := by decide +kernel
theorem dX0_addSource_5 : decode cX0_addSource 5 = .ok (.aload_n 0, 1) := by decide +kernel
theorem dX0_addSource_6 : decode cX0_addSource 6 = .ok (.iload_n 2, 1) := by decide +kernel
theorem dX0_addSource_7 : decode cX0_addSource 7 = .ok (.invokevirtual 80, 3) := by decide +kernel
theorem dX0_addSource_10 : decode cX0_addSource 10 = .ok (.iload_n 2, 1) := by decide +kernel
theorem dX0_addSource_11 : decode cX0_addSource 11 = .ok (.iload_n 1, 1) := by decide +kernel
theorem dX0_addSource_12 : decode cX0_addSource 12 = .ok (.if_icmp .lt 13, 3) := by decide +kernel
theorem dX0_addSource_15 : decode cX0_addSource 15 = .ok (.new 88, 3) := by decide +kernel
theorem dX0_addSource_18 : decode cX0_addSource 18 = .ok (.dup, 1) := by decide +kernel
theorem dX0_addSource_19 : decode cX0_addSource 19 = .ok (.ldc 90, 2) := by decide +kernel
theorem dX0_addSource_21 : decode cX0_addSource 21 = .ok (.invokespecial 92, 3) := by decide +kernel
theorem dX0_addSource_24 : decode cX0_addSource 24 = .ok (.athrow, 1) := by decide +kernel
theorem dX0_addSource_25 : decode cX0_addSource 25 = .ok (.aload_n 0, 1) := by decide +kernel
theorem dX0_addSource_26 : decode cX0_addSource 26 = .ok (.getfield 28, 3) := by decide +kernel
theorem dX0_addSource_29 : decode cX0_addSource 29 = .ok (.iload_n 1, 1) := by decide +kernel
theorem dX0_addSource_30 : decode cX0_addSource 30 = .ok (.iaload, 1) := by decide +kernel
theorem dX0_addSource_31 : decode cX0_addSource 31 = .ok (.iload_n 2, 1) := by decide +kernel
theorem dX0_addSource_32 : decode cX0_addSource 32 = .ok (.invokestatic 65, 3) := by decide +kernel
theorem dX0_addSource_35 : decode cX0_addSource 35 = .ok (.ifCond .eq 13, 3) := by decide +kernel
theorem dX0_addSource_38 : decode cX0_addSource 38 = .ok (.new 88, 3) := by decide +kernel
theorem dX0_addSource_41 : decode cX0_addSource 41 = .ok (.dup, 1) := by decide +kernel
theorem dX0_addSource_42 : decode cX0_addSource 42 = .ok (.ldc 93, 2) := by decide +kernel
theorem dX0_addSource_44 : decode cX0_addSource 44 = .ok (.invokespecial 92, 3) := by decide +kernel
theorem dX0_addSource_47 : decode cX0_addSource 47 = .ok (.athrow, 1) := by decide +kernel
theorem dX0_addSource_48 : decode cX0_addSource 48 = .ok (.aload_n 0, 1) := by decide +kernel
theorem dX0_addSource_49 : decode cX0_addSource 49 = .ok (.iload_n 1, 1) := by decide +kernel
theorem dX0_addSource_50 : decode cX0_addSource 50 = .ok (.invokevirtual 95, 3) := by decide +kernel
theorem dX0_addSource_53 : decode cX0_addSource 53 = .ok (.ifCond .eq 13, 3) := by decide +kernel
theorem dX0_addSource_56 : decode cX0_addSource 56 = .ok (.new 45, 3) := by decide +kernel
theorem dX0_addSource_59 : decode cX0_addSource 59 = .ok (.dup, 1) := by decide +kernel
theorem dX0_addSource_60 : decode cX0_addSource 60 = .ok (.ldc 99, 2) := by decide +kernel
theorem dX0_addSource_62 : decode cX0_addSource 62 = .ok (.invokespecial 49, 3) := by decide +kernel
theorem dX0_addSource_65 : decode cX0_addSource 65 = .ok (.athrow, 1) := by decide +kernel
theorem dX0_addSource_66 : decode cX0_addSource 66 = .ok (.aload_n 0, 1) := by decide +kernel
theorem dX0_addSource_67 : decode cX0_addSource 67 = .ok (.getfield 83, 3) := by decide +kernel
theorem dX0_addSource_70 : decode cX0_addSource 70 = .ok (.iload_n 1, 1) := by decide +kernel
theorem dX0_addSource_71 : decode cX0_addSource 71 = .ok (.invokestatic 65, 3) := by decide +kernel
theorem dX0_addSource_74 : decode cX0_addSource 74 = .ok (.ifCond .eq 14, 3) := by decide +kernel
theorem dX0_addSource_77 : decode cX0_addSource 77 = .ok (.aload_n 0, 1) := by decide +kernel
theorem dX0_addSource_78 : decode cX0_addSource 78 = .ok (.getfield 83, 3) := by decide +kernel
theorem dX0_addSource_81 : decode cX0_addSource 81 = .ok (.iload_n 2, 1) := by decide +kernel
theorem dX0_addSource_82 : decode cX0_addSource 82 = .ok (.invokestatic 65, 3) := by decide +kernel
theorem dX0_addSource_85 : decode cX0_addSource 85 = .ok (.ifCond .ne 13, 3) := by decide +kernel
theorem dX0_addSource_88 : decode cX0_addSource 88 = .ok (.new 45, 3) := by decide +kernel
theorem dX0_addSource_91 : decode cX0_addSource 91 = .ok (.dup, 1) := by decide +kernel
theorem dX0_addSource_92 : decode cX0_addSource 92 = .ok (.ldc 101, 2) := by decide +kernel
theorem dX0_addSource_94 : decode cX0_addSource 94 = .ok (.invokespecial 49, 3) := by decide +kernel
theorem dX0_addSource_97 : decode cX0_addSource 97 = .ok (.athrow, 1) := by decide +kernel
theorem dX0_addSource_98 : decode cX0_addSource 98 = .ok (.aload_n 0, 1) := by decide +kernel
theorem dX0_addSource_99 : decode cX0_addSource 99 = .ok (.getfield 28, 3) := by decide +kernel
theorem dX0_addSource_102 : decode cX0_addSource 102 = .ok (.iload_n 1, 1) := by decide +kernel
theorem dX0_addSource_103 : decode cX0_addSource 103 = .ok (.dup2, 1) := by decide +kernel
theorem dX0_addSource_104 : decode cX0_addSource 104 = .ok (.iaload, 1) := by decide +kernel
theorem dX0_addSource_105 : decode cX0_addSource 105 = .ok (.iload_n 2, 1) := by decide +kernel
theorem dX0_addSource_106 : decode cX0_addSource 106 = .ok (.invokestatic 55, 3) := by decide +kernel
theorem dX0_addSource_109 : decode cX0_addSource 109 = .ok (.ior, 1) := by decide +kernel
theorem dX0_addSource_110 : decode cX0_addSource 110 = .ok (.iastore, 1) := by decide +kernel
theorem dX0_addSource_111 : decode cX0_addSource 111 = .ok (.aload_n 0, 1) := by decide +kernel
theorem dX0_addSource_112 : decode cX0_addSource 112 = .ok (.aload_n 0, 1) := by decide +kernel
theorem dX0_addSource_113 : decode cX0_addSource 113 = .ok (.iload_n 1, 1) := by decide +kernel
theorem dX0_addSource_114 : decode cX0_addSource 114 = .ok (.invokestatic 55, 3) := by decide +kernel
theorem dX0_addSource_117 : decode cX0_addSource 117 = .ok (.invokevirtual 103, 3) := by decide +kernel
theorem dX0_addSource_120 : decode cX0_addSource 120 = .ok (.aload_n 0, 1) := by decide +kernel
theorem dX0_addSource_121 : decode cX0_addSource 121 = .ok (.getfield 25, 3) := by decide +kernel
theorem dX0_addSource_124 : decode cX0_addSource 124 = .ok (.iload_n 2, 1) := by decide +kernel
theorem dX0_addSource_125 : decode cX0_addSource 125 = .ok (.iaload, 1) := by decide +kernel
theorem dX0_addSource_126 : decode cX0_addSource 126 = .ok (.invokevirtual 106, 3) := by decide +kernel
theorem dX0_addSource_129 : decode cX0_addSource 129 = .ok (.aload_n 0, 1) := by decide +kernel
theorem dX0_addSource_130 : decode cX0_addSource 130 = .ok (.getfield 25, 3) := by decide +kernel
theorem dX0_addSource_133 : decode cX0_addSource 133 = .ok (.iload_n 1, 1) := by decide +kernel
theorem dX0_addSource_134 : decode cX0_addSource 134 = .ok (.iaload, 1) := by decide +kernel
theorem dX0_addSource_135 : decode cX0_addSource 135 = .ok (.invokestatic 110, 3) := by decide +kernel
theorem dX0_addSource_138 : decode cX0_addSource 138 = .ok (.ireturn, 1) := by decide +kernel
theorem dX0_records_0 : decode cX0_records 0 = .ok (.aload_n 0, 1) := by decide +kernel
theorem dX0_records_1 : decode cX0_records 1 = .ok (.getfield 115, 3) := by decide +kernel
theorem dX0_records_4 : decode cX0_records 4 = .ok (.ireturn, 1) := by decide +kernel
set_option maxRecDepth 20000 in
theorem ggX0_stateOf_X0_checkRecord : GoodIn wsX0_stateOf wsX0_checkRecord := goodIn_ca (goodIn_r _ [7, 8, 9, 10, 17, 18, 19, 20, 21, 22, 23, 24, 25, 26, 27, 28, 29, 30, 31, 32] (by decide +kernel) (by decide +kernel)) (goodIn_sub (fun _ h => List.mem_cons_of_mem _ (List.mem_append_right _ h)) (by decide +kernel))
set_option maxRecDepth 20000 in
theorem gX0_stateOf_X0_checkRecord : GoodIn wsX0_stateOf (wsV RX0 80 RX0 yX0_checkRecord wsX0_checkRecord) := goodIn_app (goodIn_of _ (by decide +kernel)) ggX0_stateOf_X0_checkRecord
set_option maxRecDepth 20000 in
theorem ggX0_stateOf_X0_has : GoodIn wsX0_stateOf wsX0_has := goodIn_r _ [13, 14, 15, 6, 16] (by decide +kernel) (by decide +kernel)
set_option maxRecDepth 20000 in
theorem gX0_stateOf_X0_has : GoodIn wsX0_stateOf (va_wsS RX0 65 yX0_has wsX0_has) := goodIn_app (goodIn_of _ (by decide +kernel)) ggX0_stateOf_X0_has
theorem dX0_stateOf_0 : decode cX0_stateOf 0 = .ok (.aload_n 0, 1) := by decide +kernel
theorem dX0_stateOf_1 : decode cX0_stateOf 1 = .ok (.iload_n 1, 1) := by decide +kernel
theorem dX0_stateOf_2 : decode cX0_stateOf 2 = .ok (.invokevirtual 80, 3) := by decide +kernel
theorem dX0_stateOf_5 : decode cX0_stateOf 5 = .ok (.aload_n 0, 1) := by decide +kernel
theorem dX0_stateOf_6 : decode cX0_stateOf 6 = .ok (.getfield 118, 3) := by decide +kernel
theorem dX0_stateOf_9 : decode cX0_stateOf 9 = .ok (.iload_n 1, 1) := by decide +kernel
theorem dX0_stateOf_10 : decode cX0_stateOf 10 = .ok (.invokestatic 65, 3) := by decide +kernel
theorem dX0_stateOf_13 : decode cX0_stateOf 13 = .ok (.ifCond .eq 5, 3) := by decide +kernel
theorem dX0_stateOf_16 : decode cX0_stateOf 16 = .ok (.iconst 2, 1) := by decide +kernel
theorem dX0_stateOf_17 : decode cX0_stateOf 17 = .ok (.ireturn, 1) := by decide +kernel
theorem dX0_stateOf_18 : decode cX0_stateOf 18 = .ok (.aload_n 0, 1) := by decide +kernel
theorem dX0_stateOf_19 : decode cX0_stateOf 19 = .ok (.getfield 121, 3) := by decide +kernel
theorem dX0_stateOf_22 : decode cX0_stateOf 22 = .ok (.iload_n 1, 1) := by decide +kernel
theorem dX0_stateOf_23 : decode cX0_stateOf 23 = .ok (.invokestatic 65, 3) := by decide +kernel
theorem dX0_stateOf_26 : decode cX0_stateOf 26 = .ok (.ifCond .eq 7, 3) := by decide +kernel
theorem dX0_stateOf_29 : decode cX0_stateOf 29 = .ok (.iconst 1, 1) := by decide +kernel
theorem dX0_stateOf_30 : decode cX0_stateOf 30 = .ok (.goto 4, 3) := by decide +kernel
theorem dX0_stateOf_33 : decode cX0_stateOf 33 = .ok (.iconst 0, 1) := by decide +kernel
theorem dX0_stateOf_34 : decode cX0_stateOf 34 = .ok (.ireturn, 1) := by decide +kernel
set_option maxRecDepth 20000 in
theorem ggX0_subjectsOf_X0_checkRecord : GoodIn wsX0_subjectsOf wsX0_checkRecord := goodIn_ca (goodIn_r _ [6, 7, 8, 9, 10, 11, 12, 13, 14, 15, 16, 17, 18, 19, 20, 21, 22, 23, 24, 25] (by decide +kernel) (by decide +kernel)) (goodIn_sub (fun _ h => List.mem_cons_of_mem _ (List.mem_append_right _ h)) (by decide +kernel))
set_option maxRecDepth 20000 in
theorem gX0_subjectsOf_X0_checkRecord : GoodIn wsX0_subjectsOf (wsV RX0 80 RX0 yX0_checkRecord wsX0_checkRecord) := goodIn_app (goodIn_of _ (by decide +kernel)) ggX0_subjectsOf_X0_checkRecord
theorem dX0_subjectsOf_0 : decode cX0_subjectsOf 0 = .ok (.aload_n 0, 1) := by decide +kernel
theorem dX0_subjectsOf_1 : decode cX0_subjectsOf 1 = .ok (.iload_n 1, 1) := by decide +kernel
theorem dX0_subjectsOf_2 : decode cX0_subjectsOf 2 = .ok (.invokevirtual 80, 3) := by decide +kernel
theorem dX0_subjectsOf_5 : decode cX0_subjectsOf 5 = .ok (.aload_n 0, 1) := by decide +kernel
theorem dX0_subjectsOf_6 : decode cX0_subjectsOf 6 = .ok (.getfield 25, 3) := by decide +kernel
theorem dX0_subjectsOf_9 : decode cX0_subjectsOf 9 = .ok (.iload_n 1, 1) := by decide +kernel
theorem dX0_subjectsOf_10 : decode cX0_subjectsOf 10 = .ok (.iaload, 1) := by decide +kernel
theorem dX0_subjectsOf_11 : decode cX0_subjectsOf 11 = .ok (.ireturn, 1) := by decide +kernel
set_option maxRecDepth 20000 in
theorem ggX0_below_X0_checkRecord : GoodIn wsX0_below wsX0_checkRecord := goodIn_ca (goodIn_r _ [5, 6, 7, 8, 21, 22, 23, 24, 25, 26, 27, 28, 29, 30, 31, 32, 33, 34, 35, 36] (by decide +kernel) (by decide +kernel)) (goodIn_sub (fun _ h => List.mem_cons_of_mem _ (List.mem_append_right _ h)) (by decide +kernel))
set_option maxRecDepth 20000 in
theorem gX0_below_X0_checkRecord : GoodIn wsX0_below (wsV RX0 80 RX0 yX0_checkRecord wsX0_checkRecord) := goodIn_app (goodIn_of _ (by decide +kernel)) ggX0_below_X0_checkRecord
set_option maxRecDepth 20000 in
theorem ggX0_below_X0_allBelow : GoodIn wsX0_below wsX0_allBelow := goodIn_r _ [12, 13, 14, 4, 15, 16, 17, 18, 19, 8, 20, 21, 22, 23, 24, 25, 26, 27, 28, 29, 30, 31, 32, 33, 34, 35, 36] (by decide +kernel) (by decide +kernel)
set_option maxRecDepth 20000 in
theorem gX0_below_X0_allBelow : GoodIn wsX0_below (wsV RX0 124 RX0 yX0_allBelow wsX0_allBelow) := goodIn_app (goodIn_of _ (by decide +kernel)) ggX0_below_X0_allBelow
theorem dX0_below_0 : decode cX0_below 0 = .ok (.aload_n 0, 1) := by decide +kernel
theorem dX0_below_1 : decode cX0_below 1 = .ok (.iload_n 1, 1) := by decide +kernel
theorem dX0_below_2 : decode cX0_below 2 = .ok (.invokevirtual 80, 3) := by decide +kernel
theorem dX0_below_5 : decode cX0_below 5 = .ok (.aload_n 0, 1) := by decide +kernel
theorem dX0_below_6 : decode cX0_below 6 = .ok (.iload_n 1, 1) := by decide +kernel
theorem dX0_below_7 : decode cX0_below 7 = .ok (.invokevirtual 124, 3) := by decide +kernel
theorem dX0_below_10 : decode cX0_below 10 = .ok (.ireturn, 1) := by decide +kernel
set_option maxRecDepth 20000 in
theorem ggX0_endOf_X0_checkRecord : GoodIn wsX0_endOf wsX0_checkRecord := goodIn_ca (goodIn_r _ [5, 6, 7, 8, 38, 39, 40, 41, 42, 43, 44, 45, 46, 47, 48, 49, 50, 51, 52, 53] (by decide +kernel) (by decide +kernel)) (goodIn_sub (fun _ h => List.mem_cons_of_mem _ (List.mem_append_right _ h)) (by decide +kernel))
set_option maxRecDepth 20000 in
theorem gX0_endOf_X0_checkRecord : GoodIn wsX0_endOf (wsV RX0 80 RX0 yX0_checkRecord wsX0_checkRecord) := goodIn_app (goodIn_of _ (by decide +kernel)) ggX0_endOf_X0_checkRecord
set_option maxRecDepth 20000 in
theorem ggX0_endOf_X0_endNow : GoodIn wsX0_endOf wsX0_endNow := goodIn_r _ [12, 13, 14, 15, 16, 17, 18, 19, 20, 21, 22, 23, 24, 4, 25, 26, 27, 28, 29, 30, 31, 32, 33, 34, 35, 36, 37, 38, 39, 40, 41, 42, 43, 44, 45, 46, 47, 48, 49, 50, 51, 52, 53] (by decide +kernel) (by decide +kernel)
set_option maxRecDepth 20000 in
theorem gX0_endOf_X0_endNow : GoodIn wsX0_endOf (wsV RX0 127 RX0 yX0_endNow wsX0_endNow) := goodIn_app (goodIn_of _ (by decide +kernel)) ggX0_endOf_X0_endNow
theorem dX0_endOf_0 : decode cX0_endOf 0 = .ok (.aload_n 0, 1) := by decide +kernel
theorem dX0_endOf_1 : decode cX0_endOf 1 = .ok (.iload_n 1, 1) := by decide +kernel
theorem dX0_endOf_2 : decode cX0_endOf 2 = .ok (.invokevirtual 80, 3) := by decide +kernel
theorem dX0_endOf_5 : decode cX0_endOf 5 = .ok (.aload_n 0, 1) := by decide +kernel
theorem dX0_endOf_6 : decode cX0_endOf 6 = .ok (.iload_n 1, 1) := by decide +kernel
theorem dX0_endOf_7 : decode cX0_endOf 7 = .ok (.invokevirtual 127, 3) := by decide +kernel
theorem dX0_endOf_10 : decode cX0_endOf 10 = .ok (.ireturn, 1) := by decide +kernel
set_option maxRecDepth 20000 in
theorem ggX0_whyNoUse_X0_checkRecord : GoodIn wsX0_whyNoUse wsX0_checkRecord := goodIn_ca (goodIn_r _ [10, 11, 12, 13, 41, 42, 43, 44, 45, 46, 47, 48, 49, 50, 51, 52, 53, 54, 55, 56] (by decide +kernel) (by decide +kernel)) (goodIn_sub (fun _ h => List.mem_cons_of_mem _ (List.mem_append_right _ h)) (by decide +kernel))
set_option maxRecDepth 20000 in
theorem gX0_whyNoUse_X0_checkRecord : GoodIn wsX0_whyNoUse (wsV RX0 80 RX0 yX0_checkRecord wsX0_checkRecord) := goodIn_app (goodIn_of _ (by decide +kernel)) ggX0_whyNoUse_X0_checkRecord
set_option maxRecDepth 20000 in
theorem ggX0_whyNoUse_X0_checkPurpose : GoodIn wsX0_whyNoUse wsX0_checkPurpose := goodIn_ca (goodIn_r _ [17, 11, 12, 18, 41, 42, 43, 44, 45, 46, 47, 48, 49, 50, 51, 52, 53, 54, 55, 56] (by decide +kernel) (by decide +kernel)) (goodIn_sub (fun _ h => List.mem_cons_of_mem _ (List.mem_append_right _ h)) (by decide +kernel))
set_option maxRecDepth 20000 in
theorem gX0_whyNoUse_X0_checkPurpose : GoodIn wsX0_whyNoUse (wsV RX0 59 RX0 yX0_checkPurpose wsX0_checkPurpose) := goodIn_app (goodIn_of _ (by decide +kernel)) ggX0_whyNoUse_X0_checkPurpose
set_option maxRecDepth 20000 in
theorem ggX0_whyNoUse_X0_has : GoodIn wsX0_whyNoUse wsX0_has := goodIn_r _ [21, 22, 23, 9, 24] (by decide +kernel) (by decide +kernel)
set_option maxRecDepth 20000 in
theorem gX0_whyNoUse_X0_has : GoodIn wsX0_whyNoUse (va_wsS RX0 65 yX0_has wsX0_has) := goodIn_app (goodIn_of _ (by decide +kernel)) ggX0_whyNoUse_X0_has
set_option maxRecDepth 20000 in
theorem ggX0_whyNoUse_X0_purposesAllowedBy : GoodIn wsX0_whyNoUse wsX0_purposesAllowedBy := goodIn_r _ [28, 29, 30, 31, 32, 33, 9, 34, 18, 22, 23, 24, 19, 20, 21, 41, 42, 43, 44, 45, 46, 47, 48, 49, 50, 51, 52, 53, 54, 55, 56] (by decide +kernel) (by decide +kernel)
set_option maxRecDepth 20000 in
theorem gX0_whyNoUse_X0_purposesAllowedBy : GoodIn wsX0_whyNoUse (wsV RX0 130 RX0 yX0_purposesAllowedBy wsX0_purposesAllowedBy) := goodIn_app (goodIn_of _ (by decide +kernel)) ggX0_whyNoUse_X0_purposesAllowedBy
set_option maxRecDepth 20000 in
theorem ggX0_whyNoUse_X0_isRetained : GoodIn wsX0_whyNoUse wsX0_isRetained := goodIn_r _ [38, 39, 40, 41, 42, 43, 44, 45, 46, 47, 48, 49, 50, 51, 52, 53, 54, 55, 56] (by decide +kernel) (by decide +kernel)
set_option maxRecDepth 20000 in
theorem gX0_whyNoUse_X0_isRetained : GoodIn wsX0_whyNoUse (wsV RX0 133 RX0 yX0_isRetained wsX0_isRetained) := goodIn_app (goodIn_of _ (by decide +kernel)) ggX0_whyNoUse_X0_isRetained
theorem dX0_whyNoUse_0 : decode cX0_whyNoUse 0 = .ok (.aload_n 0, 1) := by decide +kernel
theorem dX0_whyNoUse_1 : decode cX0_whyNoUse 1 = .ok (.iload_n 1, 1) := by decide +kernel
theorem dX0_whyNoUse_2 : decode cX0_whyNoUse 2 = .ok (.invokevirtual 80, 3) := by decide +kernel
theorem dX0_whyNoUse_5 : decode cX0_whyNoUse 5 = .ok (.aload_n 0, 1) := by decide +kernel
theorem dX0_whyNoUse_6 : decode cX0_whyNoUse 6 = .ok (.iload_n 2, 1) := by decide +kernel
theorem dX0_whyNoUse_7 : decode cX0_whyNoUse 7 = .ok (.invokevirtual 59, 3) := by decide +kernel
theorem dX0_whyNoUse_10 : decode cX0_whyNoUse 10 = .ok (.aload_n 0, 1) := by decide +kernel
theorem dX0_whyNoUse_11 : decode cX0_whyNoUse 11 = .ok (.getfield 118, 3) := by decide +kernel
theorem dX0_whyNoUse_14 : decode cX0_whyNoUse 14 = .ok (.iload_n 1, 1) := by decide +kernel
theorem dX0_whyNoUse_15 : decode cX0_whyNoUse 15 = .ok (.invokestatic 65, 3) := by decide +kernel
theorem dX0_whyNoUse_18 : decode cX0_whyNoUse 18 = .ok (.ifCond .eq 5, 3) := by decide +kernel
theorem dX0_whyNoUse_21 : decode cX0_whyNoUse 21 = .ok (.iconst 1, 1) := by decide +kernel
theorem dX0_whyNoUse_22 : decode cX0_whyNoUse 22 = .ok (.ireturn, 1) := by decide +kernel
theorem dX0_whyNoUse_23 : decode cX0_whyNoUse 23 = .ok (.aload_n 0, 1) := by decide +kernel
theorem dX0_whyNoUse_24 : decode cX0_whyNoUse 24 = .ok (.getfield 121, 3) := by decide +kernel
theorem dX0_whyNoUse_27 : decode cX0_whyNoUse 27 = .ok (.iload_n 1, 1) := by decide +kernel
theorem dX0_whyNoUse_28 : decode cX0_whyNoUse 28 = .ok (.invokestatic 65, 3) := by decide +kernel
theorem dX0_whyNoUse_31 : decode cX0_whyNoUse 31 = .ok (.ifCond .eq 5, 3) := by decide +kernel
theorem dX0_whyNoUse_34 : decode cX0_whyNoUse 34 = .ok (.iconst 2, 1) := by decide +kernel
theorem dX0_whyNoUse_35 : decode cX0_whyNoUse 35 = .ok (.ireturn, 1) := by decide +kernel
theorem dX0_whyNoUse_36 : decode cX0_whyNoUse 36 = .ok (.aload_n 0, 1) := by decide +kernel
theorem dX0_whyNoUse_37 : decode cX0_whyNoUse 37 = .ok (.getfield 22, 3) := by decide +kernel
theorem dX0_whyNoUse_40 : decode cX0_whyNoUse 40 = .ok (.iload_n 1, 1) := by decide +kernel
theorem dX0_whyNoUse_41 : decode cX0_whyNoUse 41 = .ok (.iaload, 1) := by decide +kernel
theorem dX0_whyNoUse_42 : decode cX0_whyNoUse 42 = .ok (.iload_n 2, 1) := by decide +kernel
theorem dX0_whyNoUse_43 : decode cX0_whyNoUse 43 = .ok (.invokestatic 65, 3) := by decide +kernel
theorem dX0_whyNoUse_46 : decode cX0_whyNoUse 46 = .ok (.ifCond .ne 5, 3) := by decide +kernel
theorem dX0_whyNoUse_49 : decode cX0_whyNoUse 49 = .ok (.iconst 3, 1) := by decide +kernel
theorem dX0_whyNoUse_50 : decode cX0_whyNoUse 50 = .ok (.ireturn, 1) := by decide +kernel
theorem dX0_whyNoUse_51 : decode cX0_whyNoUse 51 = .ok (.aload_n 0, 1) := by decide +kernel
theorem dX0_whyNoUse_52 : decode cX0_whyNoUse 52 = .ok (.aload_n 0, 1) := by decide +kernel
theorem dX0_whyNoUse_53 : decode cX0_whyNoUse 53 = .ok (.getfield 25, 3) := by decide +kernel
theorem dX0_whyNoUse_56 : decode cX0_whyNoUse 56 = .ok (.iload_n 1, 1) := by decide +kernel
theorem dX0_whyNoUse_57 : decode cX0_whyNoUse 57 = .ok (.iaload, 1) := by decide +kernel
theorem dX0_whyNoUse_58 : decode cX0_whyNoUse 58 = .ok (.invokevirtual 130, 3) := by decide +kernel
theorem dX0_whyNoUse_61 : decode cX0_whyNoUse 61 = .ok (.iload_n 2, 1) := by decide +kernel
theorem dX0_whyNoUse_62 : decode cX0_whyNoUse 62 = .ok (.invokestatic 65, 3) := by decide +kernel
theorem dX0_whyNoUse_65 : decode cX0_whyNoUse 65 = .ok (.ifCond .ne 5, 3) := by decide +kernel
theorem dX0_whyNoUse_68 : decode cX0_whyNoUse 68 = .ok (.iconst 4, 1) := by decide +kernel
theorem dX0_whyNoUse_69 : decode cX0_whyNoUse 69 = .ok (.ireturn, 1) := by decide +kernel
theorem dX0_whyNoUse_70 : decode cX0_whyNoUse 70 = .ok (.aload_n 0, 1) := by decide +kernel
theorem dX0_whyNoUse_71 : decode cX0_whyNoUse 71 = .ok (.iload_n 2, 1) := by decide +kernel
theorem dX0_whyNoUse_72 : decode cX0_whyNoUse 72 = .ok (.aload_n 0, 1) := by decide +kernel
theorem dX0_whyNoUse_73 : decode cX0_whyNoUse 73 = .ok (.getfield 19, 3) := by decide +kernel
theorem dX0_whyNoUse_76 : decode cX0_whyNoUse 76 = .ok (.iload_n 1, 1) := by decide +kernel
theorem dX0_whyNoUse_77 : decode cX0_whyNoUse 77 = .ok (.iaload, 1) := by decide +kernel
theorem dX0_whyNoUse_78 : decode cX0_whyNoUse 78 = .ok (.invokevirtual 133, 3) := by decide +kernel
theorem dX0_whyNoUse_81 : decode cX0_whyNoUse 81 = .ok (.ifCond .eq 7, 3) := by decide +kernel
theorem dX0_whyNoUse_84 : decode cX0_whyNoUse 84 = .ok (.iconst 0, 1) := by decide +kernel
theorem dX0_whyNoUse_85 : decode cX0_whyNoUse 85 = .ok (.goto 4, 3) := by decide +kernel
theorem dX0_whyNoUse_88 : decode cX0_whyNoUse 88 = .ok (.iconst 5, 1) := by decide +kernel
theorem dX0_whyNoUse_89 : decode cX0_whyNoUse 89 = .ok (.ireturn, 1) := by decide +kernel
set_option maxRecDepth 20000 in
theorem ggX0_use_X0_whyNoUse : GoodIn wsX0_use wsX0_whyNoUse := goodIn_ca (goodIn_r _ [8, 9, 10, 11, 12, 13, 14, 15, 16, 7, 17, 18, 19, 20, 21, 22, 23, 24, 25, 26, 27, 28, 29, 30, 31, 32, 33, 34, 35, 36, 37, 38, 39, 40, 41, 42, 43, 44, 45, 46, 47, 51, 52, 53, 54, 55, 56, 57, 58, 59, 60, 61, 62, 63, 64, 65, 66] (by decide +kernel) (by decide +kernel)) (goodIn_sub (fun _ h => List.mem_cons_of_mem _ (List.mem_append_right _ h)) (by decide +kernel))
set_option maxRecDepth 20000 in
theorem gX0_use_X0_whyNoUse : GoodIn wsX0_use (wsV RX0 136 RX0 yX0_whyNoUse wsX0_whyNoUse) := goodIn_app (goodIn_of _ (by decide +kernel)) ggX0_use_X0_whyNoUse
set_option maxRecDepth 20000 in
theorem ggX0_use_X0_useIndex : GoodIn wsX0_use wsX0_useIndex := goodIn_r _ [50] (by decide +kernel) (by decide +kernel)
set_option maxRecDepth 20000 in
theorem gX0_use_X0_useIndex : GoodIn wsX0_use (va_wsS RX0 141 yX0_useIndex wsX0_useIndex) := goodIn_app (goodIn_of _ (by decide +kernel)) ggX0_use_X0_useIndex
theorem dX0_use_0 : decode cX0_use 0 = .ok (.aload_n 0, 1) := by decide +kernel
theorem dX0_use_1 : decode cX0_use 1 = .ok (.iload_n 1, 1) := by decide +kernel
theorem dX0_use_2 : decode cX0_use 2 = .ok (.iload_n 2, 1) := by decide +kernel
theorem dX0_use_3 : decode cX0_use 3 = .ok (.invokevirtual 136, 3) := by decide +kernel
theorem dX0_use_6 : decode cX0_use 6 = .ok (.ifCond .eq 13, 3) := by decide +kernel
theorem dX0_use_9 : decode cX0_use 9 = .ok (.new 45, 3) := by decide +kernel
theorem dX0_use_12 : decode cX0_use 12 = .ok (.dup, 1) := by decide +kernel
theorem dX0_use_13 : decode cX0_use 13 = .ok (.ldc 139, 2) := by decide +kernel
theorem dX0_use_15 : decode cX0_use 15 = .ok (.invokespecial 49, 3) := by decide +kernel
theorem dX0_use_18 : decode cX0_use 18 = .ok (.athrow, 1) := by decide +kernel
theorem dX0_use_19 : decode cX0_use 19 = .ok (.iload_n 1, 1) := by decide +kernel
theorem dX0_use_20 : decode cX0_use 20 = .ok (.iload_n 2, 1) := by decide +kernel
theorem dX0_use_21 : decode cX0_use 21 = .ok (.invokestatic 141, 3) := by decide +kernel
theorem dX0_use_24 : decode cX0_use 24 = .ok (.istore_n 3, 1) := by decide +kernel
theorem dX0_use_25 : decode cX0_use 25 = .ok (.aload_n 0, 1) := by decide +kernel
theorem dX0_use_26 : decode cX0_use 26 = .ok (.getfield 31, 3) := by decide +kernel
theorem dX0_use_29 : decode cX0_use 29 = .ok (.iload_n 3, 1) := by decide +kernel
theorem dX0_use_30 : decode cX0_use 30 = .ok (.dup2, 1) := by decide +kernel
theorem dX0_use_31 : decode cX0_use 31 = .ok (.iaload, 1) := by decide +kernel
theorem dX0_use_32 : decode cX0_use 32 = .ok (.iconst 1, 1) := by decide +kernel
theorem dX0_use_33 : decode cX0_use 33 = .ok (.iadd, 1) := by decide +kernel
theorem dX0_use_34 : decode cX0_use 34 = .ok (.iastore, 1) := by decide +kernel
theorem dX0_use_35 : decode cX0_use 35 = .ok (.aload_n 0, 1) := by decide +kernel
theorem dX0_use_36 : decode cX0_use 36 = .ok (.getfield 31, 3) := by decide +kernel
theorem dX0_use_39 : decode cX0_use 39 = .ok (.iload_n 3, 1) := by decide +kernel
theorem dX0_use_40 : decode cX0_use 40 = .ok (.iaload, 1) := by decide +kernel
theorem dX0_use_41 : decode cX0_use 41 = .ok (.ireturn, 1) := by decide +kernel
set_option maxRecDepth 20000 in
theorem ggX0_uses_X0_checkSubject : GoodIn wsX0_uses wsX0_checkSubject := goodIn_ca (goodIn_r _ [8, 9, 10] (by decide +kernel) (by decide +kernel)) (goodIn_sub (fun _ h => List.mem_cons_of_mem _ (List.mem_append_right _ h)) (by decide +kernel))
set_option maxRecDepth 20000 in
theorem gX0_uses_X0_checkSubject : GoodIn wsX0_uses (wsV RX0 62 RX0 yX0_checkSubject wsX0_checkSubject) := goodIn_app (goodIn_of _ (by decide +kernel)) ggX0_uses_X0_checkSubject
set_option maxRecDepth 20000 in
theorem ggX0_uses_X0_checkPurpose : GoodIn wsX0_uses wsX0_checkPurpose := goodIn_ca (goodIn_r _ [14, 9, 10, 15, 25, 26, 27, 28, 29, 30, 31, 32, 33, 34, 35, 36, 37, 38, 39, 40] (by decide +kernel) (by decide +kernel)) (goodIn_sub (fun _ h => List.mem_cons_of_mem _ (List.mem_append_right _ h)) (by decide +kernel))
set_option maxRecDepth 20000 in
theorem gX0_uses_X0_checkPurpose : GoodIn wsX0_uses (wsV RX0 59 RX0 yX0_checkPurpose wsX0_checkPurpose) := goodIn_app (goodIn_of _ (by decide +kernel)) ggX0_uses_X0_checkPurpose
set_option maxRecDepth 20000 in
theorem ggX0_uses_X0_has : GoodIn wsX0_uses wsX0_has := goodIn_r _ [18, 19, 20, 7, 21] (by decide +kernel) (by decide +kernel)
set_option maxRecDepth 20000 in
theorem gX0_uses_X0_has : GoodIn wsX0_uses (va_wsS RX0 65 yX0_has wsX0_has) := goodIn_app (goodIn_of _ (by decide +kernel)) ggX0_uses_X0_has
set_option maxRecDepth 20000 in
theorem ggX0_uses_X0_useIndex : GoodIn wsX0_uses wsX0_useIndex := goodIn_r _ [24] (by decide +kernel) (by decide +kernel)
set_option maxRecDepth 20000 in
theorem gX0_uses_X0_useIndex : GoodIn wsX0_uses (va_wsS RX0 141 yX0_useIndex wsX0_useIndex) := goodIn_app (goodIn_of _ (by decide +kernel)) ggX0_uses_X0_useIndex
theorem dX0_uses_0 : decode cX0_uses 0 = .ok (.aload_n 0, 1) := by decide +kernel
theorem dX0_uses_1 : decode cX0_uses 1 = .ok (.iload_n 1, 1) := by decide +kernel
theorem dX0_uses_2 : decode cX0_uses 2 = .ok (.invokevirtual 62, 3) := by decide +kernel
theorem dX0_uses_5 : decode cX0_uses 5 = .ok (.aload_n 0, 1) := by decide +kernel
theorem dX0_uses_6 : decode cX0_uses 6 = .ok (.iload_n 2, 1) := by decide +kernel
theorem dX0_uses_7 : decode cX0_uses 7 = .ok (.invokevirtual 59, 3) := by decide +kernel
theorem dX0_uses_10 : decode cX0_uses 10 = .ok (.iconst 0, 1) := by decide +kernel
theorem dX0_uses_11 : decode cX0_uses 11 = .ok (.istore_n 3, 1) := by decide +kernel
theorem dX0_uses_12 : decode cX0_uses 12 = .ok (.iconst 0, 1) := by decide +kernel
theorem dX0_uses_13 : decode cX0_uses 13 = .ok (.istore 4, 2) := by decide +kernel
theorem dX0_uses_15 : decode cX0_uses 15 = .ok (.iload 4, 2) := by decide +kernel
theorem dX0_uses_17 : decode cX0_uses 17 = .ok (.aload_n 0, 1) := by decide +kernel
theorem dX0_uses_18 : decode cX0_uses 18 = .ok (.getfield 115, 3) := by decide +kernel
theorem dX0_uses_21 : decode cX0_uses 21 = .ok (.if_icmp .ge 37, 3) := by decide +kernel
theorem dX0_uses_24 : decode cX0_uses 24 = .ok (.aload_n 0, 1) := by decide +kernel
theorem dX0_uses_25 : decode cX0_uses 25 = .ok (.getfield 25, 3) := by decide +kernel
theorem dX0_uses_28 : decode cX0_uses 28 = .ok (.iload 4, 2) := by decide +kernel
theorem dX0_uses_30 : decode cX0_uses 30 = .ok (.iaload, 1) := by decide +kernel
theorem dX0_uses_31 : decode cX0_uses 31 = .ok (.iload_n 1, 1) := by decide +kernel
theorem dX0_uses_32 : decode cX0_uses 32 = .ok (.invokestatic 65, 3) := by decide +kernel
theorem dX0_uses_35 : decode cX0_uses 35 = .ok (.ifCond .eq 17, 3) := by decide +kernel
theorem dX0_uses_38 : decode cX0_uses 38 = .ok (.iload_n 3, 1) := by decide +kernel
theorem dX0_uses_39 : decode cX0_uses 39 = .ok (.aload_n 0, 1) := by decide +kernel
theorem dX0_uses_40 : decode cX0_uses 40 = .ok (.getfield 31, 3) := by decide +kernel
theorem dX0_uses_43 : decode cX0_uses 43 = .ok (.iload 4, 2) := by decide +kernel
theorem dX0_uses_45 : decode cX0_uses 45 = .ok (.iload_n 2, 1) := by decide +kernel
theorem dX0_uses_46 : decode cX0_uses 46 = .ok (.invokestatic 141, 3) := by decide +kernel
theorem dX0_uses_49 : decode cX0_uses 49 = .ok (.iaload, 1) := by decide +kernel
theorem dX0_uses_50 : decode cX0_uses 50 = .ok (.iadd, 1) := by decide +kernel
theorem dX0_uses_51 : decode cX0_uses 51 = .ok (.istore_n 3, 1) := by decide +kernel
theorem dX0_uses_52 : decode cX0_uses 52 = .ok (.iinc 4 1, 3) := by decide +kernel
theorem dX0_uses_55 : decode cX0_uses 55 = .ok (.goto (-40), 3) := by decide +kernel
theorem dX0_uses_58 : decode cX0_uses 58 = .ok (.iload_n 3, 1) := by decide +kernel
theorem dX0_uses_59 : decode cX0_uses 59 = .ok (.ireturn, 1) := by decide +kernel
set_option maxRecDepth 20000 in
theorem ggX0_passDays_X0_countDaysWithConsent : GoodIn wsX0_passDays wsX0_countDaysWithConsent := goodIn_r _ [8, 9, 10, 11, 12, 13, 7, 14, 15, 16, 17, 18, 19, 20, 65, 66, 67, 68, 69, 70, 71, 72, 73, 74, 75, 76, 77, 78, 79, 80] (by decide +kernel) (by decide +kernel)
set_option maxRecDepth 20000 in
theorem gX0_passDays_X0_countDaysWithConsent : GoodIn wsX0_passDays (wsV RX0 146 RX0 yX0_countDaysWithConsent wsX0_countDaysWithConsent) := goodIn_app (goodIn_of _ (by decide +kernel)) ggX0_passDays_X0_countDaysWithConsent
set_option maxRecDepth 20000 in
theorem ggX0_passDays_X0_dueRecords : GoodIn wsX0_passDays wsX0_dueRecords := goodIn_r _ [24, 25, 26, 27, 28, 29, 12, 13, 7, 14, 15, 16, 17, 30, 31, 32, 33, 9, 34, 35, 36, 37, 10, 38, 39, 40, 41, 42, 43, 44, 45, 46, 3, 47, 65, 66, 67, 68, 69, 70, 71, 72, 73, 74, 75, 76, 77, 78, 79, 80] (by decide +kernel) (by decide +kernel)
set_option maxRecDepth 20000 in
theorem gX0_passDays_X0_dueRecords : GoodIn wsX0_passDays (wsV RX0 152 RX0 yX0_dueRecords wsX0_dueRecords) := goodIn_app (goodIn_of _ (by decide +kernel)) ggX0_passDays_X0_dueRecords
set_option maxRecDepth 20000 in
theorem ggX0_passDays_X0_requestWithAllBelow : GoodIn wsX0_passDays wsX0_requestWithAllBelow := goodIn_r _ [51, 26, 52, 53, 54, 55, 7, 56, 25, 57, 15, 16, 17, 58, 59, 60, 61, 62, 63, 64, 65, 66, 67, 68, 69, 70, 71, 72, 73, 74, 75, 76, 77, 78, 79, 80] (by decide +kernel) (by decide +kernel)
set_option maxRecDepth 20000 in
theorem gX0_passDays_X0_requestWithAllBelow : GoodIn wsX0_passDays (wsV RX0 156 RX0 yX0_requestWithAllBelow wsX0_requestWithAllBelow) := goodIn_app (goodIn_of _ (by decide +kernel)) ggX0_passDays_X0_requestWithAllBelow
theorem dX0_passDays_0 : decode cX0_passDays 0 = .ok (.iload_n 1, 1) := by decide +kernel
theorem dX0_passDays_1 : decode cX0_passDays 1 = .ok (.iconst 1, 1) := by decide +kernel
theorem dX0_passDays_2 : decode cX0_passDays 2 = .ok (.if_icmp .lt 10, 3) := by decide +kernel
theorem dX0_passDays_5 : decode cX0_passDays 5 = .ok (.iload_n 1, 1) := by decide +kernel
theorem dX0_passDays_6 : decode cX0_passDays 6 = .ok (.sipush 1000, 3) := by decide +kernel
theorem dX0_passDays_9 : decode cX0_passDays 9 = .ok (.if_icmp .le 13, 3) := by decide +kernel
theorem dX0_passDays_12 : decode cX0_passDays 12 = .ok (.new 88, 3) := by decide +kernel
theorem dX0_passDays_15 : decode cX0_passDays 15 = .ok (.dup, 1) := by decide +kernel
theorem dX0_passDays_16 : decode cX0_passDays 16 = .ok (.ldc 144, 2) := by decide +kernel
theorem dX0_passDays_18 : decode cX0_passDays 18 = .ok (.invokespecial 92, 3) := by decide +kernel
theorem dX0_passDays_21 : decode cX0_passDays 21 = .ok (.athrow, 1) := by decide +kernel
theorem dX0_passDays_22 : decode cX0_passDays 22 = .ok (.aload_n 0, 1) := by decide +kernel
theorem dX0_passDays_23 : decode cX0_passDays 23 = .ok (.iload_n 1, 1) := by decide +kernel
theorem dX0_passDays_24 : decode cX0_passDays 24 = .ok (.invokevirtual 146, 3) := by decide +kernel
theorem dX0_passDays_27 : decode cX0_passDays 27 = .ok (.aload_n 0, 1) := by decide +kernel
theorem dX0_passDays_28 : decode cX0_passDays 28 = .ok (.dup, 1) := by decide +kernel
theorem dX0_passDays_29 : decode cX0_passDays 29 = .ok (.getfield 149, 3) := by decide +kernel
theorem dX0_passDays_32 : decode cX0_passDays 32 = .ok (.iload_n 1, 1) := by decide +kernel
theorem dX0_passDays_33 : decode cX0_passDays 33 = .ok (.iadd, 1) := by decide +kernel
theorem dX0_passDays_34 : decode cX0_passDays 34 = .ok (.putfield 149, 3) := by decide +kernel
theorem dX0_passDays_37 : decode cX0_passDays 37 = .ok (.aload_n 0, 1) := by decide +kernel
theorem dX0_passDays_38 : decode cX0_passDays 38 = .ok (.aload_n 0, 1) := by decide +kernel
theorem dX0_passDays_39 : decode cX0_passDays 39 = .ok (.invokevirtual 152, 3) := by decide +kernel
theorem dX0_passDays_42 : decode cX0_passDays 42 = .ok (.invokevirtual 156, 3) := by decide +kernel
theorem dX0_passDays_45 : decode cX0_passDays 45 = .ok (.ireturn, 1) := by decide +kernel
theorem dX0_day_0 : decode cX0_day 0 = .ok (.aload_n 0, 1) := by decide +kernel
theorem dX0_day_1 : decode cX0_day 1 = .ok (.getfield 149, 3) := by decide +kernel
theorem dX0_day_4 : decode cX0_day 4 = .ok (.ireturn, 1) := by decide +kernel
set_option maxRecDepth 20000 in
theorem ggX0_nextEnd_X0_has : GoodIn wsX0_nextEnd wsX0_has := goodIn_r _ [10, 11, 12, 9, 13] (by decide +kernel) (by decide +kernel)
set_option maxRecDepth 20000 in
theorem gX0_nextEnd_X0_has : GoodIn wsX0_nextEnd (va_wsS RX0 65 yX0_has wsX0_has) := goodIn_app (goodIn_of _ (by decide +kernel)) ggX0_nextEnd_X0_has
set_option maxRecDepth 20000 in
theorem ggX0_nextEnd_X0_endNow : GoodIn wsX0_nextEnd wsX0_endNow := goodIn_r _ [17, 18, 19, 20, 21, 22, 23, 5, 24, 25, 26, 27, 28, 9, 29, 30, 31, 32, 33, 34, 35, 11, 12, 13, 7, 8, 10, 36, 37, 38, 39, 40, 41, 42, 43, 44, 45, 46, 47, 48, 49, 50, 51] (by decide +kernel) (by decide +kernel)
set_option maxRecDepth 20000 in
theorem gX0_nextEnd_X0_endNow : GoodIn wsX0_nextEnd (wsV RX0 127 RX0 yX0_endNow wsX0_endNow) := goodIn_app (goodIn_of _ (by decide +kernel)) ggX0_nextEnd_X0_endNow
theorem dX0_nextEnd_0 : decode cX0_nextEnd 0 = .ok (.iconst (-1), 1) := by decide +kernel
theorem dX0_nextEnd_1 : decode cX0_nextEnd 1 = .ok (.istore_n 1, 1) := by decide +kernel
theorem dX0_nextEnd_2 : decode cX0_nextEnd 2 = .ok (.iconst 0, 1) := by decide +kernel
theorem dX0_nextEnd_3 : decode cX0_nextEnd 3 = .ok (.istore_n 2, 1) := by decide +kernel
theorem dX0_nextEnd_4 : decode cX0_nextEnd 4 = .ok (.iload_n 2, 1) := by decide +kernel
theorem dX0_nextEnd_5 : decode cX0_nextEnd 5 = .ok (.aload_n 0, 1) := by decide +kernel
theorem dX0_nextEnd_6 : decode cX0_nextEnd 6 = .ok (.getfield 115, 3) := by decide +kernel
theorem dX0_nextEnd_9 : decode cX0_nextEnd 9 = .ok (.if_icmp .ge 41, 3) := by decide +kernel
theorem dX0_nextEnd_12 : decode cX0_nextEnd 12 = .ok (.aload_n 0, 1) := by decide +kernel
theorem dX0_nextEnd_13 : decode cX0_nextEnd 13 = .ok (.getfield 83, 3) := by decide +kernel
theorem dX0_nextEnd_16 : decode cX0_nextEnd 16 = .ok (.iload_n 2, 1) := by decide +kernel
theorem dX0_nextEnd_17 : decode cX0_nextEnd 17 = .ok (.invokestatic 65, 3) := by decide +kernel
theorem dX0_nextEnd_20 : decode cX0_nextEnd 20 = .ok (.ifCond .eq 24, 3) := by decide +kernel
theorem dX0_nextEnd_23 : decode cX0_nextEnd 23 = .ok (.aload_n 0, 1) := by decide +kernel
theorem dX0_nextEnd_24 : decode cX0_nextEnd 24 = .ok (.iload_n 2, 1) := by decide +kernel
theorem dX0_nextEnd_25 : decode cX0_nextEnd 25 = .ok (.invokevirtual 127, 3) := by decide +kernel
theorem dX0_nextEnd_28 : decode cX0_nextEnd 28 = .ok (.istore_n 3, 1) := by decide +kernel
theorem dX0_nextEnd_29 : decode cX0_nextEnd 29 = .ok (.iload_n 1, 1) := by decide +kernel
theorem dX0_nextEnd_30 : decode cX0_nextEnd 30 = .ok (.iconst (-1), 1) := by decide +kernel
theorem dX0_nextEnd_31 : decode cX0_nextEnd 31 = .ok (.if_icmp .ne 7, 3) := by decide +kernel
theorem dX0_nextEnd_34 : decode cX0_nextEnd 34 = .ok (.iload_n 3, 1) := by decide +kernel
theorem dX0_nextEnd_35 : decode cX0_nextEnd 35 = .ok (.goto 8, 3) := by decide +kernel
theorem dX0_nextEnd_38 : decode cX0_nextEnd 38 = .ok (.iload_n 1, 1) := by decide +kernel
theorem dX0_nextEnd_39 : decode cX0_nextEnd 39 = .ok (.iload_n 3, 1) := by decide +kernel
theorem dX0_nextEnd_40 : decode cX0_nextEnd 40 = .ok (.invokestatic 159, 3) := by decide +kernel
theorem dX0_nextEnd_43 : decode cX0_nextEnd 43 = .ok (.istore_n 1, 1) := by decide +kernel
theorem dX0_nextEnd_44 : decode cX0_nextEnd 44 = .ok (.iinc 2 1, 3) := by decide +kernel
theorem dX0_nextEnd_47 : decode cX0_nextEnd 47 = .ok (.goto (-43), 3) := by decide +kernel
theorem dX0_nextEnd_50 : decode cX0_nextEnd 50 = .ok (.iload_n 1, 1) := by decide +kernel
theorem dX0_nextEnd_51 : decode cX0_nextEnd 51 = .ok (.ireturn, 1) := by decide +kernel
set_option maxRecDepth 20000 in
theorem ggX0_hold_X0_checkCase : GoodIn wsX0_hold wsX0_checkCase := goodIn_ca (goodIn_r _ [9, 10, 11] (by decide +kernel) (by decide +kernel)) (goodIn_sub (fun _ h => List.mem_cons_of_mem _ (List.mem_append_right _ h)) (by decide +kernel))
set_option maxRecDepth 20000 in
theorem gX0_hold_X0_checkCase : GoodIn wsX0_hold (wsV RX0 164 RX0 yX0_checkCase wsX0_checkCase) := goodIn_app (goodIn_of _ (by decide +kernel)) ggX0_hold_X0_checkCase
set_option maxRecDepth 20000 in
theorem ggX0_hold_X0_checkRecord : GoodIn wsX0_hold wsX0_checkRecord := goodIn_ca (goodIn_r _ [15, 10, 11, 16, 30, 31, 32, 33, 34, 35, 36, 37, 38, 39, 40, 41, 42, 43, 44, 45] (by decide +kernel) (by decide +kernel)) (goodIn_sub (fun _ h => List.mem_cons_of_mem _ (List.mem_append_right _ h)) (by decide +kernel))
set_option maxRecDepth 20000 in
theorem gX0_hold_X0_checkRecord : GoodIn wsX0_hold (wsV RX0 80 RX0 yX0_checkRecord wsX0_checkRecord) := goodIn_app (goodIn_of _ (by decide +kernel)) ggX0_hold_X0_checkRecord
set_option maxRecDepth 20000 in
theorem ggX0_hold_X0_has : GoodIn wsX0_hold wsX0_has := goodIn_r _ [19, 20, 21, 8, 22] (by decide +kernel) (by decide +kernel)
set_option maxRecDepth 20000 in
theorem gX0_hold_X0_has : GoodIn wsX0_hold (va_wsS RX0 65 yX0_has wsX0_has) := goodIn_app (goodIn_of _ (by decide +kernel)) ggX0_hold_X0_has
set_option maxRecDepth 20000 in
theorem ggX0_hold_X0_bit : GoodIn wsX0_hold wsX0_bit := goodIn_r _ [22] (by decide +kernel) (by decide +kernel)
set_option maxRecDepth 20000 in
theorem gX0_hold_X0_bit : GoodIn wsX0_hold (va_wsS RX0 55 yX0_bit wsX0_bit) := goodIn_app (goodIn_of _ (by decide +kernel)) ggX0_hold_X0_bit
set_option maxRecDepth 20000 in
theorem ggX0_hold_J6_bitCount_0f7a4 : GoodIn wsX0_hold wsJ6_bitCount_0f7a4 := goodIn_r _ [26, 27, 28, 29] (by decide +kernel) (by decide +kernel)
set_option maxRecDepth 20000 in
theorem gX0_hold_J6_bitCount_0f7a4 : GoodIn wsX0_hold (va_wsS RX0 110 yJ6_bitCount_0f7a4 wsJ6_bitCount_0f7a4) := goodIn_app (goodIn_of _ (by decide +kernel)) ggX0_hold_J6_bitCount_0f7a4
theorem dX0_hold_0 : decode cX0_hold 0 = .ok (.aload_n 0, 1) := by decide +kernel
theorem dX0_hold_1 : decode cX0_hold 1 = .ok (.iload_n 1, 1) := by decide +kernel
theorem dX0_hold_2 : decode cX0_hold 2 = .ok (.invokevirtual 164, 3) := by decide +kernel
theorem dX0_hold_5 : decode cX0_hold 5 = .ok (.aload_n 0, 1) := by decide +kernel
theorem dX0_hold_6 : decode cX0_hold 6 = .ok (.iload_n 2, 1) := by decide +kernel
theorem dX0_hold_7 : decode cX0_hold 7 = .ok (.invokevirtual 80, 3) := by decide +kernel
theorem dX0_hold_10 : decode cX0_hold 10 = .ok (.aload_n 0, 1) := by decide +kernel
theorem dX0_hold_11 : decode cX0_hold 11 = .ok (.getfield 118, 3) := by decide +kernel
theorem dX0_hold_14 : decode cX0_hold 14 = .ok (.iload_n 2, 1) := by decide +kernel
theorem dX0_hold_15 : decode cX0_hold 15 = .ok (.invokestatic 65, 3) := by decide +kernel
theorem dX0_hold_18 : decode cX0_hold 18 = .ok (.ifCond .eq 13, 3) := by decide +kernel
theorem dX0_hold_21 : decode cX0_hold 21 = .ok (.new 45, 3) := by decide +kernel
theorem dX0_hold_24 : decode cX0_hold 24 = .ok (.dup, 1) := by decide +kernel
theorem dX0_hold_25 : decode cX0_hold 25 = .ok (.ldc 167, 2) := by decide +kernel
theorem dX0_hold_27 : decode cX0_hold 27 = .ok (.invokespecial 49, 3) := by decide +kernel
theorem dX0_hold_30 : decode cX0_hold 30 = .ok (.athrow, 1) := by decide +kernel
theorem dX0_hold_31 : decode cX0_hold 31 = .ok (.aload_n 0, 1) := by decide +kernel
theorem dX0_hold_32 : decode cX0_hold 32 = .ok (.getfield 34, 3) := by decide +kernel
theorem dX0_hold_35 : decode cX0_hold 35 = .ok (.iload_n 1, 1) := by decide +kernel
theorem dX0_hold_36 : decode cX0_hold 36 = .ok (.iaload, 1) := by decide +kernel
theorem dX0_hold_37 : decode cX0_hold 37 = .ok (.iload_n 2, 1) := by decide +kernel
theorem dX0_hold_38 : decode cX0_hold 38 = .ok (.invokestatic 65, 3) := by decide +kernel
theorem dX0_hold_41 : decode cX0_hold 41 = .ok (.ifCond .eq 13, 3) := by decide +kernel
theorem dX0_hold_44 : decode cX0_hold 44 = .ok (.new 45, 3) := by decide +kernel
theorem dX0_hold_47 : decode cX0_hold 47 = .ok (.dup, 1) := by decide +kernel
theorem dX0_hold_48 : decode cX0_hold 48 = .ok (.ldc 169, 2) := by decide +kernel
theorem dX0_hold_50 : decode cX0_hold 50 = .ok (.invokespecial 49, 3) := by decide +kernel
theorem dX0_hold_53 : decode cX0_hold 53 = .ok (.athrow, 1) := by decide +kernel
theorem dX0_hold_54 : decode cX0_hold 54 = .ok (.aload_n 0, 1) := by decide +kernel
theorem dX0_hold_55 : decode cX0_hold 55 = .ok (.getfield 34, 3) := by decide +kernel
theorem dX0_hold_58 : decode cX0_hold 58 = .ok (.iload_n 1, 1) := by decide +kernel
theorem dX0_hold_59 : decode cX0_hold 59 = .ok (.dup2, 1) := by decide +kernel
theorem dX0_hold_60 : decode cX0_hold 60 = .ok (.iaload, 1) := by decide +kernel
theorem dX0_hold_61 : decode cX0_hold 61 = .ok (.iload_n 2, 1) := by decide +kernel
theorem dX0_hold_62 : decode cX0_hold 62 = .ok (.invokestatic 55, 3) := by decide +kernel
theorem dX0_hold_65 : decode cX0_hold 65 = .ok (.ior, 1) := by decide +kernel
theorem dX0_hold_66 : decode cX0_hold 66 = .ok (.iastore, 1) := by decide +kernel
theorem dX0_hold_67 : decode cX0_hold 67 = .ok (.aload_n 0, 1) := by decide +kernel
theorem dX0_hold_68 : decode cX0_hold 68 = .ok (.getfield 34, 3) := by decide +kernel
theorem dX0_hold_71 : decode cX0_hold 71 = .ok (.iload_n 1, 1) := by decide +kernel
theorem dX0_hold_72 : decode cX0_hold 72 = .ok (.iaload, 1) := by decide +kernel
theorem dX0_hold_73 : decode cX0_hold 73 = .ok (.invokestatic 110, 3) := by decide +kernel
theorem dX0_hold_76 : decode cX0_hold 76 = .ok (.ireturn, 1) := by decide +kernel
set_option maxRecDepth 20000 in
theorem ggX0_close_X0_checkCase : GoodIn wsX0_close wsX0_checkCase := goodIn_ca (goodIn_r _ [6, 7, 8] (by decide +kernel) (by decide +kernel)) (goodIn_sub (fun _ h => List.mem_cons_of_mem _ (List.mem_append_right _ h)) (by decide +kernel))
set_option maxRecDepth 20000 in
theorem gX0_close_X0_checkCase : GoodIn wsX0_close (wsV RX0 164 RX0 yX0_checkCase wsX0_checkCase) := goodIn_app (goodIn_of _ (by decide +kernel)) ggX0_close_X0_checkCase
set_option maxRecDepth 20000 in
theorem ggX0_close_X0_heldRecords : GoodIn wsX0_close wsX0_heldRecords := goodIn_r _ [12, 1, 20, 21, 22, 23, 24, 25, 26, 27, 28, 29, 30, 31, 32, 33, 34, 35] (by decide +kernel) (by decide +kernel)
set_option maxRecDepth 20000 in
theorem gX0_close_X0_heldRecords : GoodIn wsX0_close (wsV RX0 171 RX0 yX0_heldRecords wsX0_heldRecords) := goodIn_app (goodIn_of _ (by decide +kernel)) ggX0_close_X0_heldRecords
set_option maxRecDepth 20000 in
theorem ggX0_close_J6_bitCount_0f7a4 : GoodIn wsX0_close wsJ6_bitCount_0f7a4 := goodIn_r _ [16, 17, 18, 19] (by decide +kernel) (by decide +kernel)
set_option maxRecDepth 20000 in
theorem gX0_close_J6_bitCount_0f7a4 : GoodIn wsX0_close (va_wsS RX0 110 yJ6_bitCount_0f7a4 wsJ6_bitCount_0f7a4) := goodIn_app (goodIn_of _ (by decide +kernel)) ggX0_close_J6_bitCount_0f7a4
theorem dX0_close_0 : decode cX0_close 0 = .ok (.aload_n 0, 1) := by decide +kernel
theorem dX0_close_1 : decode cX0_close 1 = .ok (.iload_n 1, 1) := by decide +kernel
theorem dX0_close_2 : decode cX0_close 2 = .ok (.invokevirtual 164, 3) := by decide +kernel
theorem dX0_close_5 : decode cX0_close 5 = .ok (.aload_n 0, 1) := by decide +kernel
theorem dX0_close_6 : decode cX0_close 6 = .ok (.invokevirtual 171, 3) := by decide +kernel
theorem dX0_close_9 : decode cX0_close 9 = .ok (.istore_n 2, 1) := by decide +kernel
theorem dX0_close_10 : decode cX0_close 10 = .ok (.aload_n 0, 1) := by decide +kernel
theorem dX0_close_11 : decode cX0_close 11 = .ok (.getfield 34, 3) := by decide +kernel
theorem dX0_close_14 : decode cX0_close 14 = .ok (.iload_n 1, 1) := by decide +kernel
theorem dX0_close_15 : decode cX0_close 15 = .ok (.iconst 0, 1) := by decide +kernel
theorem dX0_close_16 : decode cX0_close 16 = .ok (.iastore, 1) := by decide +kernel
theorem dX0_close_17 : decode cX0_close 17 = .ok (.iload_n 2, 1) := by decide +kernel
theorem dX0_close_18 : decode cX0_close 18 = .ok (.aload_n 0, 1) := by decide +kernel
theorem dX0_close_19 : decode cX0_close 19 = .ok (.invokevirtual 171, 3) := by decide +kernel
theorem dX0_close_22 : decode cX0_close 22 = .ok (.iconst (-1), 1) := by decide +kernel
theorem dX0_close_23 : decode cX0_close 23 = .ok (.ixor, 1) := by decide +kernel
theorem dX0_close_24 : decode cX0_close 24 = .ok (.iand, 1) := by decide +kernel
theorem dX0_close_25 : decode cX0_close 25 = .ok (.invokestatic 110, 3) := by decide +kernel
theorem dX0_close_28 : decode cX0_close 28 = .ok (.ireturn, 1) := by decide +kernel
set_option maxRecDepth 20000 in
theorem ggX0_held_X0_heldRecords : GoodIn wsX0_held wsX0_heldRecords := goodIn_r _ [5, 6, 7, 8, 9, 10, 11, 12, 13, 14, 15, 16, 17, 18, 19, 20, 21, 22] (by decide +kernel) (by decide +kernel)
set_option maxRecDepth 20000 in
theorem gX0_held_X0_heldRecords : GoodIn wsX0_held (wsV RX0 171 RX0 yX0_heldRecords wsX0_heldRecords) := goodIn_app (goodIn_of _ (by decide +kernel)) ggX0_held_X0_heldRecords
theorem dX0_held_0 : decode cX0_held 0 = .ok (.aload_n 0, 1) := by decide +kernel
theorem dX0_held_1 : decode cX0_held 1 = .ok (.invokevirtual 171, 3) := by decide +kernel
theorem dX0_held_4 : decode cX0_held 4 = .ok (.ireturn, 1) := by decide +kernel
set_option maxRecDepth 20000 in
theorem ggX0_request_X0_checkSubject : GoodIn wsX0_request wsX0_checkSubject := goodIn_ca (goodIn_r _ [6, 7, 8] (by decide +kernel) (by decide +kernel)) (goodIn_sub (fun _ h => List.mem_cons_of_mem _ (List.mem_append_right _ h)) (by decide +kernel))
set_option maxRecDepth 20000 in
theorem gX0_request_X0_checkSubject : GoodIn wsX0_request (wsV RX0 62 RX0 yX0_checkSubject wsX0_checkSubject) := goodIn_app (goodIn_of _ (by decide +kernel)) ggX0_request_X0_checkSubject
set_option maxRecDepth 20000 in
theorem ggX0_request_X0_recordsOf : GoodIn wsX0_request wsX0_recordsOf := goodIn_r _ [12, 13, 14, 15, 16, 5, 17, 18, 19, 20, 38, 39, 40, 41, 42, 43, 44, 45, 46, 47, 48, 49, 50, 51, 52, 53] (by decide +kernel) (by decide +kernel)
set_option maxRecDepth 20000 in
theorem gX0_request_X0_recordsOf : GoodIn wsX0_request (wsV RX0 174 RX0 yX0_recordsOf wsX0_recordsOf) := goodIn_app (goodIn_of _ (by decide +kernel)) ggX0_request_X0_recordsOf
set_option maxRecDepth 20000 in
theorem ggX0_request_X0_requestWithAllBelow : GoodIn wsX0_request wsX0_requestWithAllBelow := goodIn_r _ [24, 1, 25, 26, 27, 28, 5, 29, 13, 30, 18, 19, 20, 31, 32, 33, 34, 35, 36, 37, 38, 39, 40, 41, 42, 43, 44, 45, 46, 47, 48, 49, 50, 51, 52, 53] (by decide +kernel) (by decide +kernel)
set_option maxRecDepth 20000 in
theorem gX0_request_X0_requestWithAllBelow : GoodIn wsX0_request (wsV RX0 156 RX0 yX0_requestWithAllBelow wsX0_requestWithAllBelow) := goodIn_app (goodIn_of _ (by decide +kernel)) ggX0_request_X0_requestWithAllBelow
theorem dX0_request_0 : decode cX0_request 0 = .ok (.aload_n 0, 1) := by decide +kernel
theorem dX0_request_1 : decode cX0_request 1 = .ok (.iload_n 1, 1) := by decide +kernel
theorem dX0_request_2 : decode cX0_request 2 = .ok (.invokevirtual 62, 3) := by decide +kernel
theorem dX0_request_5 : decode cX0_request 5 = .ok (.aload_n 0, 1) := by decide +kernel
theorem dX0_request_6 : decode cX0_request 6 = .ok (.aload_n 0, 1) := by decide +kernel
theorem dX0_request_7 : decode cX0_request 7 = .ok (.iload_n 1, 1) := by decide +kernel
theorem dX0_request_8 : decode cX0_request 8 = .ok (.invokevirtual 174, 3) := by decide +kernel
theorem dX0_request_11 : decode cX0_request 11 = .ok (.aload_n 0, 1) := by decide +kernel
theorem dX0_request_12 : decode cX0_request 12 = .ok (.getfield 83, 3) := by decide +kernel
theorem dX0_request_15 : decode cX0_request 15 = .ok (.iand, 1) := by decide +kernel
theorem dX0_request_16 : decode cX0_request 16 = .ok (.invokevirtual 156, 3) := by decide +kernel
theorem dX0_request_19 : decode cX0_request 19 = .ok (.ireturn, 1) := by decide +kernel
