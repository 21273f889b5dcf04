set_option maxRecDepth 20000 in
theorem ggL_addPurpose_X0_addPurpose : GoodIn wsL_addPurpose wsX0_addPurpose := goodIn_ca (goodIn_ca (goodIn_r _ [7, 8, 9, 10, 11, 12, 13, 14, 15, 6, 16, 17, 18, 19, 20, 21, 22, 23, 24, 25, 26, 27, 28, 29, 30, 31, 32, 33, 34, 35, 36, 37] (by decide +kernel) (by decide +kernel)) (goodIn_sub (fun _ h => List.mem_cons_of_mem _ (List.mem_append_left _ (List.mem_append_right _ h))) (by decide +kernel))) (goodIn_sub (fun _ h => List.mem_cons_of_mem _ (List.mem_append_right _ h)) (by decide +kernel))
set_option maxRecDepth 20000 in
theorem gL_addPurpose_X0_addPurpose : GoodIn wsL_addPurpose (wsV RL 7 RX0 yX0_addPurpose wsX0_addPurpose) := goodIn_app (goodIn_of _ (by decide +kernel)) ggL_addPurpose_X0_addPurpose
theorem dL_addPurpose_0 : decode cL_addPurpose 0 = .ok (.aload_n 3, 1) := by decide +kernel
theorem dL_addPurpose_1 : decode cL_addPurpose 1 = .ok (.iconst 0, 1) := by decide +kernel
theorem dL_addPurpose_2 : decode cL_addPurpose 2 = .ok (.aload_n 0, 1) := by decide +kernel
theorem dL_addPurpose_3 : decode cL_addPurpose 3 = .ok (.iload_n 1, 1) := by decide +kernel
theorem dL_addPurpose_4 : decode cL_addPurpose 4 = .ok (.iload_n 2, 1) := by decide +kernel
theorem dL_addPurpose_5 : decode cL_addPurpose 5 = .ok (.invokevirtual 7, 3) := by decide +kernel
theorem dL_addPurpose_8 : decode cL_addPurpose 8 = .ok (.i2l, 1) := by decide +kernel
theorem dL_addPurpose_9 : decode cL_addPurpose 9 = .ok (.lastore, 1) := by decide +kernel
theorem dL_addPurpose_10 : decode cL_addPurpose 10 = .ok (.goto 11, 3) := by decide +kernel
theorem dL_addPurpose_13 : decode cL_addPurpose 13 = .ok (.astore 4, 2) := by decide +kernel
theorem dL_addPurpose_15 : decode cL_addPurpose 15 = .ok (.iconst 1, 1) := by decide +kernel
theorem dL_addPurpose_16 : decode cL_addPurpose 16 = .ok (.ireturn, 1) := by decide +kernel
theorem dL_addPurpose_17 : decode cL_addPurpose 17 = .ok (.astore 4, 2) := by decide +kernel
theorem dL_addPurpose_19 : decode cL_addPurpose 19 = .ok (.iconst 2, 1) := by decide +kernel
theorem dL_addPurpose_20 : decode cL_addPurpose 20 = .ok (.ireturn, 1) := by decide +kernel
theorem dL_addPurpose_21 : decode cL_addPurpose 21 = .ok (.iconst 0, 1) := by decide +kernel
theorem dL_addPurpose_22 : decode cL_addPurpose 22 = .ok (.ireturn, 1) := by decide +kernel
set_option maxRecDepth 20000 in
theorem ggL_setRetention_X0_setRetention : GoodIn wsL_setRetention wsX0_setRetention := goodIn_ca (goodIn_ca (goodIn_r _ [7, 8, 9, 10, 11, 6, 12, 13, 14, 15, 16, 17, 18, 19, 20, 21, 22, 23, 24, 25, 26, 27, 28, 29, 30, 31, 32, 33, 34, 35, 36, 37] (by decide +kernel) (by decide +kernel)) (goodIn_sub (fun _ h => List.mem_cons_of_mem _ (List.mem_append_left _ (List.mem_append_right _ h))) (by decide +kernel))) (goodIn_sub (fun _ h => List.mem_cons_of_mem _ (List.mem_append_right _ h)) (by decide +kernel))
set_option maxRecDepth 20000 in
theorem gL_setRetention_X0_setRetention : GoodIn wsL_setRetention (wsV RL 17 RX0 yX0_setRetention wsX0_setRetention) := goodIn_app (goodIn_of _ (by decide +kernel)) ggL_setRetention_X0_setRetention
theorem dL_setRetention_0 : decode cL_setRetention 0 = .ok (.aload_n 3, 1) := by decide +kernel
theorem dL_setRetention_1 : decode cL_setRetention 1 = .ok (.iconst 0, 1) := by decide +kernel
theorem dL_setRetention_2 : decode cL_setRetention 2 = .ok (.aload_n 0, 1) := by decide +kernel
theorem dL_setRetention_3 : decode cL_setRetention 3 = .ok (.iload_n 1, 1) := by decide +kernel
theorem dL_setRetention_4 : decode cL_setRetention 4 = .ok (.iload_n 2, 1) := by decide +kernel
theorem dL_setRetention_5 : decode cL_setRetention 5 = .ok (.invokevirtual 17, 3) := by decide +kernel
theorem dL_setRetention_8 : decode cL_setRetention 8 = .ok (.i2l, 1) := by decide +kernel
theorem dL_setRetention_9 : decode cL_setRetention 9 = .ok (.lastore, 1) := by decide +kernel
theorem dL_setRetention_10 : decode cL_setRetention 10 = .ok (.goto 11, 3) := by decide +kernel
theorem dL_setRetention_13 : decode cL_setRetention 13 = .ok (.astore 4, 2) := by decide +kernel
theorem dL_setRetention_15 : decode cL_setRetention 15 = .ok (.iconst 1, 1) := by decide +kernel
theorem dL_setRetention_16 : decode cL_setRetention 16 = .ok (.ireturn, 1) := by decide +kernel
theorem dL_setRetention_17 : decode cL_setRetention 17 = .ok (.astore 4, 2) := by decide +kernel
theorem dL_setRetention_19 : decode cL_setRetention 19 = .ok (.iconst 2, 1) := by decide +kernel
theorem dL_setRetention_20 : decode cL_setRetention 20 = .ok (.ireturn, 1) := by decide +kernel
theorem dL_setRetention_21 : decode cL_setRetention 21 = .ok (.iconst 0, 1) := by decide +kernel
theorem dL_setRetention_22 : decode cL_setRetention 22 = .ok (.ireturn, 1) := by decide +kernel
set_option maxRecDepth 20000 in
theorem ggL_consent_X0_consent : GoodIn wsL_consent wsX0_consent := goodIn_ca (goodIn_r _ [6, 7, 8, 9, 10, 5, 11, 12, 13, 14, 15, 16, 17, 18, 19, 20, 21, 22, 23, 24, 25, 26, 27, 28, 29, 30, 31, 32, 33, 34, 35, 36, 37, 38, 39, 40] (by decide +kernel) (by decide +kernel)) (goodIn_sub (fun _ h => List.mem_cons_of_mem _ (List.mem_append_right _ h)) (by decide +kernel))
set_option maxRecDepth 20000 in
theorem gL_consent_X0_consent : GoodIn wsL_consent (wsV RL 23 RX0 yX0_consent wsX0_consent) := goodIn_app (goodIn_of _ (by decide +kernel)) ggL_consent_X0_consent
theorem dL_consent_0 : decode cL_consent 0 = .ok (.aload 4, 2) := by decide +kernel
theorem dL_consent_2 : decode cL_consent 2 = .ok (.iconst 0, 1) := by decide +kernel
theorem dL_consent_3 : decode cL_consent 3 = .ok (.aload_n 0, 1) := by decide +kernel
theorem dL_consent_4 : decode cL_consent 4 = .ok (.iload_n 1, 1) := by decide +kernel
theorem dL_consent_5 : decode cL_consent 5 = .ok (.iload_n 2, 1) := by decide +kernel
theorem dL_consent_6 : decode cL_consent 6 = .ok (.iload_n 3, 1) := by decide +kernel
theorem dL_consent_7 : decode cL_consent 7 = .ok (.invokevirtual 23, 3) := by decide +kernel
theorem dL_consent_10 : decode cL_consent 10 = .ok (.ifCond .eq 7, 3) := by decide +kernel
theorem dL_consent_13 : decode cL_consent 13 = .ok (.lconst 1, 1) := by decide +kernel
theorem dL_consent_14 : decode cL_consent 14 = .ok (.goto 4, 3) := by decide +kernel
theorem dL_consent_17 : decode cL_consent 17 = .ok (.lconst 0, 1) := by decide +kernel
theorem dL_consent_18 : decode cL_consent 18 = .ok (.lastore, 1) := by decide +kernel
theorem dL_consent_19 : decode cL_consent 19 = .ok (.goto 7, 3) := by decide +kernel
theorem dL_consent_22 : decode cL_consent 22 = .ok (.astore 5, 2) := by decide +kernel
theorem dL_consent_24 : decode cL_consent 24 = .ok (.iconst 1, 1) := by decide +kernel
theorem dL_consent_25 : decode cL_consent 25 = .ok (.ireturn, 1) := by decide +kernel
theorem dL_consent_26 : decode cL_consent 26 = .ok (.iconst 0, 1) := by decide +kernel
theorem dL_consent_27 : decode cL_consent 27 = .ok (.ireturn, 1) := by decide +kernel
set_option maxRecDepth 20000 in
theorem ggL_consents_X0_consents : GoodIn wsL_consents wsX0_consents := goodIn_ca (goodIn_r _ [6, 7, 8, 9, 10, 5, 11, 12, 13, 14, 15, 16, 17, 18, 19, 20, 21, 22, 23, 24, 25, 26, 27, 28, 29] (by decide +kernel) (by decide +kernel)) (goodIn_sub (fun _ h => List.mem_cons_of_mem _ (List.mem_append_right _ h)) (by decide +kernel))
set_option maxRecDepth 20000 in
theorem gL_consents_X0_consents : GoodIn wsL_consents (wsV RL 27 RX0 yX0_consents wsX0_consents) := goodIn_app (goodIn_of _ (by decide +kernel)) ggL_consents_X0_consents
theorem dL_consents_0 : decode cL_consents 0 = .ok (.aload_n 2, 1) := by decide +kernel
theorem dL_consents_1 : decode cL_consents 1 = .ok (.iconst 0, 1) := by decide +kernel
theorem dL_consents_2 : decode cL_consents 2 = .ok (.aload_n 0, 1) := by decide +kernel
theorem dL_consents_3 : decode cL_consents 3 = .ok (.iload_n 1, 1) := by decide +kernel
theorem dL_consents_4 : decode cL_consents 4 = .ok (.invokevirtual 27, 3) := by decide +kernel
theorem dL_consents_7 : decode cL_consents 7 = .ok (.i2l, 1) := by decide +kernel
theorem dL_consents_8 : decode cL_consents 8 = .ok (.lastore, 1) := by decide +kernel
theorem dL_consents_9 : decode cL_consents 9 = .ok (.goto 6, 3) := by decide +kernel
theorem dL_consents_12 : decode cL_consents 12 = .ok (.astore_n 3, 1) := by decide +kernel
theorem dL_consents_13 : decode cL_consents 13 = .ok (.iconst 1, 1) := by decide +kernel
theorem dL_consents_14 : decode cL_consents 14 = .ok (.ireturn, 1) := by decide +kernel
theorem dL_consents_15 : decode cL_consents 15 = .ok (.iconst 0, 1) := by decide +kernel
theorem dL_consents_16 : decode cL_consents 16 = .ok (.ireturn, 1) := by decide +kernel
set_option maxRecDepth 20000 in
theorem ggL_daysWithConsent_X0_daysWithConsent : GoodIn wsL_daysWithConsent wsX0_daysWithConsent := goodIn_ca (goodIn_r _ [6, 7, 8, 9, 10, 5, 11, 12, 13, 14, 15, 16, 17, 18, 19, 20, 21, 22, 23, 24, 25, 26, 27, 28, 29, 30, 31, 32, 33, 34, 35, 36, 37] (by decide +kernel) (by decide +kernel)) (goodIn_sub (fun _ h => List.mem_cons_of_mem _ (List.mem_append_right _ h)) (by decide +kernel))
set_option maxRecDepth 20000 in
theorem gL_daysWithConsent_X0_daysWithConsent : GoodIn wsL_daysWithConsent (wsV RL 31 RX0 yX0_daysWithConsent wsX0_daysWithConsent) := goodIn_app (goodIn_of _ (by decide +kernel)) ggL_daysWithConsent_X0_daysWithConsent
theorem dL_daysWithConsent_0 : decode cL_daysWithConsent 0 = .ok (.aload_n 3, 1) := by decide +kernel
theorem dL_daysWithConsent_1 : decode cL_daysWithConsent 1 = .ok (.iconst 0, 1) := by decide +kernel
theorem dL_daysWithConsent_2 : decode cL_daysWithConsent 2 = .ok (.aload_n 0, 1) := by decide +kernel
theorem dL_daysWithConsent_3 : decode cL_daysWithConsent 3 = .ok (.iload_n 1, 1) := by decide +kernel
theorem dL_daysWithConsent_4 : decode cL_daysWithConsent 4 = .ok (.iload_n 2, 1) := by decide +kernel
theorem dL_daysWithConsent_5 : decode cL_daysWithConsent 5 = .ok (.invokevirtual 31, 3) := by decide +kernel
theorem dL_daysWithConsent_8 : decode cL_daysWithConsent 8 = .ok (.i2l, 1) := by decide +kernel
theorem dL_daysWithConsent_9 : decode cL_daysWithConsent 9 = .ok (.lastore, 1) := by decide +kernel
theorem dL_daysWithConsent_10 : decode cL_daysWithConsent 10 = .ok (.goto 7, 3) := by decide +kernel
theorem dL_daysWithConsent_13 : decode cL_daysWithConsent 13 = .ok (.astore 4, 2) := by decide +kernel
theorem dL_daysWithConsent_15 : decode cL_daysWithConsent 15 = .ok (.iconst 1, 1) := by decide +kernel
theorem dL_daysWithConsent_16 : decode cL_daysWithConsent 16 = .ok (.ireturn, 1) := by decide +kernel
theorem dL_daysWithConsent_17 : decode cL_daysWithConsent 17 = .ok (.iconst 0, 1) := by decide +kernel
theorem dL_daysWithConsent_18 : decode cL_daysWithConsent 18 = .ok (.ireturn, 1) := by decide +kernel
set_option maxRecDepth 20000 in
theorem ggL_add_X0_add : GoodIn wsL_add wsX0_add := goodIn_ca (goodIn_ca (goodIn_ca (goodIn_r _ [8, 9, 10, 11, 7, 12, 13, 14, 15, 16, 17, 18, 19, 20, 21, 22, 23, 24, 25, 26, 27, 28, 29, 30, 31, 32, 33, 34, 35, 36, 37, 38, 39, 40, 41, 42, 43, 44, 45, 46, 47, 48, 49, 50, 51, 52, 53, 54, 55, 56, 57, 58, 59, 60, 61, 62, 63, 64, 65, 66, 67, 68, 69, 70, 71, 72, 73, 74, 75] (by decide +kernel) (by decide +kernel)) (goodIn_sub (fun _ h => List.mem_cons_of_mem _ (List.mem_append_left _ (List.mem_append_left _ (List.mem_append_right _ h)))) (by decide +kernel))) (goodIn_sub (fun _ h => List.mem_cons_of_mem _ (List.mem_append_left _ (List.mem_append_right _ h))) (by decide +kernel))) (goodIn_sub (fun _ h => List.mem_cons_of_mem _ (List.mem_append_right _ h)) (by decide +kernel))
set_option maxRecDepth 20000 in
theorem gL_add_X0_add : GoodIn wsL_add (wsV RL 34 RX0 yX0_add wsX0_add) := goodIn_app (goodIn_of _ (by decide +kernel)) ggL_add_X0_add
theorem dL_add_0 : decode cL_add 0 = .ok (.aload_n 3, 1) := by decide +kernel
theorem dL_add_1 : decode cL_add 1 = .ok (.iconst 0, 1) := by decide +kernel
theorem dL_add_2 : decode cL_add 2 = .ok (.aload_n 0, 1) := by decide +kernel
theorem dL_add_3 : decode cL_add 3 = .ok (.iload_n 1, 1) := by decide +kernel
theorem dL_add_4 : decode cL_add 4 = .ok (.iload_n 2, 1) := by decide +kernel
theorem dL_add_5 : decode cL_add 5 = .ok (.invokevirtual 34, 3) := by decide +kernel
theorem dL_add_8 : decode cL_add 8 = .ok (.i2l, 1) := by decide +kernel
theorem dL_add_9 : decode cL_add 9 = .ok (.lastore, 1) := by decide +kernel
theorem dL_add_10 : decode cL_add 10 = .ok (.goto 15, 3) := by decide +kernel
theorem dL_add_13 : decode cL_add 13 = .ok (.astore 4, 2) := by decide +kernel
theorem dL_add_15 : decode cL_add 15 = .ok (.iconst 1, 1) := by decide +kernel
theorem dL_add_16 : decode cL_add 16 = .ok (.ireturn, 1) := by decide +kernel
theorem dL_add_17 : decode cL_add 17 = .ok (.astore 4, 2) := by decide +kernel
theorem dL_add_19 : decode cL_add 19 = .ok (.iconst 2, 1) := by decide +kernel
theorem dL_add_20 : decode cL_add 20 = .ok (.ireturn, 1) := by decide +kernel
theorem dL_add_21 : decode cL_add 21 = .ok (.astore 4, 2) := by decide +kernel
theorem dL_add_23 : decode cL_add 23 = .ok (.iconst 3, 1) := by decide +kernel
theorem dL_add_24 : decode cL_add 24 = .ok (.ireturn, 1) := by decide +kernel
theorem dL_add_25 : decode cL_add 25 = .ok (.iconst 0, 1) := by decide +kernel
theorem dL_add_26 : decode cL_add 26 = .ok (.ireturn, 1) := by decide +kernel
set_option maxRecDepth 20000 in
theorem ggL_derive_X0_derive : GoodIn wsL_derive wsX0_derive := goodIn_ca (goodIn_ca (goodIn_ca (goodIn_r _ [8, 9, 10, 11, 12, 13, 14, 15, 7, 16, 17, 18, 19, 20, 21, 22, 23, 24, 25, 26, 27, 28, 29, 30, 31, 32, 33, 34, 35, 36, 37, 38, 39, 40, 41, 42, 43, 44, 45, 46, 47, 48, 49, 50, 51, 52, 53, 54, 55, 56, 57, 58, 59, 60, 61, 62, 63, 64, 65, 66, 67, 68, 69, 70, 71, 72, 73, 74, 75] (by decide +kernel) (by decide +kernel)) (goodIn_sub (fun _ h => List.mem_cons_of_mem _ (List.mem_append_left _ (List.mem_append_left _ (List.mem_append_right _ h)))) (by decide +kernel))) (goodIn_sub (fun _ h => List.mem_cons_of_mem _ (List.mem_append_left _ (List.mem_append_right _ h))) (by decide +kernel))) (goodIn_sub (fun _ h => List.mem_cons_of_mem _ (List.mem_append_right _ h)) (by decide +kernel))
set_option maxRecDepth 20000 in
theorem gL_derive_X0_derive : GoodIn wsL_derive (wsV RL 37 RX0 yX0_derive wsX0_derive) := goodIn_app (goodIn_of _ (by decide +kernel)) ggL_derive_X0_derive
theorem dL_derive_0 : decode cL_derive 0 = .ok (.aload_n 3, 1) := by decide +kernel
theorem dL_derive_1 : decode cL_derive 1 = .ok (.iconst 0, 1) := by decide +kernel
theorem dL_derive_2 : decode cL_derive 2 = .ok (.aload_n 0, 1) := by decide +kernel
theorem dL_derive_3 : decode cL_derive 3 = .ok (.iload_n 1, 1) := by decide +kernel
theorem dL_derive_4 : decode cL_derive 4 = .ok (.iload_n 2, 1) := by decide +kernel
theorem dL_derive_5 : decode cL_derive 5 = .ok (.invokevirtual 37, 3) := by decide +kernel
theorem dL_derive_8 : decode cL_derive 8 = .ok (.i2l, 1) := by decide +kernel
theorem dL_derive_9 : decode cL_derive 9 = .ok (.lastore, 1) := by decide +kernel
theorem dL_derive_10 : decode cL_derive 10 = .ok (.goto 15, 3) := by decide +kernel
theorem dL_derive_13 : decode cL_derive 13 = .ok (.astore 4, 2) := by decide +kernel
theorem dL_derive_15 : decode cL_derive 15 = .ok (.iconst 1, 1) := by decide +kernel
theorem dL_derive_16 : decode cL_derive 16 = .ok (.ireturn, 1) := by decide +kernel
theorem dL_derive_17 : decode cL_derive 17 = .ok (.astore 4, 2) := by decide +kernel
theorem dL_derive_19 : decode cL_derive 19 = .ok (.iconst 2, 1) := by decide +kernel
theorem dL_derive_20 : decode cL_derive 20 = .ok (.ireturn, 1) := by decide +kernel
theorem dL_derive_21 : decode cL_derive 21 = .ok (.astore 4, 2) := by decide +kernel
theorem dL_derive_23 : decode cL_derive 23 = .ok (.iconst 3, 1) := by decide +kernel
theorem dL_derive_24 : decode cL_derive 24 = .ok (.ireturn, 1) := by decide +kernel
theorem dL_derive_25 : decode cL_derive 25 = .ok (.iconst 0, 1) := by decide +kernel
theorem dL_derive_26 : decode cL_derive 26 = .ok (.ireturn, 1) := by decide +kernel
set_option maxRecDepth 20000 in
theorem ggL_addSource_X0_addSource : GoodIn wsL_addSource wsX0_addSource := goodIn_ca (goodIn_ca (goodIn_ca (goodIn_r _ [8, 9, 10, 11, 12, 13, 14, 15, 16, 17, 18, 7, 19, 20, 21, 22, 23, 24, 25, 26, 27, 28, 29, 30, 31, 32, 33, 34, 35, 36, 37, 38, 39, 40, 41, 42, 43, 44, 45, 46, 47, 48, 49, 50, 51, 52, 53, 54, 55, 56, 57, 58, 59, 60, 61, 62, 63] (by decide +kernel) (by decide +kernel)) (goodIn_sub (fun _ h => List.mem_cons_of_mem _ (List.mem_append_left _ (List.mem_append_left _ (List.mem_append_right _ h)))) (by decide +kernel))) (goodIn_sub (fun _ h => List.mem_cons_of_mem _ (List.mem_append_left _ (List.mem_append_right _ h))) (by decide +kernel))) (goodIn_sub (fun _ h => List.mem_cons_of_mem _ (List.mem_append_right _ h)) (by decide +kernel))
set_option maxRecDepth 20000 in
theorem gL_addSource_X0_addSource : GoodIn wsL_addSource (wsV RL 40 RX0 yX0_addSource wsX0_addSource) := goodIn_app (goodIn_of _ (by decide +kernel)) ggL_addSource_X0_addSource
theorem dL_addSource_0 : decode cL_addSource 0 = .ok (.aload_n 3, 1) := by decide +kernel
theorem dL_addSource_1 : decode cL_addSource 1 = .ok (.iconst 0, 1) := by decide +kernel
theorem dL_addSource_2 : decode cL_addSource 2 = .ok (.aload_n 0, 1) := by decide +kernel
theorem dL_addSource_3 : decode cL_addSource 3 = .ok (.iload_n 1, 1) := by decide +kernel
theorem dL_addSource_4 : decode cL_addSource 4 = .ok (.iload_n 2, 1) := by decide +kernel
theorem dL_addSource_5 : decode cL_addSource 5 = .ok (.invokevirtual 40, 3) := by decide +kernel
theorem dL_addSource_8 : decode cL_addSource 8 = .ok (.i2l, 1) := by decide +kernel
theorem dL_addSource_9 : decode cL_addSource 9 = .ok (.lastore, 1) := by decide +kernel
theorem dL_addSource_10 : decode cL_addSource 10 = .ok (.goto 15, 3) := by decide +kernel
theorem dL_addSource_13 : decode cL_addSource 13 = .ok (.astore 4, 2) := by decide +kernel
theorem dL_addSource_15 : decode cL_addSource 15 = .ok (.iconst 1, 1) := by decide +kernel
theorem dL_addSource_16 : decode cL_addSource 16 = .ok (.ireturn, 1) := by decide +kernel
theorem dL_addSource_17 : decode cL_addSource 17 = .ok (.astore 4, 2) := by decide +kernel
theorem dL_addSource_19 : decode cL_addSource 19 = .ok (.iconst 2, 1) := by decide +kernel
theorem dL_addSource_20 : decode cL_addSource 20 = .ok (.ireturn, 1) := by decide +kernel
theorem dL_addSource_21 : decode cL_addSource 21 = .ok (.astore 4, 2) := by decide +kernel
theorem dL_addSource_23 : decode cL_addSource 23 = .ok (.iconst 3, 1) := by decide +kernel
theorem dL_addSource_24 : decode cL_addSource 24 = .ok (.ireturn, 1) := by decide +kernel
theorem dL_addSource_25 : decode cL_addSource 25 = .ok (.iconst 0, 1) := by decide +kernel
theorem dL_addSource_26 : decode cL_addSource 26 = .ok (.ireturn, 1) := by decide +kernel
set_option maxRecDepth 20000 in
theorem ggL_stateOf_X0_stateOf : GoodIn wsL_stateOf wsX0_stateOf := goodIn_ca (goodIn_r _ [6, 7, 8, 9, 10, 11, 5, 12, 13, 14, 15, 16, 17, 18, 19, 20, 21, 22, 23, 24, 25, 26, 27, 28, 29, 30, 31, 32, 33, 34, 35, 36, 37] (by decide +kernel) (by decide +kernel)) (goodIn_sub (fun _ h => List.mem_cons_of_mem _ (List.mem_append_right _ h)) (by decide +kernel))
set_option maxRecDepth 20000 in
theorem gL_stateOf_X0_stateOf : GoodIn wsL_stateOf (wsV RL 43 RX0 yX0_stateOf wsX0_stateOf) := goodIn_app (goodIn_of _ (by decide +kernel)) ggL_stateOf_X0_stateOf
theorem dL_stateOf_0 : decode cL_stateOf 0 = .ok (.aload_n 2, 1) := by decide +kernel
theorem dL_stateOf_1 : decode cL_stateOf 1 = .ok (.iconst 0, 1) := by decide +kernel
theorem dL_stateOf_2 : decode cL_stateOf 2 = .ok (.aload_n 0, 1) := by decide +kernel
theorem dL_stateOf_3 : decode cL_stateOf 3 = .ok (.iload_n 1, 1) := by decide +kernel
theorem dL_stateOf_4 : decode cL_stateOf 4 = .ok (.invokevirtual 43, 3) := by decide +kernel
theorem dL_stateOf_7 : decode cL_stateOf 7 = .ok (.i2l, 1) := by decide +kernel
theorem dL_stateOf_8 : decode cL_stateOf 8 = .ok (.lastore, 1) := by decide +kernel
theorem dL_stateOf_9 : decode cL_stateOf 9 = .ok (.goto 6, 3) := by decide +kernel
theorem dL_stateOf_12 : decode cL_stateOf 12 = .ok (.astore_n 3, 1) := by decide +kernel
theorem dL_stateOf_13 : decode cL_stateOf 13 = .ok (.iconst 1, 1) := by decide +kernel
theorem dL_stateOf_14 : decode cL_stateOf 14 = .ok (.ireturn, 1) := by decide +kernel
theorem dL_stateOf_15 : decode cL_stateOf 15 = .ok (.iconst 0, 1) := by decide +kernel
theorem dL_stateOf_16 : decode cL_stateOf 16 = .ok (.ireturn, 1) := by decide +kernel
set_option maxRecDepth 20000 in
theorem ggL_subjectsOf_X0_subjectsOf : GoodIn wsL_subjectsOf wsX0_subjectsOf := goodIn_ca (goodIn_r _ [6, 7, 8, 9, 10, 5, 11, 12, 13, 14, 15, 16, 17, 18, 19, 20, 21, 22, 23, 24, 25, 26, 27, 28, 29, 30] (by decide +kernel) (by decide +kernel)) (goodIn_sub (fun _ h => List.mem_cons_of_mem _ (List.mem_append_right _ h)) (by decide +kernel))
set_option maxRecDepth 20000 in
theorem gL_subjectsOf_X0_subjectsOf : GoodIn wsL_subjectsOf (wsV RL 46 RX0 yX0_subjectsOf wsX0_subjectsOf) := goodIn_app (goodIn_of _ (by decide +kernel)) ggL_subjectsOf_X0_subjectsOf
theorem dL_subjectsOf_0 : decode cL_subjectsOf 0 = .ok (.aload_n 2, 1) := by decide +kernel
theorem dL_subjectsOf_1 : decode cL_subjectsOf 1 = .ok (.iconst 0, 1) := by decide +kernel
theorem dL_subjectsOf_2 : decode cL_subjectsOf 2 = .ok (.aload_n 0, 1) := by decide +kernel
theorem dL_subjectsOf_3 : decode cL_subjectsOf 3 = .ok (.iload_n 1, 1) := by decide +kernel
theorem dL_subjectsOf_4 : decode cL_subjectsOf 4 = .ok (.invokevirtual 46, 3) := by decide +kernel
theorem dL_subjectsOf_7 : decode cL_subjectsOf 7 = .ok (.i2l, 1) := by decide +kernel
theorem dL_subjectsOf_8 : decode cL_subjectsOf 8 = .ok (.lastore, 1) := by decide +kernel
theorem dL_subjectsOf_9 : decode cL_subjectsOf 9 = .ok (.goto 6, 3) := by decide +kernel
theorem dL_subjectsOf_12 : decode cL_subjectsOf 12 = .ok (.astore_n 3, 1) := by decide +kernel
theorem dL_subjectsOf_13 : decode cL_subjectsOf 13 = .ok (.iconst 1, 1) := by decide +kernel
theorem dL_subjectsOf_14 : decode cL_subjectsOf 14 = .ok (.ireturn, 1) := by decide +kernel
theorem dL_subjectsOf_15 : decode cL_subjectsOf 15 = .ok (.iconst 0, 1) := by decide +kernel
theorem dL_subjectsOf_16 : decode cL_subjectsOf 16 = .ok (.ireturn, 1) := by decide +kernel
set_option maxRecDepth 20000 in
theorem ggL_below_X0_below : GoodIn wsL_below wsX0_below := goodIn_ca (goodIn_r _ [6, 7, 8, 9, 5, 10, 11, 12, 13, 14, 15, 16, 17, 18, 19, 20, 21, 22, 23, 24, 25, 26, 27, 28, 29, 30, 31, 32, 33, 34, 35, 36, 37, 38, 39, 40, 41] (by decide +kernel) (by decide +kernel)) (goodIn_sub (fun _ h => List.mem_cons_of_mem _ (List.mem_append_right _ h)) (by decide +kernel))
set_option maxRecDepth 20000 in
theorem gL_below_X0_below : GoodIn wsL_below (wsV RL 49 RX0 yX0_below wsX0_below) := goodIn_app (goodIn_of _ (by decide +kernel)) ggL_below_X0_below
theorem dL_below_0 : decode cL_below 0 = .ok (.aload_n 2, 1) := by decide +kernel
theorem dL_below_1 : decode cL_below 1 = .ok (.iconst 0, 1) := by decide +kernel
theorem dL_below_2 : decode cL_below 2 = .ok (.aload_n 0, 1) := by decide +kernel
theorem dL_below_3 : decode cL_below 3 = .ok (.iload_n 1, 1) := by decide +kernel
theorem dL_below_4 : decode cL_below 4 = .ok (.invokevirtual 49, 3) := by decide +kernel
theorem dL_below_7 : decode cL_below 7 = .ok (.i2l, 1) := by decide +kernel
theorem dL_below_8 : decode cL_below 8 = .ok (.lastore, 1) := by decide +kernel
theorem dL_below_9 : decode cL_below 9 = .ok (.goto 6, 3) := by decide +kernel
theorem dL_below_12 : decode cL_below 12 = .ok (.astore_n 3, 1) := by decide +kernel
theorem dL_below_13 : decode cL_below 13 = .ok (.iconst 1, 1) := by decide +kernel
theorem dL_below_14 : decode cL_below 14 = .ok (.ireturn, 1) := by decide +kernel
theorem dL_below_15 : decode cL_below 15 = .ok (.iconst 0, 1) := by decide +kernel
theorem dL_below_16 : decode cL_below 16 = .ok (.ireturn, 1) := by decide +kernel
set_option maxRecDepth 20000 in
theorem ggL_endOf_X0_endOf : GoodIn wsL_endOf wsX0_endOf := goodIn_ca (goodIn_r _ [6, 7, 8, 9, 5, 10, 11, 12, 13, 14, 15, 16, 17, 18, 19, 20, 21, 22, 23, 24, 25, 26, 27, 28, 29, 30, 31, 32, 33, 34, 35, 36, 37, 38, 39, 40, 41, 42, 43, 44, 45, 46, 47, 48, 49, 50, 51, 52, 53, 54, 55, 56, 57, 58] (by decide +kernel) (by decide +kernel)) (goodIn_sub (fun _ h => List.mem_cons_of_mem _ (List.mem_append_right _ h)) (by decide +kernel))
set_option maxRecDepth 20000 in
theorem gL_endOf_X0_endOf : GoodIn wsL_endOf (wsV RL 52 RX0 yX0_endOf wsX0_endOf) := goodIn_app (goodIn_of _ (by decide +kernel)) ggL_endOf_X0_endOf
theorem dL_endOf_0 : decode cL_endOf 0 = .ok (.aload_n 2, 1) := by decide +kernel
theorem dL_endOf_1 : decode cL_endOf 1 = .ok (.iconst 0, 1) := by decide +kernel
theorem dL_endOf_2 : decode cL_endOf 2 = .ok (.aload_n 0, 1) := by decide +kernel
theorem dL_endOf_3 : decode cL_endOf 3 = .ok (.iload_n 1, 1) := by decide +kernel
theorem dL_endOf_4 : decode cL_endOf 4 = .ok (.invokevirtual 52, 3) := by decide +kernel
theorem dL_endOf_7 : decode cL_endOf 7 = .ok (.i2l, 1) := by decide +kernel
theorem dL_endOf_8 : decode cL_endOf 8 = .ok (.lastore, 1) := by decide +kernel
theorem dL_endOf_9 : decode cL_endOf 9 = .ok (.goto 6, 3) := by decide +kernel
theorem dL_endOf_12 : decode cL_endOf 12 = .ok (.astore_n 3, 1) := by decide +kernel
theorem dL_endOf_13 : decode cL_endOf 13 = .ok (.iconst 1, 1) := by decide +kernel
theorem dL_endOf_14 : decode cL_endOf 14 = .ok (.ireturn, 1) := by decide +kernel
theorem dL_endOf_15 : decode cL_endOf 15 = .ok (.iconst 0, 1) := by decide +kernel
theorem dL_endOf_16 : decode cL_endOf 16 = .ok (.ireturn, 1) := by decide +kernel
set_option maxRecDepth 20000 in
theorem ggL_whyNoUse_X0_whyNoUse : GoodIn wsL_whyNoUse wsX0_whyNoUse := goodIn_ca (goodIn_r _ [6, 7, 8, 9, 10, 11, 12, 13, 14, 5, 15, 16, 17, 18, 19, 20, 21, 22, 23, 24, 25, 26, 27, 28, 29, 30, 31, 32, 33, 34, 35, 36, 37, 38, 39, 40, 41, 42, 43, 44, 45, 46, 47, 48, 49, 50, 51, 52, 53, 54, 55, 56, 57, 58, 59, 60, 61] (by decide +kernel) (by decide +kernel)) (goodIn_sub (fun _ h => List.mem_cons_of_mem _ (List.mem_append_right _ h)) (by decide +kernel))
set_option maxRecDepth 20000 in
theorem gL_whyNoUse_X0_whyNoUse : GoodIn wsL_whyNoUse (wsV RL 55 RX0 yX0_whyNoUse wsX0_whyNoUse) := goodIn_app (goodIn_of _ (by decide +kernel)) ggL_whyNoUse_X0_whyNoUse
theorem dL_whyNoUse_0 : decode cL_whyNoUse 0 = .ok (.aload_n 3, 1) := by decide +kernel
theorem dL_whyNoUse_1 : decode cL_whyNoUse 1 = .ok (.iconst 0, 1) := by decide +kernel
theorem dL_whyNoUse_2 : decode cL_whyNoUse 2 = .ok (.aload_n 0, 1) := by decide +kernel
theorem dL_whyNoUse_3 : decode cL_whyNoUse 3 = .ok (.iload_n 1, 1) := by decide +kernel
theorem dL_whyNoUse_4 : decode cL_whyNoUse 4 = .ok (.iload_n 2, 1) := by decide +kernel
theorem dL_whyNoUse_5 : decode cL_whyNoUse 5 = .ok (.invokevirtual 55, 3) := by decide +kernel
theorem dL_whyNoUse_8 : decode cL_whyNoUse 8 = .ok (.i2l, 1) := by decide +kernel
theorem dL_whyNoUse_9 : decode cL_whyNoUse 9 = .ok (.lastore, 1) := by decide +kernel
theorem dL_whyNoUse_10 : decode cL_whyNoUse 10 = .ok (.goto 7, 3) := by decide +kernel
theorem dL_whyNoUse_13 : decode cL_whyNoUse 13 = .ok (.astore 4, 2) := by decide +kernel
theorem dL_whyNoUse_15 : decode cL_whyNoUse 15 = .ok (.iconst 1, 1) := by decide +kernel
theorem dL_whyNoUse_16 : decode cL_whyNoUse 16 = .ok (.ireturn, 1) := by decide +kernel
theorem dL_whyNoUse_17 : decode cL_whyNoUse 17 = .ok (.iconst 0, 1) := by decide +kernel
theorem dL_whyNoUse_18 : decode cL_whyNoUse 18 = .ok (.ireturn, 1) := by decide +kernel
set_option maxRecDepth 20000 in
theorem ggL_use_X0_use : GoodIn wsL_use wsX0_use := goodIn_ca (goodIn_ca (goodIn_r _ [7, 8, 9, 10, 11, 12, 13, 6, 14, 15, 16, 17, 18, 19, 20, 21, 22, 23, 24, 25, 26, 27, 28, 29, 30, 31, 32, 33, 34, 35, 36, 37, 38, 39, 40, 41, 42, 43, 44, 45, 46, 47, 48, 49, 50, 51, 52, 53, 54, 55, 56, 57, 58, 59, 60, 61, 62, 63, 64, 65, 66, 67, 68, 69, 70, 71, 72] (by decide +kernel) (by decide +kernel)) (goodIn_sub (fun _ h => List.mem_cons_of_mem _ (List.mem_append_left _ (List.mem_append_right _ h))) (by decide +kernel))) (goodIn_sub (fun _ h => List.mem_cons_of_mem _ (List.mem_append_right _ h)) (by decide +kernel))
set_option maxRecDepth 20000 in
theorem gL_use_X0_use : GoodIn wsL_use (wsV RL 58 RX0 yX0_use wsX0_use) := goodIn_app (goodIn_of _ (by decide +kernel)) ggL_use_X0_use
theorem dL_use_0 : decode cL_use 0 = .ok (.aload_n 3, 1) := by decide +kernel
theorem dL_use_1 : decode cL_use 1 = .ok (.iconst 0, 1) := by decide +kernel
theorem dL_use_2 : decode cL_use 2 = .ok (.aload_n 0, 1) := by decide +kernel
theorem dL_use_3 : decode cL_use 3 = .ok (.iload_n 1, 1) := by decide +kernel
theorem dL_use_4 : decode cL_use 4 = .ok (.iload_n 2, 1) := by decide +kernel
theorem dL_use_5 : decode cL_use 5 = .ok (.invokevirtual 58, 3) := by decide +kernel
theorem dL_use_8 : decode cL_use 8 = .ok (.i2l, 1) := by decide +kernel
theorem dL_use_9 : decode cL_use 9 = .ok (.lastore, 1) := by decide +kernel
theorem dL_use_10 : decode cL_use 10 = .ok (.goto 11, 3) := by decide +kernel
theorem dL_use_13 : decode cL_use 13 = .ok (.astore 4, 2) := by decide +kernel
theorem dL_use_15 : decode cL_use 15 = .ok (.iconst 1, 1) := by decide +kernel
theorem dL_use_16 : decode cL_use 16 = .ok (.ireturn, 1) := by decide +kernel
theorem dL_use_17 : decode cL_use 17 = .ok (.astore 4, 2) := by decide +kernel
theorem dL_use_19 : decode cL_use 19 = .ok (.iconst 2, 1) := by decide +kernel
theorem dL_use_20 : decode cL_use 20 = .ok (.ireturn, 1) := by decide +kernel
theorem dL_use_21 : decode cL_use 21 = .ok (.iconst 0, 1) := by decide +kernel
theorem dL_use_22 : decode cL_use 22 = .ok (.ireturn, 1) := by decide +kernel
set_option maxRecDepth 20000 in
theorem ggL_uses_X0_uses : GoodIn wsL_uses wsX0_uses := goodIn_ca (goodIn_r _ [6, 7, 8, 9, 10, 11, 12, 5, 13, 14, 15, 16, 17, 18, 19, 20, 21, 22, 23, 24, 25, 26, 27, 28, 29, 30, 31, 32, 33, 34, 35, 36, 37, 38, 39, 40, 41, 42, 43, 44, 45] (by decide +kernel) (by decide +kernel)) (goodIn_sub (fun _ h => List.mem_cons_of_mem _ (List.mem_append_right _ h)) (by decide +kernel))
set_option maxRecDepth 20000 in
theorem gL_uses_X0_uses : GoodIn wsL_uses (wsV RL 61 RX0 yX0_uses wsX0_uses) := goodIn_app (goodIn_of _ (by decide +kernel)) ggL_uses_X0_uses
theorem dL_uses_0 : decode cL_uses 0 = .ok (.aload_n 3, 1) := by decide +kernel
theorem dL_uses_1 : decode cL_uses 1 = .ok (.iconst 0, 1) := by decide +kernel
theorem dL_uses_2 : decode cL_uses 2 = .ok (.aload_n 0, 1) := by decide +kernel
theorem dL_uses_3 : decode cL_uses 3 = .ok (.iload_n 1, 1) := by decide +kernel
theorem dL_uses_4 : decode cL_uses 4 = .ok (.iload_n 2, 1) := by decide +kernel
theorem dL_uses_5 : decode cL_uses 5 = .ok (.invokevirtual 61, 3) := by decide +kernel
theorem dL_uses_8 : decode cL_uses 8 = .ok (.i2l, 1) := by decide +kernel
theorem dL_uses_9 : decode cL_uses 9 = .ok (.lastore, 1) := by decide +kernel
theorem dL_uses_10 : decode cL_uses 10 = .ok (.goto 7, 3) := by decide +kernel
theorem dL_uses_13 : decode cL_uses 13 = .ok (.astore 4, 2) := by decide +kernel
theorem dL_uses_15 : decode cL_uses 15 = .ok (.iconst 1, 1) := by decide +kernel
theorem dL_uses_16 : decode cL_uses 16 = .ok (.ireturn, 1) := by decide +kernel
theorem dL_uses_17 : decode cL_uses 17 = .ok (.iconst 0, 1) := by decide +kernel
theorem dL_uses_18 : decode cL_uses 18 = .ok (.ireturn, 1) := by decide +kernel
set_option maxRecDepth 20000 in
theorem ggL_passDays_X0_passDays : GoodIn wsL_passDays wsX0_passDays := goodIn_ca (goodIn_r _ [6, 7, 8, 9, 10, 11, 12, 5, 13, 14, 15, 16, 17, 18, 19, 20, 21, 22, 23, 24, 25, 26, 27, 28, 29, 30, 31, 32, 33, 34, 35, 36, 37, 38, 39, 40, 41, 42, 43, 44, 45, 46, 47, 48, 49, 50, 51, 52, 53, 54, 55, 56, 57, 58, 59, 60, 61, 62, 63, 64, 65, 66, 67, 68, 69, 70, 71, 72, 73, 74, 75, 76, 77, 78, 79, 80, 81, 82, 83, 84, 85] (by decide +kernel) (by decide +kernel)) (goodIn_sub (fun _ h => List.mem_cons_of_mem _ (List.mem_append_right _ h)) (by decide +kernel))
set_option maxRecDepth 20000 in
theorem gL_passDays_X0_passDays : GoodIn wsL_passDays (wsV RL 64 RX0 yX0_passDays wsX0_passDays) := goodIn_app (goodIn_of _ (by decide +kernel)) ggL_passDays_X0_passDays
theorem dL_passDays_0 : decode cL_passDays 0 = .ok (.aload_n 2, 1) := by decide +kernel
theorem dL_passDays_1 : decode cL_passDays 1 = .ok (.iconst 0, 1) := by decide +kernel
theorem dL_passDays_2 : decode cL_passDays 2 = .ok (.aload_n 0, 1) := by decide +kernel
theorem dL_passDays_3 : decode cL_passDays 3 = .ok (.iload_n 1, 1) := by decide +kernel
theorem dL_passDays_4 : decode cL_passDays 4 = .ok (.invokevirtual 64, 3) := by decide +kernel
theorem dL_passDays_7 : decode cL_passDays 7 = .ok (.i2l, 1) := by decide +kernel
theorem dL_passDays_8 : decode cL_passDays 8 = .ok (.lastore, 1) := by decide +kernel
theorem dL_passDays_9 : decode cL_passDays 9 = .ok (.goto 6, 3) := by decide +kernel
theorem dL_passDays_12 : decode cL_passDays 12 = .ok (.astore_n 3, 1) := by decide +kernel
theorem dL_passDays_13 : decode cL_passDays 13 = .ok (.iconst 1, 1) := by decide +kernel
theorem dL_passDays_14 : decode cL_passDays 14 = .ok (.ireturn, 1) := by decide +kernel
theorem dL_passDays_15 : decode cL_passDays 15 = .ok (.iconst 0, 1) := by decide +kernel
theorem dL_passDays_16 : decode cL_passDays 16 = .ok (.ireturn, 1) := by decide +kernel
set_option maxRecDepth 20000 in
theorem ggL_hold_X0_hold : GoodIn wsL_hold wsX0_hold := goodIn_ca (goodIn_ca (goodIn_r _ [7, 8, 9, 10, 11, 12, 13, 14, 6, 15, 16, 17, 18, 19, 20, 21, 22, 23, 24, 25, 26, 27, 28, 29, 30, 31, 32, 33, 34, 35, 36, 37, 38, 39, 40, 41, 42, 43, 44, 45, 46, 47, 48, 49, 50, 51] (by decide +kernel) (by decide +kernel)) (goodIn_sub (fun _ h => List.mem_cons_of_mem _ (List.mem_append_left _ (List.mem_append_right _ h))) (by decide +kernel))) (goodIn_sub (fun _ h => List.mem_cons_of_mem _ (List.mem_append_right _ h)) (by decide +kernel))
set_option maxRecDepth 20000 in
theorem gL_hold_X0_hold : GoodIn wsL_hold (wsV RL 67 RX0 yX0_hold wsX0_hold) := goodIn_app (goodIn_of _ (by decide +kernel)) ggL_hold_X0_hold
theorem dL_hold_0 : decode cL_hold 0 = .ok (.aload_n 3, 1) := by decide +kernel
theorem dL_hold_1 : decode cL_hold 1 = .ok (.iconst 0, 1) := by decide +kernel
theorem dL_hold_2 : decode cL_hold 2 = .ok (.aload_n 0, 1) := by decide +kernel
theorem dL_hold_3 : decode cL_hold 3 = .ok (.iload_n 1, 1) := by decide +kernel
theorem dL_hold_4 : decode cL_hold 4 = .ok (.iload_n 2, 1) := by decide +kernel
theorem dL_hold_5 : decode cL_hold 5 = .ok (.invokevirtual 67, 3) := by decide +kernel
theorem dL_hold_8 : decode cL_hold 8 = .ok (.i2l, 1) := by decide +kernel
theorem dL_hold_9 : decode cL_hold 9 = .ok (.lastore, 1) := by decide +kernel
theorem dL_hold_10 : decode cL_hold 10 = .ok (.goto 11, 3) := by decide +kernel
theorem dL_hold_13 : decode cL_hold 13 = .ok (.astore 4, 2) := by decide +kernel
theorem dL_hold_15 : decode cL_hold 15 = .ok (.iconst 1, 1) := by decide +kernel
theorem dL_hold_16 : decode cL_hold 16 = .ok (.ireturn, 1) := by decide +kernel
theorem dL_hold_17 : decode cL_hold 17 = .ok (.astore 4, 2) := by decide +kernel
theorem dL_hold_19 : decode cL_hold 19 = .ok (.iconst 2, 1) := by decide +kernel
theorem dL_hold_20 : decode cL_hold 20 = .ok (.ireturn, 1) := by decide +kernel
theorem dL_hold_21 : decode cL_hold 21 = .ok (.iconst 0, 1) := by decide +kernel
theorem dL_hold_22 : decode cL_hold 22 = .ok (.ireturn, 1) := by decide +kernel
set_option maxRecDepth 20000 in
theorem ggL_close_X0_close : GoodIn wsL_close wsX0_close := goodIn_ca (goodIn_r _ [6, 7, 8, 9, 10, 5, 11, 12, 13, 14, 15, 16, 17, 18, 19, 20, 21, 22, 23, 24, 25, 26, 27, 28, 29, 30, 31, 32, 33, 34, 35, 36, 37, 38, 39, 40] (by decide +kernel) (by decide +kernel)) (goodIn_sub (fun _ h => List.mem_cons_of_mem _ (List.mem_append_right _ h)) (by decide +kernel))
set_option maxRecDepth 20000 in
theorem gL_close_X0_close : GoodIn wsL_close (wsV RL 70 RX0 yX0_close wsX0_close) := goodIn_app (goodIn_of _ (by decide +kernel)) ggL_close_X0_close
theorem dL_close_0 : decode cL_close 0 = .ok (.aload_n 2, 1) := by decide +kernel
theorem dL_close_1 : decode cL_close 1 = .ok (.iconst 0, 1) := by decide +kernel
theorem dL_close_2 : decode cL_close 2 = .ok (.aload_n 0, 1) := by decide +kernel
theorem dL_close_3 : decode cL_close 3 = .ok (.iload_n 1, 1) := by decide +kernel
theorem dL_close_4 : decode cL_close 4 = .ok (.invokevirtual 70, 3) := by decide +kernel
theorem dL_close_7 : decode cL_close 7 = .ok (.i2l, 1) := by decide +kernel
theorem dL_close_8 : decode cL_close 8 = .ok (.lastore, 1) := by decide +kernel
theorem dL_close_9 : decode cL_close 9 = .ok (.goto 6, 3) := by decide +kernel
theorem dL_close_12 : decode cL_close 12 = .ok (.astore_n 3, 1) := by decide +kernel
theorem dL_close_13 : decode cL_close 13 = .ok (.iconst 1, 1) := by decide +kernel
theorem dL_close_14 : decode cL_close 14 = .ok (.ireturn, 1) := by decide +kernel
theorem dL_close_15 : decode cL_close 15 = .ok (.iconst 0, 1) := by decide +kernel
theorem dL_close_16 : decode cL_close 16 = .ok (.ireturn, 1) := by decide +kernel
set_option maxRecDepth 20000 in
theorem ggL_request_X0_request : GoodIn wsL_request wsX0_request := goodIn_ca (goodIn_r _ [6, 7, 8, 9, 10, 5, 11, 12, 13, 14, 15, 16, 17, 18, 19, 20, 21, 22, 23, 24, 25, 26, 27, 28, 29, 30, 31, 32, 33, 34, 35, 36, 37, 38, 39, 40, 41, 42, 43, 44, 45, 46, 47, 48, 49, 50, 51, 52, 53, 54, 55, 56, 57, 58] (by decide +kernel) (by decide +kernel)) (goodIn_sub (fun _ h => List.mem_cons_of_mem _ (List.mem_append_right _ h)) (by decide +kernel))
set_option maxRecDepth 20000 in
theorem gL_request_X0_request : GoodIn wsL_request (wsV RL 73 RX0 yX0_request wsX0_request) := goodIn_app (goodIn_of _ (by decide +kernel)) ggL_request_X0_request
theorem dL_request_0 : decode cL_request 0 = .ok (.aload_n 2, 1) := by decide +kernel
theorem dL_request_1 : decode cL_request 1 = .ok (.iconst 0, 1) := by decide +kernel
theorem dL_request_2 : decode cL_request 2 = .ok (.aload_n 0, 1) := by decide +kernel
theorem dL_request_3 : decode cL_request 3 = .ok (.iload_n 1, 1) := by decide +kernel
theorem dL_request_4 : decode cL_request 4 = .ok (.invokevirtual 73, 3) := by decide +kernel
theorem dL_request_7 : decode cL_request 7 = .ok (.i2l, 1) := by decide +kernel
theorem dL_request_8 : decode cL_request 8 = .ok (.lastore, 1) := by decide +kernel
theorem dL_request_9 : decode cL_request 9 = .ok (.goto 6, 3) := by decide +kernel
theorem dL_request_12 : decode cL_request 12 = .ok (.astore_n 3, 1) := by decide +kernel
theorem dL_request_13 : decode cL_request 13 = .ok (.iconst 1, 1) := by decide +kernel
theorem dL_request_14 : decode cL_request 14 = .ok (.ireturn, 1) := by decide +kernel
theorem dL_request_15 : decode cL_request 15 = .ok (.iconst 0, 1) := by decide +kernel
theorem dL_request_16 : decode cL_request 16 = .ok (.ireturn, 1) := by decide +kernel
set_option maxRecDepth 20000 in
theorem ggL_whyKept_X0_whyKept : GoodIn wsL_whyKept wsX0_whyKept := goodIn_ca (goodIn_r _ [6, 7, 8, 9, 10, 11, 5, 12, 13, 14, 15, 16, 17, 18, 19, 20, 21, 22, 23, 24, 25, 26, 27, 28, 29, 30, 31, 32, 33, 34, 35, 36, 37, 38, 39, 40, 41, 42, 43, 44, 45, 46, 47, 48, 49, 50, 51] (by decide +kernel) (by decide +kernel)) (goodIn_sub (fun _ h => List.mem_cons_of_mem _ (List.mem_append_right _ h)) (by decide +kernel))
set_option maxRecDepth 20000 in
theorem gL_whyKept_X0_whyKept : GoodIn wsL_whyKept (wsV RL 76 RX0 yX0_whyKept wsX0_whyKept) := goodIn_app (goodIn_of _ (by decide +kernel)) ggL_whyKept_X0_whyKept
theorem dL_whyKept_0 : decode cL_whyKept 0 = .ok (.aload_n 2, 1) := by decide +kernel
theorem dL_whyKept_1 : decode cL_whyKept 1 = .ok (.iconst 0, 1) := by decide +kernel
theorem dL_whyKept_2 : decode cL_whyKept 2 = .ok (.aload_n 0, 1) := by decide +kernel
theorem dL_whyKept_3 : decode cL_whyKept 3 = .ok (.iload_n 1, 1) := by decide +kernel
theorem dL_whyKept_4 : decode cL_whyKept 4 = .ok (.invokevirtual 76, 3) := by decide +kernel
theorem dL_whyKept_7 : decode cL_whyKept 7 = .ok (.i2l, 1) := by decide +kernel
theorem dL_whyKept_8 : decode cL_whyKept 8 = .ok (.lastore, 1) := by decide +kernel
theorem dL_whyKept_9 : decode cL_whyKept 9 = .ok (.goto 6, 3) := by decide +kernel
theorem dL_whyKept_12 : decode cL_whyKept 12 = .ok (.astore_n 3, 1) := by decide +kernel
theorem dL_whyKept_13 : decode cL_whyKept 13 = .ok (.iconst 1, 1) := by decide +kernel
theorem dL_whyKept_14 : decode cL_whyKept 14 = .ok (.ireturn, 1) := by decide +kernel
theorem dL_whyKept_15 : decode cL_whyKept 15 = .ok (.iconst 0, 1) := by decide +kernel
theorem dL_whyKept_16 : decode cL_whyKept 16 = .ok (.ireturn, 1) := by decide +kernel
set_option maxRecDepth 20000 in
theorem ggL_traces_X0_traces : GoodIn wsL_traces wsX0_traces := goodIn_ca (goodIn_r _ [6, 7, 8, 9, 10, 5, 11, 12, 13, 14, 15, 16, 17, 18, 19, 20, 21, 22, 23, 24, 25, 26, 27, 28, 29, 30, 31, 32, 33, 34, 35, 36, 37, 38, 39, 40, 41] (by decide +kernel) (by decide +kernel)) (goodIn_sub (fun _ h => List.mem_cons_of_mem _ (List.mem_append_right _ h)) (by decide +kernel))
set_option maxRecDepth 20000 in
theorem gL_traces_X0_traces : GoodIn wsL_traces (wsV RL 79 RX0 yX0_traces wsX0_traces) := goodIn_app (goodIn_of _ (by decide +kernel)) ggL_traces_X0_traces
theorem dL_traces_0 : decode cL_traces 0 = .ok (.aload_n 2, 1) := by decide +kernel
theorem dL_traces_1 : decode cL_traces 1 = .ok (.iconst 0, 1) := by decide +kernel
theorem dL_traces_2 : decode cL_traces 2 = .ok (.aload_n 0, 1) := by decide +kernel
theorem dL_traces_3 : decode cL_traces 3 = .ok (.iload_n 1, 1) := by decide +kernel
theorem dL_traces_4 : decode cL_traces 4 = .ok (.invokevirtual 79, 3) := by decide +kernel
theorem dL_traces_7 : decode cL_traces 7 = .ok (.i2l, 1) := by decide +kernel
theorem dL_traces_8 : decode cL_traces 8 = .ok (.lastore, 1) := by decide +kernel
theorem dL_traces_9 : decode cL_traces 9 = .ok (.goto 6, 3) := by decide +kernel
theorem dL_traces_12 : decode cL_traces 12 = .ok (.astore_n 3, 1) := by decide +kernel
theorem dL_traces_13 : decode cL_traces 13 = .ok (.iconst 1, 1) := by decide +kernel
theorem dL_traces_14 : decode cL_traces 14 = .ok (.ireturn, 1) := by decide +kernel
theorem dL_traces_15 : decode cL_traces 15 = .ok (.iconst 0, 1) := by decide +kernel
theorem dL_traces_16 : decode cL_traces 16 = .ok (.ireturn, 1) := by decide +kernel
set_option maxRecDepth 20000 in
theorem ggL_tracesFromRoots_X0_tracesFromRoots : GoodIn wsL_tracesFromRoots wsX0_tracesFromRoots := goodIn_ca (goodIn_r _ [6, 7, 8, 9, 10, 5, 11, 12, 13, 14, 15, 16, 17, 18, 19, 20, 21, 22, 23, 24, 25, 26, 27, 28, 29, 30, 31, 32, 33, 34, 35, 36, 37, 38, 39, 40, 41, 42, 43, 44, 45, 46, 47, 48, 49, 50] (by decide +kernel) (by decide +kernel)) (goodIn_sub (fun _ h => List.mem_cons_of_mem _ (List.mem_append_right _ h)) (by decide +kernel))
set_option maxRecDepth 20000 in
theorem gL_tracesFromRoots_X0_tracesFromRoots : GoodIn wsL_tracesFromRoots (wsV RL 82 RX0 yX0_tracesFromRoots wsX0_tracesFromRoots) := goodIn_app (goodIn_of _ (by decide +kernel)) ggL_tracesFromRoots_X0_tracesFromRoots
theorem dL_tracesFromRoots_0 : decode cL_tracesFromRoots 0 = .ok (.aload_n 2, 1) := by decide +kernel
theorem dL_tracesFromRoots_1 : decode cL_tracesFromRoots 1 = .ok (.iconst 0, 1) := by decide +kernel
theorem dL_tracesFromRoots_2 : decode cL_tracesFromRoots 2 = .ok (.aload_n 0, 1) := by decide +kernel
theorem dL_tracesFromRoots_3 : decode cL_tracesFromRoots 3 = .ok (.iload_n 1, 1) := by decide +kernel
theorem dL_tracesFromRoots_4 : decode cL_tracesFromRoots 4 = .ok (.invokevirtual 82, 3) := by decide +kernel
theorem dL_tracesFromRoots_7 : decode cL_tracesFromRoots 7 = .ok (.i2l, 1) := by decide +kernel
theorem dL_tracesFromRoots_8 : decode cL_tracesFromRoots 8 = .ok (.lastore, 1) := by decide +kernel
theorem dL_tracesFromRoots_9 : decode cL_tracesFromRoots 9 = .ok (.goto 6, 3) := by decide +kernel
theorem dL_tracesFromRoots_12 : decode cL_tracesFromRoots 12 = .ok (.astore_n 3, 1) := by decide +kernel
theorem dL_tracesFromRoots_13 : decode cL_tracesFromRoots 13 = .ok (.iconst 1, 1) := by decide +kernel
theorem dL_tracesFromRoots_14 : decode cL_tracesFromRoots 14 = .ok (.ireturn, 1) := by decide +kernel
theorem dL_tracesFromRoots_15 : decode cL_tracesFromRoots 15 = .ok (.iconst 0, 1) := by decide +kernel
theorem dL_tracesFromRoots_16 : decode cL_tracesFromRoots 16 = .ok (.ireturn, 1) := by decide +kernel
