theorem dL_erases_16 : decode cL_erases 16 = .ok (.aload_n 2, 1) := by decide +kernel
theorem dL_erases_17 : decode cL_erases 17 = .ok (.aload_n 3, 1) := by decide +kernel
theorem dL_erases_18 : decode cL_erases 18 = .ok (.invokestatic 67, 3) := by decide +kernel
theorem dL_erases_21 : decode cL_erases 21 = .ok (.ifCond .ne 11, 3) := by decide +kernel
theorem dL_erases_24 : decode cL_erases 24 = .ok (.aload_n 3, 1) := by decide +kernel
theorem dL_erases_25 : decode cL_erases 25 = .ok (.iload 4, 2) := by decide +kernel
theorem dL_erases_27 : decode cL_erases 27 = .ok (.iconst 2, 1) := by decide +kernel
theorem dL_erases_28 : decode cL_erases 28 = .ok (.iastore, 1) := by decide +kernel
theorem dL_erases_29 : decode cL_erases 29 = .ok (.iload 4, 2) := by decide +kernel
theorem dL_erases_31 : decode cL_erases 31 = .ok (.ireturn, 1) := by decide +kernel
theorem dL_erases_32 : decode cL_erases 32 = .ok (.iinc 4 (-1), 3) := by decide +kernel
theorem dL_erases_35 : decode cL_erases 35 = .ok (.goto (-28), 3) := by decide +kernel
theorem dL_erases_38 : decode cL_erases 38 = .ok (.iconst (-1), 1) := by decide +kernel
theorem dL_erases_39 : decode cL_erases 39 = .ok (.ireturn, 1) := by decide +kernel
set_option maxRecDepth 20000 in
theorem ggL_source_L_has : GoodIn wsL_source wsL_has := goodIn_r _ [4] (by decide +kernel) (by decide +kernel)
set_option maxRecDepth 20000 in
theorem gL_source_L_has : GoodIn wsL_source (va_wsS RL 45 yL_has wsL_has) := goodIn_app (goodIn_of _ (by decide +kernel)) ggL_source_L_has
set_option maxRecDepth 20000 in
theorem ggL_source_L_size : GoodIn wsL_source wsL_size := goodIn_r _ [7] (by decide +kernel) (by decide +kernel)
set_option maxRecDepth 20000 in
theorem gL_source_L_size : GoodIn wsL_source (va_wsS RL 71 yL_size wsL_size) := goodIn_app (goodIn_of _ (by decide +kernel)) ggL_source_L_size
theorem dL_source_0 : decode cL_source 0 = .ok (.iload_n 0, 1) := by decide +kernel
theorem dL_source_1 : decode cL_source 1 = .ok (.aload_n 3, 1) := by decide +kernel
theorem dL_source_2 : decode cL_source 2 = .ok (.iconst 2, 1) := by decide +kernel
theorem dL_source_3 : decode cL_source 3 = .ok (.iaload, 1) := by decide +kernel
theorem dL_source_4 : decode cL_source 4 = .ok (.if_icmp .ge 10, 3) := by decide +kernel
theorem dL_source_7 : decode cL_source 7 = .ok (.iload_n 1, 1) := by decide +kernel
theorem dL_source_8 : decode cL_source 8 = .ok (.aload_n 3, 1) := by decide +kernel
theorem dL_source_9 : decode cL_source 9 = .ok (.iconst 2, 1) := by decide +kernel
theorem dL_source_10 : decode cL_source 10 = .ok (.iaload, 1) := by decide +kernel
theorem dL_source_11 : decode cL_source 11 = .ok (.if_icmp .lt 5, 3) := by decide +kernel
theorem dL_source_14 : decode cL_source 14 = .ok (.iconst (-1), 1) := by decide +kernel
theorem dL_source_15 : decode cL_source 15 = .ok (.ireturn, 1) := by decide +kernel
theorem dL_source_16 : decode cL_source 16 = .ok (.iload_n 1, 1) := by decide +kernel
theorem dL_source_17 : decode cL_source 17 = .ok (.iload_n 0, 1) := by decide +kernel
theorem dL_source_18 : decode cL_source 18 = .ok (.if_icmp .ge 13, 3) := by decide +kernel
theorem dL_source_21 : decode cL_source 21 = .ok (.aload_n 2, 1) := by decide +kernel
theorem dL_source_22 : decode cL_source 22 = .ok (.iload_n 0, 1) := by decide +kernel
theorem dL_source_23 : decode cL_source 23 = .ok (.iaload, 1) := by decide +kernel
theorem dL_source_24 : decode cL_source 24 = .ok (.iload_n 1, 1) := by decide +kernel
theorem dL_source_25 : decode cL_source 25 = .ok (.invokestatic 45, 3) := by decide +kernel
theorem dL_source_28 : decode cL_source 28 = .ok (.ifCond .eq 6, 3) := by decide +kernel
theorem dL_source_31 : decode cL_source 31 = .ok (.bipush (-2), 2) := by decide +kernel
theorem dL_source_33 : decode cL_source 33 = .ok (.ireturn, 1) := by decide +kernel
theorem dL_source_34 : decode cL_source 34 = .ok (.aload 6, 2) := by decide +kernel
theorem dL_source_36 : decode cL_source 36 = .ok (.bipush 30, 2) := by decide +kernel
theorem dL_source_38 : decode cL_source 38 = .ok (.iload_n 0, 1) := by decide +kernel
theorem dL_source_39 : decode cL_source 39 = .ok (.iadd, 1) := by decide +kernel
theorem dL_source_40 : decode cL_source 40 = .ok (.iaload, 1) := by decide +kernel
theorem dL_source_41 : decode cL_source 41 = .ok (.iconst 1, 1) := by decide +kernel
theorem dL_source_42 : decode cL_source 42 = .ok (.if_icmp .eq 17, 3) := by decide +kernel
theorem dL_source_45 : decode cL_source 45 = .ok (.aload 6, 2) := by decide +kernel
theorem dL_source_47 : decode cL_source 47 = .ok (.iload_n 0, 1) := by decide +kernel
theorem dL_source_48 : decode cL_source 48 = .ok (.iaload, 1) := by decide +kernel
theorem dL_source_49 : decode cL_source 49 = .ok (.ifCond .gt 10, 3) := by decide +kernel
theorem dL_source_52 : decode cL_source 52 = .ok (.aload 6, 2) := by decide +kernel
theorem dL_source_54 : decode cL_source 54 = .ok (.iload_n 1, 1) := by decide +kernel
theorem dL_source_55 : decode cL_source 55 = .ok (.iaload, 1) := by decide +kernel
theorem dL_source_56 : decode cL_source 56 = .ok (.ifCond .le 6, 3) := by decide +kernel
theorem dL_source_59 : decode cL_source 59 = .ok (.bipush (-3), 2) := by decide +kernel
theorem dL_source_61 : decode cL_source 61 = .ok (.ireturn, 1) := by decide +kernel
theorem dL_source_62 : decode cL_source 62 = .ok (.aload_n 2, 1) := by decide +kernel
theorem dL_source_63 : decode cL_source 63 = .ok (.iload_n 0, 1) := by decide +kernel
theorem dL_source_64 : decode cL_source 64 = .ok (.dup2, 1) := by decide +kernel
theorem dL_source_65 : decode cL_source 65 = .ok (.iaload, 1) := by decide +kernel
theorem dL_source_66 : decode cL_source 66 = .ok (.iconst 1, 1) := by decide +kernel
theorem dL_source_67 : decode cL_source 67 = .ok (.iload_n 1, 1) := by decide +kernel
theorem dL_source_68 : decode cL_source 68 = .ok (.ishl, 1) := by decide +kernel
theorem dL_source_69 : decode cL_source 69 = .ok (.ior, 1) := by decide +kernel
theorem dL_source_70 : decode cL_source 70 = .ok (.iastore, 1) := by decide +kernel
theorem dL_source_71 : decode cL_source 71 = .ok (.iconst 0, 1) := by decide +kernel
theorem dL_source_72 : decode cL_source 72 = .ok (.istore 7, 2) := by decide +kernel
theorem dL_source_74 : decode cL_source 74 = .ok (.iload 7, 2) := by decide +kernel
theorem dL_source_76 : decode cL_source 76 = .ok (.aload_n 3, 1) := by decide +kernel
theorem dL_source_77 : decode cL_source 77 = .ok (.iconst 2, 1) := by decide +kernel
theorem dL_source_78 : decode cL_source 78 = .ok (.iaload, 1) := by decide +kernel
theorem dL_source_79 : decode cL_source 79 = .ok (.if_icmp .ge 43, 3) := by decide +kernel
theorem dL_source_82 : decode cL_source 82 = .ok (.aload 4, 2) := by decide +kernel
theorem dL_source_84 : decode cL_source 84 = .ok (.iload 7, 2) := by decide +kernel
theorem dL_source_86 : decode cL_source 86 = .ok (.dup2, 1) := by decide +kernel
theorem dL_source_87 : decode cL_source 87 = .ok (.iaload, 1) := by decide +kernel
theorem dL_source_88 : decode cL_source 88 = .ok (.iload 7, 2) := by decide +kernel
theorem dL_source_90 : decode cL_source 90 = .ok (.iload_n 0, 1) := by decide +kernel
theorem dL_source_91 : decode cL_source 91 = .ok (.if_icmp .eq 15, 3) := by decide +kernel
theorem dL_source_94 : decode cL_source 94 = .ok (.aload 5, 2) := by decide +kernel
theorem dL_source_96 : decode cL_source 96 = .ok (.iload_n 0, 1) := by decide +kernel
theorem dL_source_97 : decode cL_source 97 = .ok (.iaload, 1) := by decide +kernel
theorem dL_source_98 : decode cL_source 98 = .ok (.iload 7, 2) := by decide +kernel
theorem dL_source_100 : decode cL_source 100 = .ok (.invokestatic 45, 3) := by decide +kernel
theorem dL_source_103 : decode cL_source 103 = .ok (.ifCond .eq 10, 3) := by decide +kernel
theorem dL_source_106 : decode cL_source 106 = .ok (.aload 4, 2) := by decide +kernel
theorem dL_source_108 : decode cL_source 108 = .ok (.iload_n 1, 1) := by decide +kernel
theorem dL_source_109 : decode cL_source 109 = .ok (.iaload, 1) := by decide +kernel
theorem dL_source_110 : decode cL_source 110 = .ok (.goto 4, 3) := by decide +kernel
theorem dL_source_113 : decode cL_source 113 = .ok (.iconst 0, 1) := by decide +kernel
theorem dL_source_114 : decode cL_source 114 = .ok (.ior, 1) := by decide +kernel
theorem dL_source_115 : decode cL_source 115 = .ok (.iastore, 1) := by decide +kernel
theorem dL_source_116 : decode cL_source 116 = .ok (.iinc 7 1, 3) := by decide +kernel
theorem dL_source_119 : decode cL_source 119 = .ok (.goto (-45), 3) := by decide +kernel
theorem dL_source_122 : decode cL_source 122 = .ok (.iconst 0, 1) := by decide +kernel
theorem dL_source_123 : decode cL_source 123 = .ok (.istore 7, 2) := by decide +kernel
theorem dL_source_125 : decode cL_source 125 = .ok (.iload 7, 2) := by decide +kernel
theorem dL_source_127 : decode cL_source 127 = .ok (.aload_n 3, 1) := by decide +kernel
theorem dL_source_128 : decode cL_source 128 = .ok (.iconst 2, 1) := by decide +kernel
theorem dL_source_129 : decode cL_source 129 = .ok (.iaload, 1) := by decide +kernel
theorem dL_source_130 : decode cL_source 130 = .ok (.if_icmp .ge 47, 3) := by decide +kernel
theorem dL_source_133 : decode cL_source 133 = .ok (.aload 5, 2) := by decide +kernel
theorem dL_source_135 : decode cL_source 135 = .ok (.iload 7, 2) := by decide +kernel
theorem dL_source_137 : decode cL_source 137 = .ok (.dup2, 1) := by decide +kernel
theorem dL_source_138 : decode cL_source 138 = .ok (.iaload, 1) := by decide +kernel
theorem dL_source_139 : decode cL_source 139 = .ok (.iload 7, 2) := by decide +kernel
theorem dL_source_141 : decode cL_source 141 = .ok (.iload_n 1, 1) := by decide +kernel
theorem dL_source_142 : decode cL_source 142 = .ok (.if_icmp .eq 15, 3) := by decide +kernel
theorem dL_source_145 : decode cL_source 145 = .ok (.aload 5, 2) := by decide +kernel
theorem dL_source_147 : decode cL_source 147 = .ok (.iload 7, 2) := by decide +kernel
theorem dL_source_149 : decode cL_source 149 = .ok (.iaload, 1) := by decide +kernel
theorem dL_source_150 : decode cL_source 150 = .ok (.iload_n 1, 1) := by decide +kernel
theorem dL_source_151 : decode cL_source 151 = .ok (.invokestatic 45, 3) := by decide +kernel
theorem dL_source_154 : decode cL_source 154 = .ok (.ifCond .eq 14, 3) := by decide +kernel
theorem dL_source_157 : decode cL_source 157 = .ok (.iconst 1, 1) := by decide +kernel
theorem dL_source_158 : decode cL_source 158 = .ok (.iload_n 0, 1) := by decide +kernel
theorem dL_source_159 : decode cL_source 159 = .ok (.ishl, 1) := by decide +kernel
theorem dL_source_160 : decode cL_source 160 = .ok (.aload 5, 2) := by decide +kernel
theorem dL_source_162 : decode cL_source 162 = .ok (.iload_n 0, 1) := by decide +kernel
theorem dL_source_163 : decode cL_source 163 = .ok (.iaload, 1) := by decide +kernel
theorem dL_source_164 : decode cL_source 164 = .ok (.ior, 1) := by decide +kernel
theorem dL_source_165 : decode cL_source 165 = .ok (.goto 4, 3) := by decide +kernel
theorem dL_source_168 : decode cL_source 168 = .ok (.iconst 0, 1) := by decide +kernel
theorem dL_source_169 : decode cL_source 169 = .ok (.ior, 1) := by decide +kernel
theorem dL_source_170 : decode cL_source 170 = .ok (.iastore, 1) := by decide +kernel
theorem dL_source_171 : decode cL_source 171 = .ok (.iinc 7 1, 3) := by decide +kernel
theorem dL_source_174 : decode cL_source 174 = .ok (.goto (-49), 3) := by decide +kernel
theorem dL_source_177 : decode cL_source 177 = .ok (.aload 4, 2) := by decide +kernel
theorem dL_source_179 : decode cL_source 179 = .ok (.iload_n 0, 1) := by decide +kernel
theorem dL_source_180 : decode cL_source 180 = .ok (.iaload, 1) := by decide +kernel
theorem dL_source_181 : decode cL_source 181 = .ok (.invokestatic 71, 3) := by decide +kernel
theorem dL_source_184 : decode cL_source 184 = .ok (.ireturn, 1) := by decide +kernel
set_option maxRecDepth 20000 in
theorem ggL_reason_L_has : GoodIn wsL_reason wsL_has := goodIn_r _ [4] (by decide +kernel) (by decide +kernel)
set_option maxRecDepth 20000 in
theorem gL_reason_L_has : GoodIn wsL_reason (va_wsS RL 45 yL_has wsL_has) := goodIn_app (goodIn_of _ (by decide +kernel)) ggL_reason_L_has
set_option maxRecDepth 20000 in
theorem ggL_reason_L_isAllowed : GoodIn wsL_reason wsL_isAllowed := goodIn_r _ [7, 1, 2, 3, 4] (by decide +kernel) (by decide +kernel)
set_option maxRecDepth 20000 in
theorem gL_reason_L_isAllowed : GoodIn wsL_reason (va_wsS RL 51 yL_isAllowed wsL_isAllowed) := goodIn_app (goodIn_of _ (by decide +kernel)) ggL_reason_L_isAllowed
theorem dL_reason_0 : decode cL_reason 0 = .ok (.aload 7, 2) := by decide +kernel
theorem dL_reason_2 : decode cL_reason 2 = .ok (.iload_n 0, 1) := by decide +kernel
theorem dL_reason_3 : decode cL_reason 3 = .ok (.iaload, 1) := by decide +kernel
theorem dL_reason_4 : decode cL_reason 4 = .ok (.iconst 2, 1) := by decide +kernel
theorem dL_reason_5 : decode cL_reason 5 = .ok (.if_icmp .ne 7, 3) := by decide +kernel
theorem dL_reason_8 : decode cL_reason 8 = .ok (.iconst 1, 1) := by decide +kernel
theorem dL_reason_9 : decode cL_reason 9 = .ok (.goto 65, 3) := by decide +kernel
theorem dL_reason_12 : decode cL_reason 12 = .ok (.aload 7, 2) := by decide +kernel
theorem dL_reason_14 : decode cL_reason 14 = .ok (.iload_n 0, 1) := by decide +kernel
theorem dL_reason_15 : decode cL_reason 15 = .ok (.iaload, 1) := by decide +kernel
theorem dL_reason_16 : decode cL_reason 16 = .ok (.iconst 1, 1) := by decide +kernel
theorem dL_reason_17 : decode cL_reason 17 = .ok (.if_icmp .ne 7, 3) := by decide +kernel
theorem dL_reason_20 : decode cL_reason 20 = .ok (.iconst 2, 1) := by decide +kernel
theorem dL_reason_21 : decode cL_reason 21 = .ok (.goto 53, 3) := by decide +kernel
theorem dL_reason_24 : decode cL_reason 24 = .ok (.aload 5, 2) := by decide +kernel
theorem dL_reason_26 : decode cL_reason 26 = .ok (.iload_n 0, 1) := by decide +kernel
theorem dL_reason_27 : decode cL_reason 27 = .ok (.iaload, 1) := by decide +kernel
theorem dL_reason_28 : decode cL_reason 28 = .ok (.iload_n 1, 1) := by decide +kernel
theorem dL_reason_29 : decode cL_reason 29 = .ok (.invokestatic 45, 3) := by decide +kernel
theorem dL_reason_32 : decode cL_reason 32 = .ok (.ifCond .ne 7, 3) := by decide +kernel
theorem dL_reason_35 : decode cL_reason 35 = .ok (.iconst 3, 1) := by decide +kernel
theorem dL_reason_36 : decode cL_reason 36 = .ok (.goto 38, 3) := by decide +kernel
theorem dL_reason_39 : decode cL_reason 39 = .ok (.iload_n 1, 1) := by decide +kernel
theorem dL_reason_40 : decode cL_reason 40 = .ok (.aload 4, 2) := by decide +kernel
theorem dL_reason_42 : decode cL_reason 42 = .ok (.iload_n 0, 1) := by decide +kernel
theorem dL_reason_43 : decode cL_reason 43 = .ok (.iaload, 1) := by decide +kernel
theorem dL_reason_44 : decode cL_reason 44 = .ok (.aload_n 3, 1) := by decide +kernel
theorem dL_reason_45 : decode cL_reason 45 = .ok (.invokestatic 51, 3) := by decide +kernel
theorem dL_reason_48 : decode cL_reason 48 = .ok (.ifCond .ne 7, 3) := by decide +kernel
theorem dL_reason_51 : decode cL_reason 51 = .ok (.iconst 4, 1) := by decide +kernel
theorem dL_reason_52 : decode cL_reason 52 = .ok (.goto 22, 3) := by decide +kernel
theorem dL_reason_55 : decode cL_reason 55 = .ok (.aload_n 2, 1) := by decide +kernel
theorem dL_reason_56 : decode cL_reason 56 = .ok (.iconst 0, 1) := by decide +kernel
theorem dL_reason_57 : decode cL_reason 57 = .ok (.iaload, 1) := by decide +kernel
theorem dL_reason_58 : decode cL_reason 58 = .ok (.aload 6, 2) := by decide +kernel
theorem dL_reason_60 : decode cL_reason 60 = .ok (.iload_n 0, 1) := by decide +kernel
theorem dL_reason_61 : decode cL_reason 61 = .ok (.iaload, 1) := by decide +kernel
theorem dL_reason_62 : decode cL_reason 62 = .ok (.aload_n 3, 1) := by decide +kernel
theorem dL_reason_63 : decode cL_reason 63 = .ok (.iload_n 1, 1) := by decide +kernel
theorem dL_reason_64 : decode cL_reason 64 = .ok (.iaload, 1) := by decide +kernel
theorem dL_reason_65 : decode cL_reason 65 = .ok (.iadd, 1) := by decide +kernel
theorem dL_reason_66 : decode cL_reason 66 = .ok (.if_icmp .lt 7, 3) := by decide +kernel
theorem dL_reason_69 : decode cL_reason 69 = .ok (.iconst 5, 1) := by decide +kernel
theorem dL_reason_70 : decode cL_reason 70 = .ok (.goto 4, 3) := by decide +kernel
theorem dL_reason_73 : decode cL_reason 73 = .ok (.iconst 0, 1) := by decide +kernel
theorem dL_reason_74 : decode cL_reason 74 = .ok (.ireturn, 1) := by decide +kernel
set_option maxRecDepth 20000 in
theorem ggL_isSo_X0_day : GoodIn wsL_isSo wsX0_day := goodIn_r _ [6, 7, 183, 184, 185, 186, 187, 188, 189, 190, 191, 192, 193, 194, 195, 196, 197, 198] (by decide +kernel) (by decide +kernel)
set_option maxRecDepth 20000 in
theorem gL_isSo_X0_day : GoodIn wsL_isSo (wsV RL 74 RX0 yX0_day wsX0_day) := goodIn_app (goodIn_of _ (by decide +kernel)) ggL_isSo_X0_day
set_option maxRecDepth 20000 in
theorem ggL_isSo_X0_records : GoodIn wsL_isSo wsX0_records := goodIn_r _ [11, 12, 183, 184, 185, 186, 187, 188, 189, 190, 191, 192, 193, 194, 195, 196, 197, 198] (by decide +kernel) (by decide +kernel)
set_option maxRecDepth 20000 in
theorem gL_isSo_X0_records : GoodIn wsL_isSo (wsV RL 78 RX0 yX0_records wsX0_records) := goodIn_app (goodIn_of _ (by decide +kernel)) ggL_isSo_X0_records
set_option maxRecDepth 20000 in
theorem ggL_isSo_X0_held : GoodIn wsL_isSo wsX0_held := goodIn_r _ [16, 17, 18, 19, 5, 20, 21, 183, 184, 185, 186, 187, 188, 189, 190, 191, 192, 193, 194, 195, 196, 197, 198] (by decide +kernel) (by decide +kernel)
set_option maxRecDepth 20000 in
theorem gL_isSo_X0_held : GoodIn wsL_isSo (wsV RL 81 RX0 yX0_held wsX0_held) := goodIn_app (goodIn_of _ (by decide +kernel)) ggL_isSo_X0_held
set_option maxRecDepth 20000 in
theorem ggL_isSo_L_held : GoodIn wsL_isSo wsL_held := goodIn_r _ [25] (by decide +kernel) (by decide +kernel)
set_option maxRecDepth 20000 in
theorem gL_isSo_L_held : GoodIn wsL_isSo (va_wsS RL 63 yL_held wsL_held) := goodIn_app (goodIn_of _ (by decide +kernel)) ggL_isSo_L_held
set_option maxRecDepth 20000 in
theorem ggL_isSo_L_has : GoodIn wsL_isSo wsL_has := goodIn_r _ [28] (by decide +kernel) (by decide +kernel)
set_option maxRecDepth 20000 in
theorem gL_isSo_L_has : GoodIn wsL_isSo (va_wsS RL 45 yL_has wsL_has) := goodIn_app (goodIn_of _ (by decide +kernel)) ggL_isSo_L_has
set_option maxRecDepth 20000 in
theorem ggL_isSo_L_isAllowed : GoodIn wsL_isSo wsL_isAllowed := goodIn_r _ [31, 26, 27, 24, 28] (by decide +kernel) (by decide +kernel)
set_option maxRecDepth 20000 in
theorem gL_isSo_L_isAllowed : GoodIn wsL_isSo (va_wsS RL 51 yL_isAllowed wsL_isAllowed) := goodIn_app (goodIn_of _ (by decide +kernel)) ggL_isSo_L_isAllowed
set_option maxRecDepth 20000 in
theorem ggL_isSo_X0_whyNoUse : GoodIn wsL_isSo wsX0_whyNoUse := goodIn_ca (goodIn_r _ [35, 36, 37, 38, 39, 40, 41, 42, 43, 5, 44, 45, 46, 12, 47, 48, 49, 50, 51, 52, 53, 54, 55, 56, 57, 58, 59, 60, 61, 62, 63, 64, 65, 66, 67, 68, 69, 70, 71, 7, 72, 183, 184, 185, 186, 187, 188, 189, 190, 191, 192, 193, 194, 195, 196, 197, 198] (by decide +kernel) (by decide +kernel)) (goodIn_sub (fun _ h => List.mem_cons_of_mem _ (List.mem_append_right _ h)) (by decide +kernel))
set_option maxRecDepth 20000 in
theorem gL_isSo_X0_whyNoUse : GoodIn wsL_isSo (wsV RL 83 RX0 yX0_whyNoUse wsX0_whyNoUse) := goodIn_app (goodIn_of _ (by decide +kernel)) ggL_isSo_X0_whyNoUse
set_option maxRecDepth 20000 in
theorem ggL_isSo_L_reason : GoodIn wsL_isSo wsL_reason := goodIn_r _ [75, 26, 27, 24, 28, 29, 30, 31] (by decide +kernel) (by decide +kernel)
set_option maxRecDepth 20000 in
theorem gL_isSo_L_reason : GoodIn wsL_isSo (va_wsS RL 86 yL_reason wsL_reason) := goodIn_app (goodIn_of _ (by decide +kernel)) ggL_isSo_L_reason
set_option maxRecDepth 20000 in
theorem ggL_isSo_L_isOpen : GoodIn wsL_isSo wsL_isOpen := goodIn_r _ [78, 26, 27, 24, 28, 29, 30, 31] (by decide +kernel) (by decide +kernel)
set_option maxRecDepth 20000 in
theorem gL_isSo_L_isOpen : GoodIn wsL_isSo (va_wsS RL 55 yL_isOpen wsL_isOpen) := goodIn_app (goodIn_of _ (by decide +kernel)) ggL_isSo_L_isOpen
set_option maxRecDepth 20000 in
theorem ggL_isSo_X0_stateOf : GoodIn wsL_isSo wsX0_stateOf := goodIn_ca (goodIn_r _ [82, 36, 37, 41, 42, 43, 5, 44, 45, 46, 12, 52, 53, 54, 55, 56, 57, 183, 184, 185, 186, 187, 188, 189, 190, 191, 192, 193, 194, 195, 196, 197, 198] (by decide +kernel) (by decide +kernel)) (goodIn_sub (fun _ h => List.mem_cons_of_mem _ (List.mem_append_right _ h)) (by decide +kernel))
set_option maxRecDepth 20000 in
theorem gL_isSo_X0_stateOf : GoodIn wsL_isSo (wsV RL 35 RX0 yX0_stateOf wsX0_stateOf) := goodIn_app (goodIn_of _ (by decide +kernel)) ggL_isSo_X0_stateOf
set_option maxRecDepth 20000 in
theorem ggL_isSo_X0_subjectsOf : GoodIn wsL_isSo wsX0_subjectsOf := goodIn_ca (goodIn_r _ [86, 39, 41, 42, 43, 5, 44, 45, 46, 12, 183, 184, 185, 186, 187, 188, 189, 190, 191, 192, 193, 194, 195, 196, 197, 198] (by decide +kernel) (by decide +kernel)) (goodIn_sub (fun _ h => List.mem_cons_of_mem _ (List.mem_append_right _ h)) (by decide +kernel))
set_option maxRecDepth 20000 in
theorem gL_isSo_X0_subjectsOf : GoodIn wsL_isSo (wsV RL 90 RX0 yX0_subjectsOf wsX0_subjectsOf) := goodIn_app (goodIn_of _ (by decide +kernel)) ggL_isSo_X0_subjectsOf
set_option maxRecDepth 20000 in
theorem ggL_isSo_X0_below : GoodIn wsL_isSo wsX0_below := goodIn_ca (goodIn_r _ [90, 41, 42, 43, 5, 44, 45, 46, 12, 91, 92, 93, 94, 55, 56, 57, 95, 96, 97, 98, 99, 183, 184, 185, 186, 187, 188, 189, 190, 191, 192, 193, 194, 195, 196, 197, 198] (by decide +kernel) (by decide +kernel)) (goodIn_sub (fun _ h => List.mem_cons_of_mem _ (List.mem_append_right _ h)) (by decide +kernel))
set_option maxRecDepth 20000 in
theorem gL_isSo_X0_below : GoodIn wsL_isSo (wsV RL 93 RX0 yX0_below wsX0_below) := goodIn_app (goodIn_of _ (by decide +kernel)) ggL_isSo_X0_below
set_option maxRecDepth 20000 in
theorem ggL_isSo_X0_endOf : GoodIn wsL_isSo wsX0_endOf := goodIn_ca (goodIn_r _ [103, 41, 42, 43, 5, 44, 45, 46, 12, 104, 105, 106, 107, 38, 39, 51, 72, 108, 109, 110, 111, 40, 58, 59, 60, 61, 62, 63, 64, 65, 66, 67, 55, 56, 57, 52, 53, 54, 183, 184, 185, 186, 187, 188, 189, 190, 191, 192, 193, 194, 195, 196, 197, 198] (by decide +kernel) (by decide +kernel)) (goodIn_sub (fun _ h => List.mem_cons_of_mem _ (List.mem_append_right _ h)) (by decide +kernel))
set_option maxRecDepth 20000 in
theorem gL_isSo_X0_endOf : GoodIn wsL_isSo (wsV RL 96 RX0 yX0_endOf wsX0_endOf) := goodIn_app (goodIn_of _ (by decide +kernel)) ggL_isSo_X0_endOf
set_option maxRecDepth 20000 in
theorem ggL_isSo_X0_whyKept : GoodIn wsL_isSo wsX0_whyKept := goodIn_ca (goodIn_r _ [115, 36, 116, 41, 42, 43, 5, 44, 45, 46, 12, 52, 53, 54, 55, 56, 57, 17, 18, 19, 20, 21, 91, 92, 93, 94, 95, 96, 97, 98, 99, 183, 184, 185, 186, 187, 188, 189, 190, 191, 192, 193, 194, 195, 196, 197, 198] (by decide +kernel) (by decide +kernel)) (goodIn_sub (fun _ h => List.mem_cons_of_mem _ (List.mem_append_right _ h)) (by decide +kernel))
set_option maxRecDepth 20000 in
theorem gL_isSo_X0_whyKept : GoodIn wsL_isSo (wsV RL 99 RX0 yX0_whyKept wsX0_whyKept) := goodIn_app (goodIn_of _ (by decide +kernel)) ggL_isSo_X0_whyKept
set_option maxRecDepth 20000 in
theorem ggL_isSo_L_kept : GoodIn wsL_isSo wsL_kept := goodIn_r _ [119, 22, 23, 24, 25, 26, 27, 28] (by decide +kernel) (by decide +kernel)
set_option maxRecDepth 20000 in
theorem gL_isSo_L_kept : GoodIn wsL_isSo (va_wsS RL 67 yL_kept wsL_kept) := goodIn_app (goodIn_of _ (by decide +kernel)) ggL_isSo_L_kept
set_option maxRecDepth 20000 in
theorem ggL_isSo_X0_consents : GoodIn wsL_isSo wsX0_consents := goodIn_ca (goodIn_r _ [123, 62, 124, 125, 126, 5, 127, 45, 46, 183, 184, 185, 186, 187, 188, 189, 190, 191, 192, 193, 194, 195, 196, 197, 198] (by decide +kernel) (by decide +kernel)) (goodIn_sub (fun _ h => List.mem_cons_of_mem _ (List.mem_append_right _ h)) (by decide +kernel))
set_option maxRecDepth 20000 in
theorem gL_isSo_X0_consents : GoodIn wsL_isSo (wsV RL 102 RX0 yX0_consents wsX0_consents) := goodIn_app (goodIn_of _ (by decide +kernel)) ggL_isSo_X0_consents
set_option maxRecDepth 20000 in
theorem ggL_isSo_X0_traces : GoodIn wsL_isSo wsX0_traces := goodIn_ca (goodIn_r _ [131, 36, 124, 125, 126, 5, 127, 45, 46, 132, 133, 134, 135, 12, 39, 52, 53, 54, 55, 56, 57, 183, 184, 185, 186, 187, 188, 189, 190, 191, 192, 193, 194, 195, 196, 197, 198] (by decide +kernel) (by decide +kernel)) (goodIn_sub (fun _ h => List.mem_cons_of_mem _ (List.mem_append_right _ h)) (by decide +kernel))
set_option maxRecDepth 20000 in
theorem gL_isSo_X0_traces : GoodIn wsL_isSo (wsV RL 105 RX0 yX0_traces wsX0_traces) := goodIn_app (goodIn_of _ (by decide +kernel)) ggL_isSo_X0_traces
set_option maxRecDepth 20000 in
theorem ggL_isSo_X0_tracesFromRoots : GoodIn wsL_isSo wsX0_tracesFromRoots := goodIn_ca (goodIn_r _ [139, 36, 124, 125, 126, 5, 127, 45, 46, 140, 141, 142, 143, 12, 39, 144, 145, 146, 147, 99, 52, 53, 54, 55, 56, 57, 95, 96, 97, 98, 183, 184, 185, 186, 187, 188, 189, 190, 191, 192, 193, 194, 195, 196, 197, 198] (by decide +kernel) (by decide +kernel)) (goodIn_sub (fun _ h => List.mem_cons_of_mem _ (List.mem_append_right _ h)) (by decide +kernel))
set_option maxRecDepth 20000 in
theorem gL_isSo_X0_tracesFromRoots : GoodIn wsL_isSo (wsV RL 108 RX0 yX0_tracesFromRoots wsX0_tracesFromRoots) := goodIn_app (goodIn_of _ (by decide +kernel)) ggL_isSo_X0_tracesFromRoots
set_option maxRecDepth 20000 in
theorem ggL_isSo_X0_uses : GoodIn wsL_isSo wsX0_uses := goodIn_ca (goodIn_r _ [151, 12, 39, 152, 124, 125, 126, 5, 127, 45, 46, 47, 48, 49, 50, 51, 52, 53, 54, 55, 56, 57, 153, 154, 155, 183, 184, 185, 186, 187, 188, 189, 190, 191, 192, 193, 194, 195, 196, 197, 198] (by decide +kernel) (by decide +kernel)) (goodIn_sub (fun _ h => List.mem_cons_of_mem _ (List.mem_append_right _ h)) (by decide +kernel))
set_option maxRecDepth 20000 in
theorem gL_isSo_X0_uses : GoodIn wsL_isSo (wsV RL 113 RX0 yX0_uses wsX0_uses) := goodIn_app (goodIn_of _ (by decide +kernel)) ggL_isSo_X0_uses
set_option maxRecDepth 20000 in
theorem ggL_isSo_X0_daysWithConsent : GoodIn wsL_isSo wsX0_daysWithConsent := goodIn_ca (goodIn_r _ [159, 160, 124, 125, 126, 5, 127, 45, 46, 47, 48, 49, 50, 51, 161, 162, 163, 183, 184, 185, 186, 187, 188, 189, 190, 191, 192, 193, 194, 195, 196, 197, 198] (by decide +kernel) (by decide +kernel)) (goodIn_sub (fun _ h => List.mem_cons_of_mem _ (List.mem_append_right _ h)) (by decide +kernel))
set_option maxRecDepth 20000 in
theorem gL_isSo_X0_daysWithConsent : GoodIn wsL_isSo (wsV RL 116 RX0 yX0_daysWithConsent wsX0_daysWithConsent) := goodIn_app (goodIn_of _ (by decide +kernel)) ggL_isSo_X0_daysWithConsent
set_option maxRecDepth 20000 in
theorem ggL_isSo_X0_due : GoodIn wsL_isSo wsX0_due := goodIn_r _ [167, 168, 169, 170, 5, 171, 12, 116, 38, 39, 40, 52, 53, 54, 55, 56, 57, 172, 173, 174, 175, 51, 58, 59, 60, 61, 62, 63, 64, 65, 66, 67, 68, 69, 70, 71, 7, 72, 183, 184, 185, 186, 187, 188, 189, 190, 191, 192, 193, 194, 195, 196, 197, 198] (by decide +kernel) (by decide +kernel)
set_option maxRecDepth 20000 in
theorem gL_isSo_X0_due : GoodIn wsL_isSo (wsV RL 119 RX0 yX0_due wsX0_due) := goodIn_app (goodIn_of _ (by decide +kernel)) ggL_isSo_X0_due
set_option maxRecDepth 20000 in
theorem ggL_isSo_X0_nextEnd : GoodIn wsL_isSo wsX0_nextEnd := goodIn_r _ [179, 12, 116, 180, 181, 110, 182, 52, 53, 5, 54, 55, 56, 57, 104, 105, 106, 107, 38, 39, 51, 72, 108, 109, 111, 40, 58, 59, 60, 61, 62, 63, 64, 65, 66, 67, 183, 184, 185, 186, 187, 188, 189, 190, 191, 192, 193, 194, 195, 196, 197, 198] (by decide +kernel) (by decide +kernel)
set_option maxRecDepth 20000 in
theorem gL_isSo_X0_nextEnd : GoodIn wsL_isSo (wsV RL 122 RX0 yX0_nextEnd wsX0_nextEnd) := goodIn_app (goodIn_of _ (by decide +kernel)) ggL_isSo_X0_nextEnd
theorem dL_isSo_0 : decode cL_isSo 0 = .ok (.aload_n 0, 1) := by decide +kernel
theorem dL_isSo_1 : decode cL_isSo 1 = .ok (.invokevirtual 74, 3) := by decide +kernel
theorem dL_isSo_4 : decode cL_isSo 4 = .ok (.aload_n 1, 1) := by decide +kernel
theorem dL_isSo_5 : decode cL_isSo 5 = .ok (.iconst 0, 1) := by decide +kernel
theorem dL_isSo_6 : decode cL_isSo 6 = .ok (.iaload, 1) := by decide +kernel
theorem dL_isSo_7 : decode cL_isSo 7 = .ok (.if_icmp .ne 28, 3) := by decide +kernel
theorem dL_isSo_10 : decode cL_isSo 10 = .ok (.aload_n 0, 1) := by decide +kernel
theorem dL_isSo_11 : decode cL_isSo 11 = .ok (.invokevirtual 78, 3) := by decide +kernel
theorem dL_isSo_14 : decode cL_isSo 14 = .ok (.aload_n 1, 1) := by decide +kernel
theorem dL_isSo_15 : decode cL_isSo 15 = .ok (.iconst 2, 1) := by decide +kernel
theorem dL_isSo_16 : decode cL_isSo 16 = .ok (.iaload, 1) := by decide +kernel
theorem dL_isSo_17 : decode cL_isSo 17 = .ok (.if_icmp .ne 18, 3) := by decide +kernel
theorem dL_isSo_20 : decode cL_isSo 20 = .ok (.aload_n 0, 1) := by decide +kernel
theorem dL_isSo_21 : decode cL_isSo 21 = .ok (.invokevirtual 81, 3) := by decide +kernel
theorem dL_isSo_24 : decode cL_isSo 24 = .ok (.aload_n 2, 1) := by decide +kernel
theorem dL_isSo_25 : decode cL_isSo 25 = .ok (.invokestatic 63, 3) := by decide +kernel
theorem dL_isSo_28 : decode cL_isSo 28 = .ok (.if_icmp .ne 7, 3) := by decide +kernel
theorem dL_isSo_31 : decode cL_isSo 31 = .ok (.iconst 1, 1) := by decide +kernel
theorem dL_isSo_32 : decode cL_isSo 32 = .ok (.goto 4, 3) := by decide +kernel
theorem dL_isSo_35 : decode cL_isSo 35 = .ok (.iconst 0, 1) := by decide +kernel
theorem dL_isSo_36 : decode cL_isSo 36 = .ok (.istore 10, 2) := by decide +kernel
theorem dL_isSo_38 : decode cL_isSo 38 = .ok (.iconst 0, 1) := by decide +kernel
theorem dL_isSo_39 : decode cL_isSo 39 = .ok (.istore 11, 2) := by decide +kernel
theorem dL_isSo_41 : decode cL_isSo 41 = .ok (.iconst (-1), 1) := by decide +kernel
theorem dL_isSo_42 : decode cL_isSo 42 = .ok (.istore 12, 2) := by decide +kernel
theorem dL_isSo_44 : decode cL_isSo 44 = .ok (.iconst 0, 1) := by decide +kernel
theorem dL_isSo_45 : decode cL_isSo 45 = .ok (.istore 13, 2) := by decide +kernel
theorem dL_isSo_47 : decode cL_isSo 47 = .ok (.iload 13, 2) := by decide +kernel
theorem dL_isSo_49 : decode cL_isSo 49 = .ok (.aload_n 1, 1) := by decide +kernel
theorem dL_isSo_50 : decode cL_isSo 50 = .ok (.iconst 2, 1) := by decide +kernel
theorem dL_isSo_51 : decode cL_isSo 51 = .ok (.iaload, 1) := by decide +kernel
theorem dL_isSo_52 : decode cL_isSo 52 = .ok (.if_icmp .ge 291, 3) := by decide +kernel
theorem dL_isSo_55 : decode cL_isSo 55 = .ok (.iload 10, 2) := by decide +kernel
theorem dL_isSo_57 : decode cL_isSo 57 = .ok (.ifCond .eq 286, 3) := by decide +kernel
theorem dL_isSo_60 : decode cL_isSo 60 = .ok (.aload 6, 2) := by decide +kernel
theorem dL_isSo_62 : decode cL_isSo 62 = .ok (.iload 13, 2) := by decide +kernel
theorem dL_isSo_64 : decode cL_isSo 64 = .ok (.iaload, 1) := by decide +kernel
theorem dL_isSo_65 : decode cL_isSo 65 = .ok (.istore 14, 2) := by decide +kernel
theorem dL_isSo_67 : decode cL_isSo 67 = .ok (.iconst 0, 1) := by decide +kernel
theorem dL_isSo_68 : decode cL_isSo 68 = .ok (.istore 15, 2) := by decide +kernel
theorem dL_isSo_70 : decode cL_isSo 70 = .ok (.iload 15, 2) := by decide +kernel
theorem dL_isSo_72 : decode cL_isSo 72 = .ok (.aload_n 1, 1) := by decide +kernel
theorem dL_isSo_73 : decode cL_isSo 73 = .ok (.iconst 1, 1) := by decide +kernel
theorem dL_isSo_74 : decode cL_isSo 74 = .ok (.iaload, 1) := by decide +kernel
theorem dL_isSo_75 : decode cL_isSo 75 = .ok (.if_icmp .ge 106, 3) := by decide +kernel
theorem dL_isSo_78 : decode cL_isSo 78 = .ok (.iload 10, 2) := by decide +kernel
theorem dL_isSo_80 : decode cL_isSo 80 = .ok (.ifCond .eq 101, 3) := by decide +kernel
theorem dL_isSo_83 : decode cL_isSo 83 = .ok (.aload 5, 2) := by decide +kernel
theorem dL_isSo_85 : decode cL_isSo 85 = .ok (.iload 13, 2) := by decide +kernel
theorem dL_isSo_87 : decode cL_isSo 87 = .ok (.iaload, 1) := by decide +kernel
theorem dL_isSo_88 : decode cL_isSo 88 = .ok (.iload 15, 2) := by decide +kernel
theorem dL_isSo_90 : decode cL_isSo 90 = .ok (.invokestatic 45, 3) := by decide +kernel
theorem dL_isSo_93 : decode cL_isSo 93 = .ok (.ifCond .eq 44, 3) := by decide +kernel
theorem dL_isSo_96 : decode cL_isSo 96 = .ok (.iload 15, 2) := by decide +kernel
theorem dL_isSo_98 : decode cL_isSo 98 = .ok (.aload_n 3, 1) := by decide +kernel
theorem dL_isSo_99 : decode cL_isSo 99 = .ok (.iload 13, 2) := by decide +kernel
theorem dL_isSo_101 : decode cL_isSo 101 = .ok (.iaload, 1) := by decide +kernel
theorem dL_isSo_102 : decode cL_isSo 102 = .ok (.aload_n 2, 1) := by decide +kernel
theorem dL_isSo_103 : decode cL_isSo 103 = .ok (.invokestatic 51, 3) := by decide +kernel
theorem dL_isSo_106 : decode cL_isSo 106 = .ok (.ifCond .eq 31, 3) := by decide +kernel
theorem dL_isSo_109 : decode cL_isSo 109 = .ok (.aload 6, 2) := by decide +kernel
theorem dL_isSo_111 : decode cL_isSo 111 = .ok (.iload 13, 2) := by decide +kernel
theorem dL_isSo_113 : decode cL_isSo 113 = .ok (.iaload, 1) := by decide +kernel
theorem dL_isSo_114 : decode cL_isSo 114 = .ok (.aload_n 2, 1) := by decide +kernel
theorem dL_isSo_115 : decode cL_isSo 115 = .ok (.iload 15, 2) := by decide +kernel
theorem dL_isSo_117 : decode cL_isSo 117 = .ok (.iaload, 1) := by decide +kernel
theorem dL_isSo_118 : decode cL_isSo 118 = .ok (.iadd, 1) := by decide +kernel
theorem dL_isSo_119 : decode cL_isSo 119 = .ok (.iload 14, 2) := by decide +kernel
theorem dL_isSo_121 : decode cL_isSo 121 = .ok (.if_icmp .le 16, 3) := by decide +kernel
theorem dL_isSo_124 : decode cL_isSo 124 = .ok (.aload 6, 2) := by decide +kernel
theorem dL_isSo_126 : decode cL_isSo 126 = .ok (.iload 13, 2) := by decide +kernel
theorem dL_isSo_128 : decode cL_isSo 128 = .ok (.iaload, 1) := by decide +kernel
theorem dL_isSo_129 : decode cL_isSo 129 = .ok (.aload_n 2, 1) := by decide +kernel
theorem dL_isSo_130 : decode cL_isSo 130 = .ok (.iload 15, 2) := by decide +kernel
theorem dL_isSo_132 : decode cL_isSo 132 = .ok (.iaload, 1) := by decide +kernel
theorem dL_isSo_133 : decode cL_isSo 133 = .ok (.iadd, 1) := by decide +kernel
theorem dL_isSo_134 : decode cL_isSo 134 = .ok (.goto 5, 3) := by decide +kernel
theorem dL_isSo_137 : decode cL_isSo 137 = .ok (.iload 14, 2) := by decide +kernel
theorem dL_isSo_139 : decode cL_isSo 139 = .ok (.istore 14, 2) := by decide +kernel
theorem dL_isSo_141 : decode cL_isSo 141 = .ok (.aload_n 0, 1) := by decide +kernel
theorem dL_isSo_142 : decode cL_isSo 142 = .ok (.iload 13, 2) := by decide +kernel
theorem dL_isSo_144 : decode cL_isSo 144 = .ok (.iload 15, 2) := by decide +kernel
theorem dL_isSo_146 : decode cL_isSo 146 = .ok (.invokevirtual 83, 3) := by decide +kernel
theorem dL_isSo_149 : decode cL_isSo 149 = .ok (.iload 13, 2) := by decide +kernel
theorem dL_isSo_151 : decode cL_isSo 151 = .ok (.iload 15, 2) := by decide +kernel
theorem dL_isSo_153 : decode cL_isSo 153 = .ok (.aload_n 1, 1) := by decide +kernel
theorem dL_isSo_154 : decode cL_isSo 154 = .ok (.aload_n 2, 1) := by decide +kernel
theorem dL_isSo_155 : decode cL_isSo 155 = .ok (.aload_n 3, 1) := by decide +kernel
theorem dL_isSo_156 : decode cL_isSo 156 = .ok (.aload 5, 2) := by decide +kernel
theorem dL_isSo_158 : decode cL_isSo 158 = .ok (.aload 6, 2) := by decide +kernel
theorem dL_isSo_160 : decode cL_isSo 160 = .ok (.aload 7, 2) := by decide +kernel
theorem dL_isSo_162 : decode cL_isSo 162 = .ok (.invokestatic 86, 3) := by decide +kernel
theorem dL_isSo_165 : decode cL_isSo 165 = .ok (.if_icmp .ne 7, 3) := by decide +kernel
theorem dL_isSo_168 : decode cL_isSo 168 = .ok (.iconst 1, 1) := by decide +kernel
theorem dL_isSo_169 : decode cL_isSo 169 = .ok (.goto 4, 3) := by decide +kernel
theorem dL_isSo_172 : decode cL_isSo 172 = .ok (.iconst 0, 1) := by decide +kernel
theorem dL_isSo_173 : decode cL_isSo 173 = .ok (.istore 10, 2) := by decide +kernel
theorem dL_isSo_175 : decode cL_isSo 175 = .ok (.iinc 15 1, 3) := by decide +kernel
theorem dL_isSo_178 : decode cL_isSo 178 = .ok (.goto (-108), 3) := by decide +kernel
theorem dL_isSo_181 : decode cL_isSo 181 = .ok (.iload 11, 2) := by decide +kernel
theorem dL_isSo_183 : decode cL_isSo 183 = .ok (.aload 7, 2) := by decide +kernel
theorem dL_isSo_185 : decode cL_isSo 185 = .ok (.iload 13, 2) := by decide +kernel
theorem dL_isSo_187 : decode cL_isSo 187 = .ok (.iaload, 1) := by decide +kernel
theorem dL_isSo_188 : decode cL_isSo 188 = .ok (.ifCond .ne 32, 3) := by decide +kernel
theorem dL_isSo_191 : decode cL_isSo 191 = .ok (.aload 5, 2) := by decide +kernel
theorem dL_isSo_193 : decode cL_isSo 193 = .ok (.iload 13, 2) := by decide +kernel
theorem dL_isSo_195 : decode cL_isSo 195 = .ok (.iaload, 1) := by decide +kernel
theorem dL_isSo_196 : decode cL_isSo 196 = .ok (.aload_n 3, 1) := by decide +kernel
theorem dL_isSo_197 : decode cL_isSo 197 = .ok (.iload 13, 2) := by decide +kernel
theorem dL_isSo_199 : decode cL_isSo 199 = .ok (.iaload, 1) := by decide +kernel
theorem dL_isSo_200 : decode cL_isSo 200 = .ok (.aload 6, 2) := by decide +kernel
theorem dL_isSo_202 : decode cL_isSo 202 = .ok (.iload 13, 2) := by decide +kernel
theorem dL_isSo_204 : decode cL_isSo 204 = .ok (.iaload, 1) := by decide +kernel
theorem dL_isSo_205 : decode cL_isSo 205 = .ok (.aload_n 1, 1) := by decide +kernel
theorem dL_isSo_206 : decode cL_isSo 206 = .ok (.aload_n 2, 1) := by decide +kernel
theorem dL_isSo_207 : decode cL_isSo 207 = .ok (.invokestatic 55, 3) := by decide +kernel
theorem dL_isSo_210 : decode cL_isSo 210 = .ok (.ifCond .ne 10, 3) := by decide +kernel
theorem dL_isSo_213 : decode cL_isSo 213 = .ok (.iconst 1, 1) := by decide +kernel
theorem dL_isSo_214 : decode cL_isSo 214 = .ok (.iload 13, 2) := by decide +kernel
theorem dL_isSo_216 : decode cL_isSo 216 = .ok (.ishl, 1) := by decide +kernel
theorem dL_isSo_217 : decode cL_isSo 217 = .ok (.goto 4, 3) := by decide +kernel
theorem dL_isSo_220 : decode cL_isSo 220 = .ok (.iconst 0, 1) := by decide +kernel
theorem dL_isSo_221 : decode cL_isSo 221 = .ok (.ior, 1) := by decide +kernel
theorem dL_isSo_222 : decode cL_isSo 222 = .ok (.istore 11, 2) := by decide +kernel
theorem dL_isSo_224 : decode cL_isSo 224 = .ok (.aload 7, 2) := by decide +kernel
theorem dL_isSo_226 : decode cL_isSo 226 = .ok (.iload 13, 2) := by decide +kernel
theorem dL_isSo_228 : decode cL_isSo 228 = .ok (.iaload, 1) := by decide +kernel
theorem dL_isSo_229 : decode cL_isSo 229 = .ok (.ifCond .ne 20, 3) := by decide +kernel
theorem dL_isSo_232 : decode cL_isSo 232 = .ok (.iload 12, 2) := by decide +kernel
theorem dL_isSo_234 : decode cL_isSo 234 = .ok (.ifCond .lt 10, 3) := by decide +kernel
theorem dL_isSo_237 : decode cL_isSo 237 = .ok (.iload 14, 2) := by decide +kernel
theorem dL_isSo_239 : decode cL_isSo 239 = .ok (.iload 12, 2) := by decide +kernel
theorem dL_isSo_241 : decode cL_isSo 241 = .ok (.if_icmp .ge 8, 3) := by decide +kernel
theorem dL_isSo_244 : decode cL_isSo 244 = .ok (.iload 14, 2) := by decide +kernel
theorem dL_isSo_246 : decode cL_isSo 246 = .ok (.goto 5, 3) := by decide +kernel
theorem dL_isSo_249 : decode cL_isSo 249 = .ok (.iload 12, 2) := by decide +kernel
theorem dL_isSo_251 : decode cL_isSo 251 = .ok (.istore 12, 2) := by decide +kernel
theorem dL_isSo_253 : decode cL_isSo 253 = .ok (.iload 10, 2) := by decide +kernel
theorem dL_isSo_255 : decode cL_isSo 255 = .ok (.ifCond .eq 79, 3) := by decide +kernel
theorem dL_isSo_258 : decode cL_isSo 258 = .ok (.aload_n 0, 1) := by decide +kernel
theorem dL_isSo_259 : decode cL_isSo 259 = .ok (.iload 13, 2) := by decide +kernel
theorem dL_isSo_261 : decode cL_isSo 261 = .ok (.invokevirtual 35, 3) := by decide +kernel
theorem dL_isSo_264 : decode cL_isSo 264 = .ok (.aload 7, 2) := by decide +kernel
theorem dL_isSo_266 : decode cL_isSo 266 = .ok (.iload 13, 2) := by decide +kernel
theorem dL_isSo_268 : decode cL_isSo 268 = .ok (.iaload, 1) := by decide +kernel
theorem dL_isSo_269 : decode cL_isSo 269 = .ok (.if_icmp .ne 65, 3) := by decide +kernel
theorem dL_isSo_272 : decode cL_isSo 272 = .ok (.aload_n 0, 1) := by decide +kernel
theorem dL_isSo_273 : decode cL_isSo 273 = .ok (.iload 13, 2) := by decide +kernel
theorem dL_isSo_275 : decode cL_isSo 275 = .ok (.invokevirtual 90, 3) := by decide +kernel
theorem dL_isSo_278 : decode cL_isSo 278 = .ok (.aload_n 3, 1) := by decide +kernel
theorem dL_isSo_279 : decode cL_isSo 279 = .ok (.iload 13, 2) := by decide +kernel
theorem dL_isSo_281 : decode cL_isSo 281 = .ok (.iaload, 1) := by decide +kernel
theorem dL_isSo_282 : decode cL_isSo 282 = .ok (.if_icmp .ne 52, 3) := by decide +kernel
theorem dL_isSo_285 : decode cL_isSo 285 = .ok (.aload_n 0, 1) := by decide +kernel
theorem dL_isSo_286 : decode cL_isSo 286 = .ok (.iload 13, 2) := by decide +kernel
theorem dL_isSo_288 : decode cL_isSo 288 = .ok (.invokevirtual 93, 3) := by decide +kernel
theorem dL_isSo_291 : decode cL_isSo 291 = .ok (.aload 4, 2) := by decide +kernel
theorem dL_isSo_293 : decode cL_isSo 293 = .ok (.iload 13, 2) := by decide +kernel
theorem dL_isSo_295 : decode cL_isSo 295 = .ok (.iaload, 1) := by decide +kernel
theorem dL_isSo_296 : decode cL_isSo 296 = .ok (.if_icmp .ne 38, 3) := by decide +kernel
theorem dL_isSo_299 : decode cL_isSo 299 = .ok (.aload_n 0, 1) := by decide +kernel
theorem dL_isSo_300 : decode cL_isSo 300 = .ok (.iload 13, 2) := by decide +kernel
theorem dL_isSo_302 : decode cL_isSo 302 = .ok (.invokevirtual 96, 3) := by decide +kernel
theorem dL_isSo_305 : decode cL_isSo 305 = .ok (.iload 14, 2) := by decide +kernel
theorem dL_isSo_307 : decode cL_isSo 307 = .ok (.if_icmp .ne 27, 3) := by decide +kernel
theorem dL_isSo_310 : decode cL_isSo 310 = .ok (.aload_n 0, 1) := by decide +kernel
theorem dL_isSo_311 : decode cL_isSo 311 = .ok (.iload 13, 2) := by decide +kernel
theorem dL_isSo_313 : decode cL_isSo 313 = .ok (.invokevirtual 99, 3) := by decide +kernel
theorem dL_isSo_316 : decode cL_isSo 316 = .ok (.iload 13, 2) := by decide +kernel
theorem dL_isSo_318 : decode cL_isSo 318 = .ok (.aload_n 1, 1) := by decide +kernel
theorem dL_isSo_319 : decode cL_isSo 319 = .ok (.aload_n 2, 1) := by decide +kernel
theorem dL_isSo_320 : decode cL_isSo 320 = .ok (.aload 4, 2) := by decide +kernel
theorem dL_isSo_322 : decode cL_isSo 322 = .ok (.aload 7, 2) := by decide +kernel
theorem dL_isSo_324 : decode cL_isSo 324 = .ok (.invokestatic 67, 3) := by decide +kernel
theorem dL_isSo_327 : decode cL_isSo 327 = .ok (.if_icmp .ne 7, 3) := by decide +kernel
theorem dL_isSo_330 : decode cL_isSo 330 = .ok (.iconst 1, 1) := by decide +kernel
theorem dL_isSo_331 : decode cL_isSo 331 = .ok (.goto 4, 3) := by decide +kernel
theorem dL_isSo_334 : decode cL_isSo 334 = .ok (.iconst 0, 1) := by decide +kernel
theorem dL_isSo_335 : decode cL_isSo 335 = .ok (.istore 10, 2) := by decide +kernel
theorem dL_isSo_337 : decode cL_isSo 337 = .ok (.iinc 13 1, 3) := by decide +kernel
theorem dL_isSo_340 : decode cL_isSo 340 = .ok (.goto (-293), 3) := by decide +kernel
theorem dL_isSo_343 : decode cL_isSo 343 = .ok (.iconst 0, 1) := by decide +kernel
theorem dL_isSo_344 : decode cL_isSo 344 = .ok (.istore 13, 2) := by decide +kernel
theorem dL_isSo_346 : decode cL_isSo 346 = .ok (.iload 13, 2) := by decide +kernel
theorem dL_isSo_348 : decode cL_isSo 348 = .ok (.bipush 6, 2) := by decide +kernel
theorem dL_isSo_350 : decode cL_isSo 350 = .ok (.if_icmp .ge 235, 3) := by decide +kernel
theorem dL_isSo_353 : decode cL_isSo 353 = .ok (.iload 10, 2) := by decide +kernel
theorem dL_isSo_355 : decode cL_isSo 355 = .ok (.ifCond .eq 230, 3) := by decide +kernel
theorem dL_isSo_358 : decode cL_isSo 358 = .ok (.iconst 0, 1) := by decide +kernel
theorem dL_isSo_359 : decode cL_isSo 359 = .ok (.istore 14, 2) := by decide +kernel
theorem dL_isSo_361 : decode cL_isSo 361 = .ok (.iconst 0, 1) := by decide +kernel
theorem dL_isSo_362 : decode cL_isSo 362 = .ok (.istore 15, 2) := by decide +kernel
theorem dL_isSo_364 : decode cL_isSo 364 = .ok (.iload 15, 2) := by decide +kernel
theorem dL_isSo_366 : decode cL_isSo 366 = .ok (.aload_n 1, 1) := by decide +kernel
theorem dL_isSo_367 : decode cL_isSo 367 = .ok (.iconst 2, 1) := by decide +kernel
theorem dL_isSo_368 : decode cL_isSo 368 = .ok (.iaload, 1) := by decide +kernel
theorem dL_isSo_369 : decode cL_isSo 369 = .ok (.if_icmp .ge 43, 3) := by decide +kernel
theorem dL_isSo_372 : decode cL_isSo 372 = .ok (.iload 14, 2) := by decide +kernel
theorem dL_isSo_374 : decode cL_isSo 374 = .ok (.aload_n 3, 1) := by decide +kernel
theorem dL_isSo_375 : decode cL_isSo 375 = .ok (.iload 15, 2) := by decide +kernel
theorem dL_isSo_377 : decode cL_isSo 377 = .ok (.iaload, 1) := by decide +kernel
theorem dL_isSo_378 : decode cL_isSo 378 = .ok (.iload 13, 2) := by decide +kernel
theorem dL_isSo_380 : decode cL_isSo 380 = .ok (.invokestatic 45, 3) := by decide +kernel
theorem dL_isSo_383 : decode cL_isSo 383 = .ok (.ifCond .eq 19, 3) := by decide +kernel
theorem dL_isSo_386 : decode cL_isSo 386 = .ok (.aload 7, 2) := by decide +kernel
theorem dL_isSo_388 : decode cL_isSo 388 = .ok (.iload 15, 2) := by decide +kernel
theorem dL_isSo_390 : decode cL_isSo 390 = .ok (.iaload, 1) := by decide +kernel
theorem dL_isSo_391 : decode cL_isSo 391 = .ok (.iconst 2, 1) := by decide +kernel
theorem dL_isSo_392 : decode cL_isSo 392 = .ok (.if_icmp .ge 10, 3) := by decide +kernel
theorem dL_isSo_395 : decode cL_isSo 395 = .ok (.iconst 1, 1) := by decide +kernel
theorem dL_isSo_396 : decode cL_isSo 396 = .ok (.iload 15, 2) := by decide +kernel
theorem dL_isSo_398 : decode cL_isSo 398 = .ok (.ishl, 1) := by decide +kernel
theorem dL_isSo_399 : decode cL_isSo 399 = .ok (.goto 4, 3) := by decide +kernel
theorem dL_isSo_402 : decode cL_isSo 402 = .ok (.iconst 0, 1) := by decide +kernel
theorem dL_isSo_403 : decode cL_isSo 403 = .ok (.ior, 1) := by decide +kernel
theorem dL_isSo_404 : decode cL_isSo 404 = .ok (.istore 14, 2) := by decide +kernel
theorem dL_isSo_406 : decode cL_isSo 406 = .ok (.iinc 15 1, 3) := by decide +kernel
theorem dL_isSo_409 : decode cL_isSo 409 = .ok (.goto (-45), 3) := by decide +kernel
theorem dL_isSo_412 : decode cL_isSo 412 = .ok (.aload_n 0, 1) := by decide +kernel
theorem dL_isSo_413 : decode cL_isSo 413 = .ok (.iload 13, 2) := by decide +kernel
theorem dL_isSo_415 : decode cL_isSo 415 = .ok (.invokevirtual 102, 3) := by decide +kernel
theorem dL_isSo_418 : decode cL_isSo 418 = .ok (.aload_n 2, 1) := by decide +kernel
theorem dL_isSo_419 : decode cL_isSo 419 = .ok (.bipush 16, 2) := by decide +kernel
theorem dL_isSo_421 : decode cL_isSo 421 = .ok (.iload 13, 2) := by decide +kernel
theorem dL_isSo_423 : decode cL_isSo 423 = .ok (.iadd, 1) := by decide +kernel
theorem dL_isSo_424 : decode cL_isSo 424 = .ok (.iaload, 1) := by decide +kernel
theorem dL_isSo_425 : decode cL_isSo 425 = .ok (.if_icmp .ne 29, 3) := by decide +kernel
theorem dL_isSo_428 : decode cL_isSo 428 = .ok (.aload_n 0, 1) := by decide +kernel
theorem dL_isSo_429 : decode cL_isSo 429 = .ok (.iload 13, 2) := by decide +kernel
theorem dL_isSo_431 : decode cL_isSo 431 = .ok (.invokevirtual 105, 3) := by decide +kernel
theorem dL_isSo_434 : decode cL_isSo 434 = .ok (.iload 14, 2) := by decide +kernel
theorem dL_isSo_436 : decode cL_isSo 436 = .ok (.if_icmp .ne 18, 3) := by decide +kernel
theorem dL_isSo_439 : decode cL_isSo 439 = .ok (.aload_n 0, 1) := by decide +kernel
theorem dL_isSo_440 : decode cL_isSo 440 = .ok (.iload 13, 2) := by decide +kernel
theorem dL_isSo_442 : decode cL_isSo 442 = .ok (.invokevirtual 108, 3) := by decide +kernel
theorem dL_isSo_445 : decode cL_isSo 445 = .ok (.iload 14, 2) := by decide +kernel
theorem dL_isSo_447 : decode cL_isSo 447 = .ok (.if_icmp .ne 7, 3) := by decide +kernel
theorem dL_isSo_450 : decode cL_isSo 450 = .ok (.iconst 1, 1) := by decide +kernel
theorem dL_isSo_451 : decode cL_isSo 451 = .ok (.goto 4, 3) := by decide +kernel
theorem dL_isSo_454 : decode cL_isSo 454 = .ok (.iconst 0, 1) := by decide +kernel
theorem dL_isSo_455 : decode cL_isSo 455 = .ok (.istore 10, 2) := by decide +kernel
theorem dL_isSo_457 : decode cL_isSo 457 = .ok (.iconst 0, 1) := by decide +kernel
theorem dL_isSo_458 : decode cL_isSo 458 = .ok (.istore 15, 2) := by decide +kernel
theorem dL_isSo_460 : decode cL_isSo 460 = .ok (.iload 15, 2) := by decide +kernel
theorem dL_isSo_462 : decode cL_isSo 462 = .ok (.aload_n 1, 1) := by decide +kernel
theorem dL_isSo_463 : decode cL_isSo 463 = .ok (.iconst 1, 1) := by decide +kernel
theorem dL_isSo_464 : decode cL_isSo 464 = .ok (.iaload, 1) := by decide +kernel
theorem dL_isSo_465 : decode cL_isSo 465 = .ok (.if_icmp .ge 114, 3) := by decide +kernel
theorem dL_isSo_468 : decode cL_isSo 468 = .ok (.iload 10, 2) := by decide +kernel
theorem dL_isSo_470 : decode cL_isSo 470 = .ok (.ifCond .eq 109, 3) := by decide +kernel
theorem dL_isSo_473 : decode cL_isSo 473 = .ok (.lconst 0, 1) := by decide +kernel
theorem dL_isSo_474 : decode cL_isSo 474 = .ok (.lstore 16, 2) := by decide +kernel
theorem dL_isSo_476 : decode cL_isSo 476 = .ok (.iconst 0, 1) := by decide +kernel
theorem dL_isSo_477 : decode cL_isSo 477 = .ok (.istore 18, 2) := by decide +kernel
theorem dL_isSo_479 : decode cL_isSo 479 = .ok (.iload 18, 2) := by decide +kernel
theorem dL_isSo_481 : decode cL_isSo 481 = .ok (.aload_n 1, 1) := by decide +kernel
theorem dL_isSo_482 : decode cL_isSo 482 = .ok (.iconst 2, 1) := by decide +kernel
theorem dL_isSo_483 : decode cL_isSo 483 = .ok (.iaload, 1) := by decide +kernel
theorem dL_isSo_484 : decode cL_isSo 484 = .ok (.if_icmp .ge 45, 3) := by decide +kernel
theorem dL_isSo_487 : decode cL_isSo 487 = .ok (.lload 16, 2) := by decide +kernel
theorem dL_isSo_489 : decode cL_isSo 489 = .ok (.aload_n 3, 1) := by decide +kernel
theorem dL_isSo_490 : decode cL_isSo 490 = .ok (.iload 18, 2) := by decide +kernel
theorem dL_isSo_492 : decode cL_isSo 492 = .ok (.iaload, 1) := by decide +kernel
theorem dL_isSo_493 : decode cL_isSo 493 = .ok (.iload 13, 2) := by decide +kernel
theorem dL_isSo_495 : decode cL_isSo 495 = .ok (.invokestatic 45, 3) := by decide +kernel
theorem dL_isSo_498 : decode cL_isSo 498 = .ok (.ifCond .eq 21, 3) := by decide +kernel
theorem dL_isSo_501 : decode cL_isSo 501 = .ok (.aload 8, 2) := by decide +kernel
theorem dL_isSo_503 : decode cL_isSo 503 = .ok (.iload 18, 2) := by decide +kernel
theorem dL_isSo_505 : decode cL_isSo 505 = .ok (.laload, 1) := by decide +kernel
theorem dL_isSo_506 : decode cL_isSo 506 = .ok (.bipush 7, 2) := by decide +kernel
theorem dL_isSo_508 : decode cL_isSo 508 = .ok (.iload 15, 2) := by decide +kernel
theorem dL_isSo_510 : decode cL_isSo 510 = .ok (.imul, 1) := by decide +kernel
theorem dL_isSo_511 : decode cL_isSo 511 = .ok (.lshr, 1) := by decide +kernel
theorem dL_isSo_512 : decode cL_isSo 512 = .ok (.ldc2_w 111, 3) := by decide +kernel
theorem dL_isSo_515 : decode cL_isSo 515 = .ok (.land, 1) := by decide +kernel
theorem dL_isSo_516 : decode cL_isSo 516 = .ok (.goto 4, 3) := by decide +kernel
theorem dL_isSo_519 : decode cL_isSo 519 = .ok (.lconst 0, 1) := by decide +kernel
theorem dL_isSo_520 : decode cL_isSo 520 = .ok (.ladd, 1) := by decide +kernel
theorem dL_isSo_521 : decode cL_isSo 521 = .ok (.lstore 16, 2) := by decide +kernel
theorem dL_isSo_523 : decode cL_isSo 523 = .ok (.iinc 18 1, 3) := by decide +kernel
