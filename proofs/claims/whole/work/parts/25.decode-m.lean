theorem dX5_next_220 : decode cX5_next 220 = .ok (.iadd, 1) := by decide +kernel
theorem dX5_next_221 : decode cX5_next 221 = .ok (.putfield 64, 3) := by decide +kernel
theorem dX5_next_224 : decode cX5_next 224 = .ok (.goto (-60), 3) := by decide +kernel
theorem dX5_next_227 : decode cX5_next 227 = .ok (.aload_n 0, 1) := by decide +kernel
theorem dX5_next_228 : decode cX5_next 228 = .ok (.aload_n 0, 1) := by decide +kernel
theorem dX5_next_229 : decode cX5_next 229 = .ok (.getfield 74, 3) := by decide +kernel
theorem dX5_next_232 : decode cX5_next 232 = .ok (.sipush 999, 3) := by decide +kernel
theorem dX5_next_235 : decode cX5_next 235 = .ok (.if_icmp .gt 22, 3) := by decide +kernel
theorem dX5_next_238 : decode cX5_next 238 = .ok (.iload_n 1, 1) := by decide +kernel
theorem dX5_next_239 : decode cX5_next 239 = .ok (.bipush 48, 2) := by decide +kernel
theorem dX5_next_241 : decode cX5_next 241 = .ok (.if_icmp .ne 21, 3) := by decide +kernel
theorem dX5_next_244 : decode cX5_next 244 = .ok (.aload_n 0, 1) := by decide +kernel
theorem dX5_next_245 : decode cX5_next 245 = .ok (.getfield 64, 3) := by decide +kernel
theorem dX5_next_248 : decode cX5_next 248 = .ok (.aload_n 0, 1) := by decide +kernel
theorem dX5_next_249 : decode cX5_next 249 = .ok (.getfield 71, 3) := by decide +kernel
theorem dX5_next_252 : decode cX5_next 252 = .ok (.isub, 1) := by decide +kernel
theorem dX5_next_253 : decode cX5_next 253 = .ok (.iconst 1, 1) := by decide +kernel
theorem dX5_next_254 : decode cX5_next 254 = .ok (.if_icmp .le 8, 3) := by decide +kernel
theorem dX5_next_257 : decode cX5_next 257 = .ok (.bipush 11, 2) := by decide +kernel
theorem dX5_next_259 : decode cX5_next 259 = .ok (.goto 5, 3) := by decide +kernel
theorem dX5_next_262 : decode cX5_next 262 = .ok (.bipush 9, 2) := by decide +kernel
theorem dX5_next_264 : decode cX5_next 264 = .ok (.putfield 77, 3) := by decide +kernel
theorem dX5_next_267 : decode cX5_next 267 = .ok (.goto 30, 3) := by decide +kernel
theorem dX5_next_270 : decode cX5_next 270 = .ok (.aload_n 0, 1) := by decide +kernel
theorem dX5_next_271 : decode cX5_next 271 = .ok (.dup, 1) := by decide +kernel
theorem dX5_next_272 : decode cX5_next 272 = .ok (.getfield 64, 3) := by decide +kernel
theorem dX5_next_275 : decode cX5_next 275 = .ok (.iconst 1, 1) := by decide +kernel
theorem dX5_next_276 : decode cX5_next 276 = .ok (.iadd, 1) := by decide +kernel
theorem dX5_next_277 : decode cX5_next 277 = .ok (.putfield 64, 3) := by decide +kernel
theorem dX5_next_280 : decode cX5_next 280 = .ok (.aload_n 0, 1) := by decide +kernel
theorem dX5_next_281 : decode cX5_next 281 = .ok (.iload_n 1, 1) := by decide +kernel
theorem dX5_next_282 : decode cX5_next 282 = .ok (.bipush 59, 2) := by decide +kernel
theorem dX5_next_284 : decode cX5_next 284 = .ok (.if_icmp .ne 8, 3) := by decide +kernel
theorem dX5_next_287 : decode cX5_next 287 = .ok (.bipush 10, 2) := by decide +kernel
theorem dX5_next_289 : decode cX5_next 289 = .ok (.goto 5, 3) := by decide +kernel
theorem dX5_next_292 : decode cX5_next 292 = .ok (.bipush 11, 2) := by decide +kernel
theorem dX5_next_294 : decode cX5_next 294 = .ok (.putfield 77, 3) := by decide +kernel
theorem dX5_next_297 : decode cX5_next 297 = .ok (.return_, 1) := by decide +kernel
set_option maxRecDepth 20000 in
theorem ggX5_due_X5_next : GoodIn wsX5_due wsX5_next := goodIn_r _ [8, 9, 3, 1, 10, 11, 12, 13, 7, 14, 15, 16, 17, 18, 19, 20, 21, 22, 23, 24, 25, 26, 27, 28, 29, 30, 31, 32, 33, 34, 35, 36, 37, 38, 39, 40, 41, 42, 43, 44, 45] (by decide +kernel) (by decide +kernel)
set_option maxRecDepth 20000 in
theorem gX5_due_X5_next : GoodIn wsX5_due (wsV RX5 87 RX5 yX5_next wsX5_next) := goodIn_app (goodIn_of _ (by decide +kernel)) ggX5_due_X5_next
theorem dX5_due_0 : decode cX5_due 0 = .ok (.aload_n 0, 1) := by decide +kernel
theorem dX5_due_1 : decode cX5_due 1 = .ok (.getfield 74, 3) := by decide +kernel
theorem dX5_due_4 : decode cX5_due 4 = .ok (.istore_n 2, 1) := by decide +kernel
theorem dX5_due_5 : decode cX5_due 5 = .ok (.aload_n 0, 1) := by decide +kernel
theorem dX5_due_6 : decode cX5_due 6 = .ok (.getfield 84, 3) := by decide +kernel
theorem dX5_due_9 : decode cX5_due 9 = .ok (.bipush (-9), 2) := by decide +kernel
theorem dX5_due_11 : decode cX5_due 11 = .ok (.if_icmp .ne 22, 3) := by decide +kernel
theorem dX5_due_14 : decode cX5_due 14 = .ok (.iload_n 1, 1) := by decide +kernel
theorem dX5_due_15 : decode cX5_due 15 = .ok (.ifCond .eq 10, 3) := by decide +kernel
theorem dX5_due_18 : decode cX5_due 18 = .ok (.aload_n 0, 1) := by decide +kernel
theorem dX5_due_19 : decode cX5_due 19 = .ok (.invokevirtual 87, 3) := by decide +kernel
theorem dX5_due_22 : decode cX5_due 22 = .ok (.goto 11, 3) := by decide +kernel
theorem dX5_due_25 : decode cX5_due 25 = .ok (.aload_n 0, 1) := by decide +kernel
theorem dX5_due_26 : decode cX5_due 26 = .ok (.aload_n 0, 1) := by decide +kernel
theorem dX5_due_27 : decode cX5_due 27 = .ok (.getfield 71, 3) := by decide +kernel
theorem dX5_due_30 : decode cX5_due 30 = .ok (.putfield 84, 3) := by decide +kernel
theorem dX5_due_33 : decode cX5_due 33 = .ok (.iload_n 2, 1) := by decide +kernel
theorem dX5_due_34 : decode cX5_due 34 = .ok (.ireturn, 1) := by decide +kernel
set_option maxRecDepth 20000 in
theorem ggX5_number_X5_in : GoodIn wsX5_number wsX5_in := goodIn_r _ [6] (by decide +kernel) (by decide +kernel)
set_option maxRecDepth 20000 in
theorem gX5_number_X5_in : GoodIn wsX5_number (va_wsS RX5 54 yX5_in wsX5_in) := goodIn_app (goodIn_of _ (by decide +kernel)) ggX5_number_X5_in
set_option maxRecDepth 20000 in
theorem ggX5_number_X5_due : GoodIn wsX5_number wsX5_due := goodIn_r _ [10, 2, 11, 12, 13, 14, 15, 5, 16, 17, 1, 18, 19, 20, 21, 22, 23, 3, 4, 6, 24, 25, 26, 27, 28, 29, 30, 31, 32, 33, 34, 35, 36, 37, 38, 39, 40, 41, 42, 43, 44, 45, 46, 47, 48, 49] (by decide +kernel) (by decide +kernel)
set_option maxRecDepth 20000 in
theorem gX5_number_X5_due : GoodIn wsX5_number (wsV RX5 90 RX5 yX5_due wsX5_due) := goodIn_app (goodIn_of _ (by decide +kernel)) ggX5_number_X5_due
theorem dX5_number_0 : decode cX5_number 0 = .ok (.aload_n 0, 1) := by decide +kernel
theorem dX5_number_1 : decode cX5_number 1 = .ok (.aload_n 0, 1) := by decide +kernel
theorem dX5_number_2 : decode cX5_number 2 = .ok (.getfield 77, 3) := by decide +kernel
theorem dX5_number_5 : decode cX5_number 5 = .ok (.bipush 9, 2) := by decide +kernel
theorem dX5_number_7 : decode cX5_number 7 = .ok (.if_icmp .ne 19, 3) := by decide +kernel
theorem dX5_number_10 : decode cX5_number 10 = .ok (.aload_n 0, 1) := by decide +kernel
theorem dX5_number_11 : decode cX5_number 11 = .ok (.getfield 74, 3) := by decide +kernel
theorem dX5_number_14 : decode cX5_number 14 = .ok (.iload_n 1, 1) := by decide +kernel
theorem dX5_number_15 : decode cX5_number 15 = .ok (.iload_n 2, 1) := by decide +kernel
theorem dX5_number_16 : decode cX5_number 16 = .ok (.invokestatic 54, 3) := by decide +kernel
theorem dX5_number_19 : decode cX5_number 19 = .ok (.ifCond .eq 7, 3) := by decide +kernel
theorem dX5_number_22 : decode cX5_number 22 = .ok (.iconst 1, 1) := by decide +kernel
theorem dX5_number_23 : decode cX5_number 23 = .ok (.goto 4, 3) := by decide +kernel
theorem dX5_number_26 : decode cX5_number 26 = .ok (.iconst 0, 1) := by decide +kernel
theorem dX5_number_27 : decode cX5_number 27 = .ok (.invokevirtual 90, 3) := by decide +kernel
theorem dX5_number_30 : decode cX5_number 30 = .ok (.ireturn, 1) := by decide +kernel
theorem dX5_may_0 : decode cX5_may 0 = .ok (.iload_n 1, 1) := by decide +kernel
theorem dX5_may_1 : decode cX5_may 1 = .ok (.tableswitch 137 0 5 #[39, 52, 69, 69, 104, 120], 39) := by decide +kernel
theorem dX5_may_40 : decode cX5_may 40 = .ok (.aload_n 0, 1) := by decide +kernel
theorem dX5_may_41 : decode cX5_may 41 = .ok (.getfield 94, 3) := by decide +kernel
theorem dX5_may_44 : decode cX5_may 44 = .ok (.ifCond .ne 7, 3) := by decide +kernel
theorem dX5_may_47 : decode cX5_may 47 = .ok (.iconst 1, 1) := by decide +kernel
theorem dX5_may_48 : decode cX5_may 48 = .ok (.goto 4, 3) := by decide +kernel
theorem dX5_may_51 : decode cX5_may 51 = .ok (.iconst 0, 1) := by decide +kernel
theorem dX5_may_52 : decode cX5_may 52 = .ok (.ireturn, 1) := by decide +kernel
theorem dX5_may_53 : decode cX5_may 53 = .ok (.aload_n 0, 1) := by decide +kernel
theorem dX5_may_54 : decode cX5_may 54 = .ok (.getfield 17, 3) := by decide +kernel
theorem dX5_may_57 : decode cX5_may 57 = .ok (.iconst 1, 1) := by decide +kernel
theorem dX5_may_58 : decode cX5_may 58 = .ok (.iaload, 1) := by decide +kernel
theorem dX5_may_59 : decode cX5_may 59 = .ok (.bipush 6, 2) := by decide +kernel
theorem dX5_may_61 : decode cX5_may 61 = .ok (.if_icmp .ge 7, 3) := by decide +kernel
theorem dX5_may_64 : decode cX5_may 64 = .ok (.iconst 1, 1) := by decide +kernel
theorem dX5_may_65 : decode cX5_may 65 = .ok (.goto 4, 3) := by decide +kernel
theorem dX5_may_68 : decode cX5_may 68 = .ok (.iconst 0, 1) := by decide +kernel
theorem dX5_may_69 : decode cX5_may 69 = .ok (.ireturn, 1) := by decide +kernel
theorem dX5_may_70 : decode cX5_may 70 = .ok (.aload_n 0, 1) := by decide +kernel
theorem dX5_may_71 : decode cX5_may 71 = .ok (.getfield 17, 3) := by decide +kernel
theorem dX5_may_74 : decode cX5_may 74 = .ok (.iconst 1, 1) := by decide +kernel
theorem dX5_may_75 : decode cX5_may 75 = .ok (.iaload, 1) := by decide +kernel
theorem dX5_may_76 : decode cX5_may 76 = .ok (.ifCond .le 27, 3) := by decide +kernel
theorem dX5_may_79 : decode cX5_may 79 = .ok (.aload_n 0, 1) := by decide +kernel
theorem dX5_may_80 : decode cX5_may 80 = .ok (.getfield 20, 3) := by decide +kernel
theorem dX5_may_83 : decode cX5_may 83 = .ok (.bipush 6, 2) := by decide +kernel
theorem dX5_may_85 : decode cX5_may 85 = .ok (.aload_n 0, 1) := by decide +kernel
theorem dX5_may_86 : decode cX5_may 86 = .ok (.getfield 17, 3) := by decide +kernel
theorem dX5_may_89 : decode cX5_may 89 = .ok (.iconst 1, 1) := by decide +kernel
theorem dX5_may_90 : decode cX5_may 90 = .ok (.iaload, 1) := by decide +kernel
theorem dX5_may_91 : decode cX5_may 91 = .ok (.iadd, 1) := by decide +kernel
theorem dX5_may_92 : decode cX5_may 92 = .ok (.iconst 1, 1) := by decide +kernel
theorem dX5_may_93 : decode cX5_may 93 = .ok (.isub, 1) := by decide +kernel
theorem dX5_may_94 : decode cX5_may 94 = .ok (.iaload, 1) := by decide +kernel
theorem dX5_may_95 : decode cX5_may 95 = .ok (.iconst 4, 1) := by decide +kernel
theorem dX5_may_96 : decode cX5_may 96 = .ok (.if_icmp .ge 7, 3) := by decide +kernel
theorem dX5_may_99 : decode cX5_may 99 = .ok (.iconst 1, 1) := by decide +kernel
theorem dX5_may_100 : decode cX5_may 100 = .ok (.goto 4, 3) := by decide +kernel
theorem dX5_may_103 : decode cX5_may 103 = .ok (.iconst 0, 1) := by decide +kernel
theorem dX5_may_104 : decode cX5_may 104 = .ok (.ireturn, 1) := by decide +kernel
theorem dX5_may_105 : decode cX5_may 105 = .ok (.aload_n 0, 1) := by decide +kernel
theorem dX5_may_106 : decode cX5_may 106 = .ok (.getfield 26, 3) := by decide +kernel
theorem dX5_may_109 : decode cX5_may 109 = .ok (.iconst 1, 1) := by decide +kernel
theorem dX5_may_110 : decode cX5_may 110 = .ok (.iaload, 1) := by decide +kernel
theorem dX5_may_111 : decode cX5_may 111 = .ok (.iconst 4, 1) := by decide +kernel
theorem dX5_may_112 : decode cX5_may 112 = .ok (.if_icmp .ge 7, 3) := by decide +kernel
theorem dX5_may_115 : decode cX5_may 115 = .ok (.iconst 1, 1) := by decide +kernel
theorem dX5_may_116 : decode cX5_may 116 = .ok (.goto 4, 3) := by decide +kernel
theorem dX5_may_119 : decode cX5_may 119 = .ok (.iconst 0, 1) := by decide +kernel
theorem dX5_may_120 : decode cX5_may 120 = .ok (.ireturn, 1) := by decide +kernel
theorem dX5_may_121 : decode cX5_may 121 = .ok (.aload_n 0, 1) := by decide +kernel
theorem dX5_may_122 : decode cX5_may 122 = .ok (.getfield 32, 3) := by decide +kernel
theorem dX5_may_125 : decode cX5_may 125 = .ok (.iconst 1, 1) := by decide +kernel
theorem dX5_may_126 : decode cX5_may 126 = .ok (.iaload, 1) := by decide +kernel
theorem dX5_may_127 : decode cX5_may 127 = .ok (.bipush 6, 2) := by decide +kernel
theorem dX5_may_129 : decode cX5_may 129 = .ok (.if_icmp .ge 7, 3) := by decide +kernel
theorem dX5_may_132 : decode cX5_may 132 = .ok (.iconst 1, 1) := by decide +kernel
theorem dX5_may_133 : decode cX5_may 133 = .ok (.goto 4, 3) := by decide +kernel
theorem dX5_may_136 : decode cX5_may 136 = .ok (.iconst 0, 1) := by decide +kernel
theorem dX5_may_137 : decode cX5_may 137 = .ok (.ireturn, 1) := by decide +kernel
theorem dX5_may_138 : decode cX5_may 138 = .ok (.iconst 0, 1) := by decide +kernel
theorem dX5_may_139 : decode cX5_may 139 = .ok (.ireturn, 1) := by decide +kernel
set_option maxRecDepth 20000 in
theorem ggX5_item_X5_may : GoodIn wsX5_item wsX5_may := goodIn_r _ [16, 3, 5, 4, 7, 9, 44, 45, 46, 47, 48, 49, 50, 51, 52, 53, 54, 55, 56, 57, 58, 59, 60, 61, 62, 63, 64, 65, 66] (by decide +kernel) (by decide +kernel)
set_option maxRecDepth 20000 in
theorem gX5_item_X5_may : GoodIn wsX5_item (wsV RX5 98 RX5 yX5_may wsX5_may) := goodIn_app (goodIn_of _ (by decide +kernel)) ggX5_item_X5_may
set_option maxRecDepth 20000 in
theorem ggX5_item_X5_due : GoodIn wsX5_item wsX5_due := goodIn_r _ [20, 21, 1, 22, 23, 24, 25, 15, 26, 27, 11, 28, 29, 30, 31, 32, 33, 34, 35, 36, 37, 38, 39, 44, 45, 46, 47, 48, 49, 50, 51, 52, 53, 54, 55, 56, 57, 58, 59, 60, 61, 62, 63, 64, 65, 66] (by decide +kernel) (by decide +kernel)
set_option maxRecDepth 20000 in
theorem gX5_item_X5_due : GoodIn wsX5_item (wsV RX5 90 RX5 yX5_due wsX5_due) := goodIn_app (goodIn_of _ (by decide +kernel)) ggX5_item_X5_due
set_option maxRecDepth 20000 in
theorem ggX5_item_X5_number : GoodIn wsX5_item wsX5_number := goodIn_r _ [43, 11, 21, 34, 35, 15, 36, 17, 18, 19, 20, 1, 22, 23, 24, 25, 26, 27, 28, 29, 30, 31, 32, 33, 37, 38, 39, 44, 45, 46, 47, 48, 49, 50, 51, 52, 53, 54, 55, 56, 57, 58, 59, 60, 61, 62, 63, 64, 65, 66] (by decide +kernel) (by decide +kernel)
set_option maxRecDepth 20000 in
theorem gX5_item_X5_number : GoodIn wsX5_item (wsV RX5 102 RX5 yX5_number wsX5_number) := goodIn_app (goodIn_of _ (by decide +kernel)) ggX5_item_X5_number
theorem dX5_item_0 : decode cX5_item 0 = .ok (.aload_n 0, 1) := by decide +kernel
theorem dX5_item_1 : decode cX5_item 1 = .ok (.aload_n 0, 1) := by decide +kernel
theorem dX5_item_2 : decode cX5_item 2 = .ok (.iload_n 1, 1) := by decide +kernel
theorem dX5_item_3 : decode cX5_item 3 = .ok (.invokevirtual 98, 3) := by decide +kernel
theorem dX5_item_6 : decode cX5_item 6 = .ok (.invokevirtual 90, 3) := by decide +kernel
theorem dX5_item_9 : decode cX5_item 9 = .ok (.pop, 1) := by decide +kernel
theorem dX5_item_10 : decode cX5_item 10 = .ok (.aload_n 0, 1) := by decide +kernel
theorem dX5_item_11 : decode cX5_item 11 = .ok (.getfield 84, 3) := by decide +kernel
theorem dX5_item_14 : decode cX5_item 14 = .ok (.bipush (-9), 2) := by decide +kernel
theorem dX5_item_16 : decode cX5_item 16 = .ok (.if_icmp .eq 4, 3) := by decide +kernel
theorem dX5_item_19 : decode cX5_item 19 = .ok (.return_, 1) := by decide +kernel
theorem dX5_item_20 : decode cX5_item 20 = .ok (.iload_n 1, 1) := by decide +kernel
theorem dX5_item_21 : decode cX5_item 21 = .ok (.ifCond .ne 26, 3) := by decide +kernel
theorem dX5_item_24 : decode cX5_item 24 = .ok (.aload_n 0, 1) := by decide +kernel
theorem dX5_item_25 : decode cX5_item 25 = .ok (.getfield 13, 3) := by decide +kernel
theorem dX5_item_28 : decode cX5_item 28 = .ok (.iconst 1, 1) := by decide +kernel
theorem dX5_item_29 : decode cX5_item 29 = .ok (.aload_n 0, 1) := by decide +kernel
theorem dX5_item_30 : decode cX5_item 30 = .ok (.bipush 10, 2) := by decide +kernel
theorem dX5_item_32 : decode cX5_item 32 = .ok (.sipush 999, 3) := by decide +kernel
theorem dX5_item_35 : decode cX5_item 35 = .ok (.invokevirtual 102, 3) := by decide +kernel
theorem dX5_item_38 : decode cX5_item 38 = .ok (.iastore, 1) := by decide +kernel
theorem dX5_item_39 : decode cX5_item 39 = .ok (.aload_n 0, 1) := by decide +kernel
theorem dX5_item_40 : decode cX5_item 40 = .ok (.iconst 1, 1) := by decide +kernel
theorem dX5_item_41 : decode cX5_item 41 = .ok (.putfield 94, 3) := by decide +kernel
theorem dX5_item_44 : decode cX5_item 44 = .ok (.goto 356, 3) := by decide +kernel
theorem dX5_item_47 : decode cX5_item 47 = .ok (.iload_n 1, 1) := by decide +kernel
theorem dX5_item_48 : decode cX5_item 48 = .ok (.iconst 1, 1) := by decide +kernel
theorem dX5_item_49 : decode cX5_item 49 = .ok (.if_icmp .ne 31, 3) := by decide +kernel
theorem dX5_item_52 : decode cX5_item 52 = .ok (.aload_n 0, 1) := by decide +kernel
theorem dX5_item_53 : decode cX5_item 53 = .ok (.getfield 20, 3) := by decide +kernel
theorem dX5_item_56 : decode cX5_item 56 = .ok (.bipush 6, 2) := by decide +kernel
theorem dX5_item_58 : decode cX5_item 58 = .ok (.aload_n 0, 1) := by decide +kernel
theorem dX5_item_59 : decode cX5_item 59 = .ok (.getfield 17, 3) := by decide +kernel
theorem dX5_item_62 : decode cX5_item 62 = .ok (.iconst 1, 1) := by decide +kernel
theorem dX5_item_63 : decode cX5_item 63 = .ok (.iaload, 1) := by decide +kernel
theorem dX5_item_64 : decode cX5_item 64 = .ok (.iadd, 1) := by decide +kernel
theorem dX5_item_65 : decode cX5_item 65 = .ok (.iconst 0, 1) := by decide +kernel
theorem dX5_item_66 : decode cX5_item 66 = .ok (.iastore, 1) := by decide +kernel
theorem dX5_item_67 : decode cX5_item 67 = .ok (.aload_n 0, 1) := by decide +kernel
theorem dX5_item_68 : decode cX5_item 68 = .ok (.getfield 17, 3) := by decide +kernel
theorem dX5_item_71 : decode cX5_item 71 = .ok (.iconst 1, 1) := by decide +kernel
theorem dX5_item_72 : decode cX5_item 72 = .ok (.dup2, 1) := by decide +kernel
theorem dX5_item_73 : decode cX5_item 73 = .ok (.iaload, 1) := by decide +kernel
theorem dX5_item_74 : decode cX5_item 74 = .ok (.iconst 1, 1) := by decide +kernel
theorem dX5_item_75 : decode cX5_item 75 = .ok (.iadd, 1) := by decide +kernel
theorem dX5_item_76 : decode cX5_item 76 = .ok (.iastore, 1) := by decide +kernel
theorem dX5_item_77 : decode cX5_item 77 = .ok (.goto 323, 3) := by decide +kernel
theorem dX5_item_80 : decode cX5_item 80 = .ok (.iload_n 1, 1) := by decide +kernel
theorem dX5_item_81 : decode cX5_item 81 = .ok (.iconst 2, 1) := by decide +kernel
theorem dX5_item_82 : decode cX5_item 82 = .ok (.if_icmp .eq 8, 3) := by decide +kernel
theorem dX5_item_85 : decode cX5_item 85 = .ok (.iload_n 1, 1) := by decide +kernel
theorem dX5_item_86 : decode cX5_item 86 = .ok (.iconst 3, 1) := by decide +kernel
theorem dX5_item_87 : decode cX5_item 87 = .ok (.if_icmp .ne 120, 3) := by decide +kernel
theorem dX5_item_90 : decode cX5_item 90 = .ok (.bipush 6, 2) := by decide +kernel
theorem dX5_item_92 : decode cX5_item 92 = .ok (.aload_n 0, 1) := by decide +kernel
theorem dX5_item_93 : decode cX5_item 93 = .ok (.getfield 17, 3) := by decide +kernel
theorem dX5_item_96 : decode cX5_item 96 = .ok (.iconst 1, 1) := by decide +kernel
theorem dX5_item_97 : decode cX5_item 97 = .ok (.iaload, 1) := by decide +kernel
theorem dX5_item_98 : decode cX5_item 98 = .ok (.iadd, 1) := by decide +kernel
theorem dX5_item_99 : decode cX5_item 99 = .ok (.iconst 1, 1) := by decide +kernel
theorem dX5_item_100 : decode cX5_item 100 = .ok (.isub, 1) := by decide +kernel
theorem dX5_item_101 : decode cX5_item 101 = .ok (.istore_n 2, 1) := by decide +kernel
theorem dX5_item_102 : decode cX5_item 102 = .ok (.bipush 16, 2) := by decide +kernel
theorem dX5_item_104 : decode cX5_item 104 = .ok (.iload_n 2, 1) := by decide +kernel
theorem dX5_item_105 : decode cX5_item 105 = .ok (.imul, 1) := by decide +kernel
theorem dX5_item_106 : decode cX5_item 106 = .ok (.iconst 4, 1) := by decide +kernel
theorem dX5_item_107 : decode cX5_item 107 = .ok (.aload_n 0, 1) := by decide +kernel
theorem dX5_item_108 : decode cX5_item 108 = .ok (.getfield 20, 3) := by decide +kernel
theorem dX5_item_111 : decode cX5_item 111 = .ok (.iload_n 2, 1) := by decide +kernel
theorem dX5_item_112 : decode cX5_item 112 = .ok (.iaload, 1) := by decide +kernel
theorem dX5_item_113 : decode cX5_item 113 = .ok (.imul, 1) := by decide +kernel
theorem dX5_item_114 : decode cX5_item 114 = .ok (.iadd, 1) := by decide +kernel
theorem dX5_item_115 : decode cX5_item 115 = .ok (.istore_n 3, 1) := by decide +kernel
theorem dX5_item_116 : decode cX5_item 116 = .ok (.aload_n 0, 1) := by decide +kernel
theorem dX5_item_117 : decode cX5_item 117 = .ok (.getfield 23, 3) := by decide +kernel
theorem dX5_item_120 : decode cX5_item 120 = .ok (.iload_n 3, 1) := by decide +kernel
theorem dX5_item_121 : decode cX5_item 121 = .ok (.iload_n 1, 1) := by decide +kernel
theorem dX5_item_122 : decode cX5_item 122 = .ok (.iconst 3, 1) := by decide +kernel
theorem dX5_item_123 : decode cX5_item 123 = .ok (.if_icmp .ne 7, 3) := by decide +kernel
theorem dX5_item_126 : decode cX5_item 126 = .ok (.iconst 1, 1) := by decide +kernel
theorem dX5_item_127 : decode cX5_item 127 = .ok (.goto 4, 3) := by decide +kernel
theorem dX5_item_130 : decode cX5_item 130 = .ok (.iconst 0, 1) := by decide +kernel
theorem dX5_item_131 : decode cX5_item 131 = .ok (.iastore, 1) := by decide +kernel
theorem dX5_item_132 : decode cX5_item 132 = .ok (.aload_n 0, 1) := by decide +kernel
theorem dX5_item_133 : decode cX5_item 133 = .ok (.getfield 23, 3) := by decide +kernel
theorem dX5_item_136 : decode cX5_item 136 = .ok (.iload_n 3, 1) := by decide +kernel
theorem dX5_item_137 : decode cX5_item 137 = .ok (.iconst 1, 1) := by decide +kernel
theorem dX5_item_138 : decode cX5_item 138 = .ok (.iadd, 1) := by decide +kernel
theorem dX5_item_139 : decode cX5_item 139 = .ok (.iload_n 1, 1) := by decide +kernel
theorem dX5_item_140 : decode cX5_item 140 = .ok (.iconst 3, 1) := by decide +kernel
theorem dX5_item_141 : decode cX5_item 141 = .ok (.if_icmp .ne 13, 3) := by decide +kernel
theorem dX5_item_144 : decode cX5_item 144 = .ok (.aload_n 0, 1) := by decide +kernel
theorem dX5_item_145 : decode cX5_item 145 = .ok (.iconst 1, 1) := by decide +kernel
theorem dX5_item_146 : decode cX5_item 146 = .ok (.bipush 99, 2) := by decide +kernel
theorem dX5_item_148 : decode cX5_item 148 = .ok (.invokevirtual 102, 3) := by decide +kernel
theorem dX5_item_151 : decode cX5_item 151 = .ok (.goto 11, 3) := by decide +kernel
theorem dX5_item_154 : decode cX5_item 154 = .ok (.aload_n 0, 1) := by decide +kernel
theorem dX5_item_155 : decode cX5_item 155 = .ok (.iconst 0, 1) := by decide +kernel
theorem dX5_item_156 : decode cX5_item 156 = .ok (.sipush 239, 3) := by decide +kernel
theorem dX5_item_159 : decode cX5_item 159 = .ok (.invokevirtual 102, 3) := by decide +kernel
theorem dX5_item_162 : decode cX5_item 162 = .ok (.iastore, 1) := by decide +kernel
theorem dX5_item_163 : decode cX5_item 163 = .ok (.aload_n 0, 1) := by decide +kernel
theorem dX5_item_164 : decode cX5_item 164 = .ok (.getfield 23, 3) := by decide +kernel
theorem dX5_item_167 : decode cX5_item 167 = .ok (.iload_n 3, 1) := by decide +kernel
theorem dX5_item_168 : decode cX5_item 168 = .ok (.iconst 2, 1) := by decide +kernel
theorem dX5_item_169 : decode cX5_item 169 = .ok (.iadd, 1) := by decide +kernel
theorem dX5_item_170 : decode cX5_item 170 = .ok (.aload_n 0, 1) := by decide +kernel
theorem dX5_item_171 : decode cX5_item 171 = .ok (.iconst 1, 1) := by decide +kernel
theorem dX5_item_172 : decode cX5_item 172 = .ok (.sipush 999, 3) := by decide +kernel
theorem dX5_item_175 : decode cX5_item 175 = .ok (.invokevirtual 102, 3) := by decide +kernel
theorem dX5_item_178 : decode cX5_item 178 = .ok (.iastore, 1) := by decide +kernel
theorem dX5_item_179 : decode cX5_item 179 = .ok (.aload_n 0, 1) := by decide +kernel
theorem dX5_item_180 : decode cX5_item 180 = .ok (.getfield 23, 3) := by decide +kernel
theorem dX5_item_183 : decode cX5_item 183 = .ok (.iload_n 3, 1) := by decide +kernel
theorem dX5_item_184 : decode cX5_item 184 = .ok (.iconst 3, 1) := by decide +kernel
theorem dX5_item_185 : decode cX5_item 185 = .ok (.iadd, 1) := by decide +kernel
theorem dX5_item_186 : decode cX5_item 186 = .ok (.aload_n 0, 1) := by decide +kernel
theorem dX5_item_187 : decode cX5_item 187 = .ok (.iconst 1, 1) := by decide +kernel
theorem dX5_item_188 : decode cX5_item 188 = .ok (.bipush 99, 2) := by decide +kernel
theorem dX5_item_190 : decode cX5_item 190 = .ok (.invokevirtual 102, 3) := by decide +kernel
theorem dX5_item_193 : decode cX5_item 193 = .ok (.iastore, 1) := by decide +kernel
theorem dX5_item_194 : decode cX5_item 194 = .ok (.aload_n 0, 1) := by decide +kernel
theorem dX5_item_195 : decode cX5_item 195 = .ok (.getfield 20, 3) := by decide +kernel
theorem dX5_item_198 : decode cX5_item 198 = .ok (.iload_n 2, 1) := by decide +kernel
theorem dX5_item_199 : decode cX5_item 199 = .ok (.dup2, 1) := by decide +kernel
theorem dX5_item_200 : decode cX5_item 200 = .ok (.iaload, 1) := by decide +kernel
theorem dX5_item_201 : decode cX5_item 201 = .ok (.iconst 1, 1) := by decide +kernel
theorem dX5_item_202 : decode cX5_item 202 = .ok (.iadd, 1) := by decide +kernel
theorem dX5_item_203 : decode cX5_item 203 = .ok (.iastore, 1) := by decide +kernel
theorem dX5_item_204 : decode cX5_item 204 = .ok (.goto 196, 3) := by decide +kernel
theorem dX5_item_207 : decode cX5_item 207 = .ok (.iload_n 1, 1) := by decide +kernel
theorem dX5_item_208 : decode cX5_item 208 = .ok (.iconst 4, 1) := by decide +kernel
theorem dX5_item_209 : decode cX5_item 209 = .ok (.if_icmp .ne 74, 3) := by decide +kernel
theorem dX5_item_212 : decode cX5_item 212 = .ok (.bipush 12, 2) := by decide +kernel
theorem dX5_item_214 : decode cX5_item 214 = .ok (.iconst 3, 1) := by decide +kernel
theorem dX5_item_215 : decode cX5_item 215 = .ok (.aload_n 0, 1) := by decide +kernel
theorem dX5_item_216 : decode cX5_item 216 = .ok (.getfield 26, 3) := by decide +kernel
theorem dX5_item_219 : decode cX5_item 219 = .ok (.iconst 1, 1) := by decide +kernel
theorem dX5_item_220 : decode cX5_item 220 = .ok (.iaload, 1) := by decide +kernel
theorem dX5_item_221 : decode cX5_item 221 = .ok (.imul, 1) := by decide +kernel
theorem dX5_item_222 : decode cX5_item 222 = .ok (.iadd, 1) := by decide +kernel
theorem dX5_item_223 : decode cX5_item 223 = .ok (.istore_n 2, 1) := by decide +kernel
theorem dX5_item_224 : decode cX5_item 224 = .ok (.aload_n 0, 1) := by decide +kernel
theorem dX5_item_225 : decode cX5_item 225 = .ok (.getfield 29, 3) := by decide +kernel
theorem dX5_item_228 : decode cX5_item 228 = .ok (.iload_n 2, 1) := by decide +kernel
theorem dX5_item_229 : decode cX5_item 229 = .ok (.aload_n 0, 1) := by decide +kernel
theorem dX5_item_230 : decode cX5_item 230 = .ok (.iconst 0, 1) := by decide +kernel
theorem dX5_item_231 : decode cX5_item 231 = .ok (.sipush 239, 3) := by decide +kernel
theorem dX5_item_234 : decode cX5_item 234 = .ok (.invokevirtual 102, 3) := by decide +kernel
theorem dX5_item_237 : decode cX5_item 237 = .ok (.iastore, 1) := by decide +kernel
theorem dX5_item_238 : decode cX5_item 238 = .ok (.aload_n 0, 1) := by decide +kernel
theorem dX5_item_239 : decode cX5_item 239 = .ok (.getfield 29, 3) := by decide +kernel
theorem dX5_item_242 : decode cX5_item 242 = .ok (.iload_n 2, 1) := by decide +kernel
theorem dX5_item_243 : decode cX5_item 243 = .ok (.iconst 1, 1) := by decide +kernel
theorem dX5_item_244 : decode cX5_item 244 = .ok (.iadd, 1) := by decide +kernel
theorem dX5_item_245 : decode cX5_item 245 = .ok (.aload_n 0, 1) := by decide +kernel
theorem dX5_item_246 : decode cX5_item 246 = .ok (.iconst 1, 1) := by decide +kernel
theorem dX5_item_247 : decode cX5_item 247 = .ok (.sipush 240, 3) := by decide +kernel
theorem dX5_item_250 : decode cX5_item 250 = .ok (.invokevirtual 102, 3) := by decide +kernel
theorem dX5_item_253 : decode cX5_item 253 = .ok (.iastore, 1) := by decide +kernel
theorem dX5_item_254 : decode cX5_item 254 = .ok (.aload_n 0, 1) := by decide +kernel
theorem dX5_item_255 : decode cX5_item 255 = .ok (.getfield 29, 3) := by decide +kernel
theorem dX5_item_258 : decode cX5_item 258 = .ok (.iload_n 2, 1) := by decide +kernel
theorem dX5_item_259 : decode cX5_item 259 = .ok (.iconst 2, 1) := by decide +kernel
theorem dX5_item_260 : decode cX5_item 260 = .ok (.iadd, 1) := by decide +kernel
theorem dX5_item_261 : decode cX5_item 261 = .ok (.aload_n 0, 1) := by decide +kernel
theorem dX5_item_262 : decode cX5_item 262 = .ok (.iconst 1, 1) := by decide +kernel
theorem dX5_item_263 : decode cX5_item 263 = .ok (.sipush 999, 3) := by decide +kernel
theorem dX5_item_266 : decode cX5_item 266 = .ok (.invokevirtual 102, 3) := by decide +kernel
theorem dX5_item_269 : decode cX5_item 269 = .ok (.iastore, 1) := by decide +kernel
theorem dX5_item_270 : decode cX5_item 270 = .ok (.aload_n 0, 1) := by decide +kernel
theorem dX5_item_271 : decode cX5_item 271 = .ok (.getfield 26, 3) := by decide +kernel
theorem dX5_item_274 : decode cX5_item 274 = .ok (.iconst 1, 1) := by decide +kernel
theorem dX5_item_275 : decode cX5_item 275 = .ok (.dup2, 1) := by decide +kernel
theorem dX5_item_276 : decode cX5_item 276 = .ok (.iaload, 1) := by decide +kernel
theorem dX5_item_277 : decode cX5_item 277 = .ok (.iconst 1, 1) := by decide +kernel
theorem dX5_item_278 : decode cX5_item 278 = .ok (.iadd, 1) := by decide +kernel
theorem dX5_item_279 : decode cX5_item 279 = .ok (.iastore, 1) := by decide +kernel
theorem dX5_item_280 : decode cX5_item 280 = .ok (.goto 120, 3) := by decide +kernel
theorem dX5_item_283 : decode cX5_item 283 = .ok (.bipush 18, 2) := by decide +kernel
theorem dX5_item_285 : decode cX5_item 285 = .ok (.iconst 3, 1) := by decide +kernel
theorem dX5_item_286 : decode cX5_item 286 = .ok (.aload_n 0, 1) := by decide +kernel
theorem dX5_item_287 : decode cX5_item 287 = .ok (.getfield 32, 3) := by decide +kernel
theorem dX5_item_290 : decode cX5_item 290 = .ok (.iconst 1, 1) := by decide +kernel
theorem dX5_item_291 : decode cX5_item 291 = .ok (.iaload, 1) := by decide +kernel
theorem dX5_item_292 : decode cX5_item 292 = .ok (.imul, 1) := by decide +kernel
theorem dX5_item_293 : decode cX5_item 293 = .ok (.iadd, 1) := by decide +kernel
theorem dX5_item_294 : decode cX5_item 294 = .ok (.istore_n 2, 1) := by decide +kernel
theorem dX5_item_295 : decode cX5_item 295 = .ok (.aload_n 0, 1) := by decide +kernel
theorem dX5_item_296 : decode cX5_item 296 = .ok (.getfield 35, 3) := by decide +kernel
theorem dX5_item_299 : decode cX5_item 299 = .ok (.iload_n 2, 1) := by decide +kernel
theorem dX5_item_300 : decode cX5_item 300 = .ok (.aload_n 0, 1) := by decide +kernel
theorem dX5_item_301 : decode cX5_item 301 = .ok (.getfield 77, 3) := by decide +kernel
theorem dX5_item_304 : decode cX5_item 304 = .ok (.bipush 7, 2) := by decide +kernel
theorem dX5_item_306 : decode cX5_item 306 = .ok (.if_icmp .ne 7, 3) := by decide +kernel
theorem dX5_item_309 : decode cX5_item 309 = .ok (.iconst 1, 1) := by decide +kernel
theorem dX5_item_310 : decode cX5_item 310 = .ok (.goto 4, 3) := by decide +kernel
theorem dX5_item_313 : decode cX5_item 313 = .ok (.iconst 0, 1) := by decide +kernel
theorem dX5_item_314 : decode cX5_item 314 = .ok (.iastore, 1) := by decide +kernel
theorem dX5_item_315 : decode cX5_item 315 = .ok (.aload_n 0, 1) := by decide +kernel
theorem dX5_item_316 : decode cX5_item 316 = .ok (.aload_n 0, 1) := by decide +kernel
theorem dX5_item_317 : decode cX5_item 317 = .ok (.getfield 77, 3) := by decide +kernel
theorem dX5_item_320 : decode cX5_item 320 = .ok (.bipush 7, 2) := by decide +kernel
theorem dX5_item_322 : decode cX5_item 322 = .ok (.if_icmp .eq 12, 3) := by decide +kernel
theorem dX5_item_325 : decode cX5_item 325 = .ok (.aload_n 0, 1) := by decide +kernel
theorem dX5_item_326 : decode cX5_item 326 = .ok (.getfield 77, 3) := by decide +kernel
theorem dX5_item_329 : decode cX5_item 329 = .ok (.bipush 6, 2) := by decide +kernel
theorem dX5_item_331 : decode cX5_item 331 = .ok (.if_icmp .ne 7, 3) := by decide +kernel
theorem dX5_item_334 : decode cX5_item 334 = .ok (.iconst 1, 1) := by decide +kernel
theorem dX5_item_335 : decode cX5_item 335 = .ok (.goto 4, 3) := by decide +kernel
theorem dX5_item_338 : decode cX5_item 338 = .ok (.iconst 0, 1) := by decide +kernel
theorem dX5_item_339 : decode cX5_item 339 = .ok (.invokevirtual 90, 3) := by decide +kernel
theorem dX5_item_342 : decode cX5_item 342 = .ok (.pop, 1) := by decide +kernel
theorem dX5_item_343 : decode cX5_item 343 = .ok (.aload_n 0, 1) := by decide +kernel
theorem dX5_item_344 : decode cX5_item 344 = .ok (.getfield 35, 3) := by decide +kernel
theorem dX5_item_347 : decode cX5_item 347 = .ok (.iload_n 2, 1) := by decide +kernel
theorem dX5_item_348 : decode cX5_item 348 = .ok (.iconst 1, 1) := by decide +kernel
theorem dX5_item_349 : decode cX5_item 349 = .ok (.iadd, 1) := by decide +kernel
theorem dX5_item_350 : decode cX5_item 350 = .ok (.aload_n 0, 1) := by decide +kernel
theorem dX5_item_351 : decode cX5_item 351 = .ok (.iconst 1, 1) := by decide +kernel
theorem dX5_item_352 : decode cX5_item 352 = .ok (.aload_n 0, 1) := by decide +kernel
theorem dX5_item_353 : decode cX5_item 353 = .ok (.getfield 35, 3) := by decide +kernel
theorem dX5_item_356 : decode cX5_item 356 = .ok (.iload_n 2, 1) := by decide +kernel
theorem dX5_item_357 : decode cX5_item 357 = .ok (.iaload, 1) := by decide +kernel
theorem dX5_item_358 : decode cX5_item 358 = .ok (.iconst 1, 1) := by decide +kernel
theorem dX5_item_359 : decode cX5_item 359 = .ok (.if_icmp .ne 9, 3) := by decide +kernel
theorem dX5_item_362 : decode cX5_item 362 = .ok (.sipush 240, 3) := by decide +kernel
theorem dX5_item_365 : decode cX5_item 365 = .ok (.goto 6, 3) := by decide +kernel
theorem dX5_item_368 : decode cX5_item 368 = .ok (.sipush 999, 3) := by decide +kernel
theorem dX5_item_371 : decode cX5_item 371 = .ok (.invokevirtual 102, 3) := by decide +kernel
theorem dX5_item_374 : decode cX5_item 374 = .ok (.iastore, 1) := by decide +kernel
theorem dX5_item_375 : decode cX5_item 375 = .ok (.aload_n 0, 1) := by decide +kernel
theorem dX5_item_376 : decode cX5_item 376 = .ok (.getfield 35, 3) := by decide +kernel
theorem dX5_item_379 : decode cX5_item 379 = .ok (.iload_n 2, 1) := by decide +kernel
theorem dX5_item_380 : decode cX5_item 380 = .ok (.iconst 2, 1) := by decide +kernel
theorem dX5_item_381 : decode cX5_item 381 = .ok (.iadd, 1) := by decide +kernel
theorem dX5_item_382 : decode cX5_item 382 = .ok (.aload_n 0, 1) := by decide +kernel
theorem dX5_item_383 : decode cX5_item 383 = .ok (.iconst 0, 1) := by decide +kernel
theorem dX5_item_384 : decode cX5_item 384 = .ok (.bipush 99, 2) := by decide +kernel
theorem dX5_item_386 : decode cX5_item 386 = .ok (.invokevirtual 102, 3) := by decide +kernel
theorem dX5_item_389 : decode cX5_item 389 = .ok (.iastore, 1) := by decide +kernel
theorem dX5_item_390 : decode cX5_item 390 = .ok (.aload_n 0, 1) := by decide +kernel
theorem dX5_item_391 : decode cX5_item 391 = .ok (.getfield 32, 3) := by decide +kernel
theorem dX5_item_394 : decode cX5_item 394 = .ok (.iconst 1, 1) := by decide +kernel
theorem dX5_item_395 : decode cX5_item 395 = .ok (.dup2, 1) := by decide +kernel
theorem dX5_item_396 : decode cX5_item 396 = .ok (.iaload, 1) := by decide +kernel
theorem dX5_item_397 : decode cX5_item 397 = .ok (.iconst 1, 1) := by decide +kernel
theorem dX5_item_398 : decode cX5_item 398 = .ok (.iadd, 1) := by decide +kernel
theorem dX5_item_399 : decode cX5_item 399 = .ok (.iastore, 1) := by decide +kernel
theorem dX5_item_400 : decode cX5_item 400 = .ok (.aload_n 0, 1) := by decide +kernel
theorem dX5_item_401 : decode cX5_item 401 = .ok (.aload_n 0, 1) := by decide +kernel
theorem dX5_item_402 : decode cX5_item 402 = .ok (.getfield 77, 3) := by decide +kernel
theorem dX5_item_405 : decode cX5_item 405 = .ok (.bipush 10, 2) := by decide +kernel
theorem dX5_item_407 : decode cX5_item 407 = .ok (.if_icmp .ne 7, 3) := by decide +kernel
theorem dX5_item_410 : decode cX5_item 410 = .ok (.iconst 1, 1) := by decide +kernel
theorem dX5_item_411 : decode cX5_item 411 = .ok (.goto 4, 3) := by decide +kernel
theorem dX5_item_414 : decode cX5_item 414 = .ok (.iconst 0, 1) := by decide +kernel
theorem dX5_item_415 : decode cX5_item 415 = .ok (.invokevirtual 90, 3) := by decide +kernel
theorem dX5_item_418 : decode cX5_item 418 = .ok (.pop, 1) := by decide +kernel
theorem dX5_item_419 : decode cX5_item 419 = .ok (.return_, 1) := by decide +kernel
set_option maxRecDepth 20000 in
theorem ggX5_day_X5_next : GoodIn wsX5_day wsX5_next := goodIn_r _ [19, 1, 20, 21, 8, 22, 23, 24, 18, 25, 14, 26, 27, 28, 29, 30, 31, 32, 58, 59, 60, 61, 62, 63, 64, 65, 66, 67, 68, 69, 70, 71, 72, 73, 74, 75, 76, 77, 78, 79, 80] (by decide +kernel) (by decide +kernel)
set_option maxRecDepth 20000 in
theorem gX5_day_X5_next : GoodIn wsX5_day (wsV RX5 87 RX5 yX5_next wsX5_next) := goodIn_app (goodIn_of _ (by decide +kernel)) ggX5_day_X5_next
set_option maxRecDepth 20000 in
theorem ggX5_day_X5_item : GoodIn wsX5_day wsX5_item := goodIn_r _ [36, 2, 4, 3, 9, 5, 10, 6, 11, 7, 12, 8, 37, 38, 39, 18, 40, 41, 42, 43, 44, 21, 20, 15, 16, 17, 19, 1, 22, 23, 24, 25, 14, 26, 27, 28, 29, 30, 31, 32, 45, 46, 47, 48, 58, 59, 60, 61, 62, 63, 64, 65, 66, 67, 68, 69, 70, 71, 72, 73, 74, 75, 76, 77, 78, 79, 80] (by decide +kernel) (by decide +kernel)
set_option maxRecDepth 20000 in
theorem gX5_day_X5_item : GoodIn wsX5_day (wsV RX5 106 RX5 yX5_item wsX5_item) := goodIn_app (goodIn_of _ (by decide +kernel)) ggX5_day_X5_item
set_option maxRecDepth 20000 in
theorem ggX5_day_X5_anew : GoodIn wsX5_day wsX5_anew := goodIn_r _ [52, 53, 54, 55, 56, 18, 57, 58, 59, 60, 61, 62, 63, 64, 65, 66, 67, 68, 69, 70, 71, 72, 73, 74, 75, 76, 77, 78, 79, 80] (by decide +kernel) (by decide +kernel)
set_option maxRecDepth 20000 in
theorem gX5_day_X5_anew : GoodIn wsX5_day (wsV RX5 110 RX5 yX5_anew wsX5_anew) := goodIn_app (goodIn_of _ (by decide +kernel)) ggX5_day_X5_anew
theorem dX5_day_0 : decode cX5_day 0 = .ok (.aload_n 0, 1) := by decide +kernel
theorem dX5_day_1 : decode cX5_day 1 = .ok (.iconst 0, 1) := by decide +kernel
theorem dX5_day_2 : decode cX5_day 2 = .ok (.putfield 64, 3) := by decide +kernel
theorem dX5_day_5 : decode cX5_day 5 = .ok (.aload_n 0, 1) := by decide +kernel
theorem dX5_day_6 : decode cX5_day 6 = .ok (.bipush (-9), 2) := by decide +kernel
theorem dX5_day_8 : decode cX5_day 8 = .ok (.putfield 84, 3) := by decide +kernel
theorem dX5_day_11 : decode cX5_day 11 = .ok (.aload_n 0, 1) := by decide +kernel
theorem dX5_day_12 : decode cX5_day 12 = .ok (.iconst 0, 1) := by decide +kernel
theorem dX5_day_13 : decode cX5_day 13 = .ok (.putfield 94, 3) := by decide +kernel
theorem dX5_day_16 : decode cX5_day 16 = .ok (.aload_n 0, 1) := by decide +kernel
theorem dX5_day_17 : decode cX5_day 17 = .ok (.getfield 13, 3) := by decide +kernel
theorem dX5_day_20 : decode cX5_day 20 = .ok (.iconst 1, 1) := by decide +kernel
theorem dX5_day_21 : decode cX5_day 21 = .ok (.bipush 90, 2) := by decide +kernel
theorem dX5_day_23 : decode cX5_day 23 = .ok (.iastore, 1) := by decide +kernel
theorem dX5_day_24 : decode cX5_day 24 = .ok (.aload_n 0, 1) := by decide +kernel
theorem dX5_day_25 : decode cX5_day 25 = .ok (.getfield 17, 3) := by decide +kernel
theorem dX5_day_28 : decode cX5_day 28 = .ok (.iconst 1, 1) := by decide +kernel
theorem dX5_day_29 : decode cX5_day 29 = .ok (.iconst 0, 1) := by decide +kernel
theorem dX5_day_30 : decode cX5_day 30 = .ok (.iastore, 1) := by decide +kernel
theorem dX5_day_31 : decode cX5_day 31 = .ok (.aload_n 0, 1) := by decide +kernel
theorem dX5_day_32 : decode cX5_day 32 = .ok (.getfield 26, 3) := by decide +kernel
theorem dX5_day_35 : decode cX5_day 35 = .ok (.iconst 1, 1) := by decide +kernel
theorem dX5_day_36 : decode cX5_day 36 = .ok (.iconst 0, 1) := by decide +kernel
theorem dX5_day_37 : decode cX5_day 37 = .ok (.iastore, 1) := by decide +kernel
theorem dX5_day_38 : decode cX5_day 38 = .ok (.aload_n 0, 1) := by decide +kernel
theorem dX5_day_39 : decode cX5_day 39 = .ok (.getfield 32, 3) := by decide +kernel
theorem dX5_day_42 : decode cX5_day 42 = .ok (.iconst 1, 1) := by decide +kernel
theorem dX5_day_43 : decode cX5_day 43 = .ok (.iconst 0, 1) := by decide +kernel
theorem dX5_day_44 : decode cX5_day 44 = .ok (.iastore, 1) := by decide +kernel
theorem dX5_day_45 : decode cX5_day 45 = .ok (.iconst 0, 1) := by decide +kernel
theorem dX5_day_46 : decode cX5_day 46 = .ok (.istore_n 1, 1) := by decide +kernel
theorem dX5_day_47 : decode cX5_day 47 = .ok (.aload_n 0, 1) := by decide +kernel
theorem dX5_day_48 : decode cX5_day 48 = .ok (.invokevirtual 87, 3) := by decide +kernel
theorem dX5_day_51 : decode cX5_day 51 = .ok (.aload_n 0, 1) := by decide +kernel
theorem dX5_day_52 : decode cX5_day 52 = .ok (.getfield 84, 3) := by decide +kernel
theorem dX5_day_55 : decode cX5_day 55 = .ok (.bipush (-9), 2) := by decide +kernel
theorem dX5_day_57 : decode cX5_day 57 = .ok (.if_icmp .ne 26, 3) := by decide +kernel
theorem dX5_day_60 : decode cX5_day 60 = .ok (.aload_n 0, 1) := by decide +kernel
theorem dX5_day_61 : decode cX5_day 61 = .ok (.getfield 77, 3) := by decide +kernel
theorem dX5_day_64 : decode cX5_day 64 = .ok (.bipush 8, 2) := by decide +kernel
theorem dX5_day_66 : decode cX5_day 66 = .ok (.if_icmp .eq 17, 3) := by decide +kernel
theorem dX5_day_69 : decode cX5_day 69 = .ok (.aload_n 0, 1) := by decide +kernel
theorem dX5_day_70 : decode cX5_day 70 = .ok (.aload_n 0, 1) := by decide +kernel
theorem dX5_day_71 : decode cX5_day 71 = .ok (.getfield 77, 3) := by decide +kernel
theorem dX5_day_74 : decode cX5_day 74 = .ok (.invokevirtual 106, 3) := by decide +kernel
theorem dX5_day_77 : decode cX5_day 77 = .ok (.iinc 1 1, 3) := by decide +kernel
theorem dX5_day_80 : decode cX5_day 80 = .ok (.goto (-29), 3) := by decide +kernel
theorem dX5_day_83 : decode cX5_day 83 = .ok (.aload_n 0, 1) := by decide +kernel
theorem dX5_day_84 : decode cX5_day 84 = .ok (.getfield 84, 3) := by decide +kernel
theorem dX5_day_87 : decode cX5_day 87 = .ok (.bipush (-9), 2) := by decide +kernel
theorem dX5_day_89 : decode cX5_day 89 = .ok (.if_icmp .eq 11, 3) := by decide +kernel
theorem dX5_day_92 : decode cX5_day 92 = .ok (.bipush (-10), 2) := by decide +kernel
theorem dX5_day_94 : decode cX5_day 94 = .ok (.aload_n 0, 1) := by decide +kernel
theorem dX5_day_95 : decode cX5_day 95 = .ok (.getfield 84, 3) := by decide +kernel
theorem dX5_day_98 : decode cX5_day 98 = .ok (.isub, 1) := by decide +kernel
theorem dX5_day_99 : decode cX5_day 99 = .ok (.ireturn, 1) := by decide +kernel
theorem dX5_day_100 : decode cX5_day 100 = .ok (.aload_n 0, 1) := by decide +kernel
theorem dX5_day_101 : decode cX5_day 101 = .ok (.getfield 13, 3) := by decide +kernel
theorem dX5_day_104 : decode cX5_day 104 = .ok (.iconst 0, 1) := by decide +kernel
theorem dX5_day_105 : decode cX5_day 105 = .ok (.aload_n 0, 1) := by decide +kernel
theorem dX5_day_106 : decode cX5_day 106 = .ok (.getfield 13, 3) := by decide +kernel
theorem dX5_day_109 : decode cX5_day 109 = .ok (.iconst 1, 1) := by decide +kernel
theorem dX5_day_110 : decode cX5_day 110 = .ok (.iaload, 1) := by decide +kernel
theorem dX5_day_111 : decode cX5_day 111 = .ok (.iastore, 1) := by decide +kernel
theorem dX5_day_112 : decode cX5_day 112 = .ok (.aload_n 0, 1) := by decide +kernel
theorem dX5_day_113 : decode cX5_day 113 = .ok (.getfield 17, 3) := by decide +kernel
theorem dX5_day_116 : decode cX5_day 116 = .ok (.iconst 0, 1) := by decide +kernel
theorem dX5_day_117 : decode cX5_day 117 = .ok (.aload_n 0, 1) := by decide +kernel
theorem dX5_day_118 : decode cX5_day 118 = .ok (.getfield 17, 3) := by decide +kernel
theorem dX5_day_121 : decode cX5_day 121 = .ok (.iconst 1, 1) := by decide +kernel
theorem dX5_day_122 : decode cX5_day 122 = .ok (.iaload, 1) := by decide +kernel
theorem dX5_day_123 : decode cX5_day 123 = .ok (.iastore, 1) := by decide +kernel
theorem dX5_day_124 : decode cX5_day 124 = .ok (.aload_n 0, 1) := by decide +kernel
theorem dX5_day_125 : decode cX5_day 125 = .ok (.getfield 26, 3) := by decide +kernel
theorem dX5_day_128 : decode cX5_day 128 = .ok (.iconst 0, 1) := by decide +kernel
theorem dX5_day_129 : decode cX5_day 129 = .ok (.aload_n 0, 1) := by decide +kernel
theorem dX5_day_130 : decode cX5_day 130 = .ok (.getfield 26, 3) := by decide +kernel
theorem dX5_day_133 : decode cX5_day 133 = .ok (.iconst 1, 1) := by decide +kernel
theorem dX5_day_134 : decode cX5_day 134 = .ok (.iaload, 1) := by decide +kernel
theorem dX5_day_135 : decode cX5_day 135 = .ok (.iastore, 1) := by decide +kernel
theorem dX5_day_136 : decode cX5_day 136 = .ok (.aload_n 0, 1) := by decide +kernel
theorem dX5_day_137 : decode cX5_day 137 = .ok (.getfield 32, 3) := by decide +kernel
theorem dX5_day_140 : decode cX5_day 140 = .ok (.iconst 0, 1) := by decide +kernel
theorem dX5_day_141 : decode cX5_day 141 = .ok (.aload_n 0, 1) := by decide +kernel
theorem dX5_day_142 : decode cX5_day 142 = .ok (.getfield 32, 3) := by decide +kernel
theorem dX5_day_145 : decode cX5_day 145 = .ok (.iconst 1, 1) := by decide +kernel
theorem dX5_day_146 : decode cX5_day 146 = .ok (.iaload, 1) := by decide +kernel
theorem dX5_day_147 : decode cX5_day 147 = .ok (.iastore, 1) := by decide +kernel
theorem dX5_day_148 : decode cX5_day 148 = .ok (.iconst 0, 1) := by decide +kernel
theorem dX5_day_149 : decode cX5_day 149 = .ok (.istore_n 2, 1) := by decide +kernel
theorem dX5_day_150 : decode cX5_day 150 = .ok (.iload_n 2, 1) := by decide +kernel
theorem dX5_day_151 : decode cX5_day 151 = .ok (.bipush 6, 2) := by decide +kernel
theorem dX5_day_153 : decode cX5_day 153 = .ok (.if_icmp .ge 24, 3) := by decide +kernel
theorem dX5_day_156 : decode cX5_day 156 = .ok (.aload_n 0, 1) := by decide +kernel
theorem dX5_day_157 : decode cX5_day 157 = .ok (.getfield 20, 3) := by decide +kernel
theorem dX5_day_160 : decode cX5_day 160 = .ok (.iload_n 2, 1) := by decide +kernel
theorem dX5_day_161 : decode cX5_day 161 = .ok (.aload_n 0, 1) := by decide +kernel
theorem dX5_day_162 : decode cX5_day 162 = .ok (.getfield 20, 3) := by decide +kernel
theorem dX5_day_165 : decode cX5_day 165 = .ok (.bipush 6, 2) := by decide +kernel
theorem dX5_day_167 : decode cX5_day 167 = .ok (.iload_n 2, 1) := by decide +kernel
theorem dX5_day_168 : decode cX5_day 168 = .ok (.iadd, 1) := by decide +kernel
theorem dX5_day_169 : decode cX5_day 169 = .ok (.iaload, 1) := by decide +kernel
theorem dX5_day_170 : decode cX5_day 170 = .ok (.iastore, 1) := by decide +kernel
theorem dX5_day_171 : decode cX5_day 171 = .ok (.iinc 2 1, 3) := by decide +kernel
theorem dX5_day_174 : decode cX5_day 174 = .ok (.goto (-24), 3) := by decide +kernel
theorem dX5_day_177 : decode cX5_day 177 = .ok (.iconst 0, 1) := by decide +kernel
theorem dX5_day_178 : decode cX5_day 178 = .ok (.istore_n 2, 1) := by decide +kernel
theorem dX5_day_179 : decode cX5_day 179 = .ok (.iload_n 2, 1) := by decide +kernel
theorem dX5_day_180 : decode cX5_day 180 = .ok (.bipush 96, 2) := by decide +kernel
theorem dX5_day_182 : decode cX5_day 182 = .ok (.if_icmp .ge 24, 3) := by decide +kernel
theorem dX5_day_185 : decode cX5_day 185 = .ok (.aload_n 0, 1) := by decide +kernel
theorem dX5_day_186 : decode cX5_day 186 = .ok (.getfield 23, 3) := by decide +kernel
theorem dX5_day_189 : decode cX5_day 189 = .ok (.iload_n 2, 1) := by decide +kernel
theorem dX5_day_190 : decode cX5_day 190 = .ok (.aload_n 0, 1) := by decide +kernel
theorem dX5_day_191 : decode cX5_day 191 = .ok (.getfield 23, 3) := by decide +kernel
theorem dX5_day_194 : decode cX5_day 194 = .ok (.bipush 96, 2) := by decide +kernel
theorem dX5_day_196 : decode cX5_day 196 = .ok (.iload_n 2, 1) := by decide +kernel
theorem dX5_day_197 : decode cX5_day 197 = .ok (.iadd, 1) := by decide +kernel
theorem dX5_day_198 : decode cX5_day 198 = .ok (.iaload, 1) := by decide +kernel
theorem dX5_day_199 : decode cX5_day 199 = .ok (.iastore, 1) := by decide +kernel
theorem dX5_day_200 : decode cX5_day 200 = .ok (.iinc 2 1, 3) := by decide +kernel
theorem dX5_day_203 : decode cX5_day 203 = .ok (.goto (-24), 3) := by decide +kernel
theorem dX5_day_206 : decode cX5_day 206 = .ok (.iconst 0, 1) := by decide +kernel
theorem dX5_day_207 : decode cX5_day 207 = .ok (.istore_n 2, 1) := by decide +kernel
theorem dX5_day_208 : decode cX5_day 208 = .ok (.iload_n 2, 1) := by decide +kernel
theorem dX5_day_209 : decode cX5_day 209 = .ok (.bipush 12, 2) := by decide +kernel
theorem dX5_day_211 : decode cX5_day 211 = .ok (.if_icmp .ge 24, 3) := by decide +kernel
theorem dX5_day_214 : decode cX5_day 214 = .ok (.aload_n 0, 1) := by decide +kernel
theorem dX5_day_215 : decode cX5_day 215 = .ok (.getfield 29, 3) := by decide +kernel
theorem dX5_day_218 : decode cX5_day 218 = .ok (.iload_n 2, 1) := by decide +kernel
theorem dX5_day_219 : decode cX5_day 219 = .ok (.aload_n 0, 1) := by decide +kernel
theorem dX5_day_220 : decode cX5_day 220 = .ok (.getfield 29, 3) := by decide +kernel
theorem dX5_day_223 : decode cX5_day 223 = .ok (.bipush 12, 2) := by decide +kernel
theorem dX5_day_225 : decode cX5_day 225 = .ok (.iload_n 2, 1) := by decide +kernel
theorem dX5_day_226 : decode cX5_day 226 = .ok (.iadd, 1) := by decide +kernel
theorem dX5_day_227 : decode cX5_day 227 = .ok (.iaload, 1) := by decide +kernel
theorem dX5_day_228 : decode cX5_day 228 = .ok (.iastore, 1) := by decide +kernel
theorem dX5_day_229 : decode cX5_day 229 = .ok (.iinc 2 1, 3) := by decide +kernel
theorem dX5_day_232 : decode cX5_day 232 = .ok (.goto (-24), 3) := by decide +kernel
theorem dX5_day_235 : decode cX5_day 235 = .ok (.iconst 0, 1) := by decide +kernel
theorem dX5_day_236 : decode cX5_day 236 = .ok (.istore_n 2, 1) := by decide +kernel
theorem dX5_day_237 : decode cX5_day 237 = .ok (.iload_n 2, 1) := by decide +kernel
theorem dX5_day_238 : decode cX5_day 238 = .ok (.bipush 18, 2) := by decide +kernel
theorem dX5_day_240 : decode cX5_day 240 = .ok (.if_icmp .ge 24, 3) := by decide +kernel
theorem dX5_day_243 : decode cX5_day 243 = .ok (.aload_n 0, 1) := by decide +kernel
theorem dX5_day_244 : decode cX5_day 244 = .ok (.getfield 35, 3) := by decide +kernel
theorem dX5_day_247 : decode cX5_day 247 = .ok (.iload_n 2, 1) := by decide +kernel
theorem dX5_day_248 : decode cX5_day 248 = .ok (.aload_n 0, 1) := by decide +kernel
theorem dX5_day_249 : decode cX5_day 249 = .ok (.getfield 35, 3) := by decide +kernel
theorem dX5_day_252 : decode cX5_day 252 = .ok (.bipush 18, 2) := by decide +kernel
theorem dX5_day_254 : decode cX5_day 254 = .ok (.iload_n 2, 1) := by decide +kernel
theorem dX5_day_255 : decode cX5_day 255 = .ok (.iadd, 1) := by decide +kernel
theorem dX5_day_256 : decode cX5_day 256 = .ok (.iaload, 1) := by decide +kernel
theorem dX5_day_257 : decode cX5_day 257 = .ok (.iastore, 1) := by decide +kernel
theorem dX5_day_258 : decode cX5_day 258 = .ok (.iinc 2 1, 3) := by decide +kernel
theorem dX5_day_261 : decode cX5_day 261 = .ok (.goto (-24), 3) := by decide +kernel
theorem dX5_day_264 : decode cX5_day 264 = .ok (.aload_n 0, 1) := by decide +kernel
theorem dX5_day_265 : decode cX5_day 265 = .ok (.invokevirtual 110, 3) := by decide +kernel
theorem dX5_day_268 : decode cX5_day 268 = .ok (.pop, 1) := by decide +kernel
theorem dX5_day_269 : decode cX5_day 269 = .ok (.aload_n 0, 1) := by decide +kernel
theorem dX5_day_270 : decode cX5_day 270 = .ok (.getfield 41, 3) := by decide +kernel
theorem dX5_day_273 : decode cX5_day 273 = .ok (.iconst 0, 1) := by decide +kernel
theorem dX5_day_274 : decode cX5_day 274 = .ok (.iconst 0, 1) := by decide +kernel
theorem dX5_day_275 : decode cX5_day 275 = .ok (.bastore, 1) := by decide +kernel
theorem dX5_day_276 : decode cX5_day 276 = .ok (.aload_n 0, 1) := by decide +kernel
theorem dX5_day_277 : decode cX5_day 277 = .ok (.getfield 41, 3) := by decide +kernel
theorem dX5_day_280 : decode cX5_day 280 = .ok (.iconst 1, 1) := by decide +kernel
theorem dX5_day_281 : decode cX5_day 281 = .ok (.iconst 0, 1) := by decide +kernel
theorem dX5_day_282 : decode cX5_day 282 = .ok (.bastore, 1) := by decide +kernel
theorem dX5_day_283 : decode cX5_day 283 = .ok (.aload_n 0, 1) := by decide +kernel
theorem dX5_day_284 : decode cX5_day 284 = .ok (.iconst 0, 1) := by decide +kernel
theorem dX5_day_285 : decode cX5_day 285 = .ok (.putfield 58, 3) := by decide +kernel
theorem dX5_day_288 : decode cX5_day 288 = .ok (.iload_n 1, 1) := by decide +kernel
theorem dX5_day_289 : decode cX5_day 289 = .ok (.ireturn, 1) := by decide +kernel
set_option maxRecDepth 20000 in
theorem ggX5_isPerson_X5_in : GoodIn wsX5_isPerson wsX5_in := goodIn_r _ [5] (by decide +kernel) (by decide +kernel)
set_option maxRecDepth 20000 in
theorem gX5_isPerson_X5_in : GoodIn wsX5_isPerson (va_wsS RX5 54 yX5_in wsX5_in) := goodIn_app (goodIn_of _ (by decide +kernel)) ggX5_isPerson_X5_in
theorem dX5_isPerson_0 : decode cX5_isPerson 0 = .ok (.iload_n 1, 1) := by decide +kernel
theorem dX5_isPerson_1 : decode cX5_isPerson 1 = .ok (.iconst 0, 1) := by decide +kernel
theorem dX5_isPerson_2 : decode cX5_isPerson 2 = .ok (.aload_n 0, 1) := by decide +kernel
theorem dX5_isPerson_3 : decode cX5_isPerson 3 = .ok (.getfield 17, 3) := by decide +kernel
theorem dX5_isPerson_6 : decode cX5_isPerson 6 = .ok (.iconst 0, 1) := by decide +kernel
theorem dX5_isPerson_7 : decode cX5_isPerson 7 = .ok (.iaload, 1) := by decide +kernel
theorem dX5_isPerson_8 : decode cX5_isPerson 8 = .ok (.iconst 1, 1) := by decide +kernel
theorem dX5_isPerson_9 : decode cX5_isPerson 9 = .ok (.isub, 1) := by decide +kernel
theorem dX5_isPerson_10 : decode cX5_isPerson 10 = .ok (.invokestatic 54, 3) := by decide +kernel
theorem dX5_isPerson_13 : decode cX5_isPerson 13 = .ok (.ireturn, 1) := by decide +kernel
set_option maxRecDepth 20000 in
theorem ggX5_way_X5_isPerson : GoodIn wsX5_way wsX5_isPerson := goodIn_r _ [7, 8, 9, 10, 6, 11, 12, 13, 14, 15, 16, 17, 18, 19, 20, 21, 22, 23, 24, 25, 26, 27, 28, 29, 30, 31, 32, 33, 34] (by decide +kernel) (by decide +kernel)
set_option maxRecDepth 20000 in
theorem gX5_way_X5_isPerson : GoodIn wsX5_way (wsV RX5 113 RX5 yX5_isPerson wsX5_isPerson) := goodIn_app (goodIn_of _ (by decide +kernel)) ggX5_way_X5_isPerson
set_option maxRecDepth 20000 in
theorem ggX5_way_X5_in : GoodIn wsX5_way wsX5_in := goodIn_r _ [11] (by decide +kernel) (by decide +kernel)
set_option maxRecDepth 20000 in
theorem gX5_way_X5_in : GoodIn wsX5_way (va_wsS RX5 54 yX5_in wsX5_in) := goodIn_app (goodIn_of _ (by decide +kernel)) ggX5_way_X5_in
theorem dX5_way_0 : decode cX5_way 0 = .ok (.aload_n 0, 1) := by decide +kernel
theorem dX5_way_1 : decode cX5_way 1 = .ok (.iload_n 1, 1) := by decide +kernel
theorem dX5_way_2 : decode cX5_way 2 = .ok (.invokevirtual 113, 3) := by decide +kernel
theorem dX5_way_5 : decode cX5_way 5 = .ok (.ifCond .eq 46, 3) := by decide +kernel
theorem dX5_way_8 : decode cX5_way 8 = .ok (.iload_n 2, 1) := by decide +kernel
theorem dX5_way_9 : decode cX5_way 9 = .ok (.iconst 0, 1) := by decide +kernel
theorem dX5_way_10 : decode cX5_way 10 = .ok (.aload_n 0, 1) := by decide +kernel
theorem dX5_way_11 : decode cX5_way 11 = .ok (.getfield 20, 3) := by decide +kernel
theorem dX5_way_14 : decode cX5_way 14 = .ok (.iload_n 1, 1) := by decide +kernel
theorem dX5_way_15 : decode cX5_way 15 = .ok (.iaload, 1) := by decide +kernel
theorem dX5_way_16 : decode cX5_way 16 = .ok (.iconst 1, 1) := by decide +kernel
theorem dX5_way_17 : decode cX5_way 17 = .ok (.isub, 1) := by decide +kernel
theorem dX5_way_18 : decode cX5_way 18 = .ok (.invokestatic 54, 3) := by decide +kernel
theorem dX5_way_21 : decode cX5_way 21 = .ok (.ifCond .eq 30, 3) := by decide +kernel
theorem dX5_way_24 : decode cX5_way 24 = .ok (.iload_n 3, 1) := by decide +kernel
theorem dX5_way_25 : decode cX5_way 25 = .ok (.iconst 0, 1) := by decide +kernel
theorem dX5_way_26 : decode cX5_way 26 = .ok (.iconst 3, 1) := by decide +kernel
theorem dX5_way_27 : decode cX5_way 27 = .ok (.invokestatic 54, 3) := by decide +kernel
theorem dX5_way_30 : decode cX5_way 30 = .ok (.ifCond .eq 21, 3) := by decide +kernel
theorem dX5_way_33 : decode cX5_way 33 = .ok (.aload_n 0, 1) := by decide +kernel
theorem dX5_way_34 : decode cX5_way 34 = .ok (.getfield 23, 3) := by decide +kernel
theorem dX5_way_37 : decode cX5_way 37 = .ok (.bipush 16, 2) := by decide +kernel
theorem dX5_way_39 : decode cX5_way 39 = .ok (.iload_n 1, 1) := by decide +kernel
theorem dX5_way_40 : decode cX5_way 40 = .ok (.imul, 1) := by decide +kernel
theorem dX5_way_41 : decode cX5_way 41 = .ok (.iconst 4, 1) := by decide +kernel
theorem dX5_way_42 : decode cX5_way 42 = .ok (.iload_n 2, 1) := by decide +kernel
theorem dX5_way_43 : decode cX5_way 43 = .ok (.imul, 1) := by decide +kernel
theorem dX5_way_44 : decode cX5_way 44 = .ok (.iadd, 1) := by decide +kernel
theorem dX5_way_45 : decode cX5_way 45 = .ok (.iload_n 3, 1) := by decide +kernel
theorem dX5_way_46 : decode cX5_way 46 = .ok (.iadd, 1) := by decide +kernel
theorem dX5_way_47 : decode cX5_way 47 = .ok (.iaload, 1) := by decide +kernel
theorem dX5_way_48 : decode cX5_way 48 = .ok (.goto 4, 3) := by decide +kernel
theorem dX5_way_51 : decode cX5_way 51 = .ok (.iconst (-1), 1) := by decide +kernel
theorem dX5_way_52 : decode cX5_way 52 = .ok (.ireturn, 1) := by decide +kernel
set_option maxRecDepth 20000 in
theorem ggX5_march_X5_in : GoodIn wsX5_march wsX5_in := goodIn_r _ [6] (by decide +kernel) (by decide +kernel)
set_option maxRecDepth 20000 in
theorem gX5_march_X5_in : GoodIn wsX5_march (va_wsS RX5 54 yX5_in wsX5_in) := goodIn_app (goodIn_of _ (by decide +kernel)) ggX5_march_X5_in
theorem dX5_march_0 : decode cX5_march 0 = .ok (.iload_n 1, 1) := by decide +kernel
theorem dX5_march_1 : decode cX5_march 1 = .ok (.iconst 0, 1) := by decide +kernel
theorem dX5_march_2 : decode cX5_march 2 = .ok (.aload_n 0, 1) := by decide +kernel
theorem dX5_march_3 : decode cX5_march 3 = .ok (.getfield 26, 3) := by decide +kernel
theorem dX5_march_6 : decode cX5_march 6 = .ok (.iconst 0, 1) := by decide +kernel
theorem dX5_march_7 : decode cX5_march 7 = .ok (.iaload, 1) := by decide +kernel
theorem dX5_march_8 : decode cX5_march 8 = .ok (.iconst 1, 1) := by decide +kernel
theorem dX5_march_9 : decode cX5_march 9 = .ok (.isub, 1) := by decide +kernel
theorem dX5_march_10 : decode cX5_march 10 = .ok (.invokestatic 54, 3) := by decide +kernel
theorem dX5_march_13 : decode cX5_march 13 = .ok (.ifCond .eq 25, 3) := by decide +kernel
theorem dX5_march_16 : decode cX5_march 16 = .ok (.iload_n 2, 1) := by decide +kernel
theorem dX5_march_17 : decode cX5_march 17 = .ok (.iconst 0, 1) := by decide +kernel
theorem dX5_march_18 : decode cX5_march 18 = .ok (.iconst 2, 1) := by decide +kernel
theorem dX5_march_19 : decode cX5_march 19 = .ok (.invokestatic 54, 3) := by decide +kernel
theorem dX5_march_22 : decode cX5_march 22 = .ok (.ifCond .eq 16, 3) := by decide +kernel
theorem dX5_march_25 : decode cX5_march 25 = .ok (.aload_n 0, 1) := by decide +kernel
theorem dX5_march_26 : decode cX5_march 26 = .ok (.getfield 29, 3) := by decide +kernel
theorem dX5_march_29 : decode cX5_march 29 = .ok (.iconst 3, 1) := by decide +kernel
theorem dX5_march_30 : decode cX5_march 30 = .ok (.iload_n 1, 1) := by decide +kernel
theorem dX5_march_31 : decode cX5_march 31 = .ok (.imul, 1) := by decide +kernel
theorem dX5_march_32 : decode cX5_march 32 = .ok (.iload_n 2, 1) := by decide +kernel
theorem dX5_march_33 : decode cX5_march 33 = .ok (.iadd, 1) := by decide +kernel
theorem dX5_march_34 : decode cX5_march 34 = .ok (.iaload, 1) := by decide +kernel
theorem dX5_march_35 : decode cX5_march 35 = .ok (.goto 4, 3) := by decide +kernel
theorem dX5_march_38 : decode cX5_march 38 = .ok (.iconst (-1), 1) := by decide +kernel
theorem dX5_march_39 : decode cX5_march 39 = .ok (.ireturn, 1) := by decide +kernel
set_option maxRecDepth 20000 in
theorem ggX5_work_X5_in : GoodIn wsX5_work wsX5_in := goodIn_r _ [6] (by decide +kernel) (by decide +kernel)
set_option maxRecDepth 20000 in
theorem gX5_work_X5_in : GoodIn wsX5_work (va_wsS RX5 54 yX5_in wsX5_in) := goodIn_app (goodIn_of _ (by decide +kernel)) ggX5_work_X5_in
theorem dX5_work_0 : decode cX5_work 0 = .ok (.iload_n 1, 1) := by decide +kernel
theorem dX5_work_1 : decode cX5_work 1 = .ok (.iconst 0, 1) := by decide +kernel
theorem dX5_work_2 : decode cX5_work 2 = .ok (.aload_n 0, 1) := by decide +kernel
theorem dX5_work_3 : decode cX5_work 3 = .ok (.getfield 32, 3) := by decide +kernel
theorem dX5_work_6 : decode cX5_work 6 = .ok (.iconst 0, 1) := by decide +kernel
theorem dX5_work_7 : decode cX5_work 7 = .ok (.iaload, 1) := by decide +kernel
theorem dX5_work_8 : decode cX5_work 8 = .ok (.iconst 1, 1) := by decide +kernel
theorem dX5_work_9 : decode cX5_work 9 = .ok (.isub, 1) := by decide +kernel
theorem dX5_work_10 : decode cX5_work 10 = .ok (.invokestatic 54, 3) := by decide +kernel
theorem dX5_work_13 : decode cX5_work 13 = .ok (.ifCond .eq 25, 3) := by decide +kernel
theorem dX5_work_16 : decode cX5_work 16 = .ok (.iload_n 2, 1) := by decide +kernel
theorem dX5_work_17 : decode cX5_work 17 = .ok (.iconst 0, 1) := by decide +kernel
theorem dX5_work_18 : decode cX5_work 18 = .ok (.iconst 2, 1) := by decide +kernel
theorem dX5_work_19 : decode cX5_work 19 = .ok (.invokestatic 54, 3) := by decide +kernel
theorem dX5_work_22 : decode cX5_work 22 = .ok (.ifCond .eq 16, 3) := by decide +kernel
theorem dX5_work_25 : decode cX5_work 25 = .ok (.aload_n 0, 1) := by decide +kernel
theorem dX5_work_26 : decode cX5_work 26 = .ok (.getfield 35, 3) := by decide +kernel
theorem dX5_work_29 : decode cX5_work 29 = .ok (.iconst 3, 1) := by decide +kernel
theorem dX5_work_30 : decode cX5_work 30 = .ok (.iload_n 1, 1) := by decide +kernel
theorem dX5_work_31 : decode cX5_work 31 = .ok (.imul, 1) := by decide +kernel
theorem dX5_work_32 : decode cX5_work 32 = .ok (.iload_n 2, 1) := by decide +kernel
theorem dX5_work_33 : decode cX5_work 33 = .ok (.iadd, 1) := by decide +kernel
theorem dX5_work_34 : decode cX5_work 34 = .ok (.iaload, 1) := by decide +kernel
theorem dX5_work_35 : decode cX5_work 35 = .ok (.goto 4, 3) := by decide +kernel
theorem dX5_work_38 : decode cX5_work 38 = .ok (.iconst (-1), 1) := by decide +kernel
theorem dX5_work_39 : decode cX5_work 39 = .ok (.ireturn, 1) := by decide +kernel
theorem dX5_begin_0 : decode cX5_begin 0 = .ok (.iconst 0, 1) := by decide +kernel
theorem dX5_begin_1 : decode cX5_begin 1 = .ok (.istore_n 3, 1) := by decide +kernel
theorem dX5_begin_2 : decode cX5_begin 2 = .ok (.iload_n 3, 1) := by decide +kernel
theorem dX5_begin_3 : decode cX5_begin 3 = .ok (.bipush 27, 2) := by decide +kernel
theorem dX5_begin_5 : decode cX5_begin 5 = .ok (.if_icmp .ge 18, 3) := by decide +kernel
theorem dX5_begin_8 : decode cX5_begin 8 = .ok (.aload_n 0, 1) := by decide +kernel
theorem dX5_begin_9 : decode cX5_begin 9 = .ok (.getfield 38, 3) := by decide +kernel
theorem dX5_begin_12 : decode cX5_begin 12 = .ok (.iload_n 1, 1) := by decide +kernel
theorem dX5_begin_13 : decode cX5_begin 13 = .ok (.iload_n 3, 1) := by decide +kernel
theorem dX5_begin_14 : decode cX5_begin 14 = .ok (.iadd, 1) := by decide +kernel
theorem dX5_begin_15 : decode cX5_begin 15 = .ok (.iconst 0, 1) := by decide +kernel
theorem dX5_begin_16 : decode cX5_begin 16 = .ok (.iastore, 1) := by decide +kernel
theorem dX5_begin_17 : decode cX5_begin 17 = .ok (.iinc 3 1, 3) := by decide +kernel
theorem dX5_begin_20 : decode cX5_begin 20 = .ok (.goto (-18), 3) := by decide +kernel
theorem dX5_begin_23 : decode cX5_begin 23 = .ok (.aload_n 0, 1) := by decide +kernel
theorem dX5_begin_24 : decode cX5_begin 24 = .ok (.getfield 38, 3) := by decide +kernel
theorem dX5_begin_27 : decode cX5_begin 27 = .ok (.iload_n 1, 1) := by decide +kernel
theorem dX5_begin_28 : decode cX5_begin 28 = .ok (.iconst 2, 1) := by decide +kernel
theorem dX5_begin_29 : decode cX5_begin 29 = .ok (.iadd, 1) := by decide +kernel
theorem dX5_begin_30 : decode cX5_begin 30 = .ok (.iload_n 2, 1) := by decide +kernel
theorem dX5_begin_31 : decode cX5_begin 31 = .ok (.iastore, 1) := by decide +kernel
theorem dX5_begin_32 : decode cX5_begin 32 = .ok (.return_, 1) := by decide +kernel
theorem dX5_hourOf_0 : decode cX5_hourOf 0 = .ok (.aload_n 0, 1) := by decide +kernel
theorem dX5_hourOf_1 : decode cX5_hourOf 1 = .ok (.getfield 38, 3) := by decide +kernel
theorem dX5_hourOf_4 : decode cX5_hourOf 4 = .ok (.iload_n 1, 1) := by decide +kernel
theorem dX5_hourOf_5 : decode cX5_hourOf 5 = .ok (.iconst 1, 1) := by decide +kernel
theorem dX5_hourOf_6 : decode cX5_hourOf 6 = .ok (.iadd, 1) := by decide +kernel
theorem dX5_hourOf_7 : decode cX5_hourOf 7 = .ok (.iaload, 1) := by decide +kernel
theorem dX5_hourOf_8 : decode cX5_hourOf 8 = .ok (.aload_n 0, 1) := by decide +kernel
theorem dX5_hourOf_9 : decode cX5_hourOf 9 = .ok (.getfield 13, 3) := by decide +kernel
theorem dX5_hourOf_12 : decode cX5_hourOf 12 = .ok (.iconst 0, 1) := by decide +kernel
theorem dX5_hourOf_13 : decode cX5_hourOf 13 = .ok (.iaload, 1) := by decide +kernel
theorem dX5_hourOf_14 : decode cX5_hourOf 14 = .ok (.idiv, 1) := by decide +kernel
theorem dX5_hourOf_15 : decode cX5_hourOf 15 = .ok (.ireturn, 1) := by decide +kernel
theorem dX5_isSitting_0 : decode cX5_isSitting 0 = .ok (.aload_n 0, 1) := by decide +kernel
theorem dX5_isSitting_1 : decode cX5_isSitting 1 = .ok (.getfield 38, 3) := by decide +kernel
theorem dX5_isSitting_4 : decode cX5_isSitting 4 = .ok (.iload_n 1, 1) := by decide +kernel
theorem dX5_isSitting_5 : decode cX5_isSitting 5 = .ok (.iconst 2, 1) := by decide +kernel
theorem dX5_isSitting_6 : decode cX5_isSitting 6 = .ok (.iadd, 1) := by decide +kernel
theorem dX5_isSitting_7 : decode cX5_isSitting 7 = .ok (.iaload, 1) := by decide +kernel
theorem dX5_isSitting_8 : decode cX5_isSitting 8 = .ok (.iload_n 2, 1) := by decide +kernel
theorem dX5_isSitting_9 : decode cX5_isSitting 9 = .ok (.ishr, 1) := by decide +kernel
theorem dX5_isSitting_10 : decode cX5_isSitting 10 = .ok (.iconst 1, 1) := by decide +kernel
theorem dX5_isSitting_11 : decode cX5_isSitting 11 = .ok (.iand, 1) := by decide +kernel
theorem dX5_isSitting_12 : decode cX5_isSitting 12 = .ok (.iconst 1, 1) := by decide +kernel
theorem dX5_isSitting_13 : decode cX5_isSitting 13 = .ok (.if_icmp .ne 7, 3) := by decide +kernel
theorem dX5_isSitting_16 : decode cX5_isSitting 16 = .ok (.iconst 1, 1) := by decide +kernel
theorem dX5_isSitting_17 : decode cX5_isSitting 17 = .ok (.goto 4, 3) := by decide +kernel
theorem dX5_isSitting_20 : decode cX5_isSitting 20 = .ok (.iconst 0, 1) := by decide +kernel
theorem dX5_isSitting_21 : decode cX5_isSitting 21 = .ok (.ireturn, 1) := by decide +kernel
set_option maxRecDepth 20000 in
theorem ggX5_goOne_X5_isSitting : GoodIn wsX5_goOne wsX5_isSitting := goodIn_r _ [8, 1, 9, 10, 11, 12, 13, 14, 15, 16, 17, 18, 19, 20, 21, 22, 23, 24, 25, 26, 27, 28, 29, 30, 31] (by decide +kernel) (by decide +kernel)
set_option maxRecDepth 20000 in
theorem gX5_goOne_X5_isSitting : GoodIn wsX5_goOne (wsV RX5 116 RX5 yX5_isSitting wsX5_isSitting) := goodIn_app (goodIn_of _ (by decide +kernel)) ggX5_goOne_X5_isSitting
theorem dX5_goOne_0 : decode cX5_goOne 0 = .ok (.aload_n 0, 1) := by decide +kernel
theorem dX5_goOne_1 : decode cX5_goOne 1 = .ok (.getfield 38, 3) := by decide +kernel
theorem dX5_goOne_4 : decode cX5_goOne 4 = .ok (.iload_n 1, 1) := by decide +kernel
theorem dX5_goOne_5 : decode cX5_goOne 5 = .ok (.iconst 3, 1) := by decide +kernel
theorem dX5_goOne_6 : decode cX5_goOne 6 = .ok (.iadd, 1) := by decide +kernel
theorem dX5_goOne_7 : decode cX5_goOne 7 = .ok (.iload_n 2, 1) := by decide +kernel
theorem dX5_goOne_8 : decode cX5_goOne 8 = .ok (.iadd, 1) := by decide +kernel
theorem dX5_goOne_9 : decode cX5_goOne 9 = .ok (.iaload, 1) := by decide +kernel
theorem dX5_goOne_10 : decode cX5_goOne 10 = .ok (.istore 4, 2) := by decide +kernel
theorem dX5_goOne_12 : decode cX5_goOne 12 = .ok (.aload_n 0, 1) := by decide +kernel
theorem dX5_goOne_13 : decode cX5_goOne 13 = .ok (.iload_n 1, 1) := by decide +kernel
theorem dX5_goOne_14 : decode cX5_goOne 14 = .ok (.iload_n 2, 1) := by decide +kernel
theorem dX5_goOne_15 : decode cX5_goOne 15 = .ok (.invokevirtual 116, 3) := by decide +kernel
theorem dX5_goOne_18 : decode cX5_goOne 18 = .ok (.ifCond .ne 14, 3) := by decide +kernel
theorem dX5_goOne_21 : decode cX5_goOne 21 = .ok (.iload 4, 2) := by decide +kernel
theorem dX5_goOne_23 : decode cX5_goOne 23 = .ok (.aload_n 0, 1) := by decide +kernel
theorem dX5_goOne_24 : decode cX5_goOne 24 = .ok (.getfield 20, 3) := by decide +kernel
theorem dX5_goOne_27 : decode cX5_goOne 27 = .ok (.iload_n 2, 1) := by decide +kernel
theorem dX5_goOne_28 : decode cX5_goOne 28 = .ok (.iaload, 1) := by decide +kernel
theorem dX5_goOne_29 : decode cX5_goOne 29 = .ok (.if_icmp .ne 5, 3) := by decide +kernel
theorem dX5_goOne_32 : decode cX5_goOne 32 = .ok (.iconst 0, 1) := by decide +kernel
theorem dX5_goOne_33 : decode cX5_goOne 33 = .ok (.ireturn, 1) := by decide +kernel
theorem dX5_goOne_34 : decode cX5_goOne 34 = .ok (.bipush 16, 2) := by decide +kernel
theorem dX5_goOne_36 : decode cX5_goOne 36 = .ok (.iload_n 2, 1) := by decide +kernel
theorem dX5_goOne_37 : decode cX5_goOne 37 = .ok (.imul, 1) := by decide +kernel
theorem dX5_goOne_38 : decode cX5_goOne 38 = .ok (.iconst 4, 1) := by decide +kernel
theorem dX5_goOne_39 : decode cX5_goOne 39 = .ok (.iload 4, 2) := by decide +kernel
theorem dX5_goOne_41 : decode cX5_goOne 41 = .ok (.imul, 1) := by decide +kernel
theorem dX5_goOne_42 : decode cX5_goOne 42 = .ok (.iadd, 1) := by decide +kernel
theorem dX5_goOne_43 : decode cX5_goOne 43 = .ok (.istore 5, 2) := by decide +kernel
theorem dX5_goOne_45 : decode cX5_goOne 45 = .ok (.aload_n 0, 1) := by decide +kernel
theorem dX5_goOne_46 : decode cX5_goOne 46 = .ok (.getfield 38, 3) := by decide +kernel
theorem dX5_goOne_49 : decode cX5_goOne 49 = .ok (.iload_n 1, 1) := by decide +kernel
theorem dX5_goOne_50 : decode cX5_goOne 50 = .ok (.bipush 9, 2) := by decide +kernel
theorem dX5_goOne_52 : decode cX5_goOne 52 = .ok (.iadd, 1) := by decide +kernel
theorem dX5_goOne_53 : decode cX5_goOne 53 = .ok (.iload_n 2, 1) := by decide +kernel
theorem dX5_goOne_54 : decode cX5_goOne 54 = .ok (.iadd, 1) := by decide +kernel
theorem dX5_goOne_55 : decode cX5_goOne 55 = .ok (.iaload, 1) := by decide +kernel
theorem dX5_goOne_56 : decode cX5_goOne 56 = .ok (.ifCond .ne 71, 3) := by decide +kernel
theorem dX5_goOne_59 : decode cX5_goOne 59 = .ok (.aload_n 0, 1) := by decide +kernel
theorem dX5_goOne_60 : decode cX5_goOne 60 = .ok (.getfield 23, 3) := by decide +kernel
theorem dX5_goOne_63 : decode cX5_goOne 63 = .ok (.iload 5, 2) := by decide +kernel
theorem dX5_goOne_65 : decode cX5_goOne 65 = .ok (.iaload, 1) := by decide +kernel
theorem dX5_goOne_66 : decode cX5_goOne 66 = .ok (.ifCond .ne 14, 3) := by decide +kernel
theorem dX5_goOne_69 : decode cX5_goOne 69 = .ok (.aload_n 0, 1) := by decide +kernel
theorem dX5_goOne_70 : decode cX5_goOne 70 = .ok (.getfield 38, 3) := by decide +kernel
theorem dX5_goOne_73 : decode cX5_goOne 73 = .ok (.iload_n 1, 1) := by decide +kernel
theorem dX5_goOne_74 : decode cX5_goOne 74 = .ok (.iconst 0, 1) := by decide +kernel
theorem dX5_goOne_75 : decode cX5_goOne 75 = .ok (.iadd, 1) := by decide +kernel
theorem dX5_goOne_76 : decode cX5_goOne 76 = .ok (.iaload, 1) := by decide +kernel
theorem dX5_goOne_77 : decode cX5_goOne 77 = .ok (.goto 4, 3) := by decide +kernel
theorem dX5_goOne_80 : decode cX5_goOne 80 = .ok (.iload_n 3, 1) := by decide +kernel
theorem dX5_goOne_81 : decode cX5_goOne 81 = .ok (.aload_n 0, 1) := by decide +kernel
theorem dX5_goOne_82 : decode cX5_goOne 82 = .ok (.getfield 23, 3) := by decide +kernel
theorem dX5_goOne_85 : decode cX5_goOne 85 = .ok (.iload 5, 2) := by decide +kernel
theorem dX5_goOne_87 : decode cX5_goOne 87 = .ok (.iconst 1, 1) := by decide +kernel
theorem dX5_goOne_88 : decode cX5_goOne 88 = .ok (.iadd, 1) := by decide +kernel
theorem dX5_goOne_89 : decode cX5_goOne 89 = .ok (.iaload, 1) := by decide +kernel
theorem dX5_goOne_90 : decode cX5_goOne 90 = .ok (.if_icmp .ge 5, 3) := by decide +kernel
theorem dX5_goOne_93 : decode cX5_goOne 93 = .ok (.iconst 0, 1) := by decide +kernel
theorem dX5_goOne_94 : decode cX5_goOne 94 = .ok (.ireturn, 1) := by decide +kernel
theorem dX5_goOne_95 : decode cX5_goOne 95 = .ok (.aload_n 0, 1) := by decide +kernel
theorem dX5_goOne_96 : decode cX5_goOne 96 = .ok (.getfield 38, 3) := by decide +kernel
theorem dX5_goOne_99 : decode cX5_goOne 99 = .ok (.iload_n 1, 1) := by decide +kernel
theorem dX5_goOne_100 : decode cX5_goOne 100 = .ok (.bipush 9, 2) := by decide +kernel
theorem dX5_goOne_102 : decode cX5_goOne 102 = .ok (.iadd, 1) := by decide +kernel
theorem dX5_goOne_103 : decode cX5_goOne 103 = .ok (.iload_n 2, 1) := by decide +kernel
theorem dX5_goOne_104 : decode cX5_goOne 104 = .ok (.iadd, 1) := by decide +kernel
theorem dX5_goOne_105 : decode cX5_goOne 105 = .ok (.iconst 1, 1) := by decide +kernel
theorem dX5_goOne_106 : decode cX5_goOne 106 = .ok (.iastore, 1) := by decide +kernel
theorem dX5_goOne_107 : decode cX5_goOne 107 = .ok (.aload_n 0, 1) := by decide +kernel
theorem dX5_goOne_108 : decode cX5_goOne 108 = .ok (.getfield 38, 3) := by decide +kernel
theorem dX5_goOne_111 : decode cX5_goOne 111 = .ok (.iload_n 1, 1) := by decide +kernel
theorem dX5_goOne_112 : decode cX5_goOne 112 = .ok (.bipush 15, 2) := by decide +kernel
theorem dX5_goOne_114 : decode cX5_goOne 114 = .ok (.iadd, 1) := by decide +kernel
theorem dX5_goOne_115 : decode cX5_goOne 115 = .ok (.iload_n 2, 1) := by decide +kernel
theorem dX5_goOne_116 : decode cX5_goOne 116 = .ok (.iadd, 1) := by decide +kernel
theorem dX5_goOne_117 : decode cX5_goOne 117 = .ok (.aload_n 0, 1) := by decide +kernel
theorem dX5_goOne_118 : decode cX5_goOne 118 = .ok (.getfield 23, 3) := by decide +kernel
theorem dX5_goOne_121 : decode cX5_goOne 121 = .ok (.iload 5, 2) := by decide +kernel
theorem dX5_goOne_123 : decode cX5_goOne 123 = .ok (.iconst 2, 1) := by decide +kernel
theorem dX5_goOne_124 : decode cX5_goOne 124 = .ok (.iadd, 1) := by decide +kernel
theorem dX5_goOne_125 : decode cX5_goOne 125 = .ok (.iaload, 1) := by decide +kernel
theorem dX5_goOne_126 : decode cX5_goOne 126 = .ok (.iastore, 1) := by decide +kernel
theorem dX5_goOne_127 : decode cX5_goOne 127 = .ok (.aload_n 0, 1) := by decide +kernel
theorem dX5_goOne_128 : decode cX5_goOne 128 = .ok (.getfield 38, 3) := by decide +kernel
theorem dX5_goOne_131 : decode cX5_goOne 131 = .ok (.iload_n 1, 1) := by decide +kernel
theorem dX5_goOne_132 : decode cX5_goOne 132 = .ok (.bipush 15, 2) := by decide +kernel
theorem dX5_goOne_134 : decode cX5_goOne 134 = .ok (.iadd, 1) := by decide +kernel
theorem dX5_goOne_135 : decode cX5_goOne 135 = .ok (.iload_n 2, 1) := by decide +kernel
theorem dX5_goOne_136 : decode cX5_goOne 136 = .ok (.iadd, 1) := by decide +kernel
theorem dX5_goOne_137 : decode cX5_goOne 137 = .ok (.iaload, 1) := by decide +kernel
theorem dX5_goOne_138 : decode cX5_goOne 138 = .ok (.aload_n 0, 1) := by decide +kernel
theorem dX5_goOne_139 : decode cX5_goOne 139 = .ok (.getfield 23, 3) := by decide +kernel
theorem dX5_goOne_142 : decode cX5_goOne 142 = .ok (.iload 5, 2) := by decide +kernel
theorem dX5_goOne_144 : decode cX5_goOne 144 = .ok (.iconst 3, 1) := by decide +kernel
theorem dX5_goOne_145 : decode cX5_goOne 145 = .ok (.iadd, 1) := by decide +kernel
theorem dX5_goOne_146 : decode cX5_goOne 146 = .ok (.iaload, 1) := by decide +kernel
theorem dX5_goOne_147 : decode cX5_goOne 147 = .ok (.if_icmp .ge 17, 3) := by decide +kernel
theorem dX5_goOne_150 : decode cX5_goOne 150 = .ok (.aload_n 0, 1) := by decide +kernel
theorem dX5_goOne_151 : decode cX5_goOne 151 = .ok (.getfield 38, 3) := by decide +kernel
theorem dX5_goOne_154 : decode cX5_goOne 154 = .ok (.iload_n 1, 1) := by decide +kernel
theorem dX5_goOne_155 : decode cX5_goOne 155 = .ok (.bipush 15, 2) := by decide +kernel
theorem dX5_goOne_157 : decode cX5_goOne 157 = .ok (.iadd, 1) := by decide +kernel
theorem dX5_goOne_158 : decode cX5_goOne 158 = .ok (.iload_n 2, 1) := by decide +kernel
theorem dX5_goOne_159 : decode cX5_goOne 159 = .ok (.iadd, 1) := by decide +kernel
theorem dX5_goOne_160 : decode cX5_goOne 160 = .ok (.iaload, 1) := by decide +kernel
theorem dX5_goOne_161 : decode cX5_goOne 161 = .ok (.goto 12, 3) := by decide +kernel
theorem dX5_goOne_164 : decode cX5_goOne 164 = .ok (.aload_n 0, 1) := by decide +kernel
theorem dX5_goOne_165 : decode cX5_goOne 165 = .ok (.getfield 23, 3) := by decide +kernel
theorem dX5_goOne_168 : decode cX5_goOne 168 = .ok (.iload 5, 2) := by decide +kernel
theorem dX5_goOne_170 : decode cX5_goOne 170 = .ok (.iconst 3, 1) := by decide +kernel
theorem dX5_goOne_171 : decode cX5_goOne 171 = .ok (.iadd, 1) := by decide +kernel
theorem dX5_goOne_172 : decode cX5_goOne 172 = .ok (.iaload, 1) := by decide +kernel
theorem dX5_goOne_173 : decode cX5_goOne 173 = .ok (.istore 6, 2) := by decide +kernel
theorem dX5_goOne_175 : decode cX5_goOne 175 = .ok (.aload_n 0, 1) := by decide +kernel
theorem dX5_goOne_176 : decode cX5_goOne 176 = .ok (.getfield 38, 3) := by decide +kernel
theorem dX5_goOne_179 : decode cX5_goOne 179 = .ok (.iload_n 1, 1) := by decide +kernel
theorem dX5_goOne_180 : decode cX5_goOne 180 = .ok (.bipush 15, 2) := by decide +kernel
theorem dX5_goOne_182 : decode cX5_goOne 182 = .ok (.iadd, 1) := by decide +kernel
theorem dX5_goOne_183 : decode cX5_goOne 183 = .ok (.iload_n 2, 1) := by decide +kernel
theorem dX5_goOne_184 : decode cX5_goOne 184 = .ok (.iadd, 1) := by decide +kernel
theorem dX5_goOne_185 : decode cX5_goOne 185 = .ok (.dup2, 1) := by decide +kernel
theorem dX5_goOne_186 : decode cX5_goOne 186 = .ok (.iaload, 1) := by decide +kernel
theorem dX5_goOne_187 : decode cX5_goOne 187 = .ok (.iload 6, 2) := by decide +kernel
theorem dX5_goOne_189 : decode cX5_goOne 189 = .ok (.isub, 1) := by decide +kernel
theorem dX5_goOne_190 : decode cX5_goOne 190 = .ok (.iastore, 1) := by decide +kernel
theorem dX5_goOne_191 : decode cX5_goOne 191 = .ok (.aload_n 0, 1) := by decide +kernel
theorem dX5_goOne_192 : decode cX5_goOne 192 = .ok (.getfield 38, 3) := by decide +kernel
theorem dX5_goOne_195 : decode cX5_goOne 195 = .ok (.iload_n 1, 1) := by decide +kernel
theorem dX5_goOne_196 : decode cX5_goOne 196 = .ok (.bipush 21, 2) := by decide +kernel
theorem dX5_goOne_198 : decode cX5_goOne 198 = .ok (.iadd, 1) := by decide +kernel
theorem dX5_goOne_199 : decode cX5_goOne 199 = .ok (.iload_n 2, 1) := by decide +kernel
theorem dX5_goOne_200 : decode cX5_goOne 200 = .ok (.iadd, 1) := by decide +kernel
theorem dX5_goOne_201 : decode cX5_goOne 201 = .ok (.dup2, 1) := by decide +kernel
theorem dX5_goOne_202 : decode cX5_goOne 202 = .ok (.iaload, 1) := by decide +kernel
theorem dX5_goOne_203 : decode cX5_goOne 203 = .ok (.iload 6, 2) := by decide +kernel
theorem dX5_goOne_205 : decode cX5_goOne 205 = .ok (.iadd, 1) := by decide +kernel
theorem dX5_goOne_206 : decode cX5_goOne 206 = .ok (.iastore, 1) := by decide +kernel
theorem dX5_goOne_207 : decode cX5_goOne 207 = .ok (.aload_n 0, 1) := by decide +kernel
theorem dX5_goOne_208 : decode cX5_goOne 208 = .ok (.getfield 38, 3) := by decide +kernel
theorem dX5_goOne_211 : decode cX5_goOne 211 = .ok (.iload_n 1, 1) := by decide +kernel
theorem dX5_goOne_212 : decode cX5_goOne 212 = .ok (.bipush 15, 2) := by decide +kernel
theorem dX5_goOne_214 : decode cX5_goOne 214 = .ok (.iadd, 1) := by decide +kernel
theorem dX5_goOne_215 : decode cX5_goOne 215 = .ok (.iload_n 2, 1) := by decide +kernel
theorem dX5_goOne_216 : decode cX5_goOne 216 = .ok (.iadd, 1) := by decide +kernel
theorem dX5_goOne_217 : decode cX5_goOne 217 = .ok (.iaload, 1) := by decide +kernel
theorem dX5_goOne_218 : decode cX5_goOne 218 = .ok (.ifCond .ne 29, 3) := by decide +kernel
theorem dX5_goOne_221 : decode cX5_goOne 221 = .ok (.aload_n 0, 1) := by decide +kernel
theorem dX5_goOne_222 : decode cX5_goOne 222 = .ok (.getfield 38, 3) := by decide +kernel
theorem dX5_goOne_225 : decode cX5_goOne 225 = .ok (.iload_n 1, 1) := by decide +kernel
theorem dX5_goOne_226 : decode cX5_goOne 226 = .ok (.bipush 9, 2) := by decide +kernel
theorem dX5_goOne_228 : decode cX5_goOne 228 = .ok (.iadd, 1) := by decide +kernel
theorem dX5_goOne_229 : decode cX5_goOne 229 = .ok (.iload_n 2, 1) := by decide +kernel
theorem dX5_goOne_230 : decode cX5_goOne 230 = .ok (.iadd, 1) := by decide +kernel
theorem dX5_goOne_231 : decode cX5_goOne 231 = .ok (.iconst 0, 1) := by decide +kernel
theorem dX5_goOne_232 : decode cX5_goOne 232 = .ok (.iastore, 1) := by decide +kernel
theorem dX5_goOne_233 : decode cX5_goOne 233 = .ok (.aload_n 0, 1) := by decide +kernel
theorem dX5_goOne_234 : decode cX5_goOne 234 = .ok (.getfield 38, 3) := by decide +kernel
theorem dX5_goOne_237 : decode cX5_goOne 237 = .ok (.iload_n 1, 1) := by decide +kernel
theorem dX5_goOne_238 : decode cX5_goOne 238 = .ok (.iconst 3, 1) := by decide +kernel
theorem dX5_goOne_239 : decode cX5_goOne 239 = .ok (.iadd, 1) := by decide +kernel
theorem dX5_goOne_240 : decode cX5_goOne 240 = .ok (.iload_n 2, 1) := by decide +kernel
theorem dX5_goOne_241 : decode cX5_goOne 241 = .ok (.iadd, 1) := by decide +kernel
theorem dX5_goOne_242 : decode cX5_goOne 242 = .ok (.dup2, 1) := by decide +kernel
theorem dX5_goOne_243 : decode cX5_goOne 243 = .ok (.iaload, 1) := by decide +kernel
theorem dX5_goOne_244 : decode cX5_goOne 244 = .ok (.iconst 1, 1) := by decide +kernel
theorem dX5_goOne_245 : decode cX5_goOne 245 = .ok (.iadd, 1) := by decide +kernel
theorem dX5_goOne_246 : decode cX5_goOne 246 = .ok (.iastore, 1) := by decide +kernel
theorem dX5_goOne_247 : decode cX5_goOne 247 = .ok (.iload 6, 2) := by decide +kernel
theorem dX5_goOne_249 : decode cX5_goOne 249 = .ok (.ireturn, 1) := by decide +kernel
set_option maxRecDepth 20000 in
theorem ggX5_goMinute_X5_hourOf : GoodIn wsX5_goMinute wsX5_hourOf := goodIn_r _ [9, 1, 10, 24, 25, 26, 27, 28, 29, 30, 31, 32, 33, 34, 35, 36, 37, 38, 39, 40, 41, 42, 43, 44, 45, 46] (by decide +kernel) (by decide +kernel)
set_option maxRecDepth 20000 in
theorem gX5_goMinute_X5_hourOf : GoodIn wsX5_goMinute (wsV RX5 120 RX5 yX5_hourOf wsX5_hourOf) := goodIn_app (goodIn_of _ (by decide +kernel)) ggX5_goMinute_X5_hourOf
set_option maxRecDepth 20000 in
theorem ggX5_goMinute_X5_goOne : GoodIn wsX5_goMinute wsX5_goOne := goodIn_r _ [14, 1, 15, 16, 17, 18, 19, 8, 20, 24, 25, 26, 27, 28, 29, 30, 31, 32, 33, 34, 35, 36, 37, 38, 39, 40, 41, 42, 43, 44, 45, 46] (by decide +kernel) (by decide +kernel)
set_option maxRecDepth 20000 in
theorem gX5_goMinute_X5_goOne : GoodIn wsX5_goMinute (wsV RX5 123 RX5 yX5_goOne wsX5_goOne) := goodIn_app (goodIn_of _ (by decide +kernel)) ggX5_goMinute_X5_goOne
set_option maxRecDepth 20000 in
theorem ggX5_goMinute_X5_in : GoodIn wsX5_goMinute wsX5_in := goodIn_r _ [23] (by decide +kernel) (by decide +kernel)
set_option maxRecDepth 20000 in
theorem gX5_goMinute_X5_in : GoodIn wsX5_goMinute (va_wsS RX5 54 yX5_in wsX5_in) := goodIn_app (goodIn_of _ (by decide +kernel)) ggX5_goMinute_X5_in
theorem dX5_goMinute_0 : decode cX5_goMinute 0 = .ok (.aload_n 0, 1) := by decide +kernel
theorem dX5_goMinute_1 : decode cX5_goMinute 1 = .ok (.iload_n 1, 1) := by decide +kernel
theorem dX5_goMinute_2 : decode cX5_goMinute 2 = .ok (.invokevirtual 120, 3) := by decide +kernel
theorem dX5_goMinute_5 : decode cX5_goMinute 5 = .ok (.istore_n 2, 1) := by decide +kernel
theorem dX5_goMinute_6 : decode cX5_goMinute 6 = .ok (.aload_n 0, 1) := by decide +kernel
theorem dX5_goMinute_7 : decode cX5_goMinute 7 = .ok (.getfield 38, 3) := by decide +kernel
theorem dX5_goMinute_10 : decode cX5_goMinute 10 = .ok (.iload_n 1, 1) := by decide +kernel
theorem dX5_goMinute_11 : decode cX5_goMinute 11 = .ok (.iconst 0, 1) := by decide +kernel
theorem dX5_goMinute_12 : decode cX5_goMinute 12 = .ok (.iadd, 1) := by decide +kernel
theorem dX5_goMinute_13 : decode cX5_goMinute 13 = .ok (.iaload, 1) := by decide +kernel
theorem dX5_goMinute_14 : decode cX5_goMinute 14 = .ok (.istore_n 3, 1) := by decide +kernel
theorem dX5_goMinute_15 : decode cX5_goMinute 15 = .ok (.iconst 0, 1) := by decide +kernel
theorem dX5_goMinute_16 : decode cX5_goMinute 16 = .ok (.istore 4, 2) := by decide +kernel
theorem dX5_goMinute_18 : decode cX5_goMinute 18 = .ok (.iconst 0, 1) := by decide +kernel
theorem dX5_goMinute_19 : decode cX5_goMinute 19 = .ok (.istore 5, 2) := by decide +kernel
theorem dX5_goMinute_21 : decode cX5_goMinute 21 = .ok (.iload 5, 2) := by decide +kernel
theorem dX5_goMinute_23 : decode cX5_goMinute 23 = .ok (.aload_n 0, 1) := by decide +kernel
theorem dX5_goMinute_24 : decode cX5_goMinute 24 = .ok (.getfield 17, 3) := by decide +kernel
theorem dX5_goMinute_27 : decode cX5_goMinute 27 = .ok (.iconst 0, 1) := by decide +kernel
theorem dX5_goMinute_28 : decode cX5_goMinute 28 = .ok (.iaload, 1) := by decide +kernel
theorem dX5_goMinute_29 : decode cX5_goMinute 29 = .ok (.if_icmp .ge 22, 3) := by decide +kernel
theorem dX5_goMinute_32 : decode cX5_goMinute 32 = .ok (.iload 4, 2) := by decide +kernel
theorem dX5_goMinute_34 : decode cX5_goMinute 34 = .ok (.aload_n 0, 1) := by decide +kernel
theorem dX5_goMinute_35 : decode cX5_goMinute 35 = .ok (.iload_n 1, 1) := by decide +kernel
theorem dX5_goMinute_36 : decode cX5_goMinute 36 = .ok (.iload 5, 2) := by decide +kernel
theorem dX5_goMinute_38 : decode cX5_goMinute 38 = .ok (.iload_n 2, 1) := by decide +kernel
theorem dX5_goMinute_39 : decode cX5_goMinute 39 = .ok (.invokevirtual 123, 3) := by decide +kernel
theorem dX5_goMinute_42 : decode cX5_goMinute 42 = .ok (.iadd, 1) := by decide +kernel
theorem dX5_goMinute_43 : decode cX5_goMinute 43 = .ok (.istore 4, 2) := by decide +kernel
theorem dX5_goMinute_45 : decode cX5_goMinute 45 = .ok (.iinc 5 1, 3) := by decide +kernel
theorem dX5_goMinute_48 : decode cX5_goMinute 48 = .ok (.goto (-27), 3) := by decide +kernel
theorem dX5_goMinute_51 : decode cX5_goMinute 51 = .ok (.iconst 0, 1) := by decide +kernel
theorem dX5_goMinute_52 : decode cX5_goMinute 52 = .ok (.istore 5, 2) := by decide +kernel
theorem dX5_goMinute_54 : decode cX5_goMinute 54 = .ok (.iload 5, 2) := by decide +kernel
theorem dX5_goMinute_56 : decode cX5_goMinute 56 = .ok (.aload_n 0, 1) := by decide +kernel
theorem dX5_goMinute_57 : decode cX5_goMinute 57 = .ok (.getfield 26, 3) := by decide +kernel
theorem dX5_goMinute_60 : decode cX5_goMinute 60 = .ok (.iconst 0, 1) := by decide +kernel
theorem dX5_goMinute_61 : decode cX5_goMinute 61 = .ok (.iaload, 1) := by decide +kernel
theorem dX5_goMinute_62 : decode cX5_goMinute 62 = .ok (.if_icmp .ge 60, 3) := by decide +kernel
theorem dX5_goMinute_65 : decode cX5_goMinute 65 = .ok (.iload 4, 2) := by decide +kernel
theorem dX5_goMinute_67 : decode cX5_goMinute 67 = .ok (.iload_n 3, 1) := by decide +kernel
theorem dX5_goMinute_68 : decode cX5_goMinute 68 = .ok (.aload_n 0, 1) := by decide +kernel
theorem dX5_goMinute_69 : decode cX5_goMinute 69 = .ok (.getfield 29, 3) := by decide +kernel
theorem dX5_goMinute_72 : decode cX5_goMinute 72 = .ok (.iconst 3, 1) := by decide +kernel
theorem dX5_goMinute_73 : decode cX5_goMinute 73 = .ok (.iload 5, 2) := by decide +kernel
theorem dX5_goMinute_75 : decode cX5_goMinute 75 = .ok (.imul, 1) := by decide +kernel
theorem dX5_goMinute_76 : decode cX5_goMinute 76 = .ok (.iaload, 1) := by decide +kernel
theorem dX5_goMinute_77 : decode cX5_goMinute 77 = .ok (.isub, 1) := by decide +kernel
theorem dX5_goMinute_78 : decode cX5_goMinute 78 = .ok (.iconst 0, 1) := by decide +kernel
theorem dX5_goMinute_79 : decode cX5_goMinute 79 = .ok (.aload_n 0, 1) := by decide +kernel
theorem dX5_goMinute_80 : decode cX5_goMinute 80 = .ok (.getfield 29, 3) := by decide +kernel
theorem dX5_goMinute_83 : decode cX5_goMinute 83 = .ok (.iconst 3, 1) := by decide +kernel
theorem dX5_goMinute_84 : decode cX5_goMinute 84 = .ok (.iload 5, 2) := by decide +kernel
theorem dX5_goMinute_86 : decode cX5_goMinute 86 = .ok (.imul, 1) := by decide +kernel
theorem dX5_goMinute_87 : decode cX5_goMinute 87 = .ok (.iconst 1, 1) := by decide +kernel
theorem dX5_goMinute_88 : decode cX5_goMinute 88 = .ok (.iadd, 1) := by decide +kernel
theorem dX5_goMinute_89 : decode cX5_goMinute 89 = .ok (.iaload, 1) := by decide +kernel
theorem dX5_goMinute_90 : decode cX5_goMinute 90 = .ok (.iconst 1, 1) := by decide +kernel
theorem dX5_goMinute_91 : decode cX5_goMinute 91 = .ok (.isub, 1) := by decide +kernel
theorem dX5_goMinute_92 : decode cX5_goMinute 92 = .ok (.invokestatic 54, 3) := by decide +kernel
theorem dX5_goMinute_95 : decode cX5_goMinute 95 = .ok (.ifCond .eq 17, 3) := by decide +kernel
theorem dX5_goMinute_98 : decode cX5_goMinute 98 = .ok (.aload_n 0, 1) := by decide +kernel
theorem dX5_goMinute_99 : decode cX5_goMinute 99 = .ok (.getfield 29, 3) := by decide +kernel
theorem dX5_goMinute_102 : decode cX5_goMinute 102 = .ok (.iconst 3, 1) := by decide +kernel
theorem dX5_goMinute_103 : decode cX5_goMinute 103 = .ok (.iload 5, 2) := by decide +kernel
theorem dX5_goMinute_105 : decode cX5_goMinute 105 = .ok (.imul, 1) := by decide +kernel
theorem dX5_goMinute_106 : decode cX5_goMinute 106 = .ok (.iconst 2, 1) := by decide +kernel
theorem dX5_goMinute_107 : decode cX5_goMinute 107 = .ok (.iadd, 1) := by decide +kernel
theorem dX5_goMinute_108 : decode cX5_goMinute 108 = .ok (.iaload, 1) := by decide +kernel
theorem dX5_goMinute_109 : decode cX5_goMinute 109 = .ok (.goto 4, 3) := by decide +kernel
theorem dX5_goMinute_112 : decode cX5_goMinute 112 = .ok (.iconst 0, 1) := by decide +kernel
theorem dX5_goMinute_113 : decode cX5_goMinute 113 = .ok (.iadd, 1) := by decide +kernel
theorem dX5_goMinute_114 : decode cX5_goMinute 114 = .ok (.istore 4, 2) := by decide +kernel
theorem dX5_goMinute_116 : decode cX5_goMinute 116 = .ok (.iinc 5 1, 3) := by decide +kernel
theorem dX5_goMinute_119 : decode cX5_goMinute 119 = .ok (.goto (-65), 3) := by decide +kernel
theorem dX5_goMinute_122 : decode cX5_goMinute 122 = .ok (.aload_n 0, 1) := by decide +kernel
theorem dX5_goMinute_123 : decode cX5_goMinute 123 = .ok (.getfield 38, 3) := by decide +kernel
theorem dX5_goMinute_126 : decode cX5_goMinute 126 = .ok (.iload_n 1, 1) := by decide +kernel
theorem dX5_goMinute_127 : decode cX5_goMinute 127 = .ok (.iconst 1, 1) := by decide +kernel
theorem dX5_goMinute_128 : decode cX5_goMinute 128 = .ok (.iadd, 1) := by decide +kernel
theorem dX5_goMinute_129 : decode cX5_goMinute 129 = .ok (.dup2, 1) := by decide +kernel
theorem dX5_goMinute_130 : decode cX5_goMinute 130 = .ok (.iaload, 1) := by decide +kernel
theorem dX5_goMinute_131 : decode cX5_goMinute 131 = .ok (.iload 4, 2) := by decide +kernel
theorem dX5_goMinute_133 : decode cX5_goMinute 133 = .ok (.iadd, 1) := by decide +kernel
theorem dX5_goMinute_134 : decode cX5_goMinute 134 = .ok (.iastore, 1) := by decide +kernel
theorem dX5_goMinute_135 : decode cX5_goMinute 135 = .ok (.aload_n 0, 1) := by decide +kernel
theorem dX5_goMinute_136 : decode cX5_goMinute 136 = .ok (.getfield 38, 3) := by decide +kernel
theorem dX5_goMinute_139 : decode cX5_goMinute 139 = .ok (.iload_n 1, 1) := by decide +kernel
theorem dX5_goMinute_140 : decode cX5_goMinute 140 = .ok (.iconst 0, 1) := by decide +kernel
theorem dX5_goMinute_141 : decode cX5_goMinute 141 = .ok (.iadd, 1) := by decide +kernel
theorem dX5_goMinute_142 : decode cX5_goMinute 142 = .ok (.dup2, 1) := by decide +kernel
theorem dX5_goMinute_143 : decode cX5_goMinute 143 = .ok (.iaload, 1) := by decide +kernel
theorem dX5_goMinute_144 : decode cX5_goMinute 144 = .ok (.iconst 1, 1) := by decide +kernel
theorem dX5_goMinute_145 : decode cX5_goMinute 145 = .ok (.iadd, 1) := by decide +kernel
theorem dX5_goMinute_146 : decode cX5_goMinute 146 = .ok (.iastore, 1) := by decide +kernel
theorem dX5_goMinute_147 : decode cX5_goMinute 147 = .ok (.return_, 1) := by decide +kernel
set_option maxRecDepth 20000 in
theorem ggX5_go_X5_in : GoodIn wsX5_go wsX5_in := goodIn_r _ [5] (by decide +kernel) (by decide +kernel)
set_option maxRecDepth 20000 in
theorem gX5_go_X5_in : GoodIn wsX5_go (va_wsS RX5 54 yX5_in wsX5_in) := goodIn_app (goodIn_of _ (by decide +kernel)) ggX5_go_X5_in
set_option maxRecDepth 20000 in
theorem ggX5_go_X5_goMinute : GoodIn wsX5_go wsX5_goMinute := goodIn_r _ [9, 1, 10, 11, 12, 13, 14, 15, 4, 16, 17, 18, 19, 20, 21, 22, 23, 24, 25, 26, 27, 2, 3, 5, 28, 29, 30, 31, 32, 33, 34, 35, 36, 37, 38, 39, 40, 41, 42, 43, 44, 45, 46, 47, 48, 49, 50] (by decide +kernel) (by decide +kernel)
set_option maxRecDepth 20000 in
theorem gX5_go_X5_goMinute : GoodIn wsX5_go (wsV RX5 127 RX5 yX5_goMinute wsX5_goMinute) := goodIn_app (goodIn_of _ (by decide +kernel)) ggX5_go_X5_goMinute
theorem dX5_go_0 : decode cX5_go 0 = .ok (.iload_n 1, 1) := by decide +kernel
theorem dX5_go_1 : decode cX5_go 1 = .ok (.iconst 1, 1) := by decide +kernel
theorem dX5_go_2 : decode cX5_go 2 = .ok (.sipush 240, 3) := by decide +kernel
theorem dX5_go_5 : decode cX5_go 5 = .ok (.invokestatic 54, 3) := by decide +kernel
theorem dX5_go_8 : decode cX5_go 8 = .ok (.ifCond .ne 5, 3) := by decide +kernel
theorem dX5_go_11 : decode cX5_go 11 = .ok (.iconst (-1), 1) := by decide +kernel
theorem dX5_go_12 : decode cX5_go 12 = .ok (.ireturn, 1) := by decide +kernel
theorem dX5_go_13 : decode cX5_go 13 = .ok (.aload_n 0, 1) := by decide +kernel
theorem dX5_go_14 : decode cX5_go 14 = .ok (.getfield 38, 3) := by decide +kernel
theorem dX5_go_17 : decode cX5_go 17 = .ok (.iconst 0, 1) := by decide +kernel
theorem dX5_go_18 : decode cX5_go 18 = .ok (.iaload, 1) := by decide +kernel
theorem dX5_go_19 : decode cX5_go 19 = .ok (.sipush 240, 3) := by decide +kernel
theorem dX5_go_22 : decode cX5_go 22 = .ok (.if_icmp .ne 6, 3) := by decide +kernel
theorem dX5_go_25 : decode cX5_go 25 = .ok (.bipush (-2), 2) := by decide +kernel
theorem dX5_go_27 : decode cX5_go 27 = .ok (.ireturn, 1) := by decide +kernel
theorem dX5_go_28 : decode cX5_go 28 = .ok (.aload_n 0, 1) := by decide +kernel
theorem dX5_go_29 : decode cX5_go 29 = .ok (.getfield 38, 3) := by decide +kernel
theorem dX5_go_32 : decode cX5_go 32 = .ok (.iconst 1, 1) := by decide +kernel
theorem dX5_go_33 : decode cX5_go 33 = .ok (.iaload, 1) := by decide +kernel
theorem dX5_go_34 : decode cX5_go 34 = .ok (.istore_n 2, 1) := by decide +kernel
theorem dX5_go_35 : decode cX5_go 35 = .ok (.iconst 0, 1) := by decide +kernel
theorem dX5_go_36 : decode cX5_go 36 = .ok (.istore_n 3, 1) := by decide +kernel
theorem dX5_go_37 : decode cX5_go 37 = .ok (.iload_n 3, 1) := by decide +kernel
theorem dX5_go_38 : decode cX5_go 38 = .ok (.iload_n 1, 1) := by decide +kernel
theorem dX5_go_39 : decode cX5_go 39 = .ok (.if_icmp .ge 26, 3) := by decide +kernel
theorem dX5_go_42 : decode cX5_go 42 = .ok (.aload_n 0, 1) := by decide +kernel
theorem dX5_go_43 : decode cX5_go 43 = .ok (.getfield 38, 3) := by decide +kernel
theorem dX5_go_46 : decode cX5_go 46 = .ok (.iconst 0, 1) := by decide +kernel
theorem dX5_go_47 : decode cX5_go 47 = .ok (.iaload, 1) := by decide +kernel
theorem dX5_go_48 : decode cX5_go 48 = .ok (.sipush 240, 3) := by decide +kernel
theorem dX5_go_51 : decode cX5_go 51 = .ok (.if_icmp .ge 14, 3) := by decide +kernel
theorem dX5_go_54 : decode cX5_go 54 = .ok (.aload_n 0, 1) := by decide +kernel
theorem dX5_go_55 : decode cX5_go 55 = .ok (.iconst 0, 1) := by decide +kernel
theorem dX5_go_56 : decode cX5_go 56 = .ok (.invokevirtual 127, 3) := by decide +kernel
theorem dX5_go_59 : decode cX5_go 59 = .ok (.iinc 3 1, 3) := by decide +kernel
theorem dX5_go_62 : decode cX5_go 62 = .ok (.goto (-25), 3) := by decide +kernel
theorem dX5_go_65 : decode cX5_go 65 = .ok (.aload_n 0, 1) := by decide +kernel
theorem dX5_go_66 : decode cX5_go 66 = .ok (.getfield 38, 3) := by decide +kernel
theorem dX5_go_69 : decode cX5_go 69 = .ok (.iconst 1, 1) := by decide +kernel
theorem dX5_go_70 : decode cX5_go 70 = .ok (.iaload, 1) := by decide +kernel
theorem dX5_go_71 : decode cX5_go 71 = .ok (.iload_n 2, 1) := by decide +kernel
theorem dX5_go_72 : decode cX5_go 72 = .ok (.isub, 1) := by decide +kernel
theorem dX5_go_73 : decode cX5_go 73 = .ok (.ireturn, 1) := by decide +kernel
theorem dX5_those_0 : decode cX5_those 0 = .ok (.iload_n 1, 1) := by decide +kernel
theorem dX5_those_1 : decode cX5_those 1 = .ok (.iconst 1, 1) := by decide +kernel
theorem dX5_those_2 : decode cX5_those 2 = .ok (.aload_n 0, 1) := by decide +kernel
theorem dX5_those_3 : decode cX5_those 3 = .ok (.getfield 17, 3) := by decide +kernel
theorem dX5_those_6 : decode cX5_those 6 = .ok (.iconst 0, 1) := by decide +kernel
theorem dX5_those_7 : decode cX5_those 7 = .ok (.iaload, 1) := by decide +kernel
theorem dX5_those_8 : decode cX5_those 8 = .ok (.ishl, 1) := by decide +kernel
theorem dX5_those_9 : decode cX5_those 9 = .ok (.iconst 1, 1) := by decide +kernel
theorem dX5_those_10 : decode cX5_those 10 = .ok (.isub, 1) := by decide +kernel
theorem dX5_those_11 : decode cX5_those 11 = .ok (.iand, 1) := by decide +kernel
theorem dX5_those_12 : decode cX5_those 12 = .ok (.ireturn, 1) := by decide +kernel
set_option maxRecDepth 20000 in
theorem ggX5_sits_X5_those : GoodIn wsX5_sits wsX5_those := goodIn_r _ [6, 7, 8, 9, 10, 11, 12, 13, 14, 15, 16, 17, 18, 19, 20, 21, 22, 23, 24, 25, 26, 27, 28, 29, 30] (by decide +kernel) (by decide +kernel)
set_option maxRecDepth 20000 in
theorem gX5_sits_X5_those : GoodIn wsX5_sits (wsV RX5 130 RX5 yX5_those wsX5_those) := goodIn_app (goodIn_of _ (by decide +kernel)) ggX5_sits_X5_those
theorem dX5_sits_0 : decode cX5_sits 0 = .ok (.aload_n 0, 1) := by decide +kernel
theorem dX5_sits_1 : decode cX5_sits 1 = .ok (.getfield 38, 3) := by decide +kernel
theorem dX5_sits_4 : decode cX5_sits 4 = .ok (.iconst 2, 1) := by decide +kernel
theorem dX5_sits_5 : decode cX5_sits 5 = .ok (.iaload, 1) := by decide +kernel
theorem dX5_sits_6 : decode cX5_sits 6 = .ok (.istore_n 2, 1) := by decide +kernel
theorem dX5_sits_7 : decode cX5_sits 7 = .ok (.aload_n 0, 1) := by decide +kernel
theorem dX5_sits_8 : decode cX5_sits 8 = .ok (.getfield 38, 3) := by decide +kernel
theorem dX5_sits_11 : decode cX5_sits 11 = .ok (.iconst 2, 1) := by decide +kernel
theorem dX5_sits_12 : decode cX5_sits 12 = .ok (.aload_n 0, 1) := by decide +kernel
theorem dX5_sits_13 : decode cX5_sits 13 = .ok (.iload_n 1, 1) := by decide +kernel
theorem dX5_sits_14 : decode cX5_sits 14 = .ok (.invokevirtual 130, 3) := by decide +kernel
theorem dX5_sits_17 : decode cX5_sits 17 = .ok (.iastore, 1) := by decide +kernel
theorem dX5_sits_18 : decode cX5_sits 18 = .ok (.iload_n 2, 1) := by decide +kernel
theorem dX5_sits_19 : decode cX5_sits 19 = .ok (.ireturn, 1) := by decide +kernel
set_option maxRecDepth 20000 in
theorem ggX5_one_X5_in : GoodIn wsX5_one wsX5_in := goodIn_r _ [5] (by decide +kernel) (by decide +kernel)
set_option maxRecDepth 20000 in
theorem gX5_one_X5_in : GoodIn wsX5_one (va_wsS RX5 54 yX5_in wsX5_in) := goodIn_app (goodIn_of _ (by decide +kernel)) ggX5_one_X5_in
set_option maxRecDepth 20000 in
theorem ggX5_one_X5_hourOf : GoodIn wsX5_one wsX5_hourOf := goodIn_r _ [9, 1, 10, 11, 12, 13, 14, 15, 16, 17, 18, 19, 20, 21, 22, 23, 24, 25, 26, 27, 28, 29, 30, 31, 32, 33] (by decide +kernel) (by decide +kernel)
set_option maxRecDepth 20000 in
theorem gX5_one_X5_hourOf : GoodIn wsX5_one (wsV RX5 120 RX5 yX5_hourOf wsX5_hourOf) := goodIn_app (goodIn_of _ (by decide +kernel)) ggX5_one_X5_hourOf
theorem dX5_one_0 : decode cX5_one 0 = .ok (.iload_n 1, 1) := by decide +kernel
theorem dX5_one_1 : decode cX5_one 1 = .ok (.iconst 1, 1) := by decide +kernel
theorem dX5_one_2 : decode cX5_one 2 = .ok (.sipush 9999, 3) := by decide +kernel
theorem dX5_one_5 : decode cX5_one 5 = .ok (.invokestatic 54, 3) := by decide +kernel
theorem dX5_one_8 : decode cX5_one 8 = .ok (.ifCond .ne 5, 3) := by decide +kernel
theorem dX5_one_11 : decode cX5_one 11 = .ok (.iconst (-1), 1) := by decide +kernel
theorem dX5_one_12 : decode cX5_one 12 = .ok (.ireturn, 1) := by decide +kernel
theorem dX5_one_13 : decode cX5_one 13 = .ok (.aload_n 0, 1) := by decide +kernel
theorem dX5_one_14 : decode cX5_one 14 = .ok (.getfield 38, 3) := by decide +kernel
theorem dX5_one_17 : decode cX5_one 17 = .ok (.iconst 0, 1) := by decide +kernel
theorem dX5_one_18 : decode cX5_one 18 = .ok (.iaload, 1) := by decide +kernel
theorem dX5_one_19 : decode cX5_one 19 = .ok (.sipush 240, 3) := by decide +kernel
theorem dX5_one_22 : decode cX5_one 22 = .ok (.if_icmp .ne 6, 3) := by decide +kernel
theorem dX5_one_25 : decode cX5_one 25 = .ok (.bipush (-2), 2) := by decide +kernel
theorem dX5_one_27 : decode cX5_one 27 = .ok (.ireturn, 1) := by decide +kernel
theorem dX5_one_28 : decode cX5_one 28 = .ok (.aload_n 0, 1) := by decide +kernel
theorem dX5_one_29 : decode cX5_one 29 = .ok (.getfield 38, 3) := by decide +kernel
theorem dX5_one_32 : decode cX5_one 32 = .ok (.iconst 1, 1) := by decide +kernel
theorem dX5_one_33 : decode cX5_one 33 = .ok (.dup2, 1) := by decide +kernel
theorem dX5_one_34 : decode cX5_one 34 = .ok (.iaload, 1) := by decide +kernel
theorem dX5_one_35 : decode cX5_one 35 = .ok (.iload_n 1, 1) := by decide +kernel
theorem dX5_one_36 : decode cX5_one 36 = .ok (.iadd, 1) := by decide +kernel
theorem dX5_one_37 : decode cX5_one 37 = .ok (.iastore, 1) := by decide +kernel
theorem dX5_one_38 : decode cX5_one 38 = .ok (.aload_n 0, 1) := by decide +kernel
theorem dX5_one_39 : decode cX5_one 39 = .ok (.iconst 0, 1) := by decide +kernel
theorem dX5_one_40 : decode cX5_one 40 = .ok (.invokevirtual 120, 3) := by decide +kernel
theorem dX5_one_43 : decode cX5_one 43 = .ok (.ireturn, 1) := by decide +kernel
set_option maxRecDepth 20000 in
theorem ggX5_now_X5_hourOf : GoodIn wsX5_now wsX5_hourOf := goodIn_r _ [7, 2, 8, 9, 10, 11, 12, 13, 14, 15, 16, 17, 18, 19, 20, 21, 22, 23, 24, 25, 26, 27, 28, 29, 30, 31] (by decide +kernel) (by decide +kernel)
set_option maxRecDepth 20000 in
theorem gX5_now_X5_hourOf : GoodIn wsX5_now (wsV RX5 120 RX5 yX5_hourOf wsX5_hourOf) := goodIn_app (goodIn_of _ (by decide +kernel)) ggX5_now_X5_hourOf
theorem dX5_now_0 : decode cX5_now 0 = .ok (.iconst 0, 1) := by decide +kernel
theorem dX5_now_1 : decode cX5_now 1 = .ok (.istore_n 2, 1) := by decide +kernel
theorem dX5_now_2 : decode cX5_now 2 = .ok (.iconst 0, 1) := by decide +kernel
theorem dX5_now_3 : decode cX5_now 3 = .ok (.istore_n 3, 1) := by decide +kernel
theorem dX5_now_4 : decode cX5_now 4 = .ok (.iload_n 3, 1) := by decide +kernel
theorem dX5_now_5 : decode cX5_now 5 = .ok (.aload_n 0, 1) := by decide +kernel
theorem dX5_now_6 : decode cX5_now 6 = .ok (.getfield 17, 3) := by decide +kernel
theorem dX5_now_9 : decode cX5_now 9 = .ok (.iconst 0, 1) := by decide +kernel
theorem dX5_now_10 : decode cX5_now 10 = .ok (.iaload, 1) := by decide +kernel
theorem dX5_now_11 : decode cX5_now 11 = .ok (.if_icmp .ge 21, 3) := by decide +kernel
theorem dX5_now_14 : decode cX5_now 14 = .ok (.iload_n 2, 1) := by decide +kernel
theorem dX5_now_15 : decode cX5_now 15 = .ok (.aload_n 0, 1) := by decide +kernel
theorem dX5_now_16 : decode cX5_now 16 = .ok (.getfield 38, 3) := by decide +kernel
theorem dX5_now_19 : decode cX5_now 19 = .ok (.bipush 9, 2) := by decide +kernel
theorem dX5_now_21 : decode cX5_now 21 = .ok (.iload_n 3, 1) := by decide +kernel
theorem dX5_now_22 : decode cX5_now 22 = .ok (.iadd, 1) := by decide +kernel
theorem dX5_now_23 : decode cX5_now 23 = .ok (.iaload, 1) := by decide +kernel
theorem dX5_now_24 : decode cX5_now 24 = .ok (.iadd, 1) := by decide +kernel
theorem dX5_now_25 : decode cX5_now 25 = .ok (.istore_n 2, 1) := by decide +kernel
theorem dX5_now_26 : decode cX5_now 26 = .ok (.iinc 3 1, 3) := by decide +kernel
theorem dX5_now_29 : decode cX5_now 29 = .ok (.goto (-25), 3) := by decide +kernel
theorem dX5_now_32 : decode cX5_now 32 = .ok (.iload_n 1, 1) := by decide +kernel
theorem dX5_now_33 : decode cX5_now 33 = .ok (.tableswitch 78 0 5 #[39, 46, 53, 59, 61, 68], 39) := by decide +kernel
theorem dX5_now_72 : decode cX5_now 72 = .ok (.aload_n 0, 1) := by decide +kernel
theorem dX5_now_73 : decode cX5_now 73 = .ok (.getfield 38, 3) := by decide +kernel
theorem dX5_now_76 : decode cX5_now 76 = .ok (.iconst 0, 1) := by decide +kernel
theorem dX5_now_77 : decode cX5_now 77 = .ok (.iaload, 1) := by decide +kernel
theorem dX5_now_78 : decode cX5_now 78 = .ok (.ireturn, 1) := by decide +kernel
theorem dX5_now_79 : decode cX5_now 79 = .ok (.aload_n 0, 1) := by decide +kernel
theorem dX5_now_80 : decode cX5_now 80 = .ok (.getfield 38, 3) := by decide +kernel
theorem dX5_now_83 : decode cX5_now 83 = .ok (.iconst 1, 1) := by decide +kernel
theorem dX5_now_84 : decode cX5_now 84 = .ok (.iaload, 1) := by decide +kernel
theorem dX5_now_85 : decode cX5_now 85 = .ok (.ireturn, 1) := by decide +kernel
theorem dX5_now_86 : decode cX5_now 86 = .ok (.aload_n 0, 1) := by decide +kernel
theorem dX5_now_87 : decode cX5_now 87 = .ok (.iconst 0, 1) := by decide +kernel
theorem dX5_now_88 : decode cX5_now 88 = .ok (.invokevirtual 120, 3) := by decide +kernel
theorem dX5_now_91 : decode cX5_now 91 = .ok (.ireturn, 1) := by decide +kernel
theorem dX5_now_92 : decode cX5_now 92 = .ok (.iload_n 2, 1) := by decide +kernel
theorem dX5_now_93 : decode cX5_now 93 = .ok (.ireturn, 1) := by decide +kernel
theorem dX5_now_94 : decode cX5_now 94 = .ok (.aload_n 0, 1) := by decide +kernel
theorem dX5_now_95 : decode cX5_now 95 = .ok (.getfield 38, 3) := by decide +kernel
theorem dX5_now_98 : decode cX5_now 98 = .ok (.iconst 2, 1) := by decide +kernel
theorem dX5_now_99 : decode cX5_now 99 = .ok (.iaload, 1) := by decide +kernel
theorem dX5_now_100 : decode cX5_now 100 = .ok (.ireturn, 1) := by decide +kernel
theorem dX5_now_101 : decode cX5_now 101 = .ok (.aload_n 0, 1) := by decide +kernel
theorem dX5_now_102 : decode cX5_now 102 = .ok (.getfield 38, 3) := by decide +kernel
theorem dX5_now_105 : decode cX5_now 105 = .ok (.iconst 0, 1) := by decide +kernel
theorem dX5_now_106 : decode cX5_now 106 = .ok (.iaload, 1) := by decide +kernel
theorem dX5_now_107 : decode cX5_now 107 = .ok (.bipush 60, 2) := by decide +kernel
theorem dX5_now_109 : decode cX5_now 109 = .ok (.idiv, 1) := by decide +kernel
theorem dX5_now_110 : decode cX5_now 110 = .ok (.ireturn, 1) := by decide +kernel
theorem dX5_now_111 : decode cX5_now 111 = .ok (.iconst (-1), 1) := by decide +kernel
theorem dX5_now_112 : decode cX5_now 112 = .ok (.ireturn, 1) := by decide +kernel
set_option maxRecDepth 20000 in
theorem ggX5_person_X5_isPerson : GoodIn wsX5_person wsX5_isPerson := goodIn_r _ [6, 7, 8, 9, 5, 10, 11, 12, 13, 14, 15, 16, 17, 18, 19, 20, 21, 22, 23, 24, 25, 26, 27, 28, 29, 30, 31, 32, 33] (by decide +kernel) (by decide +kernel)
set_option maxRecDepth 20000 in
theorem gX5_person_X5_isPerson : GoodIn wsX5_person (wsV RX5 113 RX5 yX5_isPerson wsX5_isPerson) := goodIn_app (goodIn_of _ (by decide +kernel)) ggX5_person_X5_isPerson
set_option maxRecDepth 20000 in
theorem ggX5_person_X5_in : GoodIn wsX5_person wsX5_in := goodIn_r _ [10] (by decide +kernel) (by decide +kernel)
set_option maxRecDepth 20000 in
theorem gX5_person_X5_in : GoodIn wsX5_person (va_wsS RX5 54 yX5_in wsX5_in) := goodIn_app (goodIn_of _ (by decide +kernel)) ggX5_person_X5_in
theorem dX5_person_0 : decode cX5_person 0 = .ok (.aload_n 0, 1) := by decide +kernel
theorem dX5_person_1 : decode cX5_person 1 = .ok (.iload_n 1, 1) := by decide +kernel
theorem dX5_person_2 : decode cX5_person 2 = .ok (.invokevirtual 113, 3) := by decide +kernel
theorem dX5_person_5 : decode cX5_person 5 = .ok (.ifCond .eq 12, 3) := by decide +kernel
theorem dX5_person_8 : decode cX5_person 8 = .ok (.iload_n 2, 1) := by decide +kernel
theorem dX5_person_9 : decode cX5_person 9 = .ok (.iconst 0, 1) := by decide +kernel
theorem dX5_person_10 : decode cX5_person 10 = .ok (.iconst 3, 1) := by decide +kernel
theorem dX5_person_11 : decode cX5_person 11 = .ok (.invokestatic 54, 3) := by decide +kernel
theorem dX5_person_14 : decode cX5_person 14 = .ok (.ifCond .ne 5, 3) := by decide +kernel
theorem dX5_person_17 : decode cX5_person 17 = .ok (.iconst (-1), 1) := by decide +kernel
theorem dX5_person_18 : decode cX5_person 18 = .ok (.ireturn, 1) := by decide +kernel
theorem dX5_person_19 : decode cX5_person 19 = .ok (.iload_n 2, 1) := by decide +kernel
theorem dX5_person_20 : decode cX5_person 20 = .ok (.ifCond .ne 14, 3) := by decide +kernel
theorem dX5_person_23 : decode cX5_person 23 = .ok (.aload_n 0, 1) := by decide +kernel
theorem dX5_person_24 : decode cX5_person 24 = .ok (.getfield 38, 3) := by decide +kernel
theorem dX5_person_27 : decode cX5_person 27 = .ok (.iconst 3, 1) := by decide +kernel
theorem dX5_person_28 : decode cX5_person 28 = .ok (.iload_n 1, 1) := by decide +kernel
theorem dX5_person_29 : decode cX5_person 29 = .ok (.iadd, 1) := by decide +kernel
theorem dX5_person_30 : decode cX5_person 30 = .ok (.iaload, 1) := by decide +kernel
theorem dX5_person_31 : decode cX5_person 31 = .ok (.goto 46, 3) := by decide +kernel
theorem dX5_person_34 : decode cX5_person 34 = .ok (.iload_n 2, 1) := by decide +kernel
theorem dX5_person_35 : decode cX5_person 35 = .ok (.iconst 1, 1) := by decide +kernel
theorem dX5_person_36 : decode cX5_person 36 = .ok (.if_icmp .ne 15, 3) := by decide +kernel
theorem dX5_person_39 : decode cX5_person 39 = .ok (.aload_n 0, 1) := by decide +kernel
theorem dX5_person_40 : decode cX5_person 40 = .ok (.getfield 38, 3) := by decide +kernel
theorem dX5_person_43 : decode cX5_person 43 = .ok (.bipush 9, 2) := by decide +kernel
theorem dX5_person_45 : decode cX5_person 45 = .ok (.iload_n 1, 1) := by decide +kernel
theorem dX5_person_46 : decode cX5_person 46 = .ok (.iadd, 1) := by decide +kernel
theorem dX5_person_47 : decode cX5_person 47 = .ok (.iaload, 1) := by decide +kernel
theorem dX5_person_48 : decode cX5_person 48 = .ok (.goto 29, 3) := by decide +kernel
theorem dX5_person_51 : decode cX5_person 51 = .ok (.iload_n 2, 1) := by decide +kernel
theorem dX5_person_52 : decode cX5_person 52 = .ok (.iconst 2, 1) := by decide +kernel
theorem dX5_person_53 : decode cX5_person 53 = .ok (.if_icmp .ne 15, 3) := by decide +kernel
theorem dX5_person_56 : decode cX5_person 56 = .ok (.aload_n 0, 1) := by decide +kernel
theorem dX5_person_57 : decode cX5_person 57 = .ok (.getfield 38, 3) := by decide +kernel
theorem dX5_person_60 : decode cX5_person 60 = .ok (.bipush 15, 2) := by decide +kernel
theorem dX5_person_62 : decode cX5_person 62 = .ok (.iload_n 1, 1) := by decide +kernel
theorem dX5_person_63 : decode cX5_person 63 = .ok (.iadd, 1) := by decide +kernel
theorem dX5_person_64 : decode cX5_person 64 = .ok (.iaload, 1) := by decide +kernel
theorem dX5_person_65 : decode cX5_person 65 = .ok (.goto 12, 3) := by decide +kernel
theorem dX5_person_68 : decode cX5_person 68 = .ok (.aload_n 0, 1) := by decide +kernel
theorem dX5_person_69 : decode cX5_person 69 = .ok (.getfield 38, 3) := by decide +kernel
theorem dX5_person_72 : decode cX5_person 72 = .ok (.bipush 21, 2) := by decide +kernel
theorem dX5_person_74 : decode cX5_person 74 = .ok (.iload_n 1, 1) := by decide +kernel
theorem dX5_person_75 : decode cX5_person 75 = .ok (.iadd, 1) := by decide +kernel
theorem dX5_person_76 : decode cX5_person 76 = .ok (.iaload, 1) := by decide +kernel
theorem dX5_person_77 : decode cX5_person 77 = .ok (.ireturn, 1) := by decide +kernel
set_option maxRecDepth 20000 in
theorem ggX5_anew_X5_begin : GoodIn wsX5_anew wsX5_begin := goodIn_r _ [6, 1, 7, 8, 9, 10, 11, 12, 13, 14, 15, 16, 17, 18, 19, 20, 21, 22, 23, 24, 25, 26, 27, 28, 29] (by decide +kernel) (by decide +kernel)
set_option maxRecDepth 20000 in
theorem gX5_anew_X5_begin : GoodIn wsX5_anew (wsV RX5 133 RX5 yX5_begin wsX5_begin) := goodIn_app (goodIn_of _ (by decide +kernel)) ggX5_anew_X5_begin
theorem dX5_anew_0 : decode cX5_anew 0 = .ok (.aload_n 0, 1) := by decide +kernel
theorem dX5_anew_1 : decode cX5_anew 1 = .ok (.getfield 38, 3) := by decide +kernel
theorem dX5_anew_4 : decode cX5_anew 4 = .ok (.iconst 0, 1) := by decide +kernel
theorem dX5_anew_5 : decode cX5_anew 5 = .ok (.iaload, 1) := by decide +kernel
theorem dX5_anew_6 : decode cX5_anew 6 = .ok (.istore_n 1, 1) := by decide +kernel
theorem dX5_anew_7 : decode cX5_anew 7 = .ok (.aload_n 0, 1) := by decide +kernel
theorem dX5_anew_8 : decode cX5_anew 8 = .ok (.iconst 0, 1) := by decide +kernel
theorem dX5_anew_9 : decode cX5_anew 9 = .ok (.iconst 0, 1) := by decide +kernel
theorem dX5_anew_10 : decode cX5_anew 10 = .ok (.invokevirtual 133, 3) := by decide +kernel
theorem dX5_anew_13 : decode cX5_anew 13 = .ok (.iload_n 1, 1) := by decide +kernel
theorem dX5_anew_14 : decode cX5_anew 14 = .ok (.ireturn, 1) := by decide +kernel
set_option maxRecDepth 20000 in
theorem ggX5_goAll_X5_begin : GoodIn wsX5_goAll wsX5_begin := goodIn_r _ [7, 1, 33, 34, 35, 36, 37, 38, 39, 40, 41, 42, 43, 44, 45, 46, 47, 48, 49, 50, 51, 52, 53, 54, 55] (by decide +kernel) (by decide +kernel)
set_option maxRecDepth 20000 in
theorem gX5_goAll_X5_begin : GoodIn wsX5_goAll (wsV RX5 133 RX5 yX5_begin wsX5_begin) := goodIn_app (goodIn_of _ (by decide +kernel)) ggX5_goAll_X5_begin
set_option maxRecDepth 20000 in
theorem ggX5_goAll_X5_goMinute : GoodIn wsX5_goAll wsX5_goMinute := goodIn_r _ [11, 1, 12, 13, 14, 15, 16, 17, 6, 18, 19, 20, 21, 22, 23, 24, 25, 26, 27, 28, 29, 30, 31, 32, 33, 34, 35, 36, 37, 38, 39, 40, 41, 42, 43, 44, 45, 46, 47, 48, 49, 50, 51, 52, 53, 54, 55] (by decide +kernel) (by decide +kernel)
set_option maxRecDepth 20000 in
theorem gX5_goAll_X5_goMinute : GoodIn wsX5_goAll (wsV RX5 127 RX5 yX5_goMinute wsX5_goMinute) := goodIn_app (goodIn_of _ (by decide +kernel)) ggX5_goAll_X5_goMinute
theorem dX5_goAll_0 : decode cX5_goAll 0 = .ok (.aload_n 0, 1) := by decide +kernel
theorem dX5_goAll_1 : decode cX5_goAll 1 = .ok (.bipush 27, 2) := by decide +kernel
theorem dX5_goAll_3 : decode cX5_goAll 3 = .ok (.iload_n 1, 1) := by decide +kernel
theorem dX5_goAll_4 : decode cX5_goAll 4 = .ok (.invokevirtual 133, 3) := by decide +kernel
theorem dX5_goAll_7 : decode cX5_goAll 7 = .ok (.aload_n 0, 1) := by decide +kernel
theorem dX5_goAll_8 : decode cX5_goAll 8 = .ok (.getfield 38, 3) := by decide +kernel
theorem dX5_goAll_11 : decode cX5_goAll 11 = .ok (.bipush 28, 2) := by decide +kernel
theorem dX5_goAll_13 : decode cX5_goAll 13 = .ok (.iload_n 2, 1) := by decide +kernel
theorem dX5_goAll_14 : decode cX5_goAll 14 = .ok (.iastore, 1) := by decide +kernel
theorem dX5_goAll_15 : decode cX5_goAll 15 = .ok (.aload_n 0, 1) := by decide +kernel
theorem dX5_goAll_16 : decode cX5_goAll 16 = .ok (.getfield 45, 3) := by decide +kernel
theorem dX5_goAll_19 : decode cX5_goAll 19 = .ok (.iconst 0, 1) := by decide +kernel
theorem dX5_goAll_20 : decode cX5_goAll 20 = .ok (.iload_n 2, 1) := by decide +kernel
theorem dX5_goAll_21 : decode cX5_goAll 21 = .ok (.iastore, 1) := by decide +kernel
theorem dX5_goAll_22 : decode cX5_goAll 22 = .ok (.iconst 1, 1) := by decide +kernel
theorem dX5_goAll_23 : decode cX5_goAll 23 = .ok (.istore_n 3, 1) := by decide +kernel
theorem dX5_goAll_24 : decode cX5_goAll 24 = .ok (.iload_n 3, 1) := by decide +kernel
theorem dX5_goAll_25 : decode cX5_goAll 25 = .ok (.sipush 240, 3) := by decide +kernel
theorem dX5_goAll_28 : decode cX5_goAll 28 = .ok (.if_icmp .gt 28, 3) := by decide +kernel
theorem dX5_goAll_31 : decode cX5_goAll 31 = .ok (.aload_n 0, 1) := by decide +kernel
theorem dX5_goAll_32 : decode cX5_goAll 32 = .ok (.bipush 27, 2) := by decide +kernel
theorem dX5_goAll_34 : decode cX5_goAll 34 = .ok (.invokevirtual 127, 3) := by decide +kernel
theorem dX5_goAll_37 : decode cX5_goAll 37 = .ok (.aload_n 0, 1) := by decide +kernel
theorem dX5_goAll_38 : decode cX5_goAll 38 = .ok (.getfield 45, 3) := by decide +kernel
theorem dX5_goAll_41 : decode cX5_goAll 41 = .ok (.iload_n 3, 1) := by decide +kernel
theorem dX5_goAll_42 : decode cX5_goAll 42 = .ok (.aload_n 0, 1) := by decide +kernel
theorem dX5_goAll_43 : decode cX5_goAll 43 = .ok (.getfield 38, 3) := by decide +kernel
theorem dX5_goAll_46 : decode cX5_goAll 46 = .ok (.bipush 28, 2) := by decide +kernel
theorem dX5_goAll_48 : decode cX5_goAll 48 = .ok (.iaload, 1) := by decide +kernel
theorem dX5_goAll_49 : decode cX5_goAll 49 = .ok (.iastore, 1) := by decide +kernel
theorem dX5_goAll_50 : decode cX5_goAll 50 = .ok (.iinc 3 1, 3) := by decide +kernel
theorem dX5_goAll_53 : decode cX5_goAll 53 = .ok (.goto (-29), 3) := by decide +kernel
theorem dX5_goAll_56 : decode cX5_goAll 56 = .ok (.return_, 1) := by decide +kernel
theorem dX5_comesAt_0 : decode cX5_comesAt 0 = .ok (.iconst 0, 1) := by decide +kernel
theorem dX5_comesAt_1 : decode cX5_comesAt 1 = .ok (.istore_n 2, 1) := by decide +kernel
theorem dX5_comesAt_2 : decode cX5_comesAt 2 = .ok (.iload_n 2, 1) := by decide +kernel
theorem dX5_comesAt_3 : decode cX5_comesAt 3 = .ok (.sipush 240, 3) := by decide +kernel
theorem dX5_comesAt_6 : decode cX5_comesAt 6 = .ok (.if_icmp .gt 28, 3) := by decide +kernel
theorem dX5_comesAt_9 : decode cX5_comesAt 9 = .ok (.aload_n 0, 1) := by decide +kernel
theorem dX5_comesAt_10 : decode cX5_comesAt 10 = .ok (.getfield 45, 3) := by decide +kernel
theorem dX5_comesAt_13 : decode cX5_comesAt 13 = .ok (.iload_n 2, 1) := by decide +kernel
theorem dX5_comesAt_14 : decode cX5_comesAt 14 = .ok (.iaload, 1) := by decide +kernel
theorem dX5_comesAt_15 : decode cX5_comesAt 15 = .ok (.aload_n 0, 1) := by decide +kernel
theorem dX5_comesAt_16 : decode cX5_comesAt 16 = .ok (.getfield 13, 3) := by decide +kernel
theorem dX5_comesAt_19 : decode cX5_comesAt 19 = .ok (.iconst 0, 1) := by decide +kernel
theorem dX5_comesAt_20 : decode cX5_comesAt 20 = .ok (.iaload, 1) := by decide +kernel
theorem dX5_comesAt_21 : decode cX5_comesAt 21 = .ok (.idiv, 1) := by decide +kernel
theorem dX5_comesAt_22 : decode cX5_comesAt 22 = .ok (.iload_n 1, 1) := by decide +kernel
theorem dX5_comesAt_23 : decode cX5_comesAt 23 = .ok (.if_icmp .lt 5, 3) := by decide +kernel
theorem dX5_comesAt_26 : decode cX5_comesAt 26 = .ok (.iload_n 2, 1) := by decide +kernel
theorem dX5_comesAt_27 : decode cX5_comesAt 27 = .ok (.ireturn, 1) := by decide +kernel
theorem dX5_comesAt_28 : decode cX5_comesAt 28 = .ok (.iinc 2 1, 3) := by decide +kernel
theorem dX5_comesAt_31 : decode cX5_comesAt 31 = .ok (.goto (-29), 3) := by decide +kernel
theorem dX5_comesAt_34 : decode cX5_comesAt 34 = .ok (.bipush (-9), 2) := by decide +kernel
theorem dX5_comesAt_36 : decode cX5_comesAt 36 = .ok (.ireturn, 1) := by decide +kernel
set_option maxRecDepth 20000 in
theorem ggX5_comes_X5_in : GoodIn wsX5_comes wsX5_in := goodIn_r _ [4] (by decide +kernel) (by decide +kernel)
set_option maxRecDepth 20000 in
theorem gX5_comes_X5_in : GoodIn wsX5_comes (va_wsS RX5 54 yX5_in wsX5_in) := goodIn_app (goodIn_of _ (by decide +kernel)) ggX5_comes_X5_in
set_option maxRecDepth 20000 in
theorem ggX5_comes_X5_those : GoodIn wsX5_comes wsX5_those := goodIn_r _ [8, 9, 45, 46, 47, 48, 49, 50, 51, 52, 53, 54, 55, 56, 57, 58, 59, 60, 61, 62, 63, 64, 65, 66, 67] (by decide +kernel) (by decide +kernel)
set_option maxRecDepth 20000 in
theorem gX5_comes_X5_those : GoodIn wsX5_comes (wsV RX5 130 RX5 yX5_those wsX5_those) := goodIn_app (goodIn_of _ (by decide +kernel)) ggX5_comes_X5_those
set_option maxRecDepth 20000 in
theorem ggX5_comes_X5_goAll : GoodIn wsX5_comes wsX5_goAll := goodIn_r _ [13, 14, 15, 16, 17, 18, 3, 19, 20, 21, 22, 23, 9, 24, 25, 26, 27, 28, 29, 30, 31, 32, 33, 34, 35, 36, 37, 38, 39, 40, 1, 2, 4, 45, 46, 47, 48, 49, 50, 51, 52, 53, 54, 55, 56, 57, 58, 59, 60, 61, 62, 63, 64, 65, 66, 67] (by decide +kernel) (by decide +kernel)
set_option maxRecDepth 20000 in
theorem gX5_comes_X5_goAll : GoodIn wsX5_comes (wsV RX5 137 RX5 yX5_goAll wsX5_goAll) := goodIn_app (goodIn_of _ (by decide +kernel)) ggX5_comes_X5_goAll
set_option maxRecDepth 20000 in
theorem ggX5_comes_X5_comesAt : GoodIn wsX5_comes wsX5_comesAt := goodIn_r _ [44, 15, 30, 45, 46, 47, 48, 49, 50, 51, 52, 53, 54, 55, 56, 57, 58, 59, 60, 61, 62, 63, 64, 65, 66, 67] (by decide +kernel) (by decide +kernel)
set_option maxRecDepth 20000 in
theorem gX5_comes_X5_comesAt : GoodIn wsX5_comes (wsV RX5 140 RX5 yX5_comesAt wsX5_comesAt) := goodIn_app (goodIn_of _ (by decide +kernel)) ggX5_comes_X5_comesAt
theorem dX5_comes_0 : decode cX5_comes 0 = .ok (.iload_n 1, 1) := by decide +kernel
theorem dX5_comes_1 : decode cX5_comes 1 = .ok (.iconst 1, 1) := by decide +kernel
theorem dX5_comes_2 : decode cX5_comes 2 = .ok (.sipush 9999, 3) := by decide +kernel
theorem dX5_comes_5 : decode cX5_comes 5 = .ok (.invokestatic 54, 3) := by decide +kernel
theorem dX5_comes_8 : decode cX5_comes 8 = .ok (.ifCond .ne 5, 3) := by decide +kernel
theorem dX5_comes_11 : decode cX5_comes 11 = .ok (.iconst (-1), 1) := by decide +kernel
theorem dX5_comes_12 : decode cX5_comes 12 = .ok (.ireturn, 1) := by decide +kernel
theorem dX5_comes_13 : decode cX5_comes 13 = .ok (.aload_n 0, 1) := by decide +kernel
theorem dX5_comes_14 : decode cX5_comes 14 = .ok (.aload_n 0, 1) := by decide +kernel
theorem dX5_comes_15 : decode cX5_comes 15 = .ok (.iload_n 2, 1) := by decide +kernel
theorem dX5_comes_16 : decode cX5_comes 16 = .ok (.invokevirtual 130, 3) := by decide +kernel
theorem dX5_comes_19 : decode cX5_comes 19 = .ok (.iconst 0, 1) := by decide +kernel
theorem dX5_comes_20 : decode cX5_comes 20 = .ok (.invokevirtual 137, 3) := by decide +kernel
theorem dX5_comes_23 : decode cX5_comes 23 = .ok (.aload_n 0, 1) := by decide +kernel
theorem dX5_comes_24 : decode cX5_comes 24 = .ok (.iload_n 1, 1) := by decide +kernel
theorem dX5_comes_25 : decode cX5_comes 25 = .ok (.invokevirtual 140, 3) := by decide +kernel
theorem dX5_comes_28 : decode cX5_comes 28 = .ok (.ireturn, 1) := by decide +kernel
set_option maxRecDepth 20000 in
theorem ggX5_steps_X5_in : GoodIn wsX5_steps wsX5_in := goodIn_r _ [5] (by decide +kernel) (by decide +kernel)
set_option maxRecDepth 20000 in
theorem gX5_steps_X5_in : GoodIn wsX5_steps (va_wsS RX5 54 yX5_in wsX5_in) := goodIn_app (goodIn_of _ (by decide +kernel)) ggX5_steps_X5_in
set_option maxRecDepth 20000 in
theorem ggX5_steps_X5_goAll : GoodIn wsX5_steps wsX5_goAll := goodIn_r _ [9, 10, 1, 11, 12, 13, 4, 14, 15, 16, 17, 18, 19, 20, 21, 22, 23, 24, 25, 26, 27, 28, 29, 30, 31, 32, 33, 34, 35, 36, 2, 3, 5, 37, 38, 39, 40, 41, 42, 43, 44, 45, 46, 47, 48, 49, 50, 51, 52, 53, 54, 55, 56, 57, 58, 59] (by decide +kernel) (by decide +kernel)
set_option maxRecDepth 20000 in
theorem gX5_steps_X5_goAll : GoodIn wsX5_steps (wsV RX5 137 RX5 yX5_goAll wsX5_goAll) := goodIn_app (goodIn_of _ (by decide +kernel)) ggX5_steps_X5_goAll
theorem dX5_steps_0 : decode cX5_steps 0 = .ok (.iload_n 1, 1) := by decide +kernel
theorem dX5_steps_1 : decode cX5_steps 1 = .ok (.iconst 0, 1) := by decide +kernel
theorem dX5_steps_2 : decode cX5_steps 2 = .ok (.sipush 240, 3) := by decide +kernel
theorem dX5_steps_5 : decode cX5_steps 5 = .ok (.invokestatic 54, 3) := by decide +kernel
theorem dX5_steps_8 : decode cX5_steps 8 = .ok (.ifCond .ne 5, 3) := by decide +kernel
theorem dX5_steps_11 : decode cX5_steps 11 = .ok (.iconst (-1), 1) := by decide +kernel
theorem dX5_steps_12 : decode cX5_steps 12 = .ok (.ireturn, 1) := by decide +kernel
theorem dX5_steps_13 : decode cX5_steps 13 = .ok (.aload_n 0, 1) := by decide +kernel
theorem dX5_steps_14 : decode cX5_steps 14 = .ok (.iconst 0, 1) := by decide +kernel
theorem dX5_steps_15 : decode cX5_steps 15 = .ok (.iconst 0, 1) := by decide +kernel
theorem dX5_steps_16 : decode cX5_steps 16 = .ok (.invokevirtual 137, 3) := by decide +kernel
theorem dX5_steps_19 : decode cX5_steps 19 = .ok (.aload_n 0, 1) := by decide +kernel
theorem dX5_steps_20 : decode cX5_steps 20 = .ok (.getfield 45, 3) := by decide +kernel
theorem dX5_steps_23 : decode cX5_steps 23 = .ok (.iload_n 1, 1) := by decide +kernel
theorem dX5_steps_24 : decode cX5_steps 24 = .ok (.iaload, 1) := by decide +kernel
theorem dX5_steps_25 : decode cX5_steps 25 = .ok (.ireturn, 1) := by decide +kernel
set_option maxRecDepth 20000 in
theorem ggX5_hangs_X5_in : GoodIn wsX5_hangs wsX5_in := goodIn_r _ [9] (by decide +kernel) (by decide +kernel)
set_option maxRecDepth 20000 in
theorem gX5_hangs_X5_in : GoodIn wsX5_hangs (va_wsS RX5 54 yX5_in wsX5_in) := goodIn_app (goodIn_of _ (by decide +kernel)) ggX5_hangs_X5_in
set_option maxRecDepth 20000 in
theorem ggX5_hangs_X5_goAll : GoodIn wsX5_hangs wsX5_goAll := goodIn_r _ [13, 3, 1, 14, 15, 16, 8, 17, 18, 19, 20, 21, 2, 22, 23, 24, 25, 26, 27, 28, 29, 30, 31, 32, 4, 5, 33, 34, 35, 36, 6, 7, 9, 37, 38, 39, 40, 41, 42, 43, 44, 45, 46, 47, 48, 49, 50, 51, 52, 53, 54, 55, 56, 57, 58, 59] (by decide +kernel) (by decide +kernel)
set_option maxRecDepth 20000 in
theorem gX5_hangs_X5_goAll : GoodIn wsX5_hangs (wsV RX5 137 RX5 yX5_goAll wsX5_goAll) := goodIn_app (goodIn_of _ (by decide +kernel)) ggX5_hangs_X5_goAll
set_option maxRecDepth 20000 in
theorem ggX5_hangs_X5_hourOf : GoodIn wsX5_hangs wsX5_hourOf := goodIn_r _ [27, 3, 28, 37, 38, 39, 40, 41, 42, 43, 44, 45, 46, 47, 48, 49, 50, 51, 52, 53, 54, 55, 56, 57, 58, 59] (by decide +kernel) (by decide +kernel)
set_option maxRecDepth 20000 in
theorem gX5_hangs_X5_hourOf : GoodIn wsX5_hangs (wsV RX5 120 RX5 yX5_hourOf wsX5_hourOf) := goodIn_app (goodIn_of _ (by decide +kernel)) ggX5_hangs_X5_hourOf
theorem dX5_hangs_0 : decode cX5_hangs 0 = .ok (.iload_n 1, 1) := by decide +kernel
theorem dX5_hangs_1 : decode cX5_hangs 1 = .ok (.iconst 0, 1) := by decide +kernel
theorem dX5_hangs_2 : decode cX5_hangs 2 = .ok (.iconst 1, 1) := by decide +kernel
theorem dX5_hangs_3 : decode cX5_hangs 3 = .ok (.invokestatic 54, 3) := by decide +kernel
theorem dX5_hangs_6 : decode cX5_hangs 6 = .ok (.ifCond .ne 5, 3) := by decide +kernel
theorem dX5_hangs_9 : decode cX5_hangs 9 = .ok (.iconst (-1), 1) := by decide +kernel
theorem dX5_hangs_10 : decode cX5_hangs 10 = .ok (.ireturn, 1) := by decide +kernel
theorem dX5_hangs_11 : decode cX5_hangs 11 = .ok (.aload_n 0, 1) := by decide +kernel
theorem dX5_hangs_12 : decode cX5_hangs 12 = .ok (.iconst 0, 1) := by decide +kernel
theorem dX5_hangs_13 : decode cX5_hangs 13 = .ok (.iconst 0, 1) := by decide +kernel
theorem dX5_hangs_14 : decode cX5_hangs 14 = .ok (.invokevirtual 137, 3) := by decide +kernel
theorem dX5_hangs_17 : decode cX5_hangs 17 = .ok (.iload_n 1, 1) := by decide +kernel
theorem dX5_hangs_18 : decode cX5_hangs 18 = .ok (.iconst 1, 1) := by decide +kernel
theorem dX5_hangs_19 : decode cX5_hangs 19 = .ok (.if_icmp .ne 36, 3) := by decide +kernel
theorem dX5_hangs_22 : decode cX5_hangs 22 = .ok (.sipush 240, 3) := by decide +kernel
theorem dX5_hangs_25 : decode cX5_hangs 25 = .ok (.istore_n 2, 1) := by decide +kernel
theorem dX5_hangs_26 : decode cX5_hangs 26 = .ok (.iload_n 2, 1) := by decide +kernel
theorem dX5_hangs_27 : decode cX5_hangs 27 = .ok (.ifCond .le 26, 3) := by decide +kernel
theorem dX5_hangs_30 : decode cX5_hangs 30 = .ok (.aload_n 0, 1) := by decide +kernel
theorem dX5_hangs_31 : decode cX5_hangs 31 = .ok (.getfield 45, 3) := by decide +kernel
theorem dX5_hangs_34 : decode cX5_hangs 34 = .ok (.iload_n 2, 1) := by decide +kernel
theorem dX5_hangs_35 : decode cX5_hangs 35 = .ok (.iaload, 1) := by decide +kernel
theorem dX5_hangs_36 : decode cX5_hangs 36 = .ok (.aload_n 0, 1) := by decide +kernel
theorem dX5_hangs_37 : decode cX5_hangs 37 = .ok (.getfield 45, 3) := by decide +kernel
theorem dX5_hangs_40 : decode cX5_hangs 40 = .ok (.iload_n 2, 1) := by decide +kernel
theorem dX5_hangs_41 : decode cX5_hangs 41 = .ok (.iconst 1, 1) := by decide +kernel
theorem dX5_hangs_42 : decode cX5_hangs 42 = .ok (.isub, 1) := by decide +kernel
theorem dX5_hangs_43 : decode cX5_hangs 43 = .ok (.iaload, 1) := by decide +kernel
theorem dX5_hangs_44 : decode cX5_hangs 44 = .ok (.if_icmp .ne 9, 3) := by decide +kernel
theorem dX5_hangs_47 : decode cX5_hangs 47 = .ok (.iinc 2 (-1), 3) := by decide +kernel
theorem dX5_hangs_50 : decode cX5_hangs 50 = .ok (.goto (-24), 3) := by decide +kernel
theorem dX5_hangs_53 : decode cX5_hangs 53 = .ok (.iload_n 2, 1) := by decide +kernel
theorem dX5_hangs_54 : decode cX5_hangs 54 = .ok (.ireturn, 1) := by decide +kernel
theorem dX5_hangs_55 : decode cX5_hangs 55 = .ok (.iconst 0, 1) := by decide +kernel
theorem dX5_hangs_56 : decode cX5_hangs 56 = .ok (.istore_n 2, 1) := by decide +kernel
theorem dX5_hangs_57 : decode cX5_hangs 57 = .ok (.iconst 0, 1) := by decide +kernel
theorem dX5_hangs_58 : decode cX5_hangs 58 = .ok (.istore_n 3, 1) := by decide +kernel
theorem dX5_hangs_59 : decode cX5_hangs 59 = .ok (.iload_n 3, 1) := by decide +kernel
theorem dX5_hangs_60 : decode cX5_hangs 60 = .ok (.aload_n 0, 1) := by decide +kernel
theorem dX5_hangs_61 : decode cX5_hangs 61 = .ok (.getfield 17, 3) := by decide +kernel
theorem dX5_hangs_64 : decode cX5_hangs 64 = .ok (.iconst 0, 1) := by decide +kernel
theorem dX5_hangs_65 : decode cX5_hangs 65 = .ok (.iaload, 1) := by decide +kernel
theorem dX5_hangs_66 : decode cX5_hangs 66 = .ok (.if_icmp .ge 105, 3) := by decide +kernel
theorem dX5_hangs_69 : decode cX5_hangs 69 = .ok (.aload_n 0, 1) := by decide +kernel
theorem dX5_hangs_70 : decode cX5_hangs 70 = .ok (.getfield 38, 3) := by decide +kernel
theorem dX5_hangs_73 : decode cX5_hangs 73 = .ok (.bipush 30, 2) := by decide +kernel
theorem dX5_hangs_75 : decode cX5_hangs 75 = .ok (.iload_n 3, 1) := by decide +kernel
theorem dX5_hangs_76 : decode cX5_hangs 76 = .ok (.iadd, 1) := by decide +kernel
theorem dX5_hangs_77 : decode cX5_hangs 77 = .ok (.iaload, 1) := by decide +kernel
theorem dX5_hangs_78 : decode cX5_hangs 78 = .ok (.istore 4, 2) := by decide +kernel
theorem dX5_hangs_80 : decode cX5_hangs 80 = .ok (.bipush 16, 2) := by decide +kernel
theorem dX5_hangs_82 : decode cX5_hangs 82 = .ok (.iload_n 3, 1) := by decide +kernel
theorem dX5_hangs_83 : decode cX5_hangs 83 = .ok (.imul, 1) := by decide +kernel
theorem dX5_hangs_84 : decode cX5_hangs 84 = .ok (.iconst 4, 1) := by decide +kernel
theorem dX5_hangs_85 : decode cX5_hangs 85 = .ok (.iload 4, 2) := by decide +kernel
theorem dX5_hangs_87 : decode cX5_hangs 87 = .ok (.imul, 1) := by decide +kernel
theorem dX5_hangs_88 : decode cX5_hangs 88 = .ok (.iadd, 1) := by decide +kernel
theorem dX5_hangs_89 : decode cX5_hangs 89 = .ok (.istore 5, 2) := by decide +kernel
theorem dX5_hangs_91 : decode cX5_hangs 91 = .ok (.aload_n 0, 1) := by decide +kernel
theorem dX5_hangs_92 : decode cX5_hangs 92 = .ok (.getfield 38, 3) := by decide +kernel
theorem dX5_hangs_95 : decode cX5_hangs 95 = .ok (.bipush 36, 2) := by decide +kernel
theorem dX5_hangs_97 : decode cX5_hangs 97 = .ok (.iload_n 3, 1) := by decide +kernel
theorem dX5_hangs_98 : decode cX5_hangs 98 = .ok (.iadd, 1) := by decide +kernel
theorem dX5_hangs_99 : decode cX5_hangs 99 = .ok (.iaload, 1) := by decide +kernel
theorem dX5_hangs_100 : decode cX5_hangs 100 = .ok (.ifCond .ne 47, 3) := by decide +kernel
theorem dX5_hangs_103 : decode cX5_hangs 103 = .ok (.iload 4, 2) := by decide +kernel
theorem dX5_hangs_105 : decode cX5_hangs 105 = .ok (.aload_n 0, 1) := by decide +kernel
theorem dX5_hangs_106 : decode cX5_hangs 106 = .ok (.getfield 20, 3) := by decide +kernel
theorem dX5_hangs_109 : decode cX5_hangs 109 = .ok (.iload_n 3, 1) := by decide +kernel
theorem dX5_hangs_110 : decode cX5_hangs 110 = .ok (.iaload, 1) := by decide +kernel
theorem dX5_hangs_111 : decode cX5_hangs 111 = .ok (.if_icmp .ge 36, 3) := by decide +kernel
theorem dX5_hangs_114 : decode cX5_hangs 114 = .ok (.aload_n 0, 1) := by decide +kernel
theorem dX5_hangs_115 : decode cX5_hangs 115 = .ok (.getfield 23, 3) := by decide +kernel
theorem dX5_hangs_118 : decode cX5_hangs 118 = .ok (.iload 5, 2) := by decide +kernel
theorem dX5_hangs_120 : decode cX5_hangs 120 = .ok (.iaload, 1) := by decide +kernel
theorem dX5_hangs_121 : decode cX5_hangs 121 = .ok (.iconst 1, 1) := by decide +kernel
theorem dX5_hangs_122 : decode cX5_hangs 122 = .ok (.if_icmp .ne 25, 3) := by decide +kernel
theorem dX5_hangs_125 : decode cX5_hangs 125 = .ok (.aload_n 0, 1) := by decide +kernel
theorem dX5_hangs_126 : decode cX5_hangs 126 = .ok (.getfield 23, 3) := by decide +kernel
theorem dX5_hangs_129 : decode cX5_hangs 129 = .ok (.iload 5, 2) := by decide +kernel
theorem dX5_hangs_131 : decode cX5_hangs 131 = .ok (.iconst 1, 1) := by decide +kernel
theorem dX5_hangs_132 : decode cX5_hangs 132 = .ok (.iadd, 1) := by decide +kernel
theorem dX5_hangs_133 : decode cX5_hangs 133 = .ok (.iaload, 1) := by decide +kernel
theorem dX5_hangs_134 : decode cX5_hangs 134 = .ok (.aload_n 0, 1) := by decide +kernel
theorem dX5_hangs_135 : decode cX5_hangs 135 = .ok (.bipush 27, 2) := by decide +kernel
theorem dX5_hangs_137 : decode cX5_hangs 137 = .ok (.invokevirtual 120, 3) := by decide +kernel
theorem dX5_hangs_140 : decode cX5_hangs 140 = .ok (.if_icmp .le 7, 3) := by decide +kernel
theorem dX5_hangs_143 : decode cX5_hangs 143 = .ok (.iconst 1, 1) := by decide +kernel
theorem dX5_hangs_144 : decode cX5_hangs 144 = .ok (.goto 4, 3) := by decide +kernel
theorem dX5_hangs_147 : decode cX5_hangs 147 = .ok (.iconst 0, 1) := by decide +kernel
theorem dX5_hangs_148 : decode cX5_hangs 148 = .ok (.istore 6, 2) := by decide +kernel
theorem dX5_hangs_150 : decode cX5_hangs 150 = .ok (.iload_n 2, 1) := by decide +kernel
theorem dX5_hangs_151 : decode cX5_hangs 151 = .ok (.iload 6, 2) := by decide +kernel
theorem dX5_hangs_153 : decode cX5_hangs 153 = .ok (.ifCond .eq 9, 3) := by decide +kernel
theorem dX5_hangs_156 : decode cX5_hangs 156 = .ok (.iconst 1, 1) := by decide +kernel
theorem dX5_hangs_157 : decode cX5_hangs 157 = .ok (.iload_n 3, 1) := by decide +kernel
theorem dX5_hangs_158 : decode cX5_hangs 158 = .ok (.ishl, 1) := by decide +kernel
theorem dX5_hangs_159 : decode cX5_hangs 159 = .ok (.goto 4, 3) := by decide +kernel
theorem dX5_hangs_162 : decode cX5_hangs 162 = .ok (.iconst 0, 1) := by decide +kernel
theorem dX5_hangs_163 : decode cX5_hangs 163 = .ok (.ior, 1) := by decide +kernel
theorem dX5_hangs_164 : decode cX5_hangs 164 = .ok (.istore_n 2, 1) := by decide +kernel
theorem dX5_hangs_165 : decode cX5_hangs 165 = .ok (.iinc 3 1, 3) := by decide +kernel
theorem dX5_hangs_168 : decode cX5_hangs 168 = .ok (.goto (-109), 3) := by decide +kernel
theorem dX5_hangs_171 : decode cX5_hangs 171 = .ok (.iload_n 2, 1) := by decide +kernel
theorem dX5_hangs_172 : decode cX5_hangs 172 = .ok (.ireturn, 1) := by decide +kernel
set_option maxRecDepth 20000 in
theorem ggX5_least_X5_in : GoodIn wsX5_least wsX5_in := goodIn_r _ [6] (by decide +kernel) (by decide +kernel)
set_option maxRecDepth 20000 in
theorem gX5_least_X5_in : GoodIn wsX5_least (va_wsS RX5 54 yX5_in wsX5_in) := goodIn_app (goodIn_of _ (by decide +kernel)) ggX5_least_X5_in
set_option maxRecDepth 20000 in
theorem ggX5_least_X5_goAll : GoodIn wsX5_least wsX5_goAll := goodIn_r _ [10, 11, 1, 12, 13, 14, 5, 15, 16, 17, 18, 19, 20, 21, 22, 23, 24, 25, 26, 2, 27, 28, 29, 30, 31, 32, 33, 34, 35, 36, 3, 4, 6, 37, 38, 39, 40, 41, 42, 43, 44, 45, 46, 47, 48, 49, 50, 51, 52, 53, 54, 55, 56, 57, 58, 59] (by decide +kernel) (by decide +kernel)
set_option maxRecDepth 20000 in
theorem gX5_least_X5_goAll : GoodIn wsX5_least (wsV RX5 137 RX5 yX5_goAll wsX5_goAll) := goodIn_app (goodIn_of _ (by decide +kernel)) ggX5_least_X5_goAll
theorem dX5_least_0 : decode cX5_least 0 = .ok (.iload_n 1, 1) := by decide +kernel
theorem dX5_least_1 : decode cX5_least 1 = .ok (.iconst 1, 1) := by decide +kernel
theorem dX5_least_2 : decode cX5_least 2 = .ok (.sipush 9999, 3) := by decide +kernel
theorem dX5_least_5 : decode cX5_least 5 = .ok (.invokestatic 54, 3) := by decide +kernel
theorem dX5_least_8 : decode cX5_least 8 = .ok (.ifCond .eq 14, 3) := by decide +kernel
theorem dX5_least_11 : decode cX5_least 11 = .ok (.iload_n 2, 1) := by decide +kernel
theorem dX5_least_12 : decode cX5_least 12 = .ok (.iconst 1, 1) := by decide +kernel
theorem dX5_least_13 : decode cX5_least 13 = .ok (.sipush 240, 3) := by decide +kernel
theorem dX5_least_16 : decode cX5_least 16 = .ok (.invokestatic 54, 3) := by decide +kernel
theorem dX5_least_19 : decode cX5_least 19 = .ok (.ifCond .ne 5, 3) := by decide +kernel
theorem dX5_least_22 : decode cX5_least 22 = .ok (.iconst (-1), 1) := by decide +kernel
theorem dX5_least_23 : decode cX5_least 23 = .ok (.ireturn, 1) := by decide +kernel
theorem dX5_least_24 : decode cX5_least 24 = .ok (.aload_n 0, 1) := by decide +kernel
theorem dX5_least_25 : decode cX5_least 25 = .ok (.iconst 0, 1) := by decide +kernel
theorem dX5_least_26 : decode cX5_least 26 = .ok (.iconst 0, 1) := by decide +kernel
theorem dX5_least_27 : decode cX5_least 27 = .ok (.invokevirtual 137, 3) := by decide +kernel
theorem dX5_least_30 : decode cX5_least 30 = .ok (.aload_n 0, 1) := by decide +kernel
theorem dX5_least_31 : decode cX5_least 31 = .ok (.getfield 45, 3) := by decide +kernel
theorem dX5_least_34 : decode cX5_least 34 = .ok (.iload_n 2, 1) := by decide +kernel
theorem dX5_least_35 : decode cX5_least 35 = .ok (.iconst 1, 1) := by decide +kernel
theorem dX5_least_36 : decode cX5_least 36 = .ok (.isub, 1) := by decide +kernel
theorem dX5_least_37 : decode cX5_least 37 = .ok (.iaload, 1) := by decide +kernel
theorem dX5_least_38 : decode cX5_least 38 = .ok (.aload_n 0, 1) := by decide +kernel
theorem dX5_least_39 : decode cX5_least 39 = .ok (.getfield 13, 3) := by decide +kernel
theorem dX5_least_42 : decode cX5_least 42 = .ok (.iconst 0, 1) := by decide +kernel
theorem dX5_least_43 : decode cX5_least 43 = .ok (.iaload, 1) := by decide +kernel
theorem dX5_least_44 : decode cX5_least 44 = .ok (.idiv, 1) := by decide +kernel
theorem dX5_least_45 : decode cX5_least 45 = .ok (.iload_n 1, 1) := by decide +kernel
theorem dX5_least_46 : decode cX5_least 46 = .ok (.if_icmp .lt 6, 3) := by decide +kernel
theorem dX5_least_49 : decode cX5_least 49 = .ok (.bipush (-9), 2) := by decide +kernel
theorem dX5_least_51 : decode cX5_least 51 = .ok (.ireturn, 1) := by decide +kernel
theorem dX5_least_52 : decode cX5_least 52 = .ok (.iload_n 1, 1) := by decide +kernel
theorem dX5_least_53 : decode cX5_least 53 = .ok (.aload_n 0, 1) := by decide +kernel
theorem dX5_least_54 : decode cX5_least 54 = .ok (.getfield 13, 3) := by decide +kernel
theorem dX5_least_57 : decode cX5_least 57 = .ok (.iconst 0, 1) := by decide +kernel
theorem dX5_least_58 : decode cX5_least 58 = .ok (.iaload, 1) := by decide +kernel
theorem dX5_least_59 : decode cX5_least 59 = .ok (.imul, 1) := by decide +kernel
theorem dX5_least_60 : decode cX5_least 60 = .ok (.aload_n 0, 1) := by decide +kernel
theorem dX5_least_61 : decode cX5_least 61 = .ok (.getfield 45, 3) := by decide +kernel
theorem dX5_least_64 : decode cX5_least 64 = .ok (.iload_n 2, 1) := by decide +kernel
theorem dX5_least_65 : decode cX5_least 65 = .ok (.iaload, 1) := by decide +kernel
theorem dX5_least_66 : decode cX5_least 66 = .ok (.isub, 1) := by decide +kernel
theorem dX5_least_67 : decode cX5_least 67 = .ok (.istore_n 3, 1) := by decide +kernel
theorem dX5_least_68 : decode cX5_least 68 = .ok (.iload_n 3, 1) := by decide +kernel
theorem dX5_least_69 : decode cX5_least 69 = .ok (.ifCond .le 7, 3) := by decide +kernel
theorem dX5_least_72 : decode cX5_least 72 = .ok (.iload_n 3, 1) := by decide +kernel
theorem dX5_least_73 : decode cX5_least 73 = .ok (.goto 4, 3) := by decide +kernel
theorem dX5_least_76 : decode cX5_least 76 = .ok (.iconst 0, 1) := by decide +kernel
theorem dX5_least_77 : decode cX5_least 77 = .ok (.ireturn, 1) := by decide +kernel
theorem dX5_endOf_0 : decode cX5_endOf 0 = .ok (.aload_n 0, 1) := by decide +kernel
theorem dX5_endOf_1 : decode cX5_endOf 1 = .ok (.getfield 35, 3) := by decide +kernel
theorem dX5_endOf_4 : decode cX5_endOf 4 = .ok (.iconst 3, 1) := by decide +kernel
theorem dX5_endOf_5 : decode cX5_endOf 5 = .ok (.iload_n 1, 1) := by decide +kernel
theorem dX5_endOf_6 : decode cX5_endOf 6 = .ok (.imul, 1) := by decide +kernel
theorem dX5_endOf_7 : decode cX5_endOf 7 = .ok (.iconst 1, 1) := by decide +kernel
theorem dX5_endOf_8 : decode cX5_endOf 8 = .ok (.iadd, 1) := by decide +kernel
theorem dX5_endOf_9 : decode cX5_endOf 9 = .ok (.iaload, 1) := by decide +kernel
theorem dX5_endOf_10 : decode cX5_endOf 10 = .ok (.istore_n 3, 1) := by decide +kernel
theorem dX5_endOf_11 : decode cX5_endOf 11 = .ok (.aload_n 0, 1) := by decide +kernel
theorem dX5_endOf_12 : decode cX5_endOf 12 = .ok (.getfield 35, 3) := by decide +kernel
theorem dX5_endOf_15 : decode cX5_endOf 15 = .ok (.iconst 3, 1) := by decide +kernel
theorem dX5_endOf_16 : decode cX5_endOf 16 = .ok (.iload_n 1, 1) := by decide +kernel
theorem dX5_endOf_17 : decode cX5_endOf 17 = .ok (.imul, 1) := by decide +kernel
theorem dX5_endOf_18 : decode cX5_endOf 18 = .ok (.iaload, 1) := by decide +kernel
theorem dX5_endOf_19 : decode cX5_endOf 19 = .ok (.iconst 1, 1) := by decide +kernel
theorem dX5_endOf_20 : decode cX5_endOf 20 = .ok (.if_icmp .ne 21, 3) := by decide +kernel
theorem dX5_endOf_23 : decode cX5_endOf 23 = .ok (.iload_n 2, 1) := by decide +kernel
theorem dX5_endOf_24 : decode cX5_endOf 24 = .ok (.iload_n 3, 1) := by decide +kernel
theorem dX5_endOf_25 : decode cX5_endOf 25 = .ok (.iadd, 1) := by decide +kernel
theorem dX5_endOf_26 : decode cX5_endOf 26 = .ok (.sipush 240, 3) := by decide +kernel
theorem dX5_endOf_29 : decode cX5_endOf 29 = .ok (.if_icmp .gt 9, 3) := by decide +kernel
theorem dX5_endOf_32 : decode cX5_endOf 32 = .ok (.iload_n 2, 1) := by decide +kernel
theorem dX5_endOf_33 : decode cX5_endOf 33 = .ok (.iload_n 3, 1) := by decide +kernel
theorem dX5_endOf_34 : decode cX5_endOf 34 = .ok (.iadd, 1) := by decide +kernel
theorem dX5_endOf_35 : decode cX5_endOf 35 = .ok (.goto 5, 3) := by decide +kernel
theorem dX5_endOf_38 : decode cX5_endOf 38 = .ok (.bipush (-9), 2) := by decide +kernel
theorem dX5_endOf_40 : decode cX5_endOf 40 = .ok (.ireturn, 1) := by decide +kernel
theorem dX5_endOf_41 : decode cX5_endOf 41 = .ok (.iload_n 2, 1) := by decide +kernel
theorem dX5_endOf_42 : decode cX5_endOf 42 = .ok (.istore 4, 2) := by decide +kernel
theorem dX5_endOf_44 : decode cX5_endOf 44 = .ok (.iload 4, 2) := by decide +kernel
theorem dX5_endOf_46 : decode cX5_endOf 46 = .ok (.sipush 240, 3) := by decide +kernel
theorem dX5_endOf_49 : decode cX5_endOf 49 = .ok (.if_icmp .gt 30, 3) := by decide +kernel
theorem dX5_endOf_52 : decode cX5_endOf 52 = .ok (.aload_n 0, 1) := by decide +kernel
theorem dX5_endOf_53 : decode cX5_endOf 53 = .ok (.getfield 45, 3) := by decide +kernel
theorem dX5_endOf_56 : decode cX5_endOf 56 = .ok (.iload 4, 2) := by decide +kernel
theorem dX5_endOf_58 : decode cX5_endOf 58 = .ok (.iaload, 1) := by decide +kernel
theorem dX5_endOf_59 : decode cX5_endOf 59 = .ok (.aload_n 0, 1) := by decide +kernel
theorem dX5_endOf_60 : decode cX5_endOf 60 = .ok (.getfield 45, 3) := by decide +kernel
theorem dX5_endOf_63 : decode cX5_endOf 63 = .ok (.iload_n 2, 1) := by decide +kernel
theorem dX5_endOf_64 : decode cX5_endOf 64 = .ok (.iaload, 1) := by decide +kernel
theorem dX5_endOf_65 : decode cX5_endOf 65 = .ok (.isub, 1) := by decide +kernel
theorem dX5_endOf_66 : decode cX5_endOf 66 = .ok (.iload_n 3, 1) := by decide +kernel
theorem dX5_endOf_67 : decode cX5_endOf 67 = .ok (.if_icmp .lt 6, 3) := by decide +kernel
theorem dX5_endOf_70 : decode cX5_endOf 70 = .ok (.iload 4, 2) := by decide +kernel
theorem dX5_endOf_72 : decode cX5_endOf 72 = .ok (.ireturn, 1) := by decide +kernel
theorem dX5_endOf_73 : decode cX5_endOf 73 = .ok (.iinc 4 1, 3) := by decide +kernel
theorem dX5_endOf_76 : decode cX5_endOf 76 = .ok (.goto (-32), 3) := by decide +kernel
theorem dX5_endOf_79 : decode cX5_endOf 79 = .ok (.bipush (-9), 2) := by decide +kernel
theorem dX5_endOf_81 : decode cX5_endOf 81 = .ok (.ireturn, 1) := by decide +kernel
set_option maxRecDepth 20000 in
theorem ggX5_ends_X5_in : GoodIn wsX5_ends wsX5_in := goodIn_r _ [5] (by decide +kernel) (by decide +kernel)
set_option maxRecDepth 20000 in
theorem gX5_ends_X5_in : GoodIn wsX5_ends (va_wsS RX5 54 yX5_in wsX5_in) := goodIn_app (goodIn_of _ (by decide +kernel)) ggX5_ends_X5_in
set_option maxRecDepth 20000 in
theorem ggX5_ends_X5_goAll : GoodIn wsX5_ends wsX5_goAll := goodIn_r _ [9, 10, 11, 12, 13, 14, 4, 15, 16, 17, 18, 19, 20, 21, 22, 23, 24, 25, 26, 27, 28, 29, 30, 31, 32, 33, 34, 35, 36, 37, 2, 3, 5, 43, 44, 45, 46, 47, 48, 49, 50, 51, 52, 53, 54, 55, 56, 57, 58, 59, 60, 61, 62, 63, 64, 65] (by decide +kernel) (by decide +kernel)
set_option maxRecDepth 20000 in
theorem gX5_ends_X5_goAll : GoodIn wsX5_ends (wsV RX5 137 RX5 yX5_goAll wsX5_goAll) := goodIn_app (goodIn_of _ (by decide +kernel)) ggX5_ends_X5_goAll
set_option maxRecDepth 20000 in
theorem ggX5_ends_X5_endOf : GoodIn wsX5_ends wsX5_endOf := goodIn_r _ [41, 42, 11, 43, 44, 45, 46, 47, 48, 49, 50, 51, 52, 53, 54, 55, 56, 57, 58, 59, 60, 61, 62, 63, 64, 65] (by decide +kernel) (by decide +kernel)
set_option maxRecDepth 20000 in
theorem gX5_ends_X5_endOf : GoodIn wsX5_ends (wsV RX5 143 RX5 yX5_endOf wsX5_endOf) := goodIn_app (goodIn_of _ (by decide +kernel)) ggX5_ends_X5_endOf
theorem dX5_ends_0 : decode cX5_ends 0 = .ok (.iload_n 1, 1) := by decide +kernel
theorem dX5_ends_1 : decode cX5_ends 1 = .ok (.iconst 0, 1) := by decide +kernel
theorem dX5_ends_2 : decode cX5_ends 2 = .ok (.aload_n 0, 1) := by decide +kernel
theorem dX5_ends_3 : decode cX5_ends 3 = .ok (.getfield 32, 3) := by decide +kernel
theorem dX5_ends_6 : decode cX5_ends 6 = .ok (.iconst 0, 1) := by decide +kernel
theorem dX5_ends_7 : decode cX5_ends 7 = .ok (.iaload, 1) := by decide +kernel
theorem dX5_ends_8 : decode cX5_ends 8 = .ok (.iconst 1, 1) := by decide +kernel
theorem dX5_ends_9 : decode cX5_ends 9 = .ok (.isub, 1) := by decide +kernel
theorem dX5_ends_10 : decode cX5_ends 10 = .ok (.invokestatic 54, 3) := by decide +kernel
theorem dX5_ends_13 : decode cX5_ends 13 = .ok (.ifCond .eq 14, 3) := by decide +kernel
theorem dX5_ends_16 : decode cX5_ends 16 = .ok (.iload_n 2, 1) := by decide +kernel
theorem dX5_ends_17 : decode cX5_ends 17 = .ok (.iconst 0, 1) := by decide +kernel
theorem dX5_ends_18 : decode cX5_ends 18 = .ok (.sipush 240, 3) := by decide +kernel
theorem dX5_ends_21 : decode cX5_ends 21 = .ok (.invokestatic 54, 3) := by decide +kernel
theorem dX5_ends_24 : decode cX5_ends 24 = .ok (.ifCond .ne 5, 3) := by decide +kernel
theorem dX5_ends_27 : decode cX5_ends 27 = .ok (.iconst (-1), 1) := by decide +kernel
theorem dX5_ends_28 : decode cX5_ends 28 = .ok (.ireturn, 1) := by decide +kernel
theorem dX5_ends_29 : decode cX5_ends 29 = .ok (.aload_n 0, 1) := by decide +kernel
theorem dX5_ends_30 : decode cX5_ends 30 = .ok (.iconst 0, 1) := by decide +kernel
theorem dX5_ends_31 : decode cX5_ends 31 = .ok (.iconst 0, 1) := by decide +kernel
theorem dX5_ends_32 : decode cX5_ends 32 = .ok (.invokevirtual 137, 3) := by decide +kernel
theorem dX5_ends_35 : decode cX5_ends 35 = .ok (.aload_n 0, 1) := by decide +kernel
theorem dX5_ends_36 : decode cX5_ends 36 = .ok (.iload_n 1, 1) := by decide +kernel
theorem dX5_ends_37 : decode cX5_ends 37 = .ok (.iload_n 2, 1) := by decide +kernel
theorem dX5_ends_38 : decode cX5_ends 38 = .ok (.invokevirtual 143, 3) := by decide +kernel
theorem dX5_ends_41 : decode cX5_ends 41 = .ok (.ireturn, 1) := by decide +kernel
set_option maxRecDepth 20000 in
theorem ggX5_oneDay_X5_in : GoodIn wsX5_oneDay wsX5_in := goodIn_r _ [7] (by decide +kernel) (by decide +kernel)
set_option maxRecDepth 20000 in
theorem gX5_oneDay_X5_in : GoodIn wsX5_oneDay (va_wsS RX5 54 yX5_in wsX5_in) := goodIn_app (goodIn_of _ (by decide +kernel)) ggX5_oneDay_X5_in
set_option maxRecDepth 20000 in
theorem ggX5_oneDay_X5_goAll : GoodIn wsX5_oneDay wsX5_goAll := goodIn_r _ [11, 12, 13, 14, 15, 16, 6, 17, 18, 19, 20, 21, 22, 23, 24, 25, 26, 27, 28, 29, 30, 31, 32, 33, 34, 35, 36, 37, 38, 39, 4, 5, 7, 44, 45, 46, 47, 48, 49, 50, 51, 52, 53, 54, 55, 56, 57, 58, 59, 60, 61, 62, 63, 64, 65, 66] (by decide +kernel) (by decide +kernel)
set_option maxRecDepth 20000 in
theorem gX5_oneDay_X5_goAll : GoodIn wsX5_oneDay (wsV RX5 137 RX5 yX5_goAll wsX5_goAll) := goodIn_app (goodIn_of _ (by decide +kernel)) ggX5_oneDay_X5_goAll
set_option maxRecDepth 20000 in
theorem ggX5_oneDay_X5_endOf : GoodIn wsX5_oneDay wsX5_endOf := goodIn_r _ [43, 3, 13, 44, 45, 46, 47, 48, 49, 50, 51, 52, 53, 54, 55, 56, 57, 58, 59, 60, 61, 62, 63, 64, 65, 66] (by decide +kernel) (by decide +kernel)
set_option maxRecDepth 20000 in
theorem gX5_oneDay_X5_endOf : GoodIn wsX5_oneDay (wsV RX5 143 RX5 yX5_endOf wsX5_endOf) := goodIn_app (goodIn_of _ (by decide +kernel)) ggX5_oneDay_X5_endOf
theorem dX5_oneDay_0 : decode cX5_oneDay 0 = .ok (.iload_n 1, 1) := by decide +kernel
theorem dX5_oneDay_1 : decode cX5_oneDay 1 = .ok (.iconst 0, 1) := by decide +kernel
theorem dX5_oneDay_2 : decode cX5_oneDay 2 = .ok (.iconst 2, 1) := by decide +kernel
theorem dX5_oneDay_3 : decode cX5_oneDay 3 = .ok (.invokestatic 54, 3) := by decide +kernel
theorem dX5_oneDay_6 : decode cX5_oneDay 6 = .ok (.ifCond .ne 5, 3) := by decide +kernel
theorem dX5_oneDay_9 : decode cX5_oneDay 9 = .ok (.iconst (-1), 1) := by decide +kernel
theorem dX5_oneDay_10 : decode cX5_oneDay 10 = .ok (.ireturn, 1) := by decide +kernel
theorem dX5_oneDay_11 : decode cX5_oneDay 11 = .ok (.aload_n 0, 1) := by decide +kernel
theorem dX5_oneDay_12 : decode cX5_oneDay 12 = .ok (.iconst 0, 1) := by decide +kernel
theorem dX5_oneDay_13 : decode cX5_oneDay 13 = .ok (.iconst 0, 1) := by decide +kernel
theorem dX5_oneDay_14 : decode cX5_oneDay 14 = .ok (.invokevirtual 137, 3) := by decide +kernel
theorem dX5_oneDay_17 : decode cX5_oneDay 17 = .ok (.iconst 0, 1) := by decide +kernel
theorem dX5_oneDay_18 : decode cX5_oneDay 18 = .ok (.istore_n 2, 1) := by decide +kernel
theorem dX5_oneDay_19 : decode cX5_oneDay 19 = .ok (.iconst 0, 1) := by decide +kernel
theorem dX5_oneDay_20 : decode cX5_oneDay 20 = .ok (.istore_n 3, 1) := by decide +kernel
theorem dX5_oneDay_21 : decode cX5_oneDay 21 = .ok (.iconst 1, 1) := by decide +kernel
theorem dX5_oneDay_22 : decode cX5_oneDay 22 = .ok (.istore 4, 2) := by decide +kernel
theorem dX5_oneDay_24 : decode cX5_oneDay 24 = .ok (.iload 4, 2) := by decide +kernel
theorem dX5_oneDay_26 : decode cX5_oneDay 26 = .ok (.iconst 1, 1) := by decide +kernel
theorem dX5_oneDay_27 : decode cX5_oneDay 27 = .ok (.aload_n 0, 1) := by decide +kernel
theorem dX5_oneDay_28 : decode cX5_oneDay 28 = .ok (.getfield 32, 3) := by decide +kernel
theorem dX5_oneDay_31 : decode cX5_oneDay 31 = .ok (.iconst 0, 1) := by decide +kernel
theorem dX5_oneDay_32 : decode cX5_oneDay 32 = .ok (.iaload, 1) := by decide +kernel
theorem dX5_oneDay_33 : decode cX5_oneDay 33 = .ok (.ishl, 1) := by decide +kernel
theorem dX5_oneDay_34 : decode cX5_oneDay 34 = .ok (.if_icmp .ge 180, 3) := by decide +kernel
theorem dX5_oneDay_37 : decode cX5_oneDay 37 = .ok (.aload_n 0, 1) := by decide +kernel
theorem dX5_oneDay_38 : decode cX5_oneDay 38 = .ok (.getfield 48, 3) := by decide +kernel
theorem dX5_oneDay_41 : decode cX5_oneDay 41 = .ok (.iload 4, 2) := by decide +kernel
theorem dX5_oneDay_43 : decode cX5_oneDay 43 = .ok (.bipush (-9), 2) := by decide +kernel
theorem dX5_oneDay_45 : decode cX5_oneDay 45 = .ok (.iastore, 1) := by decide +kernel
theorem dX5_oneDay_46 : decode cX5_oneDay 46 = .ok (.iconst 0, 1) := by decide +kernel
theorem dX5_oneDay_47 : decode cX5_oneDay 47 = .ok (.istore 5, 2) := by decide +kernel
theorem dX5_oneDay_49 : decode cX5_oneDay 49 = .ok (.iconst 0, 1) := by decide +kernel
theorem dX5_oneDay_50 : decode cX5_oneDay 50 = .ok (.istore 6, 2) := by decide +kernel
theorem dX5_oneDay_52 : decode cX5_oneDay 52 = .ok (.iload 6, 2) := by decide +kernel
theorem dX5_oneDay_54 : decode cX5_oneDay 54 = .ok (.aload_n 0, 1) := by decide +kernel
theorem dX5_oneDay_55 : decode cX5_oneDay 55 = .ok (.getfield 32, 3) := by decide +kernel
theorem dX5_oneDay_58 : decode cX5_oneDay 58 = .ok (.iconst 0, 1) := by decide +kernel
theorem dX5_oneDay_59 : decode cX5_oneDay 59 = .ok (.iaload, 1) := by decide +kernel
theorem dX5_oneDay_60 : decode cX5_oneDay 60 = .ok (.if_icmp .ge 124, 3) := by decide +kernel
theorem dX5_oneDay_63 : decode cX5_oneDay 63 = .ok (.iload 4, 2) := by decide +kernel
theorem dX5_oneDay_65 : decode cX5_oneDay 65 = .ok (.iload 6, 2) := by decide +kernel
theorem dX5_oneDay_67 : decode cX5_oneDay 67 = .ok (.ishr, 1) := by decide +kernel
theorem dX5_oneDay_68 : decode cX5_oneDay 68 = .ok (.iconst 1, 1) := by decide +kernel
theorem dX5_oneDay_69 : decode cX5_oneDay 69 = .ok (.iand, 1) := by decide +kernel
theorem dX5_oneDay_70 : decode cX5_oneDay 70 = .ok (.iconst 1, 1) := by decide +kernel
theorem dX5_oneDay_71 : decode cX5_oneDay 71 = .ok (.if_icmp .ne 107, 3) := by decide +kernel
theorem dX5_oneDay_74 : decode cX5_oneDay 74 = .ok (.aload_n 0, 1) := by decide +kernel
theorem dX5_oneDay_75 : decode cX5_oneDay 75 = .ok (.getfield 48, 3) := by decide +kernel
theorem dX5_oneDay_78 : decode cX5_oneDay 78 = .ok (.iload 4, 2) := by decide +kernel
theorem dX5_oneDay_80 : decode cX5_oneDay 80 = .ok (.iconst 1, 1) := by decide +kernel
theorem dX5_oneDay_81 : decode cX5_oneDay 81 = .ok (.iload 6, 2) := by decide +kernel
theorem dX5_oneDay_83 : decode cX5_oneDay 83 = .ok (.ishl, 1) := by decide +kernel
theorem dX5_oneDay_84 : decode cX5_oneDay 84 = .ok (.iconst (-1), 1) := by decide +kernel
theorem dX5_oneDay_85 : decode cX5_oneDay 85 = .ok (.ixor, 1) := by decide +kernel
theorem dX5_oneDay_86 : decode cX5_oneDay 86 = .ok (.iand, 1) := by decide +kernel
theorem dX5_oneDay_87 : decode cX5_oneDay 87 = .ok (.iaload, 1) := by decide +kernel
theorem dX5_oneDay_88 : decode cX5_oneDay 88 = .ok (.istore 7, 2) := by decide +kernel
theorem dX5_oneDay_90 : decode cX5_oneDay 90 = .ok (.iload 7, 2) := by decide +kernel
theorem dX5_oneDay_92 : decode cX5_oneDay 92 = .ok (.bipush (-9), 2) := by decide +kernel
theorem dX5_oneDay_94 : decode cX5_oneDay 94 = .ok (.if_icmp .ne 8, 3) := by decide +kernel
theorem dX5_oneDay_97 : decode cX5_oneDay 97 = .ok (.bipush (-9), 2) := by decide +kernel
theorem dX5_oneDay_99 : decode cX5_oneDay 99 = .ok (.goto 11, 3) := by decide +kernel
theorem dX5_oneDay_102 : decode cX5_oneDay 102 = .ok (.aload_n 0, 1) := by decide +kernel
theorem dX5_oneDay_103 : decode cX5_oneDay 103 = .ok (.iload 6, 2) := by decide +kernel
theorem dX5_oneDay_105 : decode cX5_oneDay 105 = .ok (.iload 7, 2) := by decide +kernel
theorem dX5_oneDay_107 : decode cX5_oneDay 107 = .ok (.invokevirtual 143, 3) := by decide +kernel
theorem dX5_oneDay_110 : decode cX5_oneDay 110 = .ok (.istore 8, 2) := by decide +kernel
theorem dX5_oneDay_112 : decode cX5_oneDay 112 = .ok (.aload_n 0, 1) := by decide +kernel
theorem dX5_oneDay_113 : decode cX5_oneDay 113 = .ok (.getfield 48, 3) := by decide +kernel
theorem dX5_oneDay_116 : decode cX5_oneDay 116 = .ok (.iload 4, 2) := by decide +kernel
theorem dX5_oneDay_118 : decode cX5_oneDay 118 = .ok (.iload 8, 2) := by decide +kernel
theorem dX5_oneDay_120 : decode cX5_oneDay 120 = .ok (.bipush (-9), 2) := by decide +kernel
theorem dX5_oneDay_122 : decode cX5_oneDay 122 = .ok (.if_icmp .eq 32, 3) := by decide +kernel
theorem dX5_oneDay_125 : decode cX5_oneDay 125 = .ok (.aload_n 0, 1) := by decide +kernel
theorem dX5_oneDay_126 : decode cX5_oneDay 126 = .ok (.getfield 48, 3) := by decide +kernel
theorem dX5_oneDay_129 : decode cX5_oneDay 129 = .ok (.iload 4, 2) := by decide +kernel
theorem dX5_oneDay_131 : decode cX5_oneDay 131 = .ok (.iaload, 1) := by decide +kernel
theorem dX5_oneDay_132 : decode cX5_oneDay 132 = .ok (.bipush (-9), 2) := by decide +kernel
theorem dX5_oneDay_134 : decode cX5_oneDay 134 = .ok (.if_icmp .eq 15, 3) := by decide +kernel
theorem dX5_oneDay_137 : decode cX5_oneDay 137 = .ok (.iload 8, 2) := by decide +kernel
theorem dX5_oneDay_139 : decode cX5_oneDay 139 = .ok (.aload_n 0, 1) := by decide +kernel
theorem dX5_oneDay_140 : decode cX5_oneDay 140 = .ok (.getfield 48, 3) := by decide +kernel
theorem dX5_oneDay_143 : decode cX5_oneDay 143 = .ok (.iload 4, 2) := by decide +kernel
theorem dX5_oneDay_145 : decode cX5_oneDay 145 = .ok (.iaload, 1) := by decide +kernel
theorem dX5_oneDay_146 : decode cX5_oneDay 146 = .ok (.if_icmp .ge 8, 3) := by decide +kernel
theorem dX5_oneDay_149 : decode cX5_oneDay 149 = .ok (.iload 8, 2) := by decide +kernel
theorem dX5_oneDay_151 : decode cX5_oneDay 151 = .ok (.goto 10, 3) := by decide +kernel
theorem dX5_oneDay_154 : decode cX5_oneDay 154 = .ok (.aload_n 0, 1) := by decide +kernel
theorem dX5_oneDay_155 : decode cX5_oneDay 155 = .ok (.getfield 48, 3) := by decide +kernel
theorem dX5_oneDay_158 : decode cX5_oneDay 158 = .ok (.iload 4, 2) := by decide +kernel
theorem dX5_oneDay_160 : decode cX5_oneDay 160 = .ok (.iaload, 1) := by decide +kernel
theorem dX5_oneDay_161 : decode cX5_oneDay 161 = .ok (.iastore, 1) := by decide +kernel
theorem dX5_oneDay_162 : decode cX5_oneDay 162 = .ok (.iload 5, 2) := by decide +kernel
theorem dX5_oneDay_164 : decode cX5_oneDay 164 = .ok (.aload_n 0, 1) := by decide +kernel
theorem dX5_oneDay_165 : decode cX5_oneDay 165 = .ok (.getfield 35, 3) := by decide +kernel
theorem dX5_oneDay_168 : decode cX5_oneDay 168 = .ok (.iconst 3, 1) := by decide +kernel
theorem dX5_oneDay_169 : decode cX5_oneDay 169 = .ok (.iload 6, 2) := by decide +kernel
theorem dX5_oneDay_171 : decode cX5_oneDay 171 = .ok (.imul, 1) := by decide +kernel
theorem dX5_oneDay_172 : decode cX5_oneDay 172 = .ok (.iconst 2, 1) := by decide +kernel
theorem dX5_oneDay_173 : decode cX5_oneDay 173 = .ok (.iadd, 1) := by decide +kernel
theorem dX5_oneDay_174 : decode cX5_oneDay 174 = .ok (.iaload, 1) := by decide +kernel
theorem dX5_oneDay_175 : decode cX5_oneDay 175 = .ok (.iadd, 1) := by decide +kernel
theorem dX5_oneDay_176 : decode cX5_oneDay 176 = .ok (.istore 5, 2) := by decide +kernel
theorem dX5_oneDay_178 : decode cX5_oneDay 178 = .ok (.iinc 6 1, 3) := by decide +kernel
theorem dX5_oneDay_181 : decode cX5_oneDay 181 = .ok (.goto (-129), 3) := by decide +kernel
theorem dX5_oneDay_184 : decode cX5_oneDay 184 = .ok (.aload_n 0, 1) := by decide +kernel
theorem dX5_oneDay_185 : decode cX5_oneDay 185 = .ok (.getfield 48, 3) := by decide +kernel
theorem dX5_oneDay_188 : decode cX5_oneDay 188 = .ok (.iload 4, 2) := by decide +kernel
theorem dX5_oneDay_190 : decode cX5_oneDay 190 = .ok (.iaload, 1) := by decide +kernel
theorem dX5_oneDay_191 : decode cX5_oneDay 191 = .ok (.bipush (-9), 2) := by decide +kernel
theorem dX5_oneDay_193 : decode cX5_oneDay 193 = .ok (.if_icmp .eq 15, 3) := by decide +kernel
theorem dX5_oneDay_196 : decode cX5_oneDay 196 = .ok (.iload 5, 2) := by decide +kernel
theorem dX5_oneDay_198 : decode cX5_oneDay 198 = .ok (.iload_n 3, 1) := by decide +kernel
theorem dX5_oneDay_199 : decode cX5_oneDay 199 = .ok (.if_icmp .le 9, 3) := by decide +kernel
theorem dX5_oneDay_202 : decode cX5_oneDay 202 = .ok (.iload 4, 2) := by decide +kernel
theorem dX5_oneDay_204 : decode cX5_oneDay 204 = .ok (.istore_n 2, 1) := by decide +kernel
theorem dX5_oneDay_205 : decode cX5_oneDay 205 = .ok (.iload 5, 2) := by decide +kernel
theorem dX5_oneDay_207 : decode cX5_oneDay 207 = .ok (.istore_n 3, 1) := by decide +kernel
theorem dX5_oneDay_208 : decode cX5_oneDay 208 = .ok (.iinc 4 1, 3) := by decide +kernel
theorem dX5_oneDay_211 : decode cX5_oneDay 211 = .ok (.goto (-187), 3) := by decide +kernel
theorem dX5_oneDay_214 : decode cX5_oneDay 214 = .ok (.iload_n 1, 1) := by decide +kernel
theorem dX5_oneDay_215 : decode cX5_oneDay 215 = .ok (.ifCond .ne 7, 3) := by decide +kernel
theorem dX5_oneDay_218 : decode cX5_oneDay 218 = .ok (.iload_n 3, 1) := by decide +kernel
theorem dX5_oneDay_219 : decode cX5_oneDay 219 = .ok (.goto 18, 3) := by decide +kernel
theorem dX5_oneDay_222 : decode cX5_oneDay 222 = .ok (.iload_n 1, 1) := by decide +kernel
theorem dX5_oneDay_223 : decode cX5_oneDay 223 = .ok (.iconst 1, 1) := by decide +kernel
theorem dX5_oneDay_224 : decode cX5_oneDay 224 = .ok (.if_icmp .ne 7, 3) := by decide +kernel
theorem dX5_oneDay_227 : decode cX5_oneDay 227 = .ok (.iload_n 2, 1) := by decide +kernel
theorem dX5_oneDay_228 : decode cX5_oneDay 228 = .ok (.goto 9, 3) := by decide +kernel
theorem dX5_oneDay_231 : decode cX5_oneDay 231 = .ok (.aload_n 0, 1) := by decide +kernel
theorem dX5_oneDay_232 : decode cX5_oneDay 232 = .ok (.getfield 48, 3) := by decide +kernel
theorem dX5_oneDay_235 : decode cX5_oneDay 235 = .ok (.iload_n 2, 1) := by decide +kernel
theorem dX5_oneDay_236 : decode cX5_oneDay 236 = .ok (.iaload, 1) := by decide +kernel
theorem dX5_oneDay_237 : decode cX5_oneDay 237 = .ok (.ireturn, 1) := by decide +kernel
theorem dX5_isRest_0 : decode cX5_isRest 0 = .ok (.iload_n 1, 1) := by decide +kernel
theorem dX5_isRest_1 : decode cX5_isRest 1 = .ok (.ifCond .eq 16, 3) := by decide +kernel
theorem dX5_isRest_4 : decode cX5_isRest 4 = .ok (.iload_n 2, 1) := by decide +kernel
theorem dX5_isRest_5 : decode cX5_isRest 5 = .ok (.iload 5, 2) := by decide +kernel
theorem dX5_isRest_7 : decode cX5_isRest 7 = .ok (.imul, 1) := by decide +kernel
theorem dX5_isRest_8 : decode cX5_isRest 8 = .ok (.iload_n 3, 1) := by decide +kernel
theorem dX5_isRest_9 : decode cX5_isRest 9 = .ok (.isub, 1) := by decide +kernel
theorem dX5_isRest_10 : decode cX5_isRest 10 = .ok (.iload_n 2, 1) := by decide +kernel
theorem dX5_isRest_11 : decode cX5_isRest 11 = .ok (.iload 4, 2) := by decide +kernel
theorem dX5_isRest_13 : decode cX5_isRest 13 = .ok (.imul, 1) := by decide +kernel
theorem dX5_isRest_14 : decode cX5_isRest 14 = .ok (.if_icmp .lt 7, 3) := by decide +kernel
theorem dX5_isRest_17 : decode cX5_isRest 17 = .ok (.iconst 1, 1) := by decide +kernel
theorem dX5_isRest_18 : decode cX5_isRest 18 = .ok (.goto 4, 3) := by decide +kernel
theorem dX5_isRest_21 : decode cX5_isRest 21 = .ok (.iconst 0, 1) := by decide +kernel
theorem dX5_isRest_22 : decode cX5_isRest 22 = .ok (.istore 7, 2) := by decide +kernel
theorem dX5_isRest_24 : decode cX5_isRest 24 = .ok (.iload 7, 2) := by decide +kernel
theorem dX5_isRest_26 : decode cX5_isRest 26 = .ok (.ifCond .eq 25, 3) := by decide +kernel
theorem dX5_isRest_29 : decode cX5_isRest 29 = .ok (.iload_n 1, 1) := by decide +kernel
theorem dX5_isRest_30 : decode cX5_isRest 30 = .ok (.iload_n 0, 1) := by decide +kernel
theorem dX5_isRest_31 : decode cX5_isRest 31 = .ok (.if_icmp .eq 16, 3) := by decide +kernel
theorem dX5_isRest_34 : decode cX5_isRest 34 = .ok (.iload_n 2, 1) := by decide +kernel
theorem dX5_isRest_35 : decode cX5_isRest 35 = .ok (.iload 5, 2) := by decide +kernel
theorem dX5_isRest_37 : decode cX5_isRest 37 = .ok (.imul, 1) := by decide +kernel
theorem dX5_isRest_38 : decode cX5_isRest 38 = .ok (.iload_n 2, 1) := by decide +kernel
theorem dX5_isRest_39 : decode cX5_isRest 39 = .ok (.iload 6, 2) := by decide +kernel
theorem dX5_isRest_41 : decode cX5_isRest 41 = .ok (.imul, 1) := by decide +kernel
theorem dX5_isRest_42 : decode cX5_isRest 42 = .ok (.iload_n 3, 1) := by decide +kernel
theorem dX5_isRest_43 : decode cX5_isRest 43 = .ok (.isub, 1) := by decide +kernel
theorem dX5_isRest_44 : decode cX5_isRest 44 = .ok (.if_icmp .lt 7, 3) := by decide +kernel
theorem dX5_isRest_47 : decode cX5_isRest 47 = .ok (.iconst 1, 1) := by decide +kernel
theorem dX5_isRest_48 : decode cX5_isRest 48 = .ok (.goto 4, 3) := by decide +kernel
theorem dX5_isRest_51 : decode cX5_isRest 51 = .ok (.iconst 0, 1) := by decide +kernel
theorem dX5_isRest_52 : decode cX5_isRest 52 = .ok (.ireturn, 1) := by decide +kernel
set_option maxRecDepth 20000 in
theorem ggX5_wages_X5_in : GoodIn wsX5_wages wsX5_in := goodIn_r _ [6] (by decide +kernel) (by decide +kernel)
set_option maxRecDepth 20000 in
theorem gX5_wages_X5_in : GoodIn wsX5_wages (va_wsS RX5 54 yX5_in wsX5_in) := goodIn_app (goodIn_of _ (by decide +kernel)) ggX5_wages_X5_in
set_option maxRecDepth 20000 in
theorem ggX5_wages_X5_isRest : GoodIn wsX5_wages wsX5_isRest := goodIn_r _ [9] (by decide +kernel) (by decide +kernel)
set_option maxRecDepth 20000 in
theorem gX5_wages_X5_isRest : GoodIn wsX5_wages (va_wsS RX5 147 yX5_isRest wsX5_isRest) := goodIn_app (goodIn_of _ (by decide +kernel)) ggX5_wages_X5_isRest
theorem dX5_wages_0 : decode cX5_wages 0 = .ok (.iload_n 1, 1) := by decide +kernel
theorem dX5_wages_1 : decode cX5_wages 1 = .ok (.iconst 1, 1) := by decide +kernel
theorem dX5_wages_2 : decode cX5_wages 2 = .ok (.bipush 8, 2) := by decide +kernel
theorem dX5_wages_4 : decode cX5_wages 4 = .ok (.invokestatic 54, 3) := by decide +kernel
theorem dX5_wages_7 : decode cX5_wages 7 = .ok (.ifCond .eq 57, 3) := by decide +kernel
theorem dX5_wages_10 : decode cX5_wages 10 = .ok (.iload_n 2, 1) := by decide +kernel
theorem dX5_wages_11 : decode cX5_wages 11 = .ok (.iconst 0, 1) := by decide +kernel
theorem dX5_wages_12 : decode cX5_wages 12 = .ok (.sipush 9999, 3) := by decide +kernel
theorem dX5_wages_15 : decode cX5_wages 15 = .ok (.invokestatic 54, 3) := by decide +kernel
theorem dX5_wages_18 : decode cX5_wages 18 = .ok (.ifCond .eq 46, 3) := by decide +kernel
theorem dX5_wages_21 : decode cX5_wages 21 = .ok (.iload_n 3, 1) := by decide +kernel
theorem dX5_wages_22 : decode cX5_wages 22 = .ok (.iconst 1, 1) := by decide +kernel
theorem dX5_wages_23 : decode cX5_wages 23 = .ok (.sipush 999, 3) := by decide +kernel
theorem dX5_wages_26 : decode cX5_wages 26 = .ok (.invokestatic 54, 3) := by decide +kernel
theorem dX5_wages_29 : decode cX5_wages 29 = .ok (.ifCond .eq 35, 3) := by decide +kernel
theorem dX5_wages_32 : decode cX5_wages 32 = .ok (.iload 4, 2) := by decide +kernel
theorem dX5_wages_34 : decode cX5_wages 34 = .ok (.iconst 0, 1) := by decide +kernel
theorem dX5_wages_35 : decode cX5_wages 35 = .ok (.bipush 99, 2) := by decide +kernel
theorem dX5_wages_37 : decode cX5_wages 37 = .ok (.invokestatic 54, 3) := by decide +kernel
theorem dX5_wages_40 : decode cX5_wages 40 = .ok (.ifCond .eq 24, 3) := by decide +kernel
theorem dX5_wages_43 : decode cX5_wages 43 = .ok (.iload 5, 2) := by decide +kernel
theorem dX5_wages_45 : decode cX5_wages 45 = .ok (.iconst 0, 1) := by decide +kernel
theorem dX5_wages_46 : decode cX5_wages 46 = .ok (.bipush 99, 2) := by decide +kernel
theorem dX5_wages_48 : decode cX5_wages 48 = .ok (.invokestatic 54, 3) := by decide +kernel
theorem dX5_wages_51 : decode cX5_wages 51 = .ok (.ifCond .eq 13, 3) := by decide +kernel
theorem dX5_wages_54 : decode cX5_wages 54 = .ok (.iload 6, 2) := by decide +kernel
theorem dX5_wages_56 : decode cX5_wages 56 = .ok (.iconst 0, 1) := by decide +kernel
theorem dX5_wages_57 : decode cX5_wages 57 = .ok (.iconst 3, 1) := by decide +kernel
theorem dX5_wages_58 : decode cX5_wages 58 = .ok (.invokestatic 54, 3) := by decide +kernel
theorem dX5_wages_61 : decode cX5_wages 61 = .ok (.ifCond .ne 5, 3) := by decide +kernel
theorem dX5_wages_64 : decode cX5_wages 64 = .ok (.iconst (-1), 1) := by decide +kernel
theorem dX5_wages_65 : decode cX5_wages 65 = .ok (.ireturn, 1) := by decide +kernel
theorem dX5_wages_66 : decode cX5_wages 66 = .ok (.aload_n 0, 1) := by decide +kernel
theorem dX5_wages_67 : decode cX5_wages 67 = .ok (.getfield 13, 3) := by decide +kernel
theorem dX5_wages_70 : decode cX5_wages 70 = .ok (.iconst 0, 1) := by decide +kernel
theorem dX5_wages_71 : decode cX5_wages 71 = .ok (.iaload, 1) := by decide +kernel
theorem dX5_wages_72 : decode cX5_wages 72 = .ok (.istore 7, 2) := by decide +kernel
theorem dX5_wages_74 : decode cX5_wages 74 = .ok (.bipush (-9), 2) := by decide +kernel
theorem dX5_wages_76 : decode cX5_wages 76 = .ok (.istore 8, 2) := by decide +kernel
theorem dX5_wages_78 : decode cX5_wages 78 = .ok (.bipush (-9), 2) := by decide +kernel
theorem dX5_wages_80 : decode cX5_wages 80 = .ok (.istore 9, 2) := by decide +kernel
theorem dX5_wages_82 : decode cX5_wages 82 = .ok (.iconst 0, 1) := by decide +kernel
theorem dX5_wages_83 : decode cX5_wages 83 = .ok (.istore 10, 2) := by decide +kernel
theorem dX5_wages_85 : decode cX5_wages 85 = .ok (.iconst 0, 1) := by decide +kernel
theorem dX5_wages_86 : decode cX5_wages 86 = .ok (.istore 11, 2) := by decide +kernel
theorem dX5_wages_88 : decode cX5_wages 88 = .ok (.ldc 146, 2) := by decide +kernel
theorem dX5_wages_90 : decode cX5_wages 90 = .ok (.istore 12, 2) := by decide +kernel
theorem dX5_wages_92 : decode cX5_wages 92 = .ok (.iconst 0, 1) := by decide +kernel
theorem dX5_wages_93 : decode cX5_wages 93 = .ok (.istore 13, 2) := by decide +kernel
theorem dX5_wages_95 : decode cX5_wages 95 = .ok (.iload 13, 2) := by decide +kernel
theorem dX5_wages_97 : decode cX5_wages 97 = .ok (.iload_n 1, 1) := by decide +kernel
theorem dX5_wages_98 : decode cX5_wages 98 = .ok (.if_icmp .gt 125, 3) := by decide +kernel
theorem dX5_wages_101 : decode cX5_wages 101 = .ok (.iload_n 2, 1) := by decide +kernel
theorem dX5_wages_102 : decode cX5_wages 102 = .ok (.iload 13, 2) := by decide +kernel
theorem dX5_wages_104 : decode cX5_wages 104 = .ok (.iload_n 3, 1) := by decide +kernel
theorem dX5_wages_105 : decode cX5_wages 105 = .ok (.imul, 1) := by decide +kernel
theorem dX5_wages_106 : decode cX5_wages 106 = .ok (.iadd, 1) := by decide +kernel
theorem dX5_wages_107 : decode cX5_wages 107 = .ok (.iload 7, 2) := by decide +kernel
theorem dX5_wages_109 : decode cX5_wages 109 = .ok (.idiv, 1) := by decide +kernel
theorem dX5_wages_110 : decode cX5_wages 110 = .ok (.istore 14, 2) := by decide +kernel
theorem dX5_wages_112 : decode cX5_wages 112 = .ok (.iload_n 1, 1) := by decide +kernel
theorem dX5_wages_113 : decode cX5_wages 113 = .ok (.iload 13, 2) := by decide +kernel
theorem dX5_wages_115 : decode cX5_wages 115 = .ok (.iload 4, 2) := by decide +kernel
theorem dX5_wages_117 : decode cX5_wages 117 = .ok (.iload 5, 2) := by decide +kernel
theorem dX5_wages_119 : decode cX5_wages 119 = .ok (.iload_n 2, 1) := by decide +kernel
theorem dX5_wages_120 : decode cX5_wages 120 = .ok (.iload 13, 2) := by decide +kernel
theorem dX5_wages_122 : decode cX5_wages 122 = .ok (.iconst 1, 1) := by decide +kernel
theorem dX5_wages_123 : decode cX5_wages 123 = .ok (.isub, 1) := by decide +kernel
theorem dX5_wages_124 : decode cX5_wages 124 = .ok (.iload_n 3, 1) := by decide +kernel
theorem dX5_wages_125 : decode cX5_wages 125 = .ok (.imul, 1) := by decide +kernel
theorem dX5_wages_126 : decode cX5_wages 126 = .ok (.iadd, 1) := by decide +kernel
theorem dX5_wages_127 : decode cX5_wages 127 = .ok (.iload 7, 2) := by decide +kernel
theorem dX5_wages_129 : decode cX5_wages 129 = .ok (.idiv, 1) := by decide +kernel
theorem dX5_wages_130 : decode cX5_wages 130 = .ok (.iload 14, 2) := by decide +kernel
theorem dX5_wages_132 : decode cX5_wages 132 = .ok (.iload_n 2, 1) := by decide +kernel
theorem dX5_wages_133 : decode cX5_wages 133 = .ok (.iload 13, 2) := by decide +kernel
theorem dX5_wages_135 : decode cX5_wages 135 = .ok (.iconst 1, 1) := by decide +kernel
theorem dX5_wages_136 : decode cX5_wages 136 = .ok (.iadd, 1) := by decide +kernel
theorem dX5_wages_137 : decode cX5_wages 137 = .ok (.iload_n 3, 1) := by decide +kernel
theorem dX5_wages_138 : decode cX5_wages 138 = .ok (.imul, 1) := by decide +kernel
theorem dX5_wages_139 : decode cX5_wages 139 = .ok (.iadd, 1) := by decide +kernel
theorem dX5_wages_140 : decode cX5_wages 140 = .ok (.iload 7, 2) := by decide +kernel
theorem dX5_wages_142 : decode cX5_wages 142 = .ok (.idiv, 1) := by decide +kernel
theorem dX5_wages_143 : decode cX5_wages 143 = .ok (.invokestatic 147, 3) := by decide +kernel
theorem dX5_wages_146 : decode cX5_wages 146 = .ok (.ifCond .eq 24, 3) := by decide +kernel
theorem dX5_wages_149 : decode cX5_wages 149 = .ok (.iload 10, 2) := by decide +kernel
theorem dX5_wages_151 : decode cX5_wages 151 = .ok (.ifCond .ne 8, 3) := by decide +kernel
theorem dX5_wages_154 : decode cX5_wages 154 = .ok (.iload 13, 2) := by decide +kernel
theorem dX5_wages_156 : decode cX5_wages 156 = .ok (.goto 5, 3) := by decide +kernel
theorem dX5_wages_159 : decode cX5_wages 159 = .ok (.iload 8, 2) := by decide +kernel
theorem dX5_wages_161 : decode cX5_wages 161 = .ok (.istore 8, 2) := by decide +kernel
theorem dX5_wages_163 : decode cX5_wages 163 = .ok (.iload 13, 2) := by decide +kernel
theorem dX5_wages_165 : decode cX5_wages 165 = .ok (.istore 9, 2) := by decide +kernel
theorem dX5_wages_167 : decode cX5_wages 167 = .ok (.iinc 10 1, 3) := by decide +kernel
theorem dX5_wages_170 : decode cX5_wages 170 = .ok (.iload_n 1, 1) := by decide +kernel
theorem dX5_wages_171 : decode cX5_wages 171 = .ok (.iload 4, 2) := by decide +kernel
theorem dX5_wages_173 : decode cX5_wages 173 = .ok (.imul, 1) := by decide +kernel
theorem dX5_wages_174 : decode cX5_wages 174 = .ok (.iload 14, 2) := by decide +kernel
theorem dX5_wages_176 : decode cX5_wages 176 = .ok (.imul, 1) := by decide +kernel
theorem dX5_wages_177 : decode cX5_wages 177 = .ok (.iload 13, 2) := by decide +kernel
theorem dX5_wages_179 : decode cX5_wages 179 = .ok (.iload 5, 2) := by decide +kernel
theorem dX5_wages_181 : decode cX5_wages 181 = .ok (.imul, 1) := by decide +kernel
theorem dX5_wages_182 : decode cX5_wages 182 = .ok (.isub, 1) := by decide +kernel
theorem dX5_wages_183 : decode cX5_wages 183 = .ok (.istore 15, 2) := by decide +kernel
theorem dX5_wages_185 : decode cX5_wages 185 = .ok (.iload 15, 2) := by decide +kernel
theorem dX5_wages_187 : decode cX5_wages 187 = .ok (.iload 12, 2) := by decide +kernel
theorem dX5_wages_189 : decode cX5_wages 189 = .ok (.if_icmp .le 8, 3) := by decide +kernel
theorem dX5_wages_192 : decode cX5_wages 192 = .ok (.iload 13, 2) := by decide +kernel
theorem dX5_wages_194 : decode cX5_wages 194 = .ok (.goto 5, 3) := by decide +kernel
theorem dX5_wages_197 : decode cX5_wages 197 = .ok (.iload 11, 2) := by decide +kernel
theorem dX5_wages_199 : decode cX5_wages 199 = .ok (.istore 11, 2) := by decide +kernel
theorem dX5_wages_201 : decode cX5_wages 201 = .ok (.iload 15, 2) := by decide +kernel
theorem dX5_wages_203 : decode cX5_wages 203 = .ok (.iload 12, 2) := by decide +kernel
theorem dX5_wages_205 : decode cX5_wages 205 = .ok (.if_icmp .le 8, 3) := by decide +kernel
theorem dX5_wages_208 : decode cX5_wages 208 = .ok (.iload 15, 2) := by decide +kernel
theorem dX5_wages_210 : decode cX5_wages 210 = .ok (.goto 5, 3) := by decide +kernel
theorem dX5_wages_213 : decode cX5_wages 213 = .ok (.iload 12, 2) := by decide +kernel
theorem dX5_wages_215 : decode cX5_wages 215 = .ok (.istore 12, 2) := by decide +kernel
theorem dX5_wages_217 : decode cX5_wages 217 = .ok (.iinc 13 1, 3) := by decide +kernel
theorem dX5_wages_220 : decode cX5_wages 220 = .ok (.goto (-125), 3) := by decide +kernel
theorem dX5_wages_223 : decode cX5_wages 223 = .ok (.iload 6, 2) := by decide +kernel
theorem dX5_wages_225 : decode cX5_wages 225 = .ok (.ifCond .ne 8, 3) := by decide +kernel
theorem dX5_wages_228 : decode cX5_wages 228 = .ok (.iload 8, 2) := by decide +kernel
theorem dX5_wages_230 : decode cX5_wages 230 = .ok (.goto 27, 3) := by decide +kernel
theorem dX5_wages_233 : decode cX5_wages 233 = .ok (.iload 6, 2) := by decide +kernel
theorem dX5_wages_235 : decode cX5_wages 235 = .ok (.iconst 1, 1) := by decide +kernel
theorem dX5_wages_236 : decode cX5_wages 236 = .ok (.if_icmp .ne 8, 3) := by decide +kernel
theorem dX5_wages_239 : decode cX5_wages 239 = .ok (.iload 9, 2) := by decide +kernel
theorem dX5_wages_241 : decode cX5_wages 241 = .ok (.goto 16, 3) := by decide +kernel
theorem dX5_wages_244 : decode cX5_wages 244 = .ok (.iload 6, 2) := by decide +kernel
theorem dX5_wages_246 : decode cX5_wages 246 = .ok (.iconst 2, 1) := by decide +kernel
theorem dX5_wages_247 : decode cX5_wages 247 = .ok (.if_icmp .ne 8, 3) := by decide +kernel
theorem dX5_wages_250 : decode cX5_wages 250 = .ok (.iload 10, 2) := by decide +kernel
theorem dX5_wages_252 : decode cX5_wages 252 = .ok (.goto 5, 3) := by decide +kernel
theorem dX5_wages_255 : decode cX5_wages 255 = .ok (.iload 11, 2) := by decide +kernel
theorem dX5_wages_257 : decode cX5_wages 257 = .ok (.ireturn, 1) := by decide +kernel
set_option maxRecDepth 20000 in
theorem ggX5_even_X5_in : GoodIn wsX5_even wsX5_in := goodIn_r _ [6] (by decide +kernel) (by decide +kernel)
set_option maxRecDepth 20000 in
theorem gX5_even_X5_in : GoodIn wsX5_even (va_wsS RX5 54 yX5_in wsX5_in) := goodIn_app (goodIn_of _ (by decide +kernel)) ggX5_even_X5_in
set_option maxRecDepth 20000 in
theorem ggX5_even_X5_goAll : GoodIn wsX5_even wsX5_goAll := goodIn_r _ [10, 11, 1, 12, 13, 14, 5, 15, 16, 17, 18, 19, 20, 21, 22, 23, 24, 25, 26, 2, 27, 28, 29, 30, 31, 32, 33, 34, 35, 36, 3, 4, 6, 37, 38, 39, 40, 41, 42, 43, 44, 45, 46, 47, 48, 49, 50, 51, 52, 53, 54, 55, 56, 57, 58, 59] (by decide +kernel) (by decide +kernel)
set_option maxRecDepth 20000 in
theorem gX5_even_X5_goAll : GoodIn wsX5_even (wsV RX5 137 RX5 yX5_goAll wsX5_goAll) := goodIn_app (goodIn_of _ (by decide +kernel)) ggX5_even_X5_goAll
theorem dX5_even_0 : decode cX5_even 0 = .ok (.iload_n 1, 1) := by decide +kernel
theorem dX5_even_1 : decode cX5_even 1 = .ok (.iconst 0, 1) := by decide +kernel
theorem dX5_even_2 : decode cX5_even 2 = .ok (.sipush 240, 3) := by decide +kernel
theorem dX5_even_5 : decode cX5_even 5 = .ok (.invokestatic 54, 3) := by decide +kernel
theorem dX5_even_8 : decode cX5_even 8 = .ok (.ifCond .eq 12, 3) := by decide +kernel
theorem dX5_even_11 : decode cX5_even 11 = .ok (.iload_n 2, 1) := by decide +kernel
theorem dX5_even_12 : decode cX5_even 12 = .ok (.iconst 0, 1) := by decide +kernel
theorem dX5_even_13 : decode cX5_even 13 = .ok (.iconst 3, 1) := by decide +kernel
theorem dX5_even_14 : decode cX5_even 14 = .ok (.invokestatic 54, 3) := by decide +kernel
theorem dX5_even_17 : decode cX5_even 17 = .ok (.ifCond .ne 5, 3) := by decide +kernel
theorem dX5_even_20 : decode cX5_even 20 = .ok (.iconst (-1), 1) := by decide +kernel
theorem dX5_even_21 : decode cX5_even 21 = .ok (.ireturn, 1) := by decide +kernel
theorem dX5_even_22 : decode cX5_even 22 = .ok (.aload_n 0, 1) := by decide +kernel
theorem dX5_even_23 : decode cX5_even 23 = .ok (.iconst 0, 1) := by decide +kernel
theorem dX5_even_24 : decode cX5_even 24 = .ok (.iconst 0, 1) := by decide +kernel
theorem dX5_even_25 : decode cX5_even 25 = .ok (.invokevirtual 137, 3) := by decide +kernel
theorem dX5_even_28 : decode cX5_even 28 = .ok (.iconst 0, 1) := by decide +kernel
theorem dX5_even_29 : decode cX5_even 29 = .ok (.istore_n 3, 1) := by decide +kernel
theorem dX5_even_30 : decode cX5_even 30 = .ok (.bipush (-9), 2) := by decide +kernel
theorem dX5_even_32 : decode cX5_even 32 = .ok (.istore 4, 2) := by decide +kernel
theorem dX5_even_34 : decode cX5_even 34 = .ok (.iconst 0, 1) := by decide +kernel
theorem dX5_even_35 : decode cX5_even 35 = .ok (.istore 5, 2) := by decide +kernel
theorem dX5_even_37 : decode cX5_even 37 = .ok (.iload 5, 2) := by decide +kernel
theorem dX5_even_39 : decode cX5_even 39 = .ok (.sipush 240, 3) := by decide +kernel
theorem dX5_even_42 : decode cX5_even 42 = .ok (.if_icmp .gt 65, 3) := by decide +kernel
theorem dX5_even_45 : decode cX5_even 45 = .ok (.iload 5, 2) := by decide +kernel
theorem dX5_even_47 : decode cX5_even 47 = .ok (.bipush 60, 2) := by decide +kernel
theorem dX5_even_49 : decode cX5_even 49 = .ok (.idiv, 1) := by decide +kernel
theorem dX5_even_50 : decode cX5_even 50 = .ok (.aload_n 0, 1) := by decide +kernel
theorem dX5_even_51 : decode cX5_even 51 = .ok (.getfield 45, 3) := by decide +kernel
theorem dX5_even_54 : decode cX5_even 54 = .ok (.iload 5, 2) := by decide +kernel
theorem dX5_even_56 : decode cX5_even 56 = .ok (.iaload, 1) := by decide +kernel
theorem dX5_even_57 : decode cX5_even 57 = .ok (.aload_n 0, 1) := by decide +kernel
theorem dX5_even_58 : decode cX5_even 58 = .ok (.getfield 13, 3) := by decide +kernel
theorem dX5_even_61 : decode cX5_even 61 = .ok (.iconst 0, 1) := by decide +kernel
theorem dX5_even_62 : decode cX5_even 62 = .ok (.iaload, 1) := by decide +kernel
theorem dX5_even_63 : decode cX5_even 63 = .ok (.idiv, 1) := by decide +kernel
theorem dX5_even_64 : decode cX5_even 64 = .ok (.if_icmp .ne 7, 3) := by decide +kernel
theorem dX5_even_67 : decode cX5_even 67 = .ok (.iconst 1, 1) := by decide +kernel
theorem dX5_even_68 : decode cX5_even 68 = .ok (.goto 4, 3) := by decide +kernel
theorem dX5_even_71 : decode cX5_even 71 = .ok (.iconst 0, 1) := by decide +kernel
theorem dX5_even_72 : decode cX5_even 72 = .ok (.istore 6, 2) := by decide +kernel
theorem dX5_even_74 : decode cX5_even 74 = .ok (.iload_n 3, 1) := by decide +kernel
theorem dX5_even_75 : decode cX5_even 75 = .ok (.iload 6, 2) := by decide +kernel
theorem dX5_even_77 : decode cX5_even 77 = .ok (.ifCond .eq 7, 3) := by decide +kernel
theorem dX5_even_80 : decode cX5_even 80 = .ok (.iconst 1, 1) := by decide +kernel
theorem dX5_even_81 : decode cX5_even 81 = .ok (.goto 4, 3) := by decide +kernel
theorem dX5_even_84 : decode cX5_even 84 = .ok (.iconst 0, 1) := by decide +kernel
theorem dX5_even_85 : decode cX5_even 85 = .ok (.iadd, 1) := by decide +kernel
theorem dX5_even_86 : decode cX5_even 86 = .ok (.istore_n 3, 1) := by decide +kernel
theorem dX5_even_87 : decode cX5_even 87 = .ok (.iload 6, 2) := by decide +kernel
theorem dX5_even_89 : decode cX5_even 89 = .ok (.ifCond .eq 8, 3) := by decide +kernel
theorem dX5_even_92 : decode cX5_even 92 = .ok (.iload 5, 2) := by decide +kernel
theorem dX5_even_94 : decode cX5_even 94 = .ok (.goto 5, 3) := by decide +kernel
theorem dX5_even_97 : decode cX5_even 97 = .ok (.iload 4, 2) := by decide +kernel
theorem dX5_even_99 : decode cX5_even 99 = .ok (.istore 4, 2) := by decide +kernel
theorem dX5_even_101 : decode cX5_even 101 = .ok (.iinc 5 1, 3) := by decide +kernel
theorem dX5_even_104 : decode cX5_even 104 = .ok (.goto (-67), 3) := by decide +kernel
theorem dX5_even_107 : decode cX5_even 107 = .ok (.iload_n 2, 1) := by decide +kernel
theorem dX5_even_108 : decode cX5_even 108 = .ok (.ifCond .ne 10, 3) := by decide +kernel
theorem dX5_even_111 : decode cX5_even 111 = .ok (.iload_n 1, 1) := by decide +kernel
theorem dX5_even_112 : decode cX5_even 112 = .ok (.bipush 60, 2) := by decide +kernel
theorem dX5_even_114 : decode cX5_even 114 = .ok (.idiv, 1) := by decide +kernel
theorem dX5_even_115 : decode cX5_even 115 = .ok (.goto 35, 3) := by decide +kernel
theorem dX5_even_118 : decode cX5_even 118 = .ok (.iload_n 2, 1) := by decide +kernel
theorem dX5_even_119 : decode cX5_even 119 = .ok (.iconst 1, 1) := by decide +kernel
theorem dX5_even_120 : decode cX5_even 120 = .ok (.if_icmp .ne 19, 3) := by decide +kernel
theorem dX5_even_123 : decode cX5_even 123 = .ok (.aload_n 0, 1) := by decide +kernel
theorem dX5_even_124 : decode cX5_even 124 = .ok (.getfield 45, 3) := by decide +kernel
theorem dX5_even_127 : decode cX5_even 127 = .ok (.iload_n 1, 1) := by decide +kernel
theorem dX5_even_128 : decode cX5_even 128 = .ok (.iaload, 1) := by decide +kernel
theorem dX5_even_129 : decode cX5_even 129 = .ok (.aload_n 0, 1) := by decide +kernel
theorem dX5_even_130 : decode cX5_even 130 = .ok (.getfield 13, 3) := by decide +kernel
theorem dX5_even_133 : decode cX5_even 133 = .ok (.iconst 0, 1) := by decide +kernel
theorem dX5_even_134 : decode cX5_even 134 = .ok (.iaload, 1) := by decide +kernel
theorem dX5_even_135 : decode cX5_even 135 = .ok (.idiv, 1) := by decide +kernel
theorem dX5_even_136 : decode cX5_even 136 = .ok (.goto 14, 3) := by decide +kernel
theorem dX5_even_139 : decode cX5_even 139 = .ok (.iload_n 2, 1) := by decide +kernel
theorem dX5_even_140 : decode cX5_even 140 = .ok (.iconst 2, 1) := by decide +kernel
theorem dX5_even_141 : decode cX5_even 141 = .ok (.if_icmp .ne 7, 3) := by decide +kernel
theorem dX5_even_144 : decode cX5_even 144 = .ok (.iload_n 3, 1) := by decide +kernel
theorem dX5_even_145 : decode cX5_even 145 = .ok (.goto 5, 3) := by decide +kernel
theorem dX5_even_148 : decode cX5_even 148 = .ok (.iload 4, 2) := by decide +kernel
theorem dX5_even_150 : decode cX5_even 150 = .ok (.ireturn, 1) := by decide +kernel
theorem dX5_bitsIn_0 : decode cX5_bitsIn 0 = .ok (.iconst 0, 1) := by decide +kernel
theorem dX5_bitsIn_1 : decode cX5_bitsIn 1 = .ok (.istore_n 1, 1) := by decide +kernel
theorem dX5_bitsIn_2 : decode cX5_bitsIn 2 = .ok (.iconst 0, 1) := by decide +kernel
theorem dX5_bitsIn_3 : decode cX5_bitsIn 3 = .ok (.istore_n 2, 1) := by decide +kernel
theorem dX5_bitsIn_4 : decode cX5_bitsIn 4 = .ok (.iload_n 2, 1) := by decide +kernel
theorem dX5_bitsIn_5 : decode cX5_bitsIn 5 = .ok (.bipush 6, 2) := by decide +kernel
theorem dX5_bitsIn_7 : decode cX5_bitsIn 7 = .ok (.if_icmp .ge 17, 3) := by decide +kernel
theorem dX5_bitsIn_10 : decode cX5_bitsIn 10 = .ok (.iload_n 1, 1) := by decide +kernel
theorem dX5_bitsIn_11 : decode cX5_bitsIn 11 = .ok (.iload_n 0, 1) := by decide +kernel
theorem dX5_bitsIn_12 : decode cX5_bitsIn 12 = .ok (.iload_n 2, 1) := by decide +kernel
theorem dX5_bitsIn_13 : decode cX5_bitsIn 13 = .ok (.ishr, 1) := by decide +kernel
theorem dX5_bitsIn_14 : decode cX5_bitsIn 14 = .ok (.iconst 1, 1) := by decide +kernel
theorem dX5_bitsIn_15 : decode cX5_bitsIn 15 = .ok (.iand, 1) := by decide +kernel
theorem dX5_bitsIn_16 : decode cX5_bitsIn 16 = .ok (.iadd, 1) := by decide +kernel
theorem dX5_bitsIn_17 : decode cX5_bitsIn 17 = .ok (.istore_n 1, 1) := by decide +kernel
theorem dX5_bitsIn_18 : decode cX5_bitsIn 18 = .ok (.iinc 2 1, 3) := by decide +kernel
theorem dX5_bitsIn_21 : decode cX5_bitsIn 21 = .ok (.goto (-17), 3) := by decide +kernel
theorem dX5_bitsIn_24 : decode cX5_bitsIn 24 = .ok (.iload_n 1, 1) := by decide +kernel
theorem dX5_bitsIn_25 : decode cX5_bitsIn 25 = .ok (.ireturn, 1) := by decide +kernel
set_option maxRecDepth 20000 in
theorem ggX5_comesBy_X5_comesAt : GoodIn wsX5_comesBy wsX5_comesAt := goodIn_r _ [5, 6, 7, 8, 9, 10, 11, 12, 13, 14, 15, 16, 17, 18, 19, 20, 21, 22, 23, 24, 25, 26, 27, 28, 29, 30] (by decide +kernel) (by decide +kernel)
set_option maxRecDepth 20000 in
theorem gX5_comesBy_X5_comesAt : GoodIn wsX5_comesBy (wsV RX5 140 RX5 yX5_comesAt wsX5_comesAt) := goodIn_app (goodIn_of _ (by decide +kernel)) ggX5_comesBy_X5_comesAt
theorem dX5_comesBy_0 : decode cX5_comesBy 0 = .ok (.aload_n 0, 1) := by decide +kernel
theorem dX5_comesBy_1 : decode cX5_comesBy 1 = .ok (.iload_n 1, 1) := by decide +kernel
theorem dX5_comesBy_2 : decode cX5_comesBy 2 = .ok (.invokevirtual 140, 3) := by decide +kernel
theorem dX5_comesBy_5 : decode cX5_comesBy 5 = .ok (.istore_n 3, 1) := by decide +kernel
theorem dX5_comesBy_6 : decode cX5_comesBy 6 = .ok (.iload_n 3, 1) := by decide +kernel
theorem dX5_comesBy_7 : decode cX5_comesBy 7 = .ok (.bipush (-9), 2) := by decide +kernel
theorem dX5_comesBy_9 : decode cX5_comesBy 9 = .ok (.if_icmp .eq 12, 3) := by decide +kernel
theorem dX5_comesBy_12 : decode cX5_comesBy 12 = .ok (.iload_n 3, 1) := by decide +kernel
theorem dX5_comesBy_13 : decode cX5_comesBy 13 = .ok (.iload_n 2, 1) := by decide +kernel
theorem dX5_comesBy_14 : decode cX5_comesBy 14 = .ok (.if_icmp .gt 7, 3) := by decide +kernel
theorem dX5_comesBy_17 : decode cX5_comesBy 17 = .ok (.iconst 1, 1) := by decide +kernel
theorem dX5_comesBy_18 : decode cX5_comesBy 18 = .ok (.goto 4, 3) := by decide +kernel
theorem dX5_comesBy_21 : decode cX5_comesBy 21 = .ok (.iconst 0, 1) := by decide +kernel
theorem dX5_comesBy_22 : decode cX5_comesBy 22 = .ok (.ireturn, 1) := by decide +kernel
set_option maxRecDepth 20000 in
theorem ggX5_strike_X5_in : GoodIn wsX5_strike wsX5_in := goodIn_r _ [5] (by decide +kernel) (by decide +kernel)
set_option maxRecDepth 20000 in
theorem gX5_strike_X5_in : GoodIn wsX5_strike (va_wsS RX5 54 yX5_in wsX5_in) := goodIn_app (goodIn_of _ (by decide +kernel)) ggX5_strike_X5_in
set_option maxRecDepth 20000 in
theorem ggX5_strike_X5_bitsIn : GoodIn wsX5_strike wsX5_bitsIn := goodIn_r _ [8] (by decide +kernel) (by decide +kernel)
set_option maxRecDepth 20000 in
theorem gX5_strike_X5_bitsIn : GoodIn wsX5_strike (va_wsS RX5 151 yX5_bitsIn wsX5_bitsIn) := goodIn_app (goodIn_of _ (by decide +kernel)) ggX5_strike_X5_bitsIn
set_option maxRecDepth 20000 in
theorem ggX5_strike_X5_goAll : GoodIn wsX5_strike wsX5_goAll := goodIn_r _ [12, 13, 14, 15, 16, 17, 4, 18, 19, 20, 21, 22, 1, 23, 24, 25, 26, 27, 28, 29, 30, 31, 32, 33, 34, 35, 36, 37, 38, 39, 2, 3, 5, 48, 49, 50, 51, 52, 53, 54, 55, 56, 57, 58, 59, 60, 61, 62, 63, 64, 65, 66, 67, 68, 69, 70] (by decide +kernel) (by decide +kernel)
set_option maxRecDepth 20000 in
theorem gX5_strike_X5_goAll : GoodIn wsX5_strike (wsV RX5 137 RX5 yX5_goAll wsX5_goAll) := goodIn_app (goodIn_of _ (by decide +kernel)) ggX5_strike_X5_goAll
set_option maxRecDepth 20000 in
theorem ggX5_strike_X5_comesBy : GoodIn wsX5_strike wsX5_comesBy := goodIn_r _ [43, 44, 45, 46, 4, 47, 14, 29, 48, 49, 50, 51, 52, 53, 54, 55, 56, 57, 58, 59, 60, 61, 62, 63, 64, 65, 66, 67, 68, 69, 70] (by decide +kernel) (by decide +kernel)
set_option maxRecDepth 20000 in
theorem gX5_strike_X5_comesBy : GoodIn wsX5_strike (wsV RX5 154 RX5 yX5_comesBy wsX5_comesBy) := goodIn_app (goodIn_of _ (by decide +kernel)) ggX5_strike_X5_comesBy
theorem dX5_strike_0 : decode cX5_strike 0 = .ok (.iload_n 1, 1) := by decide +kernel
theorem dX5_strike_1 : decode cX5_strike 1 = .ok (.iconst 1, 1) := by decide +kernel
theorem dX5_strike_2 : decode cX5_strike 2 = .ok (.sipush 9999, 3) := by decide +kernel
theorem dX5_strike_5 : decode cX5_strike 5 = .ok (.invokestatic 54, 3) := by decide +kernel
theorem dX5_strike_8 : decode cX5_strike 8 = .ok (.ifCond .eq 23, 3) := by decide +kernel
theorem dX5_strike_11 : decode cX5_strike 11 = .ok (.iload_n 2, 1) := by decide +kernel
theorem dX5_strike_12 : decode cX5_strike 12 = .ok (.iconst 1, 1) := by decide +kernel
theorem dX5_strike_13 : decode cX5_strike 13 = .ok (.sipush 240, 3) := by decide +kernel
theorem dX5_strike_16 : decode cX5_strike 16 = .ok (.invokestatic 54, 3) := by decide +kernel
theorem dX5_strike_19 : decode cX5_strike 19 = .ok (.ifCond .eq 12, 3) := by decide +kernel
theorem dX5_strike_22 : decode cX5_strike 22 = .ok (.iload_n 3, 1) := by decide +kernel
theorem dX5_strike_23 : decode cX5_strike 23 = .ok (.iconst 0, 1) := by decide +kernel
theorem dX5_strike_24 : decode cX5_strike 24 = .ok (.iconst 1, 1) := by decide +kernel
theorem dX5_strike_25 : decode cX5_strike 25 = .ok (.invokestatic 54, 3) := by decide +kernel
theorem dX5_strike_28 : decode cX5_strike 28 = .ok (.ifCond .ne 5, 3) := by decide +kernel
theorem dX5_strike_31 : decode cX5_strike 31 = .ok (.iconst (-1), 1) := by decide +kernel
theorem dX5_strike_32 : decode cX5_strike 32 = .ok (.ireturn, 1) := by decide +kernel
theorem dX5_strike_33 : decode cX5_strike 33 = .ok (.bipush (-9), 2) := by decide +kernel
theorem dX5_strike_35 : decode cX5_strike 35 = .ok (.istore 4, 2) := by decide +kernel
theorem dX5_strike_37 : decode cX5_strike 37 = .ok (.iconst 0, 1) := by decide +kernel
theorem dX5_strike_38 : decode cX5_strike 38 = .ok (.istore 5, 2) := by decide +kernel
theorem dX5_strike_40 : decode cX5_strike 40 = .ok (.iload 5, 2) := by decide +kernel
theorem dX5_strike_42 : decode cX5_strike 42 = .ok (.iconst 1, 1) := by decide +kernel
theorem dX5_strike_43 : decode cX5_strike 43 = .ok (.aload_n 0, 1) := by decide +kernel
theorem dX5_strike_44 : decode cX5_strike 44 = .ok (.getfield 17, 3) := by decide +kernel
theorem dX5_strike_47 : decode cX5_strike 47 = .ok (.iconst 0, 1) := by decide +kernel
theorem dX5_strike_48 : decode cX5_strike 48 = .ok (.iaload, 1) := by decide +kernel
theorem dX5_strike_49 : decode cX5_strike 49 = .ok (.ishl, 1) := by decide +kernel
theorem dX5_strike_50 : decode cX5_strike 50 = .ok (.if_icmp .ge 54, 3) := by decide +kernel
theorem dX5_strike_53 : decode cX5_strike 53 = .ok (.iload 4, 2) := by decide +kernel
theorem dX5_strike_55 : decode cX5_strike 55 = .ok (.bipush (-9), 2) := by decide +kernel
theorem dX5_strike_57 : decode cX5_strike 57 = .ok (.if_icmp .eq 16, 3) := by decide +kernel
theorem dX5_strike_60 : decode cX5_strike 60 = .ok (.iload 5, 2) := by decide +kernel
theorem dX5_strike_62 : decode cX5_strike 62 = .ok (.invokestatic 151, 3) := by decide +kernel
theorem dX5_strike_65 : decode cX5_strike 65 = .ok (.iload 4, 2) := by decide +kernel
theorem dX5_strike_67 : decode cX5_strike 67 = .ok (.invokestatic 151, 3) := by decide +kernel
theorem dX5_strike_70 : decode cX5_strike 70 = .ok (.if_icmp .ge 28, 3) := by decide +kernel
theorem dX5_strike_73 : decode cX5_strike 73 = .ok (.aload_n 0, 1) := by decide +kernel
theorem dX5_strike_74 : decode cX5_strike 74 = .ok (.iload 5, 2) := by decide +kernel
theorem dX5_strike_76 : decode cX5_strike 76 = .ok (.iconst 0, 1) := by decide +kernel
theorem dX5_strike_77 : decode cX5_strike 77 = .ok (.invokevirtual 137, 3) := by decide +kernel
theorem dX5_strike_80 : decode cX5_strike 80 = .ok (.aload_n 0, 1) := by decide +kernel
theorem dX5_strike_81 : decode cX5_strike 81 = .ok (.iload_n 1, 1) := by decide +kernel
theorem dX5_strike_82 : decode cX5_strike 82 = .ok (.iload_n 2, 1) := by decide +kernel
theorem dX5_strike_83 : decode cX5_strike 83 = .ok (.invokevirtual 154, 3) := by decide +kernel
theorem dX5_strike_86 : decode cX5_strike 86 = .ok (.ifCond .eq 8, 3) := by decide +kernel
theorem dX5_strike_89 : decode cX5_strike 89 = .ok (.iload 4, 2) := by decide +kernel
theorem dX5_strike_91 : decode cX5_strike 91 = .ok (.goto 5, 3) := by decide +kernel
theorem dX5_strike_94 : decode cX5_strike 94 = .ok (.iload 5, 2) := by decide +kernel
theorem dX5_strike_96 : decode cX5_strike 96 = .ok (.istore 4, 2) := by decide +kernel
theorem dX5_strike_98 : decode cX5_strike 98 = .ok (.iinc 5 1, 3) := by decide +kernel
theorem dX5_strike_101 : decode cX5_strike 101 = .ok (.goto (-61), 3) := by decide +kernel
theorem dX5_strike_104 : decode cX5_strike 104 = .ok (.iload 4, 2) := by decide +kernel
theorem dX5_strike_106 : decode cX5_strike 106 = .ok (.bipush (-9), 2) := by decide +kernel
theorem dX5_strike_108 : decode cX5_strike 108 = .ok (.if_icmp .eq 7, 3) := by decide +kernel
theorem dX5_strike_111 : decode cX5_strike 111 = .ok (.iload_n 3, 1) := by decide +kernel
theorem dX5_strike_112 : decode cX5_strike 112 = .ok (.ifCond .ne 8, 3) := by decide +kernel
theorem dX5_strike_115 : decode cX5_strike 115 = .ok (.iload 4, 2) := by decide +kernel
theorem dX5_strike_117 : decode cX5_strike 117 = .ok (.goto 8, 3) := by decide +kernel
theorem dX5_strike_120 : decode cX5_strike 120 = .ok (.iload 4, 2) := by decide +kernel
theorem dX5_strike_122 : decode cX5_strike 122 = .ok (.invokestatic 151, 3) := by decide +kernel
theorem dX5_strike_125 : decode cX5_strike 125 = .ok (.ireturn, 1) := by decide +kernel
set_option maxRecDepth 20000 in
theorem ggX5_undone_X5_in : GoodIn wsX5_undone wsX5_in := goodIn_r _ [4] (by decide +kernel) (by decide +kernel)
set_option maxRecDepth 20000 in
theorem gX5_undone_X5_in : GoodIn wsX5_undone (va_wsS RX5 54 yX5_in wsX5_in) := goodIn_app (goodIn_of _ (by decide +kernel)) ggX5_undone_X5_in
set_option maxRecDepth 20000 in
theorem ggX5_undone_X5_those : GoodIn wsX5_undone wsX5_those := goodIn_r _ [8, 9, 49, 50, 51, 52, 53, 54, 55, 56, 57, 58, 59, 60, 61, 62, 63, 64, 65, 66, 67, 68, 69, 70, 71] (by decide +kernel) (by decide +kernel)
set_option maxRecDepth 20000 in
theorem gX5_undone_X5_those : GoodIn wsX5_undone (wsV RX5 130 RX5 yX5_those wsX5_those) := goodIn_app (goodIn_of _ (by decide +kernel)) ggX5_undone_X5_those
set_option maxRecDepth 20000 in
theorem ggX5_undone_X5_goAll : GoodIn wsX5_undone wsX5_goAll := goodIn_r _ [13, 14, 15, 16, 17, 18, 3, 19, 20, 21, 22, 23, 9, 24, 25, 26, 27, 28, 29, 30, 31, 32, 33, 34, 35, 36, 37, 38, 39, 40, 1, 2, 4, 49, 50, 51, 52, 53, 54, 55, 56, 57, 58, 59, 60, 61, 62, 63, 64, 65, 66, 67, 68, 69, 70, 71] (by decide +kernel) (by decide +kernel)
set_option maxRecDepth 20000 in
theorem gX5_undone_X5_goAll : GoodIn wsX5_undone (wsV RX5 137 RX5 yX5_goAll wsX5_goAll) := goodIn_app (goodIn_of _ (by decide +kernel)) ggX5_undone_X5_goAll
set_option maxRecDepth 20000 in
theorem ggX5_undone_X5_comesBy : GoodIn wsX5_undone wsX5_comesBy := goodIn_r _ [44, 45, 46, 47, 3, 48, 15, 30, 49, 50, 51, 52, 53, 54, 55, 56, 57, 58, 59, 60, 61, 62, 63, 64, 65, 66, 67, 68, 69, 70, 71] (by decide +kernel) (by decide +kernel)
set_option maxRecDepth 20000 in
theorem gX5_undone_X5_comesBy : GoodIn wsX5_undone (wsV RX5 154 RX5 yX5_comesBy wsX5_comesBy) := goodIn_app (goodIn_of _ (by decide +kernel)) ggX5_undone_X5_comesBy
theorem dX5_undone_0 : decode cX5_undone 0 = .ok (.iload_n 2, 1) := by decide +kernel
theorem dX5_undone_1 : decode cX5_undone 1 = .ok (.iconst 1, 1) := by decide +kernel
theorem dX5_undone_2 : decode cX5_undone 2 = .ok (.sipush 9999, 3) := by decide +kernel
theorem dX5_undone_5 : decode cX5_undone 5 = .ok (.invokestatic 54, 3) := by decide +kernel
theorem dX5_undone_8 : decode cX5_undone 8 = .ok (.ifCond .eq 14, 3) := by decide +kernel
theorem dX5_undone_11 : decode cX5_undone 11 = .ok (.iload_n 3, 1) := by decide +kernel
theorem dX5_undone_12 : decode cX5_undone 12 = .ok (.iconst 1, 1) := by decide +kernel
theorem dX5_undone_13 : decode cX5_undone 13 = .ok (.sipush 240, 3) := by decide +kernel
theorem dX5_undone_16 : decode cX5_undone 16 = .ok (.invokestatic 54, 3) := by decide +kernel
theorem dX5_undone_19 : decode cX5_undone 19 = .ok (.ifCond .ne 5, 3) := by decide +kernel
theorem dX5_undone_22 : decode cX5_undone 22 = .ok (.iconst (-1), 1) := by decide +kernel
theorem dX5_undone_23 : decode cX5_undone 23 = .ok (.ireturn, 1) := by decide +kernel
theorem dX5_undone_24 : decode cX5_undone 24 = .ok (.iconst 0, 1) := by decide +kernel
theorem dX5_undone_25 : decode cX5_undone 25 = .ok (.istore 4, 2) := by decide +kernel
theorem dX5_undone_27 : decode cX5_undone 27 = .ok (.sipush 10000, 3) := by decide +kernel
theorem dX5_undone_30 : decode cX5_undone 30 = .ok (.istore 5, 2) := by decide +kernel
theorem dX5_undone_32 : decode cX5_undone 32 = .ok (.iload 4, 2) := by decide +kernel
theorem dX5_undone_34 : decode cX5_undone 34 = .ok (.iload 5, 2) := by decide +kernel
theorem dX5_undone_36 : decode cX5_undone 36 = .ok (.if_icmp .ge 48, 3) := by decide +kernel
theorem dX5_undone_39 : decode cX5_undone 39 = .ok (.iload 4, 2) := by decide +kernel
theorem dX5_undone_41 : decode cX5_undone 41 = .ok (.iload 5, 2) := by decide +kernel
theorem dX5_undone_43 : decode cX5_undone 43 = .ok (.iadd, 1) := by decide +kernel
theorem dX5_undone_44 : decode cX5_undone 44 = .ok (.iconst 2, 1) := by decide +kernel
theorem dX5_undone_45 : decode cX5_undone 45 = .ok (.idiv, 1) := by decide +kernel
theorem dX5_undone_46 : decode cX5_undone 46 = .ok (.istore 6, 2) := by decide +kernel
theorem dX5_undone_48 : decode cX5_undone 48 = .ok (.aload_n 0, 1) := by decide +kernel
theorem dX5_undone_49 : decode cX5_undone 49 = .ok (.aload_n 0, 1) := by decide +kernel
theorem dX5_undone_50 : decode cX5_undone 50 = .ok (.iload_n 1, 1) := by decide +kernel
theorem dX5_undone_51 : decode cX5_undone 51 = .ok (.invokevirtual 130, 3) := by decide +kernel
theorem dX5_undone_54 : decode cX5_undone 54 = .ok (.iload 6, 2) := by decide +kernel
theorem dX5_undone_56 : decode cX5_undone 56 = .ok (.invokevirtual 137, 3) := by decide +kernel
theorem dX5_undone_59 : decode cX5_undone 59 = .ok (.aload_n 0, 1) := by decide +kernel
theorem dX5_undone_60 : decode cX5_undone 60 = .ok (.iload_n 2, 1) := by decide +kernel
theorem dX5_undone_61 : decode cX5_undone 61 = .ok (.iload_n 3, 1) := by decide +kernel
theorem dX5_undone_62 : decode cX5_undone 62 = .ok (.invokevirtual 154, 3) := by decide +kernel
theorem dX5_undone_65 : decode cX5_undone 65 = .ok (.ifCond .eq 10, 3) := by decide +kernel
theorem dX5_undone_68 : decode cX5_undone 68 = .ok (.iload 6, 2) := by decide +kernel
theorem dX5_undone_70 : decode cX5_undone 70 = .ok (.istore 5, 2) := by decide +kernel
theorem dX5_undone_72 : decode cX5_undone 72 = .ok (.goto 9, 3) := by decide +kernel
theorem dX5_undone_75 : decode cX5_undone 75 = .ok (.iload 6, 2) := by decide +kernel
theorem dX5_undone_77 : decode cX5_undone 77 = .ok (.iconst 1, 1) := by decide +kernel
theorem dX5_undone_78 : decode cX5_undone 78 = .ok (.iadd, 1) := by decide +kernel
theorem dX5_undone_79 : decode cX5_undone 79 = .ok (.istore 4, 2) := by decide +kernel
theorem dX5_undone_81 : decode cX5_undone 81 = .ok (.goto (-49), 3) := by decide +kernel
theorem dX5_undone_84 : decode cX5_undone 84 = .ok (.iload 4, 2) := by decide +kernel
theorem dX5_undone_86 : decode cX5_undone 86 = .ok (.sipush 9999, 3) := by decide +kernel
theorem dX5_undone_89 : decode cX5_undone 89 = .ok (.if_icmp .le 8, 3) := by decide +kernel
theorem dX5_undone_92 : decode cX5_undone 92 = .ok (.bipush (-9), 2) := by decide +kernel
theorem dX5_undone_94 : decode cX5_undone 94 = .ok (.goto 5, 3) := by decide +kernel
theorem dX5_undone_97 : decode cX5_undone 97 = .ok (.iload 4, 2) := by decide +kernel
theorem dX5_undone_99 : decode cX5_undone 99 = .ok (.ireturn, 1) := by decide +kernel
set_option maxRecDepth 20000 in
theorem ggX5_stair_X5_in : GoodIn wsX5_stair wsX5_in := goodIn_r _ [6] (by decide +kernel) (by decide +kernel)
set_option maxRecDepth 20000 in
theorem gX5_stair_X5_in : GoodIn wsX5_stair (va_wsS RX5 54 yX5_in wsX5_in) := goodIn_app (goodIn_of _ (by decide +kernel)) ggX5_stair_X5_in
theorem dX5_stair_0 : decode cX5_stair 0 = .ok (.iload_n 1, 1) := by decide +kernel
theorem dX5_stair_1 : decode cX5_stair 1 = .ok (.iconst 0, 1) := by decide +kernel
theorem dX5_stair_2 : decode cX5_stair 2 = .ok (.sipush 9999, 3) := by decide +kernel
theorem dX5_stair_5 : decode cX5_stair 5 = .ok (.invokestatic 54, 3) := by decide +kernel
theorem dX5_stair_8 : decode cX5_stair 8 = .ok (.ifCond .ne 5, 3) := by decide +kernel
theorem dX5_stair_11 : decode cX5_stair 11 = .ok (.iconst (-1), 1) := by decide +kernel
theorem dX5_stair_12 : decode cX5_stair 12 = .ok (.ireturn, 1) := by decide +kernel
theorem dX5_stair_13 : decode cX5_stair 13 = .ok (.aload_n 0, 1) := by decide +kernel
theorem dX5_stair_14 : decode cX5_stair 14 = .ok (.getfield 157, 3) := by decide +kernel
theorem dX5_stair_17 : decode cX5_stair 17 = .ok (.bipush 20, 2) := by decide +kernel
theorem dX5_stair_19 : decode cX5_stair 19 = .ok (.if_icmp .ne 6, 3) := by decide +kernel
theorem dX5_stair_22 : decode cX5_stair 22 = .ok (.bipush (-3), 2) := by decide +kernel
theorem dX5_stair_24 : decode cX5_stair 24 = .ok (.ireturn, 1) := by decide +kernel
theorem dX5_stair_25 : decode cX5_stair 25 = .ok (.aload_n 0, 1) := by decide +kernel
theorem dX5_stair_26 : decode cX5_stair 26 = .ok (.getfield 51, 3) := by decide +kernel
theorem dX5_stair_29 : decode cX5_stair 29 = .ok (.aload_n 0, 1) := by decide +kernel
theorem dX5_stair_30 : decode cX5_stair 30 = .ok (.getfield 157, 3) := by decide +kernel
theorem dX5_stair_33 : decode cX5_stair 33 = .ok (.iload_n 1, 1) := by decide +kernel
theorem dX5_stair_34 : decode cX5_stair 34 = .ok (.iastore, 1) := by decide +kernel
theorem dX5_stair_35 : decode cX5_stair 35 = .ok (.aload_n 0, 1) := by decide +kernel
theorem dX5_stair_36 : decode cX5_stair 36 = .ok (.dup, 1) := by decide +kernel
theorem dX5_stair_37 : decode cX5_stair 37 = .ok (.getfield 157, 3) := by decide +kernel
theorem dX5_stair_40 : decode cX5_stair 40 = .ok (.iconst 1, 1) := by decide +kernel
theorem dX5_stair_41 : decode cX5_stair 41 = .ok (.iadd, 1) := by decide +kernel
theorem dX5_stair_42 : decode cX5_stair 42 = .ok (.putfield 157, 3) := by decide +kernel
theorem dX5_stair_45 : decode cX5_stair 45 = .ok (.aload_n 0, 1) := by decide +kernel
theorem dX5_stair_46 : decode cX5_stair 46 = .ok (.getfield 157, 3) := by decide +kernel
theorem dX5_stair_49 : decode cX5_stair 49 = .ok (.ireturn, 1) := by decide +kernel
set_option maxRecDepth 20000 in
theorem ggX5_worn_X5_in : GoodIn wsX5_worn wsX5_in := goodIn_r _ [7] (by decide +kernel) (by decide +kernel)
set_option maxRecDepth 20000 in
theorem gX5_worn_X5_in : GoodIn wsX5_worn (va_wsS RX5 54 yX5_in wsX5_in) := goodIn_app (goodIn_of _ (by decide +kernel)) ggX5_worn_X5_in
theorem dX5_worn_0 : decode cX5_worn 0 = .ok (.iload_n 1, 1) := by decide +kernel
theorem dX5_worn_1 : decode cX5_worn 1 = .ok (.iconst 0, 1) := by decide +kernel
theorem dX5_worn_2 : decode cX5_worn 2 = .ok (.ldc 160, 2) := by decide +kernel
theorem dX5_worn_4 : decode cX5_worn 4 = .ok (.invokestatic 54, 3) := by decide +kernel
theorem dX5_worn_7 : decode cX5_worn 7 = .ok (.ifCond .eq 23, 3) := by decide +kernel
theorem dX5_worn_10 : decode cX5_worn 10 = .ok (.iload_n 2, 1) := by decide +kernel
theorem dX5_worn_11 : decode cX5_worn 11 = .ok (.iconst 0, 1) := by decide +kernel
theorem dX5_worn_12 : decode cX5_worn 12 = .ok (.sipush 999, 3) := by decide +kernel
theorem dX5_worn_15 : decode cX5_worn 15 = .ok (.invokestatic 54, 3) := by decide +kernel
theorem dX5_worn_18 : decode cX5_worn 18 = .ok (.ifCond .eq 12, 3) := by decide +kernel
theorem dX5_worn_21 : decode cX5_worn 21 = .ok (.iload_n 3, 1) := by decide +kernel
theorem dX5_worn_22 : decode cX5_worn 22 = .ok (.iconst 0, 1) := by decide +kernel
theorem dX5_worn_23 : decode cX5_worn 23 = .ok (.iconst 2, 1) := by decide +kernel
theorem dX5_worn_24 : decode cX5_worn 24 = .ok (.invokestatic 54, 3) := by decide +kernel
theorem dX5_worn_27 : decode cX5_worn 27 = .ok (.ifCond .ne 5, 3) := by decide +kernel
theorem dX5_worn_30 : decode cX5_worn 30 = .ok (.iconst (-1), 1) := by decide +kernel
theorem dX5_worn_31 : decode cX5_worn 31 = .ok (.ireturn, 1) := by decide +kernel
theorem dX5_worn_32 : decode cX5_worn 32 = .ok (.iconst 0, 1) := by decide +kernel
theorem dX5_worn_33 : decode cX5_worn 33 = .ok (.istore 4, 2) := by decide +kernel
theorem dX5_worn_35 : decode cX5_worn 35 = .ok (.bipush (-9), 2) := by decide +kernel
theorem dX5_worn_37 : decode cX5_worn 37 = .ok (.istore 5, 2) := by decide +kernel
theorem dX5_worn_39 : decode cX5_worn 39 = .ok (.bipush (-9), 2) := by decide +kernel
theorem dX5_worn_41 : decode cX5_worn 41 = .ok (.istore 6, 2) := by decide +kernel
theorem dX5_worn_43 : decode cX5_worn 43 = .ok (.iconst 0, 1) := by decide +kernel
theorem dX5_worn_44 : decode cX5_worn 44 = .ok (.istore 7, 2) := by decide +kernel
theorem dX5_worn_46 : decode cX5_worn 46 = .ok (.iload 7, 2) := by decide +kernel
theorem dX5_worn_48 : decode cX5_worn 48 = .ok (.aload_n 0, 1) := by decide +kernel
theorem dX5_worn_49 : decode cX5_worn 49 = .ok (.getfield 157, 3) := by decide +kernel
theorem dX5_worn_52 : decode cX5_worn 52 = .ok (.if_icmp .ge 87, 3) := by decide +kernel
theorem dX5_worn_55 : decode cX5_worn 55 = .ok (.iconst 0, 1) := by decide +kernel
theorem dX5_worn_56 : decode cX5_worn 56 = .ok (.istore 8, 2) := by decide +kernel
theorem dX5_worn_58 : decode cX5_worn 58 = .ok (.iload 7, 2) := by decide +kernel
theorem dX5_worn_60 : decode cX5_worn 60 = .ok (.istore 9, 2) := by decide +kernel
theorem dX5_worn_62 : decode cX5_worn 62 = .ok (.iload 9, 2) := by decide +kernel
theorem dX5_worn_64 : decode cX5_worn 64 = .ok (.aload_n 0, 1) := by decide +kernel
theorem dX5_worn_65 : decode cX5_worn 65 = .ok (.getfield 157, 3) := by decide +kernel
theorem dX5_worn_68 : decode cX5_worn 68 = .ok (.if_icmp .ge 65, 3) := by decide +kernel
theorem dX5_worn_71 : decode cX5_worn 71 = .ok (.iload 8, 2) := by decide +kernel
theorem dX5_worn_73 : decode cX5_worn 73 = .ok (.aload_n 0, 1) := by decide +kernel
theorem dX5_worn_74 : decode cX5_worn 74 = .ok (.getfield 51, 3) := by decide +kernel
theorem dX5_worn_77 : decode cX5_worn 77 = .ok (.iload 9, 2) := by decide +kernel
theorem dX5_worn_79 : decode cX5_worn 79 = .ok (.iaload, 1) := by decide +kernel
theorem dX5_worn_80 : decode cX5_worn 80 = .ok (.iadd, 1) := by decide +kernel
theorem dX5_worn_81 : decode cX5_worn 81 = .ok (.istore 8, 2) := by decide +kernel
theorem dX5_worn_83 : decode cX5_worn 83 = .ok (.iload 8, 2) := by decide +kernel
theorem dX5_worn_85 : decode cX5_worn 85 = .ok (.iload_n 1, 1) := by decide +kernel
theorem dX5_worn_86 : decode cX5_worn 86 = .ok (.isub, 1) := by decide +kernel
theorem dX5_worn_87 : decode cX5_worn 87 = .ok (.iload_n 2, 1) := by decide +kernel
theorem dX5_worn_88 : decode cX5_worn 88 = .ok (.ineg, 1) := by decide +kernel
theorem dX5_worn_89 : decode cX5_worn 89 = .ok (.iload_n 2, 1) := by decide +kernel
theorem dX5_worn_90 : decode cX5_worn 90 = .ok (.invokestatic 54, 3) := by decide +kernel
theorem dX5_worn_93 : decode cX5_worn 93 = .ok (.ifCond .eq 34, 3) := by decide +kernel
theorem dX5_worn_96 : decode cX5_worn 96 = .ok (.iload 4, 2) := by decide +kernel
theorem dX5_worn_98 : decode cX5_worn 98 = .ok (.ifCond .ne 8, 3) := by decide +kernel
theorem dX5_worn_101 : decode cX5_worn 101 = .ok (.iload 7, 2) := by decide +kernel
theorem dX5_worn_103 : decode cX5_worn 103 = .ok (.goto 5, 3) := by decide +kernel
theorem dX5_worn_106 : decode cX5_worn 106 = .ok (.iload 5, 2) := by decide +kernel
theorem dX5_worn_108 : decode cX5_worn 108 = .ok (.istore 5, 2) := by decide +kernel
theorem dX5_worn_110 : decode cX5_worn 110 = .ok (.iload 4, 2) := by decide +kernel
theorem dX5_worn_112 : decode cX5_worn 112 = .ok (.ifCond .ne 8, 3) := by decide +kernel
theorem dX5_worn_115 : decode cX5_worn 115 = .ok (.iload 9, 2) := by decide +kernel
theorem dX5_worn_117 : decode cX5_worn 117 = .ok (.goto 5, 3) := by decide +kernel
theorem dX5_worn_120 : decode cX5_worn 120 = .ok (.iload 6, 2) := by decide +kernel
theorem dX5_worn_122 : decode cX5_worn 122 = .ok (.istore 6, 2) := by decide +kernel
theorem dX5_worn_124 : decode cX5_worn 124 = .ok (.iinc 4 1, 3) := by decide +kernel
theorem dX5_worn_127 : decode cX5_worn 127 = .ok (.iinc 9 1, 3) := by decide +kernel
theorem dX5_worn_130 : decode cX5_worn 130 = .ok (.goto (-68), 3) := by decide +kernel
theorem dX5_worn_133 : decode cX5_worn 133 = .ok (.iinc 7 1, 3) := by decide +kernel
theorem dX5_worn_136 : decode cX5_worn 136 = .ok (.goto (-90), 3) := by decide +kernel
theorem dX5_worn_139 : decode cX5_worn 139 = .ok (.iload_n 3, 1) := by decide +kernel
theorem dX5_worn_140 : decode cX5_worn 140 = .ok (.ifCond .ne 8, 3) := by decide +kernel
theorem dX5_worn_143 : decode cX5_worn 143 = .ok (.iload 4, 2) := by decide +kernel
theorem dX5_worn_145 : decode cX5_worn 145 = .ok (.goto 15, 3) := by decide +kernel
theorem dX5_worn_148 : decode cX5_worn 148 = .ok (.iload_n 3, 1) := by decide +kernel
theorem dX5_worn_149 : decode cX5_worn 149 = .ok (.iconst 1, 1) := by decide +kernel
theorem dX5_worn_150 : decode cX5_worn 150 = .ok (.if_icmp .ne 8, 3) := by decide +kernel
theorem dX5_worn_153 : decode cX5_worn 153 = .ok (.iload 5, 2) := by decide +kernel
theorem dX5_worn_155 : decode cX5_worn 155 = .ok (.goto 5, 3) := by decide +kernel
theorem dX5_worn_158 : decode cX5_worn 158 = .ok (.iload 6, 2) := by decide +kernel
theorem dX5_worn_160 : decode cX5_worn 160 = .ok (.ireturn, 1) := by decide +kernel
set_option maxRecDepth 20000 in
theorem ggX5_mark_X5_in : GoodIn wsX5_mark wsX5_in := goodIn_r _ [12] (by decide +kernel) (by decide +kernel)
set_option maxRecDepth 20000 in
theorem gX5_mark_X5_in : GoodIn wsX5_mark (va_wsS RX5 54 yX5_in wsX5_in) := goodIn_app (goodIn_of _ (by decide +kernel)) ggX5_mark_X5_in
set_option maxRecDepth 20000 in
theorem ggX5_mark_X5_isPerson : GoodIn wsX5_mark wsX5_isPerson := goodIn_r _ [16, 17, 9, 10, 11, 12, 23, 24, 25, 26, 27, 28, 29, 30, 31, 32, 33, 34, 35, 36, 37, 38, 39, 40, 41, 42, 43, 44, 45] (by decide +kernel) (by decide +kernel)
set_option maxRecDepth 20000 in
theorem gX5_mark_X5_isPerson : GoodIn wsX5_mark (wsV RX5 113 RX5 yX5_isPerson wsX5_isPerson) := goodIn_app (goodIn_of _ (by decide +kernel)) ggX5_mark_X5_isPerson
set_option maxRecDepth 20000 in
theorem ggX5_mark_X5_hourOf : GoodIn wsX5_mark wsX5_hourOf := goodIn_r _ [21, 2, 22, 23, 24, 25, 26, 27, 28, 29, 30, 31, 32, 33, 34, 35, 36, 37, 38, 39, 40, 41, 42, 43, 44, 45] (by decide +kernel) (by decide +kernel)
set_option maxRecDepth 20000 in
theorem gX5_mark_X5_hourOf : GoodIn wsX5_mark (wsV RX5 120 RX5 yX5_hourOf wsX5_hourOf) := goodIn_app (goodIn_of _ (by decide +kernel)) ggX5_mark_X5_hourOf
theorem dX5_mark_0 : decode cX5_mark 0 = .ok (.iload_n 1, 1) := by decide +kernel
theorem dX5_mark_1 : decode cX5_mark 1 = .ok (.iconst 0, 1) := by decide +kernel
theorem dX5_mark_2 : decode cX5_mark 2 = .ok (.iconst 5, 1) := by decide +kernel
theorem dX5_mark_3 : decode cX5_mark 3 = .ok (.invokestatic 54, 3) := by decide +kernel
theorem dX5_mark_6 : decode cX5_mark 6 = .ok (.ifCond .eq 11, 3) := by decide +kernel
theorem dX5_mark_9 : decode cX5_mark 9 = .ok (.aload_n 0, 1) := by decide +kernel
theorem dX5_mark_10 : decode cX5_mark 10 = .ok (.iload_n 2, 1) := by decide +kernel
theorem dX5_mark_11 : decode cX5_mark 11 = .ok (.invokevirtual 113, 3) := by decide +kernel
theorem dX5_mark_14 : decode cX5_mark 14 = .ok (.ifCond .ne 6, 3) := by decide +kernel
theorem dX5_mark_17 : decode cX5_mark 17 = .ok (.ldc 146, 2) := by decide +kernel
theorem dX5_mark_19 : decode cX5_mark 19 = .ok (.ireturn, 1) := by decide +kernel
theorem dX5_mark_20 : decode cX5_mark 20 = .ok (.aload_n 0, 1) := by decide +kernel
theorem dX5_mark_21 : decode cX5_mark 21 = .ok (.getfield 38, 3) := by decide +kernel
theorem dX5_mark_24 : decode cX5_mark 24 = .ok (.bipush 21, 2) := by decide +kernel
theorem dX5_mark_26 : decode cX5_mark 26 = .ok (.iload_n 2, 1) := by decide +kernel
theorem dX5_mark_27 : decode cX5_mark 27 = .ok (.iadd, 1) := by decide +kernel
theorem dX5_mark_28 : decode cX5_mark 28 = .ok (.iaload, 1) := by decide +kernel
theorem dX5_mark_29 : decode cX5_mark 29 = .ok (.istore_n 3, 1) := by decide +kernel
theorem dX5_mark_30 : decode cX5_mark 30 = .ok (.iload_n 1, 1) := by decide +kernel
theorem dX5_mark_31 : decode cX5_mark 31 = .ok (.tableswitch 142 0 4 #[33, 45, 69, 89, 115], 33) := by decide +kernel
theorem dX5_mark_64 : decode cX5_mark 64 = .ok (.aload_n 0, 1) := by decide +kernel
theorem dX5_mark_65 : decode cX5_mark 65 = .ok (.dup, 1) := by decide +kernel
theorem dX5_mark_66 : decode cX5_mark 66 = .ok (.getfield 161, 3) := by decide +kernel
theorem dX5_mark_69 : decode cX5_mark 69 = .ok (.lconst 1, 1) := by decide +kernel
theorem dX5_mark_70 : decode cX5_mark 70 = .ok (.ladd, 1) := by decide +kernel
theorem dX5_mark_71 : decode cX5_mark 71 = .ok (.putfield 161, 3) := by decide +kernel
theorem dX5_mark_74 : decode cX5_mark 74 = .ok (.iload_n 3, 1) := by decide +kernel
theorem dX5_mark_75 : decode cX5_mark 75 = .ok (.ireturn, 1) := by decide +kernel
theorem dX5_mark_76 : decode cX5_mark 76 = .ok (.aload_n 0, 1) := by decide +kernel
theorem dX5_mark_77 : decode cX5_mark 77 = .ok (.dup, 1) := by decide +kernel
theorem dX5_mark_78 : decode cX5_mark 78 = .ok (.getfield 161, 3) := by decide +kernel
theorem dX5_mark_81 : decode cX5_mark 81 = .ok (.ldc2_w 165, 3) := by decide +kernel
theorem dX5_mark_84 : decode cX5_mark 84 = .ok (.ladd, 1) := by decide +kernel
theorem dX5_mark_85 : decode cX5_mark 85 = .ok (.putfield 161, 3) := by decide +kernel
theorem dX5_mark_88 : decode cX5_mark 88 = .ok (.iload_n 3, 1) := by decide +kernel
theorem dX5_mark_89 : decode cX5_mark 89 = .ok (.aload_n 0, 1) := by decide +kernel
theorem dX5_mark_90 : decode cX5_mark 90 = .ok (.getfield 38, 3) := by decide +kernel
theorem dX5_mark_93 : decode cX5_mark 93 = .ok (.bipush 15, 2) := by decide +kernel
theorem dX5_mark_95 : decode cX5_mark 95 = .ok (.iload_n 2, 1) := by decide +kernel
theorem dX5_mark_96 : decode cX5_mark 96 = .ok (.iadd, 1) := by decide +kernel
theorem dX5_mark_97 : decode cX5_mark 97 = .ok (.iaload, 1) := by decide +kernel
theorem dX5_mark_98 : decode cX5_mark 98 = .ok (.iadd, 1) := by decide +kernel
theorem dX5_mark_99 : decode cX5_mark 99 = .ok (.ireturn, 1) := by decide +kernel
theorem dX5_mark_100 : decode cX5_mark 100 = .ok (.aload_n 0, 1) := by decide +kernel
theorem dX5_mark_101 : decode cX5_mark 101 = .ok (.dup, 1) := by decide +kernel
theorem dX5_mark_102 : decode cX5_mark 102 = .ok (.getfield 161, 3) := by decide +kernel
theorem dX5_mark_105 : decode cX5_mark 105 = .ok (.ldc2_w 167, 3) := by decide +kernel
theorem dX5_mark_108 : decode cX5_mark 108 = .ok (.ladd, 1) := by decide +kernel
theorem dX5_mark_109 : decode cX5_mark 109 = .ok (.putfield 161, 3) := by decide +kernel
theorem dX5_mark_112 : decode cX5_mark 112 = .ok (.iload_n 3, 1) := by decide +kernel
theorem dX5_mark_113 : decode cX5_mark 113 = .ok (.aload_n 0, 1) := by decide +kernel
theorem dX5_mark_114 : decode cX5_mark 114 = .ok (.iconst 0, 1) := by decide +kernel
theorem dX5_mark_115 : decode cX5_mark 115 = .ok (.invokevirtual 120, 3) := by decide +kernel
theorem dX5_mark_118 : decode cX5_mark 118 = .ok (.isub, 1) := by decide +kernel
theorem dX5_mark_119 : decode cX5_mark 119 = .ok (.ireturn, 1) := by decide +kernel
theorem dX5_mark_120 : decode cX5_mark 120 = .ok (.aload_n 0, 1) := by decide +kernel
theorem dX5_mark_121 : decode cX5_mark 121 = .ok (.dup, 1) := by decide +kernel
theorem dX5_mark_122 : decode cX5_mark 122 = .ok (.getfield 161, 3) := by decide +kernel
theorem dX5_mark_125 : decode cX5_mark 125 = .ok (.ldc2_w 169, 3) := by decide +kernel
theorem dX5_mark_128 : decode cX5_mark 128 = .ok (.ladd, 1) := by decide +kernel
theorem dX5_mark_129 : decode cX5_mark 129 = .ok (.putfield 161, 3) := by decide +kernel
theorem dX5_mark_132 : decode cX5_mark 132 = .ok (.iconst 2, 1) := by decide +kernel
theorem dX5_mark_133 : decode cX5_mark 133 = .ok (.iload_n 3, 1) := by decide +kernel
theorem dX5_mark_134 : decode cX5_mark 134 = .ok (.aload_n 0, 1) := by decide +kernel
theorem dX5_mark_135 : decode cX5_mark 135 = .ok (.getfield 38, 3) := by decide +kernel
theorem dX5_mark_138 : decode cX5_mark 138 = .ok (.bipush 15, 2) := by decide +kernel
theorem dX5_mark_140 : decode cX5_mark 140 = .ok (.iload_n 2, 1) := by decide +kernel
theorem dX5_mark_141 : decode cX5_mark 141 = .ok (.iadd, 1) := by decide +kernel
theorem dX5_mark_142 : decode cX5_mark 142 = .ok (.iaload, 1) := by decide +kernel
theorem dX5_mark_143 : decode cX5_mark 143 = .ok (.iadd, 1) := by decide +kernel
theorem dX5_mark_144 : decode cX5_mark 144 = .ok (.imul, 1) := by decide +kernel
theorem dX5_mark_145 : decode cX5_mark 145 = .ok (.ireturn, 1) := by decide +kernel
theorem dX5_mark_146 : decode cX5_mark 146 = .ok (.aload_n 0, 1) := by decide +kernel
theorem dX5_mark_147 : decode cX5_mark 147 = .ok (.dup, 1) := by decide +kernel
theorem dX5_mark_148 : decode cX5_mark 148 = .ok (.getfield 161, 3) := by decide +kernel
theorem dX5_mark_151 : decode cX5_mark 151 = .ok (.ldc2_w 171, 3) := by decide +kernel
theorem dX5_mark_154 : decode cX5_mark 154 = .ok (.ladd, 1) := by decide +kernel
theorem dX5_mark_155 : decode cX5_mark 155 = .ok (.putfield 161, 3) := by decide +kernel
theorem dX5_mark_158 : decode cX5_mark 158 = .ok (.iload_n 3, 1) := by decide +kernel
theorem dX5_mark_159 : decode cX5_mark 159 = .ok (.aload_n 0, 1) := by decide +kernel
theorem dX5_mark_160 : decode cX5_mark 160 = .ok (.iconst 0, 1) := by decide +kernel
theorem dX5_mark_161 : decode cX5_mark 161 = .ok (.invokevirtual 120, 3) := by decide +kernel
theorem dX5_mark_164 : decode cX5_mark 164 = .ok (.isub, 1) := by decide +kernel
theorem dX5_mark_165 : decode cX5_mark 165 = .ok (.aload_n 0, 1) := by decide +kernel
theorem dX5_mark_166 : decode cX5_mark 166 = .ok (.getfield 38, 3) := by decide +kernel
theorem dX5_mark_169 : decode cX5_mark 169 = .ok (.iconst 0, 1) := by decide +kernel
theorem dX5_mark_170 : decode cX5_mark 170 = .ok (.iaload, 1) := by decide +kernel
theorem dX5_mark_171 : decode cX5_mark 171 = .ok (.iadd, 1) := by decide +kernel
theorem dX5_mark_172 : decode cX5_mark 172 = .ok (.ireturn, 1) := by decide +kernel
theorem dX5_mark_173 : decode cX5_mark 173 = .ok (.aload_n 0, 1) := by decide +kernel
theorem dX5_mark_174 : decode cX5_mark 174 = .ok (.dup, 1) := by decide +kernel
theorem dX5_mark_175 : decode cX5_mark 175 = .ok (.getfield 161, 3) := by decide +kernel
theorem dX5_mark_178 : decode cX5_mark 178 = .ok (.ldc2_w 173, 3) := by decide +kernel
theorem dX5_mark_181 : decode cX5_mark 181 = .ok (.ladd, 1) := by decide +kernel
theorem dX5_mark_182 : decode cX5_mark 182 = .ok (.putfield 161, 3) := by decide +kernel
theorem dX5_mark_185 : decode cX5_mark 185 = .ok (.iload_n 3, 1) := by decide +kernel
theorem dX5_mark_186 : decode cX5_mark 186 = .ok (.aload_n 0, 1) := by decide +kernel
theorem dX5_mark_187 : decode cX5_mark 187 = .ok (.getfield 38, 3) := by decide +kernel
theorem dX5_mark_190 : decode cX5_mark 190 = .ok (.iconst 0, 1) := by decide +kernel
theorem dX5_mark_191 : decode cX5_mark 191 = .ok (.iaload, 1) := by decide +kernel
theorem dX5_mark_192 : decode cX5_mark 192 = .ok (.bipush 60, 2) := by decide +kernel
theorem dX5_mark_194 : decode cX5_mark 194 = .ok (.idiv, 1) := by decide +kernel
theorem dX5_mark_195 : decode cX5_mark 195 = .ok (.iadd, 1) := by decide +kernel
theorem dX5_mark_196 : decode cX5_mark 196 = .ok (.ireturn, 1) := by decide +kernel
theorem dX5_copy_0 : decode cX5_copy 0 = .ok (.iconst 0, 1) := by decide +kernel
theorem dX5_copy_1 : decode cX5_copy 1 = .ok (.istore_n 3, 1) := by decide +kernel
theorem dX5_copy_2 : decode cX5_copy 2 = .ok (.iload_n 3, 1) := by decide +kernel
theorem dX5_copy_3 : decode cX5_copy 3 = .ok (.bipush 27, 2) := by decide +kernel
theorem dX5_copy_5 : decode cX5_copy 5 = .ok (.if_icmp .ge 25, 3) := by decide +kernel
theorem dX5_copy_8 : decode cX5_copy 8 = .ok (.aload_n 0, 1) := by decide +kernel
theorem dX5_copy_9 : decode cX5_copy 9 = .ok (.getfield 38, 3) := by decide +kernel
theorem dX5_copy_12 : decode cX5_copy 12 = .ok (.iload_n 2, 1) := by decide +kernel
theorem dX5_copy_13 : decode cX5_copy 13 = .ok (.iload_n 3, 1) := by decide +kernel
theorem dX5_copy_14 : decode cX5_copy 14 = .ok (.iadd, 1) := by decide +kernel
theorem dX5_copy_15 : decode cX5_copy 15 = .ok (.aload_n 0, 1) := by decide +kernel
theorem dX5_copy_16 : decode cX5_copy 16 = .ok (.getfield 38, 3) := by decide +kernel
theorem dX5_copy_19 : decode cX5_copy 19 = .ok (.iload_n 1, 1) := by decide +kernel
theorem dX5_copy_20 : decode cX5_copy 20 = .ok (.iload_n 3, 1) := by decide +kernel
theorem dX5_copy_21 : decode cX5_copy 21 = .ok (.iadd, 1) := by decide +kernel
theorem dX5_copy_22 : decode cX5_copy 22 = .ok (.iaload, 1) := by decide +kernel
theorem dX5_copy_23 : decode cX5_copy 23 = .ok (.iastore, 1) := by decide +kernel
theorem dX5_copy_24 : decode cX5_copy 24 = .ok (.iinc 3 1, 3) := by decide +kernel
theorem dX5_copy_27 : decode cX5_copy 27 = .ok (.goto (-25), 3) := by decide +kernel
theorem dX5_copy_30 : decode cX5_copy 30 = .ok (.return_, 1) := by decide +kernel
set_option maxRecDepth 20000 in
theorem ggX5_keep_X5_in : GoodIn wsX5_keep wsX5_in := goodIn_r _ [6] (by decide +kernel) (by decide +kernel)
set_option maxRecDepth 20000 in
theorem gX5_keep_X5_in : GoodIn wsX5_keep (va_wsS RX5 54 yX5_in wsX5_in) := goodIn_app (goodIn_of _ (by decide +kernel)) ggX5_keep_X5_in
set_option maxRecDepth 20000 in
theorem ggX5_keep_X5_copy : GoodIn wsX5_keep wsX5_copy := goodIn_r _ [10, 2, 11, 12, 13, 14, 15, 16, 17, 18, 19, 20, 21, 22, 23, 24, 25, 26, 27, 28, 29, 30, 31, 32, 33] (by decide +kernel) (by decide +kernel)
set_option maxRecDepth 20000 in
theorem gX5_keep_X5_copy : GoodIn wsX5_keep (wsV RX5 175 RX5 yX5_copy wsX5_copy) := goodIn_app (goodIn_of _ (by decide +kernel)) ggX5_keep_X5_copy
theorem dX5_keep_0 : decode cX5_keep 0 = .ok (.iload_n 1, 1) := by decide +kernel
theorem dX5_keep_1 : decode cX5_keep 1 = .ok (.iconst 0, 1) := by decide +kernel
theorem dX5_keep_2 : decode cX5_keep 2 = .ok (.iconst 1, 1) := by decide +kernel
theorem dX5_keep_3 : decode cX5_keep 3 = .ok (.invokestatic 54, 3) := by decide +kernel
theorem dX5_keep_6 : decode cX5_keep 6 = .ok (.ifCond .ne 5, 3) := by decide +kernel
theorem dX5_keep_9 : decode cX5_keep 9 = .ok (.iconst (-1), 1) := by decide +kernel
theorem dX5_keep_10 : decode cX5_keep 10 = .ok (.ireturn, 1) := by decide +kernel
theorem dX5_keep_11 : decode cX5_keep 11 = .ok (.aload_n 0, 1) := by decide +kernel
theorem dX5_keep_12 : decode cX5_keep 12 = .ok (.iconst 0, 1) := by decide +kernel
theorem dX5_keep_13 : decode cX5_keep 13 = .ok (.bipush 27, 2) := by decide +kernel
theorem dX5_keep_15 : decode cX5_keep 15 = .ok (.iconst 2, 1) := by decide +kernel
theorem dX5_keep_16 : decode cX5_keep 16 = .ok (.iload_n 1, 1) := by decide +kernel
theorem dX5_keep_17 : decode cX5_keep 17 = .ok (.iadd, 1) := by decide +kernel
theorem dX5_keep_18 : decode cX5_keep 18 = .ok (.imul, 1) := by decide +kernel
theorem dX5_keep_19 : decode cX5_keep 19 = .ok (.invokevirtual 175, 3) := by decide +kernel
theorem dX5_keep_22 : decode cX5_keep 22 = .ok (.aload_n 0, 1) := by decide +kernel
theorem dX5_keep_23 : decode cX5_keep 23 = .ok (.getfield 41, 3) := by decide +kernel
theorem dX5_keep_26 : decode cX5_keep 26 = .ok (.iload_n 1, 1) := by decide +kernel
theorem dX5_keep_27 : decode cX5_keep 27 = .ok (.iconst 1, 1) := by decide +kernel
theorem dX5_keep_28 : decode cX5_keep 28 = .ok (.bastore, 1) := by decide +kernel
theorem dX5_keep_29 : decode cX5_keep 29 = .ok (.aload_n 0, 1) := by decide +kernel
theorem dX5_keep_30 : decode cX5_keep 30 = .ok (.getfield 38, 3) := by decide +kernel
theorem dX5_keep_33 : decode cX5_keep 33 = .ok (.iconst 0, 1) := by decide +kernel
theorem dX5_keep_34 : decode cX5_keep 34 = .ok (.iaload, 1) := by decide +kernel
theorem dX5_keep_35 : decode cX5_keep 35 = .ok (.ireturn, 1) := by decide +kernel
set_option maxRecDepth 20000 in
theorem ggX5_back_X5_in : GoodIn wsX5_back wsX5_in := goodIn_r _ [6] (by decide +kernel) (by decide +kernel)
set_option maxRecDepth 20000 in
theorem gX5_back_X5_in : GoodIn wsX5_back (va_wsS RX5 54 yX5_in wsX5_in) := goodIn_app (goodIn_of _ (by decide +kernel)) ggX5_back_X5_in
set_option maxRecDepth 20000 in
theorem ggX5_back_X5_copy : GoodIn wsX5_back wsX5_copy := goodIn_r _ [10, 2, 11, 12, 13, 14, 15, 16, 17, 18, 19, 20, 21, 22, 23, 24, 25, 26, 27, 28, 29, 30, 31, 32, 33] (by decide +kernel) (by decide +kernel)
set_option maxRecDepth 20000 in
theorem gX5_back_X5_copy : GoodIn wsX5_back (wsV RX5 175 RX5 yX5_copy wsX5_copy) := goodIn_app (goodIn_of _ (by decide +kernel)) ggX5_back_X5_copy
theorem dX5_back_0 : decode cX5_back 0 = .ok (.iload_n 1, 1) := by decide +kernel
theorem dX5_back_1 : decode cX5_back 1 = .ok (.iconst 0, 1) := by decide +kernel
theorem dX5_back_2 : decode cX5_back 2 = .ok (.iconst 1, 1) := by decide +kernel
theorem dX5_back_3 : decode cX5_back 3 = .ok (.invokestatic 54, 3) := by decide +kernel
theorem dX5_back_6 : decode cX5_back 6 = .ok (.ifCond .ne 5, 3) := by decide +kernel
theorem dX5_back_9 : decode cX5_back 9 = .ok (.iconst (-1), 1) := by decide +kernel
theorem dX5_back_10 : decode cX5_back 10 = .ok (.ireturn, 1) := by decide +kernel
theorem dX5_back_11 : decode cX5_back 11 = .ok (.aload_n 0, 1) := by decide +kernel
theorem dX5_back_12 : decode cX5_back 12 = .ok (.getfield 41, 3) := by decide +kernel
theorem dX5_back_15 : decode cX5_back 15 = .ok (.iload_n 1, 1) := by decide +kernel
theorem dX5_back_16 : decode cX5_back 16 = .ok (.baload, 1) := by decide +kernel
theorem dX5_back_17 : decode cX5_back 17 = .ok (.ifCond .ne 6, 3) := by decide +kernel
theorem dX5_back_20 : decode cX5_back 20 = .ok (.bipush (-2), 2) := by decide +kernel
theorem dX5_back_22 : decode cX5_back 22 = .ok (.ireturn, 1) := by decide +kernel
theorem dX5_back_23 : decode cX5_back 23 = .ok (.aload_n 0, 1) := by decide +kernel
theorem dX5_back_24 : decode cX5_back 24 = .ok (.bipush 27, 2) := by decide +kernel
theorem dX5_back_26 : decode cX5_back 26 = .ok (.iconst 2, 1) := by decide +kernel
theorem dX5_back_27 : decode cX5_back 27 = .ok (.iload_n 1, 1) := by decide +kernel
theorem dX5_back_28 : decode cX5_back 28 = .ok (.iadd, 1) := by decide +kernel
theorem dX5_back_29 : decode cX5_back 29 = .ok (.imul, 1) := by decide +kernel
theorem dX5_back_30 : decode cX5_back 30 = .ok (.iconst 0, 1) := by decide +kernel
theorem dX5_back_31 : decode cX5_back 31 = .ok (.invokevirtual 175, 3) := by decide +kernel
theorem dX5_back_34 : decode cX5_back 34 = .ok (.aload_n 0, 1) := by decide +kernel
theorem dX5_back_35 : decode cX5_back 35 = .ok (.getfield 38, 3) := by decide +kernel
theorem dX5_back_38 : decode cX5_back 38 = .ok (.iconst 0, 1) := by decide +kernel
theorem dX5_back_39 : decode cX5_back 39 = .ok (.iaload, 1) := by decide +kernel
theorem dX5_back_40 : decode cX5_back 40 = .ok (.ireturn, 1) := by decide +kernel
theorem dX5_count_0 : decode cX5_count 0 = .ok (.iload_n 1, 1) := by decide +kernel
theorem dX5_count_1 : decode cX5_count 1 = .ok (.tableswitch 77 0 5 #[39, 46, 53, 60, 65, 70], 39) := by decide +kernel
theorem dX5_count_40 : decode cX5_count 40 = .ok (.aload_n 0, 1) := by decide +kernel
theorem dX5_count_41 : decode cX5_count 41 = .ok (.getfield 17, 3) := by decide +kernel
theorem dX5_count_44 : decode cX5_count 44 = .ok (.iconst 0, 1) := by decide +kernel
theorem dX5_count_45 : decode cX5_count 45 = .ok (.iaload, 1) := by decide +kernel
theorem dX5_count_46 : decode cX5_count 46 = .ok (.ireturn, 1) := by decide +kernel
theorem dX5_count_47 : decode cX5_count 47 = .ok (.aload_n 0, 1) := by decide +kernel
theorem dX5_count_48 : decode cX5_count 48 = .ok (.getfield 26, 3) := by decide +kernel
theorem dX5_count_51 : decode cX5_count 51 = .ok (.iconst 0, 1) := by decide +kernel
theorem dX5_count_52 : decode cX5_count 52 = .ok (.iaload, 1) := by decide +kernel
theorem dX5_count_53 : decode cX5_count 53 = .ok (.ireturn, 1) := by decide +kernel
theorem dX5_count_54 : decode cX5_count 54 = .ok (.aload_n 0, 1) := by decide +kernel
theorem dX5_count_55 : decode cX5_count 55 = .ok (.getfield 32, 3) := by decide +kernel
theorem dX5_count_58 : decode cX5_count 58 = .ok (.iconst 0, 1) := by decide +kernel
theorem dX5_count_59 : decode cX5_count 59 = .ok (.iaload, 1) := by decide +kernel
theorem dX5_count_60 : decode cX5_count 60 = .ok (.ireturn, 1) := by decide +kernel
theorem dX5_count_61 : decode cX5_count 61 = .ok (.aload_n 0, 1) := by decide +kernel
theorem dX5_count_62 : decode cX5_count 62 = .ok (.getfield 157, 3) := by decide +kernel
theorem dX5_count_65 : decode cX5_count 65 = .ok (.ireturn, 1) := by decide +kernel
theorem dX5_count_66 : decode cX5_count 66 = .ok (.aload_n 0, 1) := by decide +kernel
theorem dX5_count_67 : decode cX5_count 67 = .ok (.getfield 58, 3) := by decide +kernel
theorem dX5_count_70 : decode cX5_count 70 = .ok (.ireturn, 1) := by decide +kernel
theorem dX5_count_71 : decode cX5_count 71 = .ok (.aload_n 0, 1) := by decide +kernel
theorem dX5_count_72 : decode cX5_count 72 = .ok (.getfield 13, 3) := by decide +kernel
theorem dX5_count_75 : decode cX5_count 75 = .ok (.iconst 0, 1) := by decide +kernel
theorem dX5_count_76 : decode cX5_count 76 = .ok (.iaload, 1) := by decide +kernel
theorem dX5_count_77 : decode cX5_count 77 = .ok (.ireturn, 1) := by decide +kernel
theorem dX5_count_78 : decode cX5_count 78 = .ok (.iconst (-1), 1) := by decide +kernel
theorem dX5_count_79 : decode cX5_count 79 = .ok (.ireturn, 1) := by decide +kernel
theorem dX5_trace_0 : decode cX5_trace 0 = .ok (.aload_n 0, 1) := by decide +kernel
theorem dX5_trace_1 : decode cX5_trace 1 = .ok (.getfield 161, 3) := by decide +kernel
theorem dX5_trace_4 : decode cX5_trace 4 = .ok (.lreturn, 1) := by decide +kernel
