set_option maxRecDepth 20000 in
theorem ggL_law_X4_init : GoodIn wsL_law wsX4_init := goodIn_r _ [8, 9, 10, 11, 12, 13, 14, 15, 16, 17, 18, 19, 20, 21, 22, 23, 24, 25, 26, 27, 28, 29, 30, 31, 3, 32, 33, 34, 35, 36, 37, 38, 39, 40, 41, 42, 43, 44, 45, 46, 47, 48, 49, 50, 51, 52, 53, 54, 55, 388, 389, 390, 391, 392, 375, 376, 377, 378, 379, 380, 381, 382, 383, 384, 385, 386, 387, 393, 394, 395, 396, 397, 398, 399, 400, 401, 402, 403, 404] (by decide +kernel) (by decide +kernel)
set_option maxRecDepth 20000 in
theorem gL_law_X4_init : GoodIn wsL_law (wsX4_init) := ggL_law_X4_init
set_option maxRecDepth 20000 in
theorem ggL_law_L_isFleet : GoodIn wsL_law wsL_isFleet := goodIn_ca (goodIn_ca (goodIn_r _ [59, 60, 61, 62, 2, 63, 64, 65, 66, 67, 68, 69, 70, 71, 72, 73, 74, 75, 76, 77, 78, 79, 80, 81, 82, 83, 84, 85, 86, 87, 88, 89, 90, 91, 92, 93, 22, 94, 95, 96, 97, 21, 98, 99, 100, 101, 102, 103, 104, 105, 106, 107, 108, 109, 110, 111, 112, 15, 113, 114, 115, 116, 117, 118, 119, 120, 14, 121, 32, 122, 123, 124, 125, 33, 126, 127, 58, 128, 129, 130, 131, 132, 133, 134, 135, 136, 137, 138, 139, 140, 141, 142, 143, 144, 17, 145, 146, 147, 26, 148, 50, 149, 150, 151, 152, 153, 154, 155, 156, 157, 158, 159, 160, 51, 161, 162, 163, 164, 165, 166, 167, 168, 54, 169, 170, 171, 172, 173, 174, 175, 176, 177, 178, 179, 53, 180, 181, 182, 183, 184, 375, 376, 377, 378, 379, 380, 381, 382, 383, 384, 385, 386, 387, 393, 394, 395, 396, 397, 398, 388, 389, 390, 391, 392, 405, 406, 407, 408, 399, 400, 401, 402, 403, 404] (by decide +kernel) (by decide +kernel)) (goodIn_sub (fun _ h => List.mem_append_left _ (List.mem_append_left _ (List.mem_append_right _ h))) (by decide +kernel))) (goodIn_sub (fun _ h => List.mem_append_left _ (List.mem_append_right _ h)) (by decide +kernel))
set_option maxRecDepth 20000 in
theorem gL_law_L_isFleet : GoodIn wsL_law (va_wsS RL 95 yL_isFleet wsL_isFleet) := goodIn_app (goodIn_of _ (by decide +kernel)) ggL_law_L_isFleet
set_option maxRecDepth 20000 in
theorem ggL_law_X4_setAddress : GoodIn wsL_law wsX4_setAddress := goodIn_ca (goodIn_ca (goodIn_r _ [188, 15, 113, 114, 2, 115, 116, 117, 189, 190, 191, 192, 193, 194, 195, 196, 14, 197, 32, 33, 34, 375, 376, 377, 378, 379, 380, 381, 382, 383, 384, 385, 386, 387, 388, 389, 390, 391, 392] (by decide +kernel) (by decide +kernel)) (goodIn_sub (fun _ h => List.mem_append_left _ (List.mem_append_left _ (List.mem_append_right _ h))) (by decide +kernel))) (goodIn_sub (fun _ h => List.mem_append_right _ h) (by decide +kernel))
set_option maxRecDepth 20000 in
theorem gL_law_X4_setAddress : GoodIn wsL_law (wsV RL 101 RX4 yX4_setAddress wsX4_setAddress) := goodIn_app (goodIn_of _ (by decide +kernel)) ggL_law_X4_setAddress
set_option maxRecDepth 20000 in
theorem ggL_law_X4_setAlias : GoodIn wsL_law wsX4_setAlias := goodIn_ca (goodIn_ca (goodIn_r _ [201, 192, 193, 15, 113, 114, 2, 115, 116, 117, 189, 190, 191, 194, 195, 196, 14, 197, 32, 33, 34, 375, 376, 377, 378, 379, 380, 381, 382, 383, 384, 385, 386, 387, 388, 389, 390, 391, 392] (by decide +kernel) (by decide +kernel)) (goodIn_sub (fun _ h => List.mem_append_right _ h) (by decide +kernel))) (goodIn_sub (fun _ h => List.mem_append_left _ (List.mem_append_left _ (List.mem_append_right _ h))) (by decide +kernel))
set_option maxRecDepth 20000 in
theorem gL_law_X4_setAlias : GoodIn wsL_law (wsV RL 105 RX4 yX4_setAlias wsX4_setAlias) := goodIn_app (goodIn_of _ (by decide +kernel)) ggL_law_X4_setAlias
set_option maxRecDepth 20000 in
theorem ggL_law_X4_remove : GoodIn wsL_law wsX4_remove := goodIn_ca (goodIn_r _ [205, 15, 113, 114, 2, 115, 116, 117, 118, 119, 120, 14, 121, 32, 194, 195, 196, 197, 33, 34, 375, 376, 377, 378, 379, 380, 381, 382, 383, 384, 385, 386, 387, 388, 389, 390, 391, 392] (by decide +kernel) (by decide +kernel)) (goodIn_sub (fun _ h => List.mem_append_left _ (List.mem_append_left _ (List.mem_append_right _ h))) (by decide +kernel))
set_option maxRecDepth 20000 in
theorem gL_law_X4_remove : GoodIn wsL_law (wsV RL 108 RX4 yX4_remove wsX4_remove) := goodIn_app (goodIn_of _ (by decide +kernel)) ggL_law_X4_remove
set_option maxRecDepth 20000 in
theorem ggL_law_X4_setBound : GoodIn wsL_law wsX4_setBound := goodIn_ca (goodIn_r _ [209, 15, 210, 189, 190, 2, 191, 192, 193, 375, 376, 377, 378, 379, 380, 381, 382, 383, 384, 385, 386, 387, 388, 389, 390, 391, 392] (by decide +kernel) (by decide +kernel)) (goodIn_sub (fun _ h => List.mem_append_right _ h) (by decide +kernel))
set_option maxRecDepth 20000 in
theorem gL_law_X4_setBound : GoodIn wsL_law (wsV RL 112 RX4 yX4_setBound wsX4_setBound) := goodIn_app (goodIn_of _ (by decide +kernel)) ggL_law_X4_setBound
set_option maxRecDepth 20000 in
theorem ggL_law_X4_setAuthority : GoodIn wsL_law wsX4_setAuthority := goodIn_r _ [214, 15, 215, 375, 376, 377, 378, 379, 380, 381, 382, 383, 384, 385, 386, 387, 388, 389, 390, 391, 392] (by decide +kernel) (by decide +kernel)
set_option maxRecDepth 20000 in
theorem gL_law_X4_setAuthority : GoodIn wsL_law (wsV RL 115 RX4 yX4_setAuthority wsX4_setAuthority) := goodIn_app (goodIn_of _ (by decide +kernel)) ggL_law_X4_setAuthority
set_option maxRecDepth 20000 in
theorem ggL_law_L_told : GoodIn wsL_law wsL_told := goodIn_ca (goodIn_ca (goodIn_ca (goodIn_r _ [218, 219, 220, 221, 222, 2, 223, 140, 21, 224, 22, 225, 226, 227, 228, 173, 174, 113, 114, 115, 116, 117, 189, 190, 191, 192, 193, 229, 230, 231, 232, 17, 233, 234, 235, 236, 237, 238, 239, 240, 241, 242, 243, 244, 245, 246, 247, 248, 249, 250, 20, 251, 252, 253, 254, 255, 256, 257, 258, 259, 260, 103, 64, 15, 215, 98, 261, 262, 263, 26, 264, 53, 149, 150, 151, 152, 50, 265, 266, 267, 268, 54, 269, 270, 271, 272, 45, 273, 274, 275, 276, 108, 118, 119, 120, 14, 121, 32, 122, 123, 124, 125, 33, 277, 278, 279, 280, 35, 34, 281, 282, 283, 284, 285, 51, 52, 286, 287, 288, 289, 290, 291, 292, 293, 294, 295, 296, 297, 145, 146, 147, 148, 157, 158, 159, 160, 298, 299, 300, 301, 302, 303, 304, 305, 306, 307, 308, 309, 310, 311, 312, 313, 314, 315, 69, 74, 79, 84, 89, 316, 317, 318, 319, 27, 23, 320, 321, 322, 323, 324, 325, 326, 327, 328, 329, 330, 331, 332, 16, 333, 334, 335, 336, 337, 10, 11, 338, 25, 339, 340, 341, 342, 47, 48, 49, 3, 55, 38, 39, 40, 169, 170, 171, 172, 136, 137, 138, 139, 141, 142, 143, 144, 175, 176, 177, 178, 179, 405, 406, 407, 408, 375, 376, 377, 378, 379, 380, 381, 382, 383, 384, 385, 386, 387, 393, 394, 395, 396, 397, 398, 388, 389, 390, 391, 392, 399, 400, 401, 402, 403, 404] (by decide +kernel) (by decide +kernel)) (goodIn_sub (fun _ h => List.mem_append_left _ (List.mem_append_right _ h)) (by decide +kernel))) (goodIn_sub (fun _ h => List.mem_append_left _ (List.mem_append_left _ (List.mem_append_right _ h))) (by decide +kernel))) (goodIn_sub (fun _ h => List.mem_append_right _ h) (by decide +kernel))
set_option maxRecDepth 20000 in
theorem gL_law_L_told : GoodIn wsL_law (va_wsS RL 119 yL_told wsL_told) := goodIn_app (goodIn_of _ (by decide +kernel)) ggL_law_L_told
set_option maxRecDepth 20000 in
theorem ggL_law_X4_announce : GoodIn wsL_law wsX4_announce := goodIn_ca (goodIn_r _ [346, 233, 141, 142, 143, 2, 144, 116, 117, 17, 405, 406, 407, 408, 375, 376, 377, 378, 379, 380, 381, 382, 383, 384, 385, 386, 387] (by decide +kernel) (by decide +kernel)) (goodIn_sub (fun _ h => List.mem_append_left _ (List.mem_append_left _ (List.mem_append_right _ h))) (by decide +kernel))
set_option maxRecDepth 20000 in
theorem gL_law_X4_announce : GoodIn wsL_law (wsV RL 123 RX4 yX4_announce wsX4_announce) := goodIn_app (goodIn_of _ (by decide +kernel)) ggL_law_X4_announce
set_option maxRecDepth 20000 in
theorem ggL_law_L_slot : GoodIn wsL_law wsL_slot := goodIn_r _ [131] (by decide +kernel) (by decide +kernel)
set_option maxRecDepth 20000 in
theorem gL_law_L_slot : GoodIn wsL_law (va_wsS RL 7 yL_slot wsL_slot) := goodIn_app (goodIn_of _ (by decide +kernel)) ggL_law_L_slot
set_option maxRecDepth 20000 in
theorem ggL_law_X4_flush : GoodIn wsL_law wsX4_flush := goodIn_ca (goodIn_r _ [350, 136, 137, 138, 2, 139, 140, 141, 142, 143, 144, 116, 117, 17, 113, 114, 115, 351, 291, 292, 26, 293, 50, 285, 149, 150, 151, 152, 405, 406, 407, 408, 375, 376, 377, 378, 379, 380, 381, 382, 383, 384, 385, 386, 387, 399, 400, 401, 402, 403, 404] (by decide +kernel) (by decide +kernel)) (goodIn_sub (fun _ h => List.mem_append_left _ (List.mem_append_left _ (List.mem_append_right _ h))) (by decide +kernel))
set_option maxRecDepth 20000 in
theorem gL_law_X4_flush : GoodIn wsL_law (wsV RL 127 RX4 yX4_flush wsX4_flush) := goodIn_app (goodIn_of _ (by decide +kernel)) ggL_law_X4_flush
set_option maxRecDepth 20000 in
theorem ggL_law_X4_pass : GoodIn wsL_law wsX4_pass := goodIn_ca (goodIn_r _ [355, 64, 189, 190, 2, 191, 192, 193, 375, 376, 377, 378, 379, 380, 381, 382, 383, 384, 385, 386, 387] (by decide +kernel) (by decide +kernel)) (goodIn_sub (fun _ h => List.mem_append_right _ h) (by decide +kernel))
set_option maxRecDepth 20000 in
theorem gL_law_X4_pass : GoodIn wsL_law (wsV RL 131 RX4 yX4_pass wsX4_pass) := goodIn_app (goodIn_of _ (by decide +kernel)) ggL_law_X4_pass
set_option maxRecDepth 20000 in
theorem ggL_law_L_tries : GoodIn wsL_law wsL_tries := goodIn_r _ [358, 3, 359, 360, 58, 361, 362, 363, 364, 365, 366, 367, 129, 130, 131, 368, 369, 370] (by decide +kernel) (by decide +kernel)
set_option maxRecDepth 20000 in
theorem gL_law_L_tries : GoodIn wsL_law (va_wsS RL 134 yL_tries wsL_tries) := goodIn_app (goodIn_of _ (by decide +kernel)) ggL_law_L_tries
set_option maxRecDepth 20000 in
theorem ggL_law_X4_siteFor : GoodIn wsL_law wsX4_siteFor := goodIn_ca (goodIn_r _ [374, 224, 189, 190, 2, 191, 192, 193, 229, 230, 231, 232, 17, 233, 234, 235, 236, 237, 238, 239, 240, 241, 242, 243, 405, 406, 407, 408, 375, 376, 377, 378, 379, 380, 381, 382, 383, 384, 385, 386, 387] (by decide +kernel) (by decide +kernel)) (goodIn_sub (fun _ h => List.mem_append_right _ h) (by decide +kernel))
set_option maxRecDepth 20000 in
theorem gL_law_X4_siteFor : GoodIn wsL_law (wsV RL 137 RX4 yX4_siteFor wsX4_siteFor) := goodIn_app (goodIn_of _ (by decide +kernel)) ggL_law_X4_siteFor
set_option maxRecDepth 20000 in
theorem ggL_law_L_nearest : GoodIn wsL_law wsL_nearest := goodIn_r _ [364] (by decide +kernel) (by decide +kernel)
set_option maxRecDepth 20000 in
theorem gL_law_L_nearest : GoodIn wsL_law (va_wsS RL 17 yL_nearest wsL_nearest) := goodIn_app (goodIn_of _ (by decide +kernel)) ggL_law_L_nearest
set_option maxRecDepth 20000 in
theorem ggL_law_L_asks : GoodIn wsL_law wsL_asks := goodIn_r _ [361, 362, 363, 58, 364, 365, 366, 367, 3, 129, 130, 131, 368, 369, 370] (by decide +kernel) (by decide +kernel)
set_option maxRecDepth 20000 in
theorem gL_law_L_asks : GoodIn wsL_law (va_wsS RL 25 yL_asks wsL_asks) := goodIn_app (goodIn_of _ (by decide +kernel)) ggL_law_L_asks
theorem dL_law_0 : decode cL_law 0 = .ok (.new 29, 3) := by decide +kernel
theorem dL_law_3 : decode cL_law 3 = .ok (.dup, 1) := by decide +kernel
theorem dL_law_4 : decode cL_law 4 = .ok (.invokespecial 94, 3) := by decide +kernel
theorem dL_law_7 : decode cL_law 7 = .ok (.astore_n 1, 1) := by decide +kernel
theorem dL_law_8 : decode cL_law 8 = .ok (.bipush 32, 2) := by decide +kernel
theorem dL_law_10 : decode cL_law 10 = .ok (.newarray .int, 2) := by decide +kernel
theorem dL_law_12 : decode cL_law 12 = .ok (.astore_n 2, 1) := by decide +kernel
theorem dL_law_13 : decode cL_law 13 = .ok (.bipush 20, 2) := by decide +kernel
theorem dL_law_15 : decode cL_law 15 = .ok (.newarray .int, 2) := by decide +kernel
theorem dL_law_17 : decode cL_law 17 = .ok (.astore_n 3, 1) := by decide +kernel
theorem dL_law_18 : decode cL_law 18 = .ok (.bipush 24, 2) := by decide +kernel
theorem dL_law_20 : decode cL_law 20 = .ok (.newarray .int, 2) := by decide +kernel
theorem dL_law_22 : decode cL_law 22 = .ok (.astore 4, 2) := by decide +kernel
theorem dL_law_24 : decode cL_law 24 = .ok (.bipush 24, 2) := by decide +kernel
theorem dL_law_26 : decode cL_law 26 = .ok (.newarray .int, 2) := by decide +kernel
theorem dL_law_28 : decode cL_law 28 = .ok (.astore 5, 2) := by decide +kernel
theorem dL_law_30 : decode cL_law 30 = .ok (.bipush 24, 2) := by decide +kernel
theorem dL_law_32 : decode cL_law 32 = .ok (.newarray .int, 2) := by decide +kernel
theorem dL_law_34 : decode cL_law 34 = .ok (.astore 6, 2) := by decide +kernel
theorem dL_law_36 : decode cL_law 36 = .ok (.bipush 24, 2) := by decide +kernel
theorem dL_law_38 : decode cL_law 38 = .ok (.newarray .int, 2) := by decide +kernel
theorem dL_law_40 : decode cL_law 40 = .ok (.astore 7, 2) := by decide +kernel
theorem dL_law_42 : decode cL_law 42 = .ok (.bipush 24, 2) := by decide +kernel
theorem dL_law_44 : decode cL_law 44 = .ok (.newarray .int, 2) := by decide +kernel
theorem dL_law_46 : decode cL_law 46 = .ok (.astore 8, 2) := by decide +kernel
theorem dL_law_48 : decode cL_law 48 = .ok (.aload_n 3, 1) := by decide +kernel
theorem dL_law_49 : decode cL_law 49 = .ok (.iconst 1, 1) := by decide +kernel
theorem dL_law_50 : decode cL_law 50 = .ok (.bipush 30, 2) := by decide +kernel
theorem dL_law_52 : decode cL_law 52 = .ok (.iastore, 1) := by decide +kernel
theorem dL_law_53 : decode cL_law 53 = .ok (.aload_n 3, 1) := by decide +kernel
theorem dL_law_54 : decode cL_law 54 = .ok (.iconst 2, 1) := by decide +kernel
theorem dL_law_55 : decode cL_law 55 = .ok (.iconst 1, 1) := by decide +kernel
theorem dL_law_56 : decode cL_law 56 = .ok (.iastore, 1) := by decide +kernel
theorem dL_law_57 : decode cL_law 57 = .ok (.aload_n 3, 1) := by decide +kernel
theorem dL_law_58 : decode cL_law 58 = .ok (.bipush 15, 2) := by decide +kernel
theorem dL_law_60 : decode cL_law 60 = .ok (.bipush (-3), 2) := by decide +kernel
theorem dL_law_62 : decode cL_law 62 = .ok (.iastore, 1) := by decide +kernel
theorem dL_law_63 : decode cL_law 63 = .ok (.aload_n 1, 1) := by decide +kernel
theorem dL_law_64 : decode cL_law 64 = .ok (.aload_n 2, 1) := by decide +kernel
theorem dL_law_65 : decode cL_law 65 = .ok (.aload_n 3, 1) := by decide +kernel
theorem dL_law_66 : decode cL_law 66 = .ok (.aload 4, 2) := by decide +kernel
theorem dL_law_68 : decode cL_law 68 = .ok (.aload 5, 2) := by decide +kernel
theorem dL_law_70 : decode cL_law 70 = .ok (.aload 7, 2) := by decide +kernel
theorem dL_law_72 : decode cL_law 72 = .ok (.aload 8, 2) := by decide +kernel
theorem dL_law_74 : decode cL_law 74 = .ok (.invokestatic 95, 3) := by decide +kernel
theorem dL_law_77 : decode cL_law 77 = .ok (.istore 9, 2) := by decide +kernel
theorem dL_law_79 : decode cL_law 79 = .ok (.iconst 0, 1) := by decide +kernel
theorem dL_law_80 : decode cL_law 80 = .ok (.istore 10, 2) := by decide +kernel
theorem dL_law_82 : decode cL_law 82 = .ok (.iload 10, 2) := by decide +kernel
theorem dL_law_84 : decode cL_law 84 = .ok (.bipush 90, 2) := by decide +kernel
theorem dL_law_86 : decode cL_law 86 = .ok (.if_icmp .ge 944, 3) := by decide +kernel
theorem dL_law_89 : decode cL_law 89 = .ok (.iload 9, 2) := by decide +kernel
theorem dL_law_91 : decode cL_law 91 = .ok (.ifCond .eq 939, 3) := by decide +kernel
theorem dL_law_94 : decode cL_law 94 = .ok (.iload 10, 2) := by decide +kernel
theorem dL_law_96 : decode cL_law 96 = .ok (.aload_n 0, 1) := by decide +kernel
theorem dL_law_97 : decode cL_law 97 = .ok (.arraylength, 1) := by decide +kernel
theorem dL_law_98 : decode cL_law 98 = .ok (.if_icmp .ge 13, 3) := by decide +kernel
theorem dL_law_101 : decode cL_law 101 = .ok (.aload_n 0, 1) := by decide +kernel
theorem dL_law_102 : decode cL_law 102 = .ok (.iload 10, 2) := by decide +kernel
theorem dL_law_104 : decode cL_law 104 = .ok (.iaload, 1) := by decide +kernel
theorem dL_law_105 : decode cL_law 105 = .ok (.ldc 99, 2) := by decide +kernel
theorem dL_law_107 : decode cL_law 107 = .ok (.iand, 1) := by decide +kernel
theorem dL_law_108 : decode cL_law 108 = .ok (.goto 24, 3) := by decide +kernel
theorem dL_law_111 : decode cL_law 111 = .ok (.ldc 100, 2) := by decide +kernel
theorem dL_law_113 : decode cL_law 113 = .ok (.iload 10, 2) := by decide +kernel
theorem dL_law_115 : decode cL_law 115 = .ok (.imul, 1) := by decide +kernel
theorem dL_law_116 : decode cL_law 116 = .ok (.iload 10, 2) := by decide +kernel
theorem dL_law_118 : decode cL_law 118 = .ok (.imul, 1) := by decide +kernel
theorem dL_law_119 : decode cL_law 119 = .ok (.sipush 2713, 3) := by decide +kernel
theorem dL_law_122 : decode cL_law 122 = .ok (.iload 10, 2) := by decide +kernel
theorem dL_law_124 : decode cL_law 124 = .ok (.imul, 1) := by decide +kernel
theorem dL_law_125 : decode cL_law 125 = .ok (.iadd, 1) := by decide +kernel
theorem dL_law_126 : decode cL_law 126 = .ok (.bipush 19, 2) := by decide +kernel
theorem dL_law_128 : decode cL_law 128 = .ok (.iadd, 1) := by decide +kernel
theorem dL_law_129 : decode cL_law 129 = .ok (.ldc 99, 2) := by decide +kernel
theorem dL_law_131 : decode cL_law 131 = .ok (.iand, 1) := by decide +kernel
theorem dL_law_132 : decode cL_law 132 = .ok (.istore 11, 2) := by decide +kernel
theorem dL_law_134 : decode cL_law 134 = .ok (.iload 10, 2) := by decide +kernel
theorem dL_law_136 : decode cL_law 136 = .ok (.iconst 2, 1) := by decide +kernel
theorem dL_law_137 : decode cL_law 137 = .ok (.if_icmp .ge 8, 3) := by decide +kernel
theorem dL_law_140 : decode cL_law 140 = .ok (.bipush 12, 2) := by decide +kernel
theorem dL_law_142 : decode cL_law 142 = .ok (.goto 22, 3) := by decide +kernel
theorem dL_law_145 : decode cL_law 145 = .ok (.iload 10, 2) := by decide +kernel
theorem dL_law_147 : decode cL_law 147 = .ok (.bipush 8, 2) := by decide +kernel
theorem dL_law_149 : decode cL_law 149 = .ok (.if_icmp .ge 10, 3) := by decide +kernel
theorem dL_law_152 : decode cL_law 152 = .ok (.iload 10, 2) := by decide +kernel
theorem dL_law_154 : decode cL_law 154 = .ok (.iconst 3, 1) := by decide +kernel
theorem dL_law_155 : decode cL_law 155 = .ok (.irem, 1) := by decide +kernel
theorem dL_law_156 : decode cL_law 156 = .ok (.goto 8, 3) := by decide +kernel
theorem dL_law_159 : decode cL_law 159 = .ok (.iload 11, 2) := by decide +kernel
theorem dL_law_161 : decode cL_law 161 = .ok (.bipush 22, 2) := by decide +kernel
theorem dL_law_163 : decode cL_law 163 = .ok (.irem, 1) := by decide +kernel
theorem dL_law_164 : decode cL_law 164 = .ok (.istore 12, 2) := by decide +kernel
theorem dL_law_166 : decode cL_law 166 = .ok (.iload 11, 2) := by decide +kernel
theorem dL_law_168 : decode cL_law 168 = .ok (.bipush 22, 2) := by decide +kernel
theorem dL_law_170 : decode cL_law 170 = .ok (.idiv, 1) := by decide +kernel
theorem dL_law_171 : decode cL_law 171 = .ok (.istore 13, 2) := by decide +kernel
theorem dL_law_173 : decode cL_law 173 = .ok (.iload 13, 2) := by decide +kernel
theorem dL_law_175 : decode cL_law 175 = .ok (.bipush 16, 2) := by decide +kernel
theorem dL_law_177 : decode cL_law 177 = .ok (.irem, 1) := by decide +kernel
theorem dL_law_178 : decode cL_law 178 = .ok (.istore 14, 2) := by decide +kernel
theorem dL_law_180 : decode cL_law 180 = .ok (.iload 12, 2) := by decide +kernel
theorem dL_law_182 : decode cL_law 182 = .ok (.ifCond .eq 10, 3) := by decide +kernel
theorem dL_law_185 : decode cL_law 185 = .ok (.iload 12, 2) := by decide +kernel
theorem dL_law_187 : decode cL_law 187 = .ok (.bipush 14, 2) := by decide +kernel
theorem dL_law_189 : decode cL_law 189 = .ok (.if_icmp .ne 68, 3) := by decide +kernel
theorem dL_law_192 : decode cL_law 192 = .ok (.aload_n 2, 1) := by decide +kernel
theorem dL_law_193 : decode cL_law 193 = .ok (.iload 14, 2) := by decide +kernel
theorem dL_law_195 : decode cL_law 195 = .ok (.iconst 1, 1) := by decide +kernel
theorem dL_law_196 : decode cL_law 196 = .ok (.iload 13, 2) := by decide +kernel
theorem dL_law_198 : decode cL_law 198 = .ok (.bipush 16, 2) := by decide +kernel
theorem dL_law_200 : decode cL_law 200 = .ok (.idiv, 1) := by decide +kernel
theorem dL_law_201 : decode cL_law 201 = .ok (.sipush 9999, 3) := by decide +kernel
theorem dL_law_204 : decode cL_law 204 = .ok (.irem, 1) := by decide +kernel
theorem dL_law_205 : decode cL_law 205 = .ok (.iadd, 1) := by decide +kernel
theorem dL_law_206 : decode cL_law 206 = .ok (.iastore, 1) := by decide +kernel
theorem dL_law_207 : decode cL_law 207 = .ok (.aload_n 2, 1) := by decide +kernel
theorem dL_law_208 : decode cL_law 208 = .ok (.bipush 16, 2) := by decide +kernel
theorem dL_law_210 : decode cL_law 210 = .ok (.iload 14, 2) := by decide +kernel
theorem dL_law_212 : decode cL_law 212 = .ok (.iadd, 1) := by decide +kernel
theorem dL_law_213 : decode cL_law 213 = .ok (.iconst 1, 1) := by decide +kernel
theorem dL_law_214 : decode cL_law 214 = .ok (.iload 13, 2) := by decide +kernel
theorem dL_law_216 : decode cL_law 216 = .ok (.bipush 48, 2) := by decide +kernel
theorem dL_law_218 : decode cL_law 218 = .ok (.idiv, 1) := by decide +kernel
theorem dL_law_219 : decode cL_law 219 = .ok (.iload 13, 2) := by decide +kernel
theorem dL_law_221 : decode cL_law 221 = .ok (.iconst 3, 1) := by decide +kernel
theorem dL_law_222 : decode cL_law 222 = .ok (.irem, 1) := by decide +kernel
theorem dL_law_223 : decode cL_law 223 = .ok (.ifCond .ne 9, 3) := by decide +kernel
theorem dL_law_226 : decode cL_law 226 = .ok (.sipush 1000, 3) := by decide +kernel
theorem dL_law_229 : decode cL_law 229 = .ok (.goto 5, 3) := by decide +kernel
theorem dL_law_232 : decode cL_law 232 = .ok (.bipush 24, 2) := by decide +kernel
theorem dL_law_234 : decode cL_law 234 = .ok (.irem, 1) := by decide +kernel
theorem dL_law_235 : decode cL_law 235 = .ok (.iadd, 1) := by decide +kernel
theorem dL_law_236 : decode cL_law 236 = .ok (.iastore, 1) := by decide +kernel
theorem dL_law_237 : decode cL_law 237 = .ok (.aload_n 1, 1) := by decide +kernel
theorem dL_law_238 : decode cL_law 238 = .ok (.iload 14, 2) := by decide +kernel
theorem dL_law_240 : decode cL_law 240 = .ok (.aload_n 2, 1) := by decide +kernel
theorem dL_law_241 : decode cL_law 241 = .ok (.iload 14, 2) := by decide +kernel
theorem dL_law_243 : decode cL_law 243 = .ok (.iaload, 1) := by decide +kernel
theorem dL_law_244 : decode cL_law 244 = .ok (.aload_n 2, 1) := by decide +kernel
theorem dL_law_245 : decode cL_law 245 = .ok (.bipush 16, 2) := by decide +kernel
theorem dL_law_247 : decode cL_law 247 = .ok (.iload 14, 2) := by decide +kernel
theorem dL_law_249 : decode cL_law 249 = .ok (.iadd, 1) := by decide +kernel
theorem dL_law_250 : decode cL_law 250 = .ok (.iaload, 1) := by decide +kernel
theorem dL_law_251 : decode cL_law 251 = .ok (.invokevirtual 101, 3) := by decide +kernel
theorem dL_law_254 : decode cL_law 254 = .ok (.goto 741, 3) := by decide +kernel
theorem dL_law_257 : decode cL_law 257 = .ok (.iload 12, 2) := by decide +kernel
theorem dL_law_259 : decode cL_law 259 = .ok (.iconst 3, 1) := by decide +kernel
theorem dL_law_260 : decode cL_law 260 = .ok (.if_icmp .ge 78, 3) := by decide +kernel
theorem dL_law_263 : decode cL_law 263 = .ok (.iload 14, 2) := by decide +kernel
theorem dL_law_265 : decode cL_law 265 = .ok (.iconst 1, 1) := by decide +kernel
theorem dL_law_266 : decode cL_law 266 = .ok (.iadd, 1) := by decide +kernel
theorem dL_law_267 : decode cL_law 267 = .ok (.iload 13, 2) := by decide +kernel
theorem dL_law_269 : decode cL_law 269 = .ok (.bipush 16, 2) := by decide +kernel
theorem dL_law_271 : decode cL_law 271 = .ok (.idiv, 1) := by decide +kernel
theorem dL_law_272 : decode cL_law 272 = .ok (.bipush 15, 2) := by decide +kernel
theorem dL_law_274 : decode cL_law 274 = .ok (.irem, 1) := by decide +kernel
theorem dL_law_275 : decode cL_law 275 = .ok (.iadd, 1) := by decide +kernel
theorem dL_law_276 : decode cL_law 276 = .ok (.bipush 16, 2) := by decide +kernel
theorem dL_law_278 : decode cL_law 278 = .ok (.irem, 1) := by decide +kernel
theorem dL_law_279 : decode cL_law 279 = .ok (.istore 15, 2) := by decide +kernel
theorem dL_law_281 : decode cL_law 281 = .ok (.aload_n 2, 1) := by decide +kernel
theorem dL_law_282 : decode cL_law 282 = .ok (.iload 14, 2) := by decide +kernel
theorem dL_law_284 : decode cL_law 284 = .ok (.iconst (-1), 1) := by decide +kernel
theorem dL_law_285 : decode cL_law 285 = .ok (.iload 15, 2) := by decide +kernel
theorem dL_law_287 : decode cL_law 287 = .ok (.isub, 1) := by decide +kernel
theorem dL_law_288 : decode cL_law 288 = .ok (.iastore, 1) := by decide +kernel
theorem dL_law_289 : decode cL_law 289 = .ok (.aload_n 2, 1) := by decide +kernel
theorem dL_law_290 : decode cL_law 290 = .ok (.bipush 16, 2) := by decide +kernel
theorem dL_law_292 : decode cL_law 292 = .ok (.iload 14, 2) := by decide +kernel
theorem dL_law_294 : decode cL_law 294 = .ok (.iadd, 1) := by decide +kernel
theorem dL_law_295 : decode cL_law 295 = .ok (.iconst 1, 1) := by decide +kernel
theorem dL_law_296 : decode cL_law 296 = .ok (.iload 13, 2) := by decide +kernel
theorem dL_law_298 : decode cL_law 298 = .ok (.sipush 240, 3) := by decide +kernel
theorem dL_law_301 : decode cL_law 301 = .ok (.idiv, 1) := by decide +kernel
theorem dL_law_302 : decode cL_law 302 = .ok (.iload 13, 2) := by decide +kernel
theorem dL_law_304 : decode cL_law 304 = .ok (.iconst 3, 1) := by decide +kernel
theorem dL_law_305 : decode cL_law 305 = .ok (.irem, 1) := by decide +kernel
theorem dL_law_306 : decode cL_law 306 = .ok (.ifCond .ne 9, 3) := by decide +kernel
theorem dL_law_309 : decode cL_law 309 = .ok (.sipush 1000, 3) := by decide +kernel
theorem dL_law_312 : decode cL_law 312 = .ok (.goto 5, 3) := by decide +kernel
theorem dL_law_315 : decode cL_law 315 = .ok (.bipush 24, 2) := by decide +kernel
theorem dL_law_317 : decode cL_law 317 = .ok (.irem, 1) := by decide +kernel
theorem dL_law_318 : decode cL_law 318 = .ok (.iadd, 1) := by decide +kernel
theorem dL_law_319 : decode cL_law 319 = .ok (.iastore, 1) := by decide +kernel
theorem dL_law_320 : decode cL_law 320 = .ok (.aload_n 1, 1) := by decide +kernel
theorem dL_law_321 : decode cL_law 321 = .ok (.iload 14, 2) := by decide +kernel
theorem dL_law_323 : decode cL_law 323 = .ok (.iload 15, 2) := by decide +kernel
theorem dL_law_325 : decode cL_law 325 = .ok (.aload_n 2, 1) := by decide +kernel
theorem dL_law_326 : decode cL_law 326 = .ok (.bipush 16, 2) := by decide +kernel
theorem dL_law_328 : decode cL_law 328 = .ok (.iload 14, 2) := by decide +kernel
theorem dL_law_330 : decode cL_law 330 = .ok (.iadd, 1) := by decide +kernel
theorem dL_law_331 : decode cL_law 331 = .ok (.iaload, 1) := by decide +kernel
theorem dL_law_332 : decode cL_law 332 = .ok (.invokevirtual 105, 3) := by decide +kernel
theorem dL_law_335 : decode cL_law 335 = .ok (.goto 660, 3) := by decide +kernel
theorem dL_law_338 : decode cL_law 338 = .ok (.iload 12, 2) := by decide +kernel
theorem dL_law_340 : decode cL_law 340 = .ok (.iconst 3, 1) := by decide +kernel
theorem dL_law_341 : decode cL_law 341 = .ok (.if_icmp .ne 39, 3) := by decide +kernel
theorem dL_law_344 : decode cL_law 344 = .ok (.aload_n 1, 1) := by decide +kernel
theorem dL_law_345 : decode cL_law 345 = .ok (.iload 14, 2) := by decide +kernel
theorem dL_law_347 : decode cL_law 347 = .ok (.invokevirtual 108, 3) := by decide +kernel
theorem dL_law_350 : decode cL_law 350 = .ok (.aload_n 2, 1) := by decide +kernel
theorem dL_law_351 : decode cL_law 351 = .ok (.iload 14, 2) := by decide +kernel
theorem dL_law_353 : decode cL_law 353 = .ok (.iaload, 1) := by decide +kernel
theorem dL_law_354 : decode cL_law 354 = .ok (.ifCond .eq 7, 3) := by decide +kernel
theorem dL_law_357 : decode cL_law 357 = .ok (.iconst 1, 1) := by decide +kernel
theorem dL_law_358 : decode cL_law 358 = .ok (.goto 4, 3) := by decide +kernel
theorem dL_law_361 : decode cL_law 361 = .ok (.iconst 0, 1) := by decide +kernel
theorem dL_law_362 : decode cL_law 362 = .ok (.if_icmp .ne 7, 3) := by decide +kernel
theorem dL_law_365 : decode cL_law 365 = .ok (.iconst 1, 1) := by decide +kernel
theorem dL_law_366 : decode cL_law 366 = .ok (.goto 4, 3) := by decide +kernel
theorem dL_law_369 : decode cL_law 369 = .ok (.iconst 0, 1) := by decide +kernel
theorem dL_law_370 : decode cL_law 370 = .ok (.istore 9, 2) := by decide +kernel
theorem dL_law_372 : decode cL_law 372 = .ok (.aload_n 2, 1) := by decide +kernel
theorem dL_law_373 : decode cL_law 373 = .ok (.iload 14, 2) := by decide +kernel
theorem dL_law_375 : decode cL_law 375 = .ok (.iconst 0, 1) := by decide +kernel
theorem dL_law_376 : decode cL_law 376 = .ok (.iastore, 1) := by decide +kernel
theorem dL_law_377 : decode cL_law 377 = .ok (.goto 618, 3) := by decide +kernel
theorem dL_law_380 : decode cL_law 380 = .ok (.iload 12, 2) := by decide +kernel
theorem dL_law_382 : decode cL_law 382 = .ok (.iconst 4, 1) := by decide +kernel
theorem dL_law_383 : decode cL_law 383 = .ok (.if_icmp .ne 41, 3) := by decide +kernel
theorem dL_law_386 : decode cL_law 386 = .ok (.aload_n 3, 1) := by decide +kernel
theorem dL_law_387 : decode cL_law 387 = .ok (.iconst 1, 1) := by decide +kernel
theorem dL_law_388 : decode cL_law 388 = .ok (.iaload, 1) := by decide +kernel
theorem dL_law_389 : decode cL_law 389 = .ok (.istore 15, 2) := by decide +kernel
theorem dL_law_391 : decode cL_law 391 = .ok (.aload_n 3, 1) := by decide +kernel
theorem dL_law_392 : decode cL_law 392 = .ok (.iconst 1, 1) := by decide +kernel
theorem dL_law_393 : decode cL_law 393 = .ok (.iconst 1, 1) := by decide +kernel
theorem dL_law_394 : decode cL_law 394 = .ok (.iload 13, 2) := by decide +kernel
theorem dL_law_396 : decode cL_law 396 = .ok (.sipush 300, 3) := by decide +kernel
theorem dL_law_399 : decode cL_law 399 = .ok (.irem, 1) := by decide +kernel
theorem dL_law_400 : decode cL_law 400 = .ok (.iadd, 1) := by decide +kernel
theorem dL_law_401 : decode cL_law 401 = .ok (.iastore, 1) := by decide +kernel
theorem dL_law_402 : decode cL_law 402 = .ok (.aload_n 1, 1) := by decide +kernel
theorem dL_law_403 : decode cL_law 403 = .ok (.aload_n 3, 1) := by decide +kernel
theorem dL_law_404 : decode cL_law 404 = .ok (.iconst 1, 1) := by decide +kernel
theorem dL_law_405 : decode cL_law 405 = .ok (.iaload, 1) := by decide +kernel
theorem dL_law_406 : decode cL_law 406 = .ok (.invokevirtual 112, 3) := by decide +kernel
theorem dL_law_409 : decode cL_law 409 = .ok (.iload 15, 2) := by decide +kernel
theorem dL_law_411 : decode cL_law 411 = .ok (.if_icmp .ne 7, 3) := by decide +kernel
theorem dL_law_414 : decode cL_law 414 = .ok (.iconst 1, 1) := by decide +kernel
theorem dL_law_415 : decode cL_law 415 = .ok (.goto 4, 3) := by decide +kernel
theorem dL_law_418 : decode cL_law 418 = .ok (.iconst 0, 1) := by decide +kernel
theorem dL_law_419 : decode cL_law 419 = .ok (.istore 9, 2) := by decide +kernel
theorem dL_law_421 : decode cL_law 421 = .ok (.goto 574, 3) := by decide +kernel
theorem dL_law_424 : decode cL_law 424 = .ok (.iload 12, 2) := by decide +kernel
theorem dL_law_426 : decode cL_law 426 = .ok (.iconst 5, 1) := by decide +kernel
theorem dL_law_427 : decode cL_law 427 = .ok (.if_icmp .ne 63, 3) := by decide +kernel
theorem dL_law_430 : decode cL_law 430 = .ok (.aload_n 3, 1) := by decide +kernel
theorem dL_law_431 : decode cL_law 431 = .ok (.iconst 2, 1) := by decide +kernel
theorem dL_law_432 : decode cL_law 432 = .ok (.iaload, 1) := by decide +kernel
theorem dL_law_433 : decode cL_law 433 = .ok (.iconst 1, 1) := by decide +kernel
theorem dL_law_434 : decode cL_law 434 = .ok (.if_icmp .ne 7, 3) := by decide +kernel
theorem dL_law_437 : decode cL_law 437 = .ok (.iconst 1, 1) := by decide +kernel
theorem dL_law_438 : decode cL_law 438 = .ok (.goto 4, 3) := by decide +kernel
theorem dL_law_441 : decode cL_law 441 = .ok (.iconst 0, 1) := by decide +kernel
theorem dL_law_442 : decode cL_law 442 = .ok (.istore 15, 2) := by decide +kernel
theorem dL_law_444 : decode cL_law 444 = .ok (.aload_n 3, 1) := by decide +kernel
theorem dL_law_445 : decode cL_law 445 = .ok (.iconst 2, 1) := by decide +kernel
theorem dL_law_446 : decode cL_law 446 = .ok (.iload 13, 2) := by decide +kernel
theorem dL_law_448 : decode cL_law 448 = .ok (.iconst 3, 1) := by decide +kernel
theorem dL_law_449 : decode cL_law 449 = .ok (.irem, 1) := by decide +kernel
theorem dL_law_450 : decode cL_law 450 = .ok (.ifCond .ne 7, 3) := by decide +kernel
theorem dL_law_453 : decode cL_law 453 = .ok (.iconst 0, 1) := by decide +kernel
theorem dL_law_454 : decode cL_law 454 = .ok (.goto 4, 3) := by decide +kernel
theorem dL_law_457 : decode cL_law 457 = .ok (.iconst 1, 1) := by decide +kernel
theorem dL_law_458 : decode cL_law 458 = .ok (.iastore, 1) := by decide +kernel
theorem dL_law_459 : decode cL_law 459 = .ok (.aload_n 1, 1) := by decide +kernel
theorem dL_law_460 : decode cL_law 460 = .ok (.aload_n 3, 1) := by decide +kernel
theorem dL_law_461 : decode cL_law 461 = .ok (.iconst 2, 1) := by decide +kernel
theorem dL_law_462 : decode cL_law 462 = .ok (.iaload, 1) := by decide +kernel
theorem dL_law_463 : decode cL_law 463 = .ok (.iconst 1, 1) := by decide +kernel
theorem dL_law_464 : decode cL_law 464 = .ok (.if_icmp .ne 7, 3) := by decide +kernel
theorem dL_law_467 : decode cL_law 467 = .ok (.iconst 1, 1) := by decide +kernel
theorem dL_law_468 : decode cL_law 468 = .ok (.goto 4, 3) := by decide +kernel
theorem dL_law_471 : decode cL_law 471 = .ok (.iconst 0, 1) := by decide +kernel
theorem dL_law_472 : decode cL_law 472 = .ok (.invokevirtual 115, 3) := by decide +kernel
theorem dL_law_475 : decode cL_law 475 = .ok (.iload 15, 2) := by decide +kernel
theorem dL_law_477 : decode cL_law 477 = .ok (.if_icmp .ne 7, 3) := by decide +kernel
theorem dL_law_480 : decode cL_law 480 = .ok (.iconst 1, 1) := by decide +kernel
theorem dL_law_481 : decode cL_law 481 = .ok (.goto 4, 3) := by decide +kernel
theorem dL_law_484 : decode cL_law 484 = .ok (.iconst 0, 1) := by decide +kernel
theorem dL_law_485 : decode cL_law 485 = .ok (.istore 9, 2) := by decide +kernel
theorem dL_law_487 : decode cL_law 487 = .ok (.goto 508, 3) := by decide +kernel
theorem dL_law_490 : decode cL_law 490 = .ok (.iload 12, 2) := by decide +kernel
theorem dL_law_492 : decode cL_law 492 = .ok (.bipush 12, 2) := by decide +kernel
theorem dL_law_494 : decode cL_law 494 = .ok (.if_icmp .ne 81, 3) := by decide +kernel
theorem dL_law_497 : decode cL_law 497 = .ok (.aload_n 3, 1) := by decide +kernel
theorem dL_law_498 : decode cL_law 498 = .ok (.iconst 3, 1) := by decide +kernel
theorem dL_law_499 : decode cL_law 499 = .ok (.iaload, 1) := by decide +kernel
theorem dL_law_500 : decode cL_law 500 = .ok (.iconst 4, 1) := by decide +kernel
theorem dL_law_501 : decode cL_law 501 = .ok (.if_icmp .ne 8, 3) := by decide +kernel
theorem dL_law_504 : decode cL_law 504 = .ok (.bipush (-13), 2) := by decide +kernel
theorem dL_law_506 : decode cL_law 506 = .ok (.goto 6, 3) := by decide +kernel
theorem dL_law_509 : decode cL_law 509 = .ok (.aload_n 3, 1) := by decide +kernel
theorem dL_law_510 : decode cL_law 510 = .ok (.iconst 3, 1) := by decide +kernel
theorem dL_law_511 : decode cL_law 511 = .ok (.iaload, 1) := by decide +kernel
theorem dL_law_512 : decode cL_law 512 = .ok (.istore 15, 2) := by decide +kernel
theorem dL_law_514 : decode cL_law 514 = .ok (.aload_n 1, 1) := by decide +kernel
theorem dL_law_515 : decode cL_law 515 = .ok (.iconst 2, 1) := by decide +kernel
theorem dL_law_516 : decode cL_law 516 = .ok (.iload 13, 2) := by decide +kernel
theorem dL_law_518 : decode cL_law 518 = .ok (.bipush 100, 2) := by decide +kernel
theorem dL_law_520 : decode cL_law 520 = .ok (.irem, 1) := by decide +kernel
theorem dL_law_521 : decode cL_law 521 = .ok (.iconst 0, 1) := by decide +kernel
theorem dL_law_522 : decode cL_law 522 = .ok (.invokestatic 119, 3) := by decide +kernel
theorem dL_law_525 : decode cL_law 525 = .ok (.iload 15, 2) := by decide +kernel
theorem dL_law_527 : decode cL_law 527 = .ok (.if_icmp .ne 7, 3) := by decide +kernel
theorem dL_law_530 : decode cL_law 530 = .ok (.iconst 1, 1) := by decide +kernel
theorem dL_law_531 : decode cL_law 531 = .ok (.goto 4, 3) := by decide +kernel
theorem dL_law_534 : decode cL_law 534 = .ok (.iconst 0, 1) := by decide +kernel
theorem dL_law_535 : decode cL_law 535 = .ok (.istore 9, 2) := by decide +kernel
theorem dL_law_537 : decode cL_law 537 = .ok (.iload 15, 2) := by decide +kernel
theorem dL_law_539 : decode cL_law 539 = .ok (.ifCond .lt 33, 3) := by decide +kernel
theorem dL_law_542 : decode cL_law 542 = .ok (.aload_n 3, 1) := by decide +kernel
theorem dL_law_543 : decode cL_law 543 = .ok (.iconst 5, 1) := by decide +kernel
theorem dL_law_544 : decode cL_law 544 = .ok (.aload_n 3, 1) := by decide +kernel
theorem dL_law_545 : decode cL_law 545 = .ok (.iconst 3, 1) := by decide +kernel
theorem dL_law_546 : decode cL_law 546 = .ok (.iaload, 1) := by decide +kernel
theorem dL_law_547 : decode cL_law 547 = .ok (.iadd, 1) := by decide +kernel
theorem dL_law_548 : decode cL_law 548 = .ok (.iload 13, 2) := by decide +kernel
theorem dL_law_550 : decode cL_law 550 = .ok (.bipush 100, 2) := by decide +kernel
theorem dL_law_552 : decode cL_law 552 = .ok (.irem, 1) := by decide +kernel
theorem dL_law_553 : decode cL_law 553 = .ok (.iastore, 1) := by decide +kernel
theorem dL_law_554 : decode cL_law 554 = .ok (.aload_n 3, 1) := by decide +kernel
theorem dL_law_555 : decode cL_law 555 = .ok (.iconst 4, 1) := by decide +kernel
theorem dL_law_556 : decode cL_law 556 = .ok (.dup2, 1) := by decide +kernel
theorem dL_law_557 : decode cL_law 557 = .ok (.iaload, 1) := by decide +kernel
theorem dL_law_558 : decode cL_law 558 = .ok (.iconst 1, 1) := by decide +kernel
theorem dL_law_559 : decode cL_law 559 = .ok (.aload_n 3, 1) := by decide +kernel
theorem dL_law_560 : decode cL_law 560 = .ok (.iconst 3, 1) := by decide +kernel
theorem dL_law_561 : decode cL_law 561 = .ok (.iaload, 1) := by decide +kernel
theorem dL_law_562 : decode cL_law 562 = .ok (.ishl, 1) := by decide +kernel
theorem dL_law_563 : decode cL_law 563 = .ok (.ior, 1) := by decide +kernel
theorem dL_law_564 : decode cL_law 564 = .ok (.iastore, 1) := by decide +kernel
theorem dL_law_565 : decode cL_law 565 = .ok (.aload_n 3, 1) := by decide +kernel
theorem dL_law_566 : decode cL_law 566 = .ok (.iconst 3, 1) := by decide +kernel
theorem dL_law_567 : decode cL_law 567 = .ok (.dup2, 1) := by decide +kernel
theorem dL_law_568 : decode cL_law 568 = .ok (.iaload, 1) := by decide +kernel
theorem dL_law_569 : decode cL_law 569 = .ok (.iconst 1, 1) := by decide +kernel
theorem dL_law_570 : decode cL_law 570 = .ok (.iadd, 1) := by decide +kernel
theorem dL_law_571 : decode cL_law 571 = .ok (.iastore, 1) := by decide +kernel
theorem dL_law_572 : decode cL_law 572 = .ok (.goto 423, 3) := by decide +kernel
theorem dL_law_575 : decode cL_law 575 = .ok (.iload 12, 2) := by decide +kernel
theorem dL_law_577 : decode cL_law 577 = .ok (.bipush 13, 2) := by decide +kernel
theorem dL_law_579 : decode cL_law 579 = .ok (.if_icmp .ne 104, 3) := by decide +kernel
theorem dL_law_582 : decode cL_law 582 = .ok (.aload_n 3, 1) := by decide +kernel
theorem dL_law_583 : decode cL_law 583 = .ok (.iconst 3, 1) := by decide +kernel
theorem dL_law_584 : decode cL_law 584 = .ok (.iaload, 1) := by decide +kernel
theorem dL_law_585 : decode cL_law 585 = .ok (.ifCond .le 98, 3) := by decide +kernel
theorem dL_law_588 : decode cL_law 588 = .ok (.iload 13, 2) := by decide +kernel
theorem dL_law_590 : decode cL_law 590 = .ok (.aload_n 3, 1) := by decide +kernel
theorem dL_law_591 : decode cL_law 591 = .ok (.iconst 3, 1) := by decide +kernel
theorem dL_law_592 : decode cL_law 592 = .ok (.iaload, 1) := by decide +kernel
theorem dL_law_593 : decode cL_law 593 = .ok (.irem, 1) := by decide +kernel
theorem dL_law_594 : decode cL_law 594 = .ok (.istore 15, 2) := by decide +kernel
theorem dL_law_596 : decode cL_law 596 = .ok (.aload_n 3, 1) := by decide +kernel
theorem dL_law_597 : decode cL_law 597 = .ok (.iconst 4, 1) := by decide +kernel
theorem dL_law_598 : decode cL_law 598 = .ok (.iaload, 1) := by decide +kernel
theorem dL_law_599 : decode cL_law 599 = .ok (.iload 15, 2) := by decide +kernel
theorem dL_law_601 : decode cL_law 601 = .ok (.ishr, 1) := by decide +kernel
theorem dL_law_602 : decode cL_law 602 = .ok (.iconst 1, 1) := by decide +kernel
theorem dL_law_603 : decode cL_law 603 = .ok (.iand, 1) := by decide +kernel
theorem dL_law_604 : decode cL_law 604 = .ok (.iconst 1, 1) := by decide +kernel
theorem dL_law_605 : decode cL_law 605 = .ok (.if_icmp .ne 7, 3) := by decide +kernel
theorem dL_law_608 : decode cL_law 608 = .ok (.iconst 1, 1) := by decide +kernel
theorem dL_law_609 : decode cL_law 609 = .ok (.goto 4, 3) := by decide +kernel
theorem dL_law_612 : decode cL_law 612 = .ok (.iconst 0, 1) := by decide +kernel
theorem dL_law_613 : decode cL_law 613 = .ok (.istore 16, 2) := by decide +kernel
theorem dL_law_615 : decode cL_law 615 = .ok (.aload_n 3, 1) := by decide +kernel
theorem dL_law_616 : decode cL_law 616 = .ok (.iconst 4, 1) := by decide +kernel
theorem dL_law_617 : decode cL_law 617 = .ok (.iload 13, 2) := by decide +kernel
theorem dL_law_619 : decode cL_law 619 = .ok (.iconst 4, 1) := by decide +kernel
theorem dL_law_620 : decode cL_law 620 = .ok (.idiv, 1) := by decide +kernel
theorem dL_law_621 : decode cL_law 621 = .ok (.iconst 3, 1) := by decide +kernel
theorem dL_law_622 : decode cL_law 622 = .ok (.irem, 1) := by decide +kernel
theorem dL_law_623 : decode cL_law 623 = .ok (.ifCond .ne 16, 3) := by decide +kernel
theorem dL_law_626 : decode cL_law 626 = .ok (.aload_n 3, 1) := by decide +kernel
theorem dL_law_627 : decode cL_law 627 = .ok (.iconst 4, 1) := by decide +kernel
theorem dL_law_628 : decode cL_law 628 = .ok (.iaload, 1) := by decide +kernel
theorem dL_law_629 : decode cL_law 629 = .ok (.iconst 1, 1) := by decide +kernel
theorem dL_law_630 : decode cL_law 630 = .ok (.iload 15, 2) := by decide +kernel
theorem dL_law_632 : decode cL_law 632 = .ok (.ishl, 1) := by decide +kernel
theorem dL_law_633 : decode cL_law 633 = .ok (.iconst (-1), 1) := by decide +kernel
theorem dL_law_634 : decode cL_law 634 = .ok (.ixor, 1) := by decide +kernel
theorem dL_law_635 : decode cL_law 635 = .ok (.iand, 1) := by decide +kernel
theorem dL_law_636 : decode cL_law 636 = .ok (.goto 11, 3) := by decide +kernel
theorem dL_law_639 : decode cL_law 639 = .ok (.aload_n 3, 1) := by decide +kernel
theorem dL_law_640 : decode cL_law 640 = .ok (.iconst 4, 1) := by decide +kernel
theorem dL_law_641 : decode cL_law 641 = .ok (.iaload, 1) := by decide +kernel
theorem dL_law_642 : decode cL_law 642 = .ok (.iconst 1, 1) := by decide +kernel
theorem dL_law_643 : decode cL_law 643 = .ok (.iload 15, 2) := by decide +kernel
theorem dL_law_645 : decode cL_law 645 = .ok (.ishl, 1) := by decide +kernel
theorem dL_law_646 : decode cL_law 646 = .ok (.ior, 1) := by decide +kernel
theorem dL_law_647 : decode cL_law 647 = .ok (.iastore, 1) := by decide +kernel
theorem dL_law_648 : decode cL_law 648 = .ok (.aload_n 1, 1) := by decide +kernel
theorem dL_law_649 : decode cL_law 649 = .ok (.iload 15, 2) := by decide +kernel
theorem dL_law_651 : decode cL_law 651 = .ok (.iload 13, 2) := by decide +kernel
theorem dL_law_653 : decode cL_law 653 = .ok (.iconst 4, 1) := by decide +kernel
theorem dL_law_654 : decode cL_law 654 = .ok (.idiv, 1) := by decide +kernel
theorem dL_law_655 : decode cL_law 655 = .ok (.iconst 3, 1) := by decide +kernel
theorem dL_law_656 : decode cL_law 656 = .ok (.irem, 1) := by decide +kernel
theorem dL_law_657 : decode cL_law 657 = .ok (.ifCond .le 7, 3) := by decide +kernel
theorem dL_law_660 : decode cL_law 660 = .ok (.iconst 1, 1) := by decide +kernel
theorem dL_law_661 : decode cL_law 661 = .ok (.goto 4, 3) := by decide +kernel
theorem dL_law_664 : decode cL_law 664 = .ok (.iconst 0, 1) := by decide +kernel
theorem dL_law_665 : decode cL_law 665 = .ok (.invokevirtual 123, 3) := by decide +kernel
theorem dL_law_668 : decode cL_law 668 = .ok (.iload 16, 2) := by decide +kernel
theorem dL_law_670 : decode cL_law 670 = .ok (.if_icmp .ne 7, 3) := by decide +kernel
theorem dL_law_673 : decode cL_law 673 = .ok (.iconst 1, 1) := by decide +kernel
theorem dL_law_674 : decode cL_law 674 = .ok (.goto 4, 3) := by decide +kernel
theorem dL_law_677 : decode cL_law 677 = .ok (.iconst 0, 1) := by decide +kernel
theorem dL_law_678 : decode cL_law 678 = .ok (.istore 9, 2) := by decide +kernel
theorem dL_law_680 : decode cL_law 680 = .ok (.goto 315, 3) := by decide +kernel
theorem dL_law_683 : decode cL_law 683 = .ok (.iload 12, 2) := by decide +kernel
theorem dL_law_685 : decode cL_law 685 = .ok (.bipush 15, 2) := by decide +kernel
theorem dL_law_687 : decode cL_law 687 = .ok (.if_icmp .ne 89, 3) := by decide +kernel
theorem dL_law_690 : decode cL_law 690 = .ok (.aload_n 3, 1) := by decide +kernel
theorem dL_law_691 : decode cL_law 691 = .ok (.iconst 3, 1) := by decide +kernel
theorem dL_law_692 : decode cL_law 692 = .ok (.iaload, 1) := by decide +kernel
theorem dL_law_693 : decode cL_law 693 = .ok (.ifCond .le 83, 3) := by decide +kernel
theorem dL_law_696 : decode cL_law 696 = .ok (.iload 13, 2) := by decide +kernel
theorem dL_law_698 : decode cL_law 698 = .ok (.bipush 16, 2) := by decide +kernel
theorem dL_law_700 : decode cL_law 700 = .ok (.idiv, 1) := by decide +kernel
theorem dL_law_701 : decode cL_law 701 = .ok (.aload_n 3, 1) := by decide +kernel
theorem dL_law_702 : decode cL_law 702 = .ok (.iconst 3, 1) := by decide +kernel
theorem dL_law_703 : decode cL_law 703 = .ok (.iaload, 1) := by decide +kernel
theorem dL_law_704 : decode cL_law 704 = .ok (.irem, 1) := by decide +kernel
theorem dL_law_705 : decode cL_law 705 = .ok (.istore 15, 2) := by decide +kernel
theorem dL_law_707 : decode cL_law 707 = .ok (.aload 4, 2) := by decide +kernel
theorem dL_law_709 : decode cL_law 709 = .ok (.iload 15, 2) := by decide +kernel
theorem dL_law_711 : decode cL_law 711 = .ok (.iload 14, 2) := by decide +kernel
theorem dL_law_713 : decode cL_law 713 = .ok (.invokestatic 7, 3) := by decide +kernel
theorem dL_law_716 : decode cL_law 716 = .ok (.istore 16, 2) := by decide +kernel
theorem dL_law_718 : decode cL_law 718 = .ok (.aload_n 1, 1) := by decide +kernel
theorem dL_law_719 : decode cL_law 719 = .ok (.iload 15, 2) := by decide +kernel
theorem dL_law_721 : decode cL_law 721 = .ok (.iload 14, 2) := by decide +kernel
theorem dL_law_723 : decode cL_law 723 = .ok (.invokevirtual 127, 3) := by decide +kernel
theorem dL_law_726 : decode cL_law 726 = .ok (.iload 16, 2) := by decide +kernel
theorem dL_law_728 : decode cL_law 728 = .ok (.ifCond .lt 7, 3) := by decide +kernel
theorem dL_law_731 : decode cL_law 731 = .ok (.iconst 1, 1) := by decide +kernel
theorem dL_law_732 : decode cL_law 732 = .ok (.goto 4, 3) := by decide +kernel
theorem dL_law_735 : decode cL_law 735 = .ok (.iconst 0, 1) := by decide +kernel
theorem dL_law_736 : decode cL_law 736 = .ok (.if_icmp .ne 7, 3) := by decide +kernel
theorem dL_law_739 : decode cL_law 739 = .ok (.iconst 1, 1) := by decide +kernel
theorem dL_law_740 : decode cL_law 740 = .ok (.goto 4, 3) := by decide +kernel
theorem dL_law_743 : decode cL_law 743 = .ok (.iconst 0, 1) := by decide +kernel
theorem dL_law_744 : decode cL_law 744 = .ok (.istore 9, 2) := by decide +kernel
theorem dL_law_746 : decode cL_law 746 = .ok (.aload 4, 2) := by decide +kernel
theorem dL_law_748 : decode cL_law 748 = .ok (.iload 16, 2) := by decide +kernel
theorem dL_law_750 : decode cL_law 750 = .ok (.ifCond .ge 7, 3) := by decide +kernel
theorem dL_law_753 : decode cL_law 753 = .ok (.iconst 0, 1) := by decide +kernel
theorem dL_law_754 : decode cL_law 754 = .ok (.goto 5, 3) := by decide +kernel
theorem dL_law_757 : decode cL_law 757 = .ok (.iload 16, 2) := by decide +kernel
theorem dL_law_759 : decode cL_law 759 = .ok (.iload 16, 2) := by decide +kernel
theorem dL_law_761 : decode cL_law 761 = .ok (.ifCond .ge 10, 3) := by decide +kernel
theorem dL_law_764 : decode cL_law 764 = .ok (.aload 4, 2) := by decide +kernel
theorem dL_law_766 : decode cL_law 766 = .ok (.iconst 0, 1) := by decide +kernel
theorem dL_law_767 : decode cL_law 767 = .ok (.iaload, 1) := by decide +kernel
theorem dL_law_768 : decode cL_law 768 = .ok (.goto 4, 3) := by decide +kernel
theorem dL_law_771 : decode cL_law 771 = .ok (.iconst 0, 1) := by decide +kernel
theorem dL_law_772 : decode cL_law 772 = .ok (.iastore, 1) := by decide +kernel
theorem dL_law_773 : decode cL_law 773 = .ok (.goto 222, 3) := by decide +kernel
theorem dL_law_776 : decode cL_law 776 = .ok (.iload 12, 2) := by decide +kernel
theorem dL_law_778 : decode cL_law 778 = .ok (.bipush 15, 2) := by decide +kernel
theorem dL_law_780 : decode cL_law 780 = .ok (.if_icmp .le 77, 3) := by decide +kernel
theorem dL_law_783 : decode cL_law 783 = .ok (.iload 12, 2) := by decide +kernel
theorem dL_law_785 : decode cL_law 785 = .ok (.bipush 19, 2) := by decide +kernel
theorem dL_law_787 : decode cL_law 787 = .ok (.if_icmp .ge 70, 3) := by decide +kernel
theorem dL_law_790 : decode cL_law 790 = .ok (.iconst 1, 1) := by decide +kernel
theorem dL_law_791 : decode cL_law 791 = .ok (.iload 13, 2) := by decide +kernel
theorem dL_law_793 : decode cL_law 793 = .ok (.bipush 16, 2) := by decide +kernel
theorem dL_law_795 : decode cL_law 795 = .ok (.idiv, 1) := by decide +kernel
theorem dL_law_796 : decode cL_law 796 = .ok (.iload 12, 2) := by decide +kernel
theorem dL_law_798 : decode cL_law 798 = .ok (.bipush 16, 2) := by decide +kernel
theorem dL_law_800 : decode cL_law 800 = .ok (.if_icmp .ne 9, 3) := by decide +kernel
theorem dL_law_803 : decode cL_law 803 = .ok (.sipush 1000, 3) := by decide +kernel
theorem dL_law_806 : decode cL_law 806 = .ok (.goto 17, 3) := by decide +kernel
theorem dL_law_809 : decode cL_law 809 = .ok (.iload 12, 2) := by decide +kernel
theorem dL_law_811 : decode cL_law 811 = .ok (.bipush 17, 2) := by decide +kernel
theorem dL_law_813 : decode cL_law 813 = .ok (.if_icmp .ne 8, 3) := by decide +kernel
theorem dL_law_816 : decode cL_law 816 = .ok (.bipush 90, 2) := by decide +kernel
theorem dL_law_818 : decode cL_law 818 = .ok (.goto 5, 3) := by decide +kernel
theorem dL_law_821 : decode cL_law 821 = .ok (.bipush 6, 2) := by decide +kernel
theorem dL_law_823 : decode cL_law 823 = .ok (.irem, 1) := by decide +kernel
theorem dL_law_824 : decode cL_law 824 = .ok (.iadd, 1) := by decide +kernel
theorem dL_law_825 : decode cL_law 825 = .ok (.istore 15, 2) := by decide +kernel
theorem dL_law_827 : decode cL_law 827 = .ok (.aload_n 3, 1) := by decide +kernel
theorem dL_law_828 : decode cL_law 828 = .ok (.iconst 0, 1) := by decide +kernel
theorem dL_law_829 : decode cL_law 829 = .ok (.dup2, 1) := by decide +kernel
theorem dL_law_830 : decode cL_law 830 = .ok (.iaload, 1) := by decide +kernel
theorem dL_law_831 : decode cL_law 831 = .ok (.iload 15, 2) := by decide +kernel
theorem dL_law_833 : decode cL_law 833 = .ok (.iadd, 1) := by decide +kernel
theorem dL_law_834 : decode cL_law 834 = .ok (.iastore, 1) := by decide +kernel
theorem dL_law_835 : decode cL_law 835 = .ok (.aload_n 1, 1) := by decide +kernel
theorem dL_law_836 : decode cL_law 836 = .ok (.iload 15, 2) := by decide +kernel
theorem dL_law_838 : decode cL_law 838 = .ok (.invokevirtual 131, 3) := by decide +kernel
theorem dL_law_841 : decode cL_law 841 = .ok (.aload_n 3, 1) := by decide +kernel
theorem dL_law_842 : decode cL_law 842 = .ok (.iconst 0, 1) := by decide +kernel
theorem dL_law_843 : decode cL_law 843 = .ok (.iaload, 1) := by decide +kernel
theorem dL_law_844 : decode cL_law 844 = .ok (.if_icmp .ne 7, 3) := by decide +kernel
theorem dL_law_847 : decode cL_law 847 = .ok (.iconst 1, 1) := by decide +kernel
theorem dL_law_848 : decode cL_law 848 = .ok (.goto 4, 3) := by decide +kernel
theorem dL_law_851 : decode cL_law 851 = .ok (.iconst 0, 1) := by decide +kernel
theorem dL_law_852 : decode cL_law 852 = .ok (.istore 9, 2) := by decide +kernel
theorem dL_law_854 : decode cL_law 854 = .ok (.goto 141, 3) := by decide +kernel
theorem dL_law_857 : decode cL_law 857 = .ok (.iload 13, 2) := by decide +kernel
theorem dL_law_859 : decode cL_law 859 = .ok (.bipush 16, 2) := by decide +kernel
theorem dL_law_861 : decode cL_law 861 = .ok (.idiv, 1) := by decide +kernel
theorem dL_law_862 : decode cL_law 862 = .ok (.bipush 100, 2) := by decide +kernel
theorem dL_law_864 : decode cL_law 864 = .ok (.irem, 1) := by decide +kernel
theorem dL_law_865 : decode cL_law 865 = .ok (.istore 15, 2) := by decide +kernel
theorem dL_law_867 : decode cL_law 867 = .ok (.iconst 1, 1) := by decide +kernel
theorem dL_law_868 : decode cL_law 868 = .ok (.iload 13, 2) := by decide +kernel
theorem dL_law_870 : decode cL_law 870 = .ok (.sipush 1600, 3) := by decide +kernel
theorem dL_law_873 : decode cL_law 873 = .ok (.idiv, 1) := by decide +kernel
theorem dL_law_874 : decode cL_law 874 = .ok (.iconst 4, 1) := by decide +kernel
theorem dL_law_875 : decode cL_law 875 = .ok (.irem, 1) := by decide +kernel
theorem dL_law_876 : decode cL_law 876 = .ok (.iadd, 1) := by decide +kernel
theorem dL_law_877 : decode cL_law 877 = .ok (.istore 16, 2) := by decide +kernel
theorem dL_law_879 : decode cL_law 879 = .ok (.iconst 0, 1) := by decide +kernel
theorem dL_law_880 : decode cL_law 880 = .ok (.istore 17, 2) := by decide +kernel
theorem dL_law_882 : decode cL_law 882 = .ok (.iload 17, 2) := by decide +kernel
theorem dL_law_884 : decode cL_law 884 = .ok (.iload 16, 2) := by decide +kernel
theorem dL_law_886 : decode cL_law 886 = .ok (.if_icmp .ge 109, 3) := by decide +kernel
theorem dL_law_889 : decode cL_law 889 = .ok (.iload 9, 2) := by decide +kernel
theorem dL_law_891 : decode cL_law 891 = .ok (.ifCond .eq 104, 3) := by decide +kernel
theorem dL_law_894 : decode cL_law 894 = .ok (.aload_n 2, 1) := by decide +kernel
theorem dL_law_895 : decode cL_law 895 = .ok (.aload_n 3, 1) := by decide +kernel
theorem dL_law_896 : decode cL_law 896 = .ok (.aload 4, 2) := by decide +kernel
theorem dL_law_898 : decode cL_law 898 = .ok (.aload 5, 2) := by decide +kernel
theorem dL_law_900 : decode cL_law 900 = .ok (.aload 6, 2) := by decide +kernel
theorem dL_law_902 : decode cL_law 902 = .ok (.aload 7, 2) := by decide +kernel
theorem dL_law_904 : decode cL_law 904 = .ok (.aload 8, 2) := by decide +kernel
theorem dL_law_906 : decode cL_law 906 = .ok (.iload 15, 2) := by decide +kernel
theorem dL_law_908 : decode cL_law 908 = .ok (.iload 14, 2) := by decide +kernel
theorem dL_law_910 : decode cL_law 910 = .ok (.invokestatic 134, 3) := by decide +kernel
theorem dL_law_913 : decode cL_law 913 = .ok (.istore 18, 2) := by decide +kernel
theorem dL_law_915 : decode cL_law 915 = .ok (.aload_n 1, 1) := by decide +kernel
theorem dL_law_916 : decode cL_law 916 = .ok (.iload 15, 2) := by decide +kernel
theorem dL_law_918 : decode cL_law 918 = .ok (.invokevirtual 137, 3) := by decide +kernel
theorem dL_law_921 : decode cL_law 921 = .ok (.aload_n 3, 1) := by decide +kernel
theorem dL_law_922 : decode cL_law 922 = .ok (.iload 15, 2) := by decide +kernel
theorem dL_law_924 : decode cL_law 924 = .ok (.invokestatic 17, 3) := by decide +kernel
theorem dL_law_927 : decode cL_law 927 = .ok (.if_icmp .ne 59, 3) := by decide +kernel
theorem dL_law_930 : decode cL_law 930 = .ok (.aload_n 1, 1) := by decide +kernel
theorem dL_law_931 : decode cL_law 931 = .ok (.iconst 1, 1) := by decide +kernel
theorem dL_law_932 : decode cL_law 932 = .ok (.iload 15, 2) := by decide +kernel
theorem dL_law_934 : decode cL_law 934 = .ok (.iload 14, 2) := by decide +kernel
theorem dL_law_936 : decode cL_law 936 = .ok (.invokestatic 119, 3) := by decide +kernel
theorem dL_law_939 : decode cL_law 939 = .ok (.iload 18, 2) := by decide +kernel
theorem dL_law_941 : decode cL_law 941 = .ok (.if_icmp .ne 45, 3) := by decide +kernel
theorem dL_law_944 : decode cL_law 944 = .ok (.aload_n 1, 1) := by decide +kernel
theorem dL_law_945 : decode cL_law 945 = .ok (.iconst 0, 1) := by decide +kernel
theorem dL_law_946 : decode cL_law 946 = .ok (.iload 15, 2) := by decide +kernel
theorem dL_law_948 : decode cL_law 948 = .ok (.iload 14, 2) := by decide +kernel
theorem dL_law_950 : decode cL_law 950 = .ok (.invokestatic 119, 3) := by decide +kernel
theorem dL_law_953 : decode cL_law 953 = .ok (.iload 18, 2) := by decide +kernel
theorem dL_law_955 : decode cL_law 955 = .ok (.if_icmp .ne 31, 3) := by decide +kernel
theorem dL_law_958 : decode cL_law 958 = .ok (.aload_n 2, 1) := by decide +kernel
theorem dL_law_959 : decode cL_law 959 = .ok (.aload_n 3, 1) := by decide +kernel
theorem dL_law_960 : decode cL_law 960 = .ok (.aload 4, 2) := by decide +kernel
theorem dL_law_962 : decode cL_law 962 = .ok (.aload 5, 2) := by decide +kernel
theorem dL_law_964 : decode cL_law 964 = .ok (.aload 6, 2) := by decide +kernel
theorem dL_law_966 : decode cL_law 966 = .ok (.aload 7, 2) := by decide +kernel
theorem dL_law_968 : decode cL_law 968 = .ok (.aload 8, 2) := by decide +kernel
theorem dL_law_970 : decode cL_law 970 = .ok (.iload 15, 2) := by decide +kernel
theorem dL_law_972 : decode cL_law 972 = .ok (.iload 14, 2) := by decide +kernel
theorem dL_law_974 : decode cL_law 974 = .ok (.invokestatic 25, 3) := by decide +kernel
theorem dL_law_977 : decode cL_law 977 = .ok (.iload 18, 2) := by decide +kernel
theorem dL_law_979 : decode cL_law 979 = .ok (.if_icmp .ne 7, 3) := by decide +kernel
theorem dL_law_982 : decode cL_law 982 = .ok (.iconst 1, 1) := by decide +kernel
theorem dL_law_983 : decode cL_law 983 = .ok (.goto 4, 3) := by decide +kernel
theorem dL_law_986 : decode cL_law 986 = .ok (.iconst 0, 1) := by decide +kernel
theorem dL_law_987 : decode cL_law 987 = .ok (.istore 9, 2) := by decide +kernel
theorem dL_law_989 : decode cL_law 989 = .ok (.iinc 17 1, 3) := by decide +kernel
theorem dL_law_992 : decode cL_law 992 = .ok (.goto (-110), 3) := by decide +kernel
theorem dL_law_995 : decode cL_law 995 = .ok (.iload 9, 2) := by decide +kernel
theorem dL_law_997 : decode cL_law 997 = .ok (.ifCond .eq 24, 3) := by decide +kernel
theorem dL_law_1000 : decode cL_law 1000 = .ok (.aload_n 1, 1) := by decide +kernel
theorem dL_law_1001 : decode cL_law 1001 = .ok (.aload_n 2, 1) := by decide +kernel
theorem dL_law_1002 : decode cL_law 1002 = .ok (.aload_n 3, 1) := by decide +kernel
theorem dL_law_1003 : decode cL_law 1003 = .ok (.aload 4, 2) := by decide +kernel
theorem dL_law_1005 : decode cL_law 1005 = .ok (.aload 5, 2) := by decide +kernel
theorem dL_law_1007 : decode cL_law 1007 = .ok (.aload 7, 2) := by decide +kernel
theorem dL_law_1009 : decode cL_law 1009 = .ok (.aload 8, 2) := by decide +kernel
theorem dL_law_1011 : decode cL_law 1011 = .ok (.invokestatic 95, 3) := by decide +kernel
theorem dL_law_1014 : decode cL_law 1014 = .ok (.ifCond .eq 7, 3) := by decide +kernel
theorem dL_law_1017 : decode cL_law 1017 = .ok (.iconst 1, 1) := by decide +kernel
theorem dL_law_1018 : decode cL_law 1018 = .ok (.goto 4, 3) := by decide +kernel
theorem dL_law_1021 : decode cL_law 1021 = .ok (.iconst 0, 1) := by decide +kernel
theorem dL_law_1022 : decode cL_law 1022 = .ok (.istore 9, 2) := by decide +kernel
theorem dL_law_1024 : decode cL_law 1024 = .ok (.iinc 10 1, 3) := by decide +kernel
theorem dL_law_1027 : decode cL_law 1027 = .ok (.goto (-945), 3) := by decide +kernel
theorem dL_law_1030 : decode cL_law 1030 = .ok (.iload 9, 2) := by decide +kernel
theorem dL_law_1032 : decode cL_law 1032 = .ok (.ireturn, 1) := by decide +kernel
