theorem goodIn_cons {big l : List Cond} {c : Cond} (h1 : GoodIn big [c]) (h2 : GoodIn big l) : GoodIn big (c :: l) := goodIn_app (a := [c]) h1 h2
set_option maxRecDepth 20000 in
theorem ggL_X3_init_1 : GoodIn wsL_law wsX3_init_r1 := goodIn_r _ [9, 10, 11, 12, 13, 14, 15, 16, 17, 18, 19, 20, 21, 22, 23, 24, 25, 26, 27, 28, 29, 30, 31, 32] (by decide +kernel) (by decide +kernel)
set_option maxRecDepth 20000 in
theorem ggL_X3_init_2 : GoodIn wsL_law wsX3_init_r2 := goodIn_r _ [33, 34, 35, 36, 37, 38, 39, 40, 41, 42, 43, 44, 45, 46, 47, 48, 49, 50, 51] (by decide +kernel) (by decide +kernel)
set_option maxRecDepth 20000 in
theorem ggL_wsX00 : GoodIn wsL_law wsX00 := goodIn_r _ [519, 520, 521, 522, 523, 524, 525, 526, 527] (by decide +kernel) (by decide +kernel)
set_option maxRecDepth 20000 in
theorem ggL_wsX30 : GoodIn wsL_law wsX30 := goodIn_r _ [485, 486, 487, 488, 489, 490, 491, 492] (by decide +kernel) (by decide +kernel)
set_option maxRecDepth 20000 in
theorem ggL_wsX20 : GoodIn wsL_law wsX20 := goodIn_r _ [528, 529] (by decide +kernel) (by decide +kernel)
set_option maxRecDepth 20000 in
theorem ggL_wsX10 : GoodIn wsL_law wsX10 := goodIn_r _ [530, 531] (by decide +kernel) (by decide +kernel)
set_option maxRecDepth 20000 in
theorem ggL_X3_init_0 : GoodIn wsL_law [.code yX3_init cX3_init 1 none] := goodIn_r _ [8] (by decide +kernel) (by decide +kernel)
theorem ggL_law_X3_init : GoodIn wsL_law wsX3_init := goodIn_cons ggL_X3_init_0 (goodIn_app (goodIn_app (goodIn_app (goodIn_app (goodIn_app ggL_X3_init_1 ggL_X3_init_2) ggL_wsX00) ggL_wsX30) ggL_wsX20) ggL_wsX10)
set_option maxRecDepth 20000 in
theorem gL_law_X3_init : GoodIn wsL_law (wsX3_init) := ggL_law_X3_init
set_option maxRecDepth 20000 in
theorem ggL_law_X4_init : GoodIn wsL_law wsX4_init := goodIn_r _ [54, 55, 10, 11, 56, 57, 58, 32, 59, 60, 61, 62, 63, 64, 65, 66, 67, 68, 69, 70, 493, 494, 495, 496, 497, 498, 499, 500, 501, 502, 503, 504, 505, 506, 507, 508, 509, 510, 511, 512, 513, 514, 515, 516, 517, 518] (by decide +kernel) (by decide +kernel)
set_option maxRecDepth 20000 in
theorem gL_law_X4_init : GoodIn wsL_law (wsX4_init) := ggL_law_X4_init
set_option maxRecDepth 20000 in
theorem ggL_law_X3_feed : GoodIn wsL_law wsX3_feed := goodIn_r _ [74, 19, 75, 18, 76, 77, 78, 79, 80, 81, 46, 45, 485, 486, 487, 488, 489, 490, 491, 492, 528, 529] (by decide +kernel) (by decide +kernel)
set_option maxRecDepth 20000 in
theorem gL_law_X3_feed : GoodIn wsL_law (wsV RL 13 RX3 yX3_feed wsX3_feed) := goodIn_app (goodIn_of _ (by decide +kernel)) ggL_law_X3_feed
set_option maxRecDepth 20000 in
theorem ggL_law_X4_feed : GoodIn wsL_law wsX4_feed := goodIn_r _ [85, 86, 70, 62, 493, 494, 495, 496, 497, 498, 499, 500, 501, 502, 503, 504, 505, 506, 507, 508, 509, 510, 511, 512, 513, 514, 515, 516, 517, 518] (by decide +kernel) (by decide +kernel)
set_option maxRecDepth 20000 in
theorem gL_law_X4_feed : GoodIn wsL_law (wsV RL 17 RX4 yX4_feed wsX4_feed) := goodIn_app (goodIn_of _ (by decide +kernel)) ggL_law_X4_feed
set_option maxRecDepth 20000 in
theorem ggL_law_X3_end : GoodIn wsL_law wsX3_end := goodIn_r _ [90, 19, 485, 486, 487, 488, 489, 490, 491, 492, 528, 529] (by decide +kernel) (by decide +kernel)
set_option maxRecDepth 20000 in
theorem gL_law_X3_end : GoodIn wsL_law (wsV RL 18 RX3 yX3_end wsX3_end) := goodIn_app (goodIn_of _ (by decide +kernel)) ggL_law_X3_end
set_option maxRecDepth 20000 in
theorem ggL_law_X4_end : GoodIn wsL_law wsX4_end := goodIn_r _ [94, 86, 493, 494, 495, 496, 497, 498, 499, 500, 501, 502, 503, 504, 505, 506, 507, 508, 509, 510, 511, 512, 513, 514, 515, 516, 517, 518] (by decide +kernel) (by decide +kernel)
set_option maxRecDepth 20000 in
theorem gL_law_X4_end : GoodIn wsL_law (wsV RL 22 RX4 yX4_end wsX4_end) := goodIn_app (goodIn_of _ (by decide +kernel)) ggL_law_X4_end
set_option maxRecDepth 20000 in
theorem ggL_law_X3_taped : GoodIn wsL_law wsX3_taped := goodIn_r _ [98, 19, 485, 486, 487, 488, 489, 490, 491, 492, 528, 529] (by decide +kernel) (by decide +kernel)
set_option maxRecDepth 20000 in
theorem gL_law_X3_taped : GoodIn wsL_law (wsV RL 23 RX3 yX3_taped wsX3_taped) := goodIn_app (goodIn_of _ (by decide +kernel)) ggL_law_X3_taped
set_option maxRecDepth 20000 in
theorem ggL_law_X4_taped : GoodIn wsL_law wsX4_taped := goodIn_r _ [102, 86, 493, 494, 495, 496, 497, 498, 499, 500, 501, 502, 503, 504, 505, 506, 507, 508, 509, 510, 511, 512, 513, 514, 515, 516, 517, 518] (by decide +kernel) (by decide +kernel)
set_option maxRecDepth 20000 in
theorem gL_law_X4_taped : GoodIn wsL_law (wsV RL 27 RX4 yX4_taped wsX4_taped) := goodIn_app (goodIn_of _ (by decide +kernel)) ggL_law_X4_taped
set_option maxRecDepth 20000 in
theorem ggL_X3_pack_1 : GoodIn wsL_law wsX3_pack_r1 := goodIn_r _ [19, 23, 107, 18, 108, 109, 46, 45, 110, 111, 112, 113, 78, 79, 80, 81, 114, 22, 115, 116, 51, 117, 50, 118] (by decide +kernel) (by decide +kernel)
set_option maxRecDepth 20000 in
theorem ggL_X3_pack_2 : GoodIn wsL_law wsX3_pack_r2 := goodIn_r _ [119, 120, 121, 122, 123, 124, 125, 126, 127, 128, 129, 130, 131, 132, 133, 134, 135, 136, 137, 138] (by decide +kernel) (by decide +kernel)
set_option maxRecDepth 20000 in
theorem ggL_X3_pack_0 : GoodIn wsL_law [.code yX3_pack cX3_pack 2 (some .int)] := goodIn_r _ [106] (by decide +kernel) (by decide +kernel)
theorem ggL_law_X3_pack : GoodIn wsL_law wsX3_pack := goodIn_cons ggL_X3_pack_0 (goodIn_app (goodIn_app (goodIn_app (goodIn_app ggL_X3_pack_1 ggL_X3_pack_2) ggL_wsX30) ggL_wsX20) ggL_wsX10)
set_option maxRecDepth 20000 in
theorem gL_law_X3_pack : GoodIn wsL_law (wsV RL 28 RX3 yX3_pack wsX3_pack) := goodIn_app (goodIn_of _ (by decide +kernel)) ggL_law_X3_pack
set_option maxRecDepth 20000 in
theorem ggL_law_X4_pack : GoodIn wsL_law wsX4_pack := goodIn_r _ [142, 86, 62, 66, 143, 144, 145, 5, 146, 68, 69, 147, 148, 149, 150, 151, 67, 152, 153, 154, 155, 493, 494, 495, 496, 497, 498, 499, 500, 501, 502, 503, 504, 505, 506, 507, 508, 509, 510, 511, 512, 513, 514, 515, 516, 517, 518] (by decide +kernel) (by decide +kernel)
set_option maxRecDepth 20000 in
theorem gL_law_X4_pack : GoodIn wsL_law (wsV RL 32 RX4 yX4_pack wsX4_pack) := goodIn_app (goodIn_of _ (by decide +kernel)) ggL_law_X4_pack
set_option maxRecDepth 20000 in
theorem ggL_X3_install_1 : GoodIn wsL_law wsX3_install_r1 := goodIn_r _ [19, 15, 160, 161, 2, 162, 163, 164, 165, 166, 167, 14, 168, 169, 170, 171, 172, 173, 174, 175, 176, 33, 177, 178] (by decide +kernel) (by decide +kernel)
set_option maxRecDepth 20000 in
theorem ggL_X3_install_2 : GoodIn wsL_law wsX3_install_r2 := goodIn_r _ [179, 180, 181, 182, 183, 184, 24, 25, 185, 186, 187, 188, 189, 190, 191, 192, 193, 194, 36, 34, 39, 195, 196, 197] (by decide +kernel) (by decide +kernel)
set_option maxRecDepth 20000 in
theorem ggL_X3_install_3 : GoodIn wsL_law wsX3_install_r3 := goodIn_r _ [198, 199, 200, 201, 37, 38, 41, 40, 202, 203, 204, 205, 206, 207, 208, 209, 210, 211, 212, 213, 214, 215, 216, 217] (by decide +kernel) (by decide +kernel)
set_option maxRecDepth 20000 in
theorem ggL_X3_install_4 : GoodIn wsL_law wsX3_install_r4 := goodIn_r _ [35, 218, 219, 220, 221, 222, 223, 224, 225, 226, 227, 228, 229] (by decide +kernel) (by decide +kernel)
set_option maxRecDepth 20000 in
theorem ggL_X3_install_0 : GoodIn wsL_law [.code yX3_install cX3_install 3 (some .int)] := goodIn_r _ [159] (by decide +kernel) (by decide +kernel)
theorem ggL_law_X3_install : GoodIn wsL_law wsX3_install := goodIn_cons ggL_X3_install_0 (goodIn_app (goodIn_app (goodIn_app (goodIn_app ggL_X3_install_1 (goodIn_app ggL_X3_install_2 (goodIn_app ggL_X3_install_3 ggL_X3_install_4))) ggL_wsX30) ggL_wsX20) ggL_wsX00)
set_option maxRecDepth 20000 in
theorem gL_law_X3_install : GoodIn wsL_law (wsV RL 33 RX3 yX3_install wsX3_install) := goodIn_app (goodIn_of _ (by decide +kernel)) ggL_law_X3_install
set_option maxRecDepth 20000 in
theorem ggL_X4_install_1 : GoodIn wsL_law wsX4_install_r1 := goodIn_r _ [86, 234, 235, 65, 62, 236, 237, 238, 5, 239, 57, 240, 241, 242, 243, 244, 245, 246, 247, 248, 249, 250, 251, 252] (by decide +kernel) (by decide +kernel)
set_option maxRecDepth 20000 in
theorem ggL_X4_install_2 : GoodIn wsL_law wsX4_install_r2 := goodIn_r _ [253, 254, 255, 256, 66, 257, 258, 259, 143, 144, 145, 146, 68, 69, 147, 148, 149, 150, 151, 67, 152, 153, 154, 155] (by decide +kernel) (by decide +kernel)
set_option maxRecDepth 20000 in
theorem ggL_X4_install_3 : GoodIn wsL_law wsX4_install_r3 := goodIn_r _ [260, 261, 262, 263, 58, 264, 265, 266, 267, 268, 269, 59, 60, 270, 271, 272, 273, 274, 275, 276, 61, 277, 278, 279] (by decide +kernel) (by decide +kernel)
set_option maxRecDepth 20000 in
theorem ggL_X4_install_4 : GoodIn wsL_law wsX4_install_r4 := goodIn_r _ [280, 63, 281, 282, 64, 283, 284, 285, 286, 287, 288] (by decide +kernel) (by decide +kernel)
set_option maxRecDepth 20000 in
theorem ggL_wsX40 : GoodIn wsL_law wsX40 := goodIn_r _ [493, 494, 495, 496, 497, 498, 499, 500, 501, 502, 503, 504, 505, 506, 507, 508, 509, 510, 511, 512, 513, 514, 515, 516, 517, 518] (by decide +kernel) (by decide +kernel)
set_option maxRecDepth 20000 in
theorem ggL_X4_install_0 : GoodIn wsL_law [.code yX4_install cX4_install 5 (some .int)] := goodIn_r _ [233] (by decide +kernel) (by decide +kernel)
theorem ggL_law_X4_install : GoodIn wsL_law wsX4_install := goodIn_cons ggL_X4_install_0 (goodIn_app (goodIn_app ggL_X4_install_1 (goodIn_app ggL_X4_install_2 (goodIn_app ggL_X4_install_3 ggL_X4_install_4))) ggL_wsX40)
set_option maxRecDepth 20000 in
theorem gL_law_X4_install : GoodIn wsL_law (wsV RL 36 RX4 yX4_install wsX4_install) := goodIn_app (goodIn_of _ (by decide +kernel)) ggL_law_X4_install
set_option maxRecDepth 20000 in
theorem ggL_X3_request_1 : GoodIn wsL_law wsX3_request_r1 := goodIn_r _ [15, 24, 293, 14, 294, 295, 198, 199, 200, 201, 36, 37, 38, 41, 40, 170, 171, 172, 222, 223, 224, 225, 33, 226] (by decide +kernel) (by decide +kernel)
set_option maxRecDepth 20000 in
theorem ggL_X3_request_2 : GoodIn wsL_law wsX3_request_r2 := goodIn_r _ [227, 228, 2, 229, 181, 182, 183, 184, 25, 296, 297, 298, 299, 300, 211, 212, 213, 214, 215, 216, 217, 35, 218, 219] (by decide +kernel) (by decide +kernel)
set_option maxRecDepth 20000 in
theorem ggL_X3_request_3 : GoodIn wsL_law wsX3_request_r3 := goodIn_r _ [220, 221] (by decide +kernel) (by decide +kernel)
set_option maxRecDepth 20000 in
theorem ggL_X3_request_0 : GoodIn wsL_law [.code yX3_request cX3_request 2 (some .int)] := goodIn_r _ [292] (by decide +kernel) (by decide +kernel)
theorem ggL_law_X3_request : GoodIn wsL_law wsX3_request := goodIn_cons ggL_X3_request_0 (goodIn_app (goodIn_app (goodIn_app ggL_X3_request_1 (goodIn_app ggL_X3_request_2 ggL_X3_request_3)) ggL_wsX30) ggL_wsX00)
set_option maxRecDepth 20000 in
theorem gL_law_X3_request : GoodIn wsL_law (wsV RL 37 RX3 yX3_request wsX3_request) := goodIn_app (goodIn_of _ (by decide +kernel)) ggL_law_X3_request
set_option maxRecDepth 20000 in
theorem ggL_X4_request_1 : GoodIn wsL_law wsX4_request_r1 := goodIn_r _ [234, 235, 260, 261, 262, 5, 263, 58, 57, 264, 265, 305, 306, 307, 308, 65, 243, 244, 245, 273, 274, 275, 276, 61] (by decide +kernel) (by decide +kernel)
set_option maxRecDepth 20000 in
theorem ggL_X4_request_2 : GoodIn wsL_law wsX4_request_r2 := goodIn_r _ [59, 60, 309, 310, 311, 312, 252, 277, 278, 279, 280, 63, 281, 282, 64, 283, 284, 285, 286, 287, 288] (by decide +kernel) (by decide +kernel)
set_option maxRecDepth 20000 in
theorem ggL_X4_request_0 : GoodIn wsL_law [.code yX4_request cX4_request 2 (some .int)] := goodIn_r _ [304] (by decide +kernel) (by decide +kernel)
theorem ggL_law_X4_request : GoodIn wsL_law wsX4_request := goodIn_cons ggL_X4_request_0 (goodIn_app (goodIn_app ggL_X4_request_1 ggL_X4_request_2) ggL_wsX40)
set_option maxRecDepth 20000 in
theorem gL_law_X4_request : GoodIn wsL_law (wsV RL 41 RX4 yX4_request wsX4_request) := goodIn_app (goodIn_of _ (by decide +kernel)) ggL_law_X4_request
set_option maxRecDepth 20000 in
theorem ggL_X3_confirm_1 : GoodIn wsL_law wsX3_confirm_r1 := goodIn_r _ [15, 24, 177, 178, 179, 2, 180, 167, 14, 168, 169, 170, 171, 172, 173, 174, 175, 176, 33, 317, 318, 319, 293, 294] (by decide +kernel) (by decide +kernel)
set_option maxRecDepth 20000 in
theorem ggL_X3_confirm_2 : GoodIn wsL_law wsX3_confirm_r2 := goodIn_r _ [295, 198, 199, 200, 201, 36, 37, 38, 41, 40, 222, 223, 224, 225, 226, 227, 228, 229, 181, 182, 183, 184, 25] (by decide +kernel) (by decide +kernel)
set_option maxRecDepth 20000 in
theorem ggL_X3_confirm_0 : GoodIn wsL_law [.code yX3_confirm cX3_confirm 1 (some .int)] := goodIn_r _ [316] (by decide +kernel) (by decide +kernel)
theorem ggL_law_X3_confirm : GoodIn wsL_law wsX3_confirm := goodIn_cons ggL_X3_confirm_0 (goodIn_app (goodIn_app (goodIn_app ggL_X3_confirm_1 ggL_X3_confirm_2) ggL_wsX30) ggL_wsX00)
set_option maxRecDepth 20000 in
theorem gL_law_X3_confirm : GoodIn wsL_law (wsV RL 42 RX3 yX3_confirm wsX3_confirm) := goodIn_app (goodIn_of _ (by decide +kernel)) ggL_law_X3_confirm
set_option maxRecDepth 20000 in
theorem ggL_X4_confirm_1 : GoodIn wsL_law wsX4_confirm_r1 := goodIn_r _ [234, 235, 57, 246, 247, 5, 248, 240, 241, 242, 243, 244, 245, 249, 250, 251, 252, 260, 261, 262, 263, 58, 264, 265] (by decide +kernel) (by decide +kernel)
set_option maxRecDepth 20000 in
theorem ggL_X4_confirm_2 : GoodIn wsL_law wsX4_confirm_r2 := goodIn_r _ [305, 306, 307, 308, 65, 273, 274, 275, 276, 61, 59, 60, 277, 278, 279, 280, 63, 281, 282, 64, 283, 284, 285, 286] (by decide +kernel) (by decide +kernel)
set_option maxRecDepth 20000 in
theorem ggL_X4_confirm_3 : GoodIn wsL_law wsX4_confirm_r3 := goodIn_r _ [287, 288] (by decide +kernel) (by decide +kernel)
set_option maxRecDepth 20000 in
theorem ggL_X4_confirm_0 : GoodIn wsL_law [.code yX4_confirm cX4_confirm 1 (some .int)] := goodIn_r _ [323] (by decide +kernel) (by decide +kernel)
theorem ggL_law_X4_confirm : GoodIn wsL_law wsX4_confirm := goodIn_cons ggL_X4_confirm_0 (goodIn_app (goodIn_app ggL_X4_confirm_1 (goodIn_app ggL_X4_confirm_2 ggL_X4_confirm_3)) ggL_wsX40)
set_option maxRecDepth 20000 in
theorem gL_law_X4_confirm : GoodIn wsL_law (wsV RL 45 RX4 yX4_confirm wsX4_confirm) := goodIn_app (goodIn_of _ (by decide +kernel)) ggL_law_X4_confirm
set_option maxRecDepth 20000 in
theorem ggL_X3_boot_1 : GoodIn wsL_law wsX3_boot_r1 := goodIn_r _ [15, 26, 24, 25, 181, 182, 183, 2, 184, 328, 329, 330, 331, 163, 164, 165, 166, 167, 14, 168, 169, 170, 171, 172] (by decide +kernel) (by decide +kernel)
set_option maxRecDepth 20000 in
theorem ggL_X3_boot_2 : GoodIn wsL_law wsX3_boot_r2 := goodIn_r _ [173, 174, 175, 176, 33, 177, 178, 179, 180, 332, 333, 334, 335, 317, 318, 319, 336, 337, 338, 339, 23, 340, 341, 342] (by decide +kernel) (by decide +kernel)
set_option maxRecDepth 20000 in
theorem ggL_X3_boot_3 : GoodIn wsL_law wsX3_boot_r3 := goodIn_r _ [343, 208, 209, 210, 189, 190, 191, 344, 345, 346, 114, 22, 115, 116, 51, 117, 50, 118, 119, 120, 121, 122, 123, 124] (by decide +kernel) (by decide +kernel)
set_option maxRecDepth 20000 in
theorem ggL_X3_boot_4 : GoodIn wsL_law wsX3_boot_r4 := goodIn_r _ [125, 126, 127, 128, 129, 130, 131, 132, 133, 134, 135, 136, 137, 138, 347, 348, 349, 350, 351, 352, 353, 354, 355, 356] (by decide +kernel) (by decide +kernel)
set_option maxRecDepth 20000 in
theorem ggL_X3_boot_5 : GoodIn wsL_law wsX3_boot_r5 := goodIn_r _ [357, 358, 28, 192, 193, 194, 36, 34, 39, 195, 196, 197, 198, 199, 200, 201, 37, 38, 41, 40, 202, 203, 204, 359] (by decide +kernel) (by decide +kernel)
set_option maxRecDepth 20000 in
theorem ggL_X3_boot_6 : GoodIn wsL_law wsX3_boot_r6 := goodIn_r _ [360, 361, 362, 363, 364, 365, 366, 367, 368, 369, 370, 214, 215, 216, 217, 35, 218, 219, 220, 221, 222, 223, 224, 225] (by decide +kernel) (by decide +kernel)
set_option maxRecDepth 20000 in
theorem ggL_X3_boot_7 : GoodIn wsL_law wsX3_boot_r7 := goodIn_r _ [293, 294, 295, 371, 372, 373, 374, 27, 296, 297, 298, 299, 300, 211, 212, 213, 375, 376, 377, 378, 226, 227, 228, 229] (by decide +kernel) (by decide +kernel)
set_option maxRecDepth 20000 in
theorem ggL_X3_boot_8 : GoodIn wsL_law wsX3_boot_r8 := goodIn_r _ [379, 380, 381, 382] (by decide +kernel) (by decide +kernel)
set_option maxRecDepth 20000 in
theorem ggL_X3_boot_0 : GoodIn wsL_law [.code yX3_boot cX3_boot 1 (some .int)] := goodIn_r _ [327] (by decide +kernel) (by decide +kernel)
theorem ggL_law_X3_boot : GoodIn wsL_law wsX3_boot := goodIn_cons ggL_X3_boot_0 (goodIn_app (goodIn_app (goodIn_app (goodIn_app ggL_X3_boot_1 (goodIn_app ggL_X3_boot_2 (goodIn_app ggL_X3_boot_3 (goodIn_app ggL_X3_boot_4 (goodIn_app ggL_X3_boot_5 (goodIn_app ggL_X3_boot_6 (goodIn_app ggL_X3_boot_7 ggL_X3_boot_8))))))) ggL_wsX30) ggL_wsX00) ggL_wsX10)
set_option maxRecDepth 20000 in
theorem gL_law_X3_boot : GoodIn wsL_law (wsV RL 46 RX3 yX3_boot wsX3_boot) := goodIn_app (goodIn_of _ (by decide +kernel)) ggL_law_X3_boot
set_option maxRecDepth 20000 in
theorem ggL_X4_boot_1 : GoodIn wsL_law wsX4_boot_r1 := goodIn_r _ [234, 235, 58, 387, 388, 57, 389, 236, 237, 238, 5, 239, 240, 241, 242, 243, 244, 245, 246, 247, 248, 249, 250, 251] (by decide +kernel) (by decide +kernel)
set_option maxRecDepth 20000 in
theorem ggL_X4_boot_2 : GoodIn wsL_law wsX4_boot_r2 := goodIn_r _ [252, 253, 254, 255, 256, 66, 257, 258, 259, 143, 144, 145, 146, 68, 69, 147, 148, 149, 150, 151, 67, 152, 153, 154] (by decide +kernel) (by decide +kernel)
set_option maxRecDepth 20000 in
theorem ggL_X4_boot_3 : GoodIn wsL_law wsX4_boot_r3 := goodIn_r _ [155, 260, 261, 262, 263, 264, 265, 266, 267, 268, 269, 59, 60, 305, 306, 307, 308, 65, 273, 274, 275, 276, 61, 390] (by decide +kernel) (by decide +kernel)
set_option maxRecDepth 20000 in
theorem ggL_X4_boot_4 : GoodIn wsL_law wsX4_boot_r4 := goodIn_r _ [391, 392, 393, 394, 395, 396, 397, 270, 271, 272, 309, 310, 311, 312, 277, 278, 279, 280, 63, 281, 282, 64, 283, 284] (by decide +kernel) (by decide +kernel)
set_option maxRecDepth 20000 in
theorem ggL_X4_boot_5 : GoodIn wsL_law wsX4_boot_r5 := goodIn_r _ [285, 286, 287, 288] (by decide +kernel) (by decide +kernel)
set_option maxRecDepth 20000 in
theorem ggL_X4_boot_0 : GoodIn wsL_law [.code yX4_boot cX4_boot 3 (some .int)] := goodIn_r _ [386] (by decide +kernel) (by decide +kernel)
theorem ggL_law_X4_boot : GoodIn wsL_law wsX4_boot := goodIn_cons ggL_X4_boot_0 (goodIn_app (goodIn_app ggL_X4_boot_1 (goodIn_app ggL_X4_boot_2 (goodIn_app ggL_X4_boot_3 (goodIn_app ggL_X4_boot_4 ggL_X4_boot_5)))) ggL_wsX40)
set_option maxRecDepth 20000 in
theorem gL_law_X4_boot : GoodIn wsL_law (wsV RL 49 RX4 yX4_boot wsX4_boot) := goodIn_app (goodIn_of _ (by decide +kernel)) ggL_law_X4_boot
set_option maxRecDepth 20000 in
theorem ggL_law_X3_cut : GoodIn wsL_law wsX3_cut := goodIn_r _ [401, 402, 15, 403, 14, 404, 405, 37, 38, 39, 485, 486, 487, 488, 489, 490, 491, 492, 519, 520, 521, 522, 523, 524, 525, 526, 527] (by decide +kernel) (by decide +kernel)
set_option maxRecDepth 20000 in
theorem gL_law_X3_cut : GoodIn wsL_law (wsV RL 50 RX3 yX3_cut wsX3_cut) := goodIn_app (goodIn_of _ (by decide +kernel)) ggL_law_X3_cut
set_option maxRecDepth 20000 in
theorem ggL_law_X4_cut : GoodIn wsL_law wsX4_cut := goodIn_r _ [409, 410, 234, 63, 283, 493, 494, 495, 496, 497, 498, 499, 500, 501, 502, 503, 504, 505, 506, 507, 508, 509, 510, 511, 512, 513, 514, 515, 516, 517, 518] (by decide +kernel) (by decide +kernel)
set_option maxRecDepth 20000 in
theorem gL_law_X4_cut : GoodIn wsL_law (wsV RL 54 RX4 yX4_cut wsX4_cut) := goodIn_app (goodIn_of _ (by decide +kernel)) ggL_law_X4_cut
set_option maxRecDepth 20000 in
theorem ggL_law_X3_power : GoodIn wsL_law wsX3_power := goodIn_r _ [414, 15, 415, 14, 416, 417, 36, 37, 181, 182, 183, 2, 184, 24, 25, 485, 486, 487, 488, 489, 490, 491, 492, 519, 520, 521, 522, 523, 524, 525, 526, 527] (by decide +kernel) (by decide +kernel)
set_option maxRecDepth 20000 in
theorem gL_law_X3_power : GoodIn wsL_law (wsV RL 55 RX3 yX3_power wsX3_power) := goodIn_app (goodIn_of _ (by decide +kernel)) ggL_law_X3_power
set_option maxRecDepth 20000 in
theorem ggL_law_X4_power : GoodIn wsL_law wsX4_power := goodIn_r _ [421, 234, 235, 63, 493, 494, 495, 496, 497, 498, 499, 500, 501, 502, 503, 504, 505, 506, 507, 508, 509, 510, 511, 512, 513, 514, 515, 516, 517, 518] (by decide +kernel) (by decide +kernel)
set_option maxRecDepth 20000 in
theorem gL_law_X4_power : GoodIn wsL_law (wsV RL 58 RX4 yX4_power wsX4_power) := goodIn_app (goodIn_of _ (by decide +kernel)) ggL_law_X4_power
set_option maxRecDepth 20000 in
theorem ggL_law_X3_harm : GoodIn wsL_law wsX3_harm := goodIn_r _ [425, 15, 203, 14, 204, 223, 224, 225, 33, 485, 486, 487, 488, 489, 490, 491, 492, 519, 520, 521, 522, 523, 524, 525, 526, 527] (by decide +kernel) (by decide +kernel)
set_option maxRecDepth 20000 in
theorem gL_law_X3_harm : GoodIn wsL_law (wsV RL 59 RX3 yX3_harm wsX3_harm) := goodIn_app (goodIn_of _ (by decide +kernel)) ggL_law_X3_harm
set_option maxRecDepth 20000 in
theorem ggL_law_X4_harm : GoodIn wsL_law wsX4_harm := goodIn_r _ [429, 57, 493, 494, 495, 496, 497, 498, 499, 500, 501, 502, 503, 504, 505, 506, 507, 508, 509, 510, 511, 512, 513, 514, 515, 516, 517, 518] (by decide +kernel) (by decide +kernel)
set_option maxRecDepth 20000 in
theorem gL_law_X4_harm : GoodIn wsL_law (wsV RL 62 RX4 yX4_harm wsX4_harm) := goodIn_app (goodIn_of _ (by decide +kernel)) ggL_law_X4_harm
set_option maxRecDepth 20000 in
theorem ggL_law_X3_flash : GoodIn wsL_law wsX3_flash := goodIn_r _ [433, 15, 203, 14, 204, 174, 175, 176, 33, 485, 486, 487, 488, 489, 490, 491, 492, 519, 520, 521, 522, 523, 524, 525, 526, 527] (by decide +kernel) (by decide +kernel)
set_option maxRecDepth 20000 in
theorem gL_law_X3_flash : GoodIn wsL_law (wsV RL 63 RX3 yX3_flash wsX3_flash) := goodIn_app (goodIn_of _ (by decide +kernel)) ggL_law_X3_flash
set_option maxRecDepth 20000 in
theorem ggL_law_X4_flash : GoodIn wsL_law wsX4_flash := goodIn_r _ [437, 57, 493, 494, 495, 496, 497, 498, 499, 500, 501, 502, 503, 504, 505, 506, 507, 508, 509, 510, 511, 512, 513, 514, 515, 516, 517, 518] (by decide +kernel) (by decide +kernel)
set_option maxRecDepth 20000 in
theorem gL_law_X4_flash : GoodIn wsL_law (wsV RL 66 RX4 yX4_flash wsX4_flash) := goodIn_app (goodIn_of _ (by decide +kernel)) ggL_law_X4_flash
set_option maxRecDepth 20000 in
theorem ggL_X3_due_1 : GoodIn wsL_law wsX3_due_r1 := goodIn_r _ [328, 329, 330, 2, 331, 163, 164, 165, 166, 15, 167, 14, 168, 169, 170, 171, 172, 173, 174, 175, 176, 33, 177, 178] (by decide +kernel) (by decide +kernel)
set_option maxRecDepth 20000 in
theorem ggL_X3_due_2 : GoodIn wsL_law wsX3_due_r2 := goodIn_r _ [179, 180, 332, 333, 334, 335, 317, 318, 319, 336, 337, 338, 339, 23, 340, 341, 342, 343, 208, 209, 210, 189, 190, 191] (by decide +kernel) (by decide +kernel)
set_option maxRecDepth 20000 in
theorem ggL_X3_due_3 : GoodIn wsL_law wsX3_due_r3 := goodIn_r _ [344, 345, 346, 114, 22, 115, 116, 51, 117, 50, 118, 119, 120, 121, 122, 123, 124, 125, 126, 127, 128, 129, 130, 131] (by decide +kernel) (by decide +kernel)
set_option maxRecDepth 20000 in
theorem ggL_X3_due_4 : GoodIn wsL_law wsX3_due_r4 := goodIn_r _ [132, 133, 134, 135, 136, 137, 138, 347, 348, 349, 350] (by decide +kernel) (by decide +kernel)
set_option maxRecDepth 20000 in
theorem ggL_X3_due_0 : GoodIn wsL_law [.code yX3_due cX3_due 1 (some .int)] := goodIn_r _ [441] (by decide +kernel) (by decide +kernel)
theorem ggL_law_X3_due : GoodIn wsL_law wsX3_due := goodIn_cons ggL_X3_due_0 (goodIn_app (goodIn_app (goodIn_app (goodIn_app ggL_X3_due_1 (goodIn_app ggL_X3_due_2 (goodIn_app ggL_X3_due_3 ggL_X3_due_4))) ggL_wsX30) ggL_wsX00) ggL_wsX10)
set_option maxRecDepth 20000 in
theorem gL_law_X3_due : GoodIn wsL_law (wsV RL 67 RX3 yX3_due wsX3_due) := goodIn_app (goodIn_of _ (by decide +kernel)) ggL_law_X3_due
set_option maxRecDepth 20000 in
theorem ggL_X4_due_1 : GoodIn wsL_law wsX4_due_r1 := goodIn_r _ [57, 240, 241, 5, 242, 243, 244, 245, 246, 247, 248, 249, 250, 251, 252, 253, 254, 255, 256, 66, 257, 258, 259, 143] (by decide +kernel) (by decide +kernel)
set_option maxRecDepth 20000 in
theorem ggL_X4_due_2 : GoodIn wsL_law wsX4_due_r2 := goodIn_r _ [144, 145, 146, 68, 69, 147, 148, 149, 150, 151, 67, 152, 153, 154, 155] (by decide +kernel) (by decide +kernel)
set_option maxRecDepth 20000 in
theorem ggL_X4_due_0 : GoodIn wsL_law [.code yX4_due cX4_due 3 (some .int)] := goodIn_r _ [239] (by decide +kernel) (by decide +kernel)
theorem ggL_law_X4_due : GoodIn wsL_law wsX4_due := goodIn_cons ggL_X4_due_0 (goodIn_app (goodIn_app ggL_X4_due_1 ggL_X4_due_2) ggL_wsX40)
set_option maxRecDepth 20000 in
theorem gL_law_X4_due : GoodIn wsL_law (wsV RL 70 RX4 yX4_due wsX4_due) := goodIn_app (goodIn_of _ (by decide +kernel)) ggL_law_X4_due
set_option maxRecDepth 20000 in
theorem ggL_X3_image_1 : GoodIn wsL_law wsX3_image_r1 := goodIn_r _ [160, 161, 2, 162, 336, 337, 338, 339, 23, 15, 340, 341, 342, 343, 208, 209, 210, 189, 190, 191, 344, 14, 345, 346] (by decide +kernel) (by decide +kernel)
set_option maxRecDepth 20000 in
theorem ggL_X3_image_2 : GoodIn wsL_law wsX3_image_r2 := goodIn_r _ [173, 174, 175, 176, 33, 114, 22, 115, 116, 51, 117, 50, 118, 119, 120, 121, 122, 123, 124, 125, 126, 127, 128, 129] (by decide +kernel) (by decide +kernel)
set_option maxRecDepth 20000 in
theorem ggL_X3_image_3 : GoodIn wsL_law wsX3_image_r3 := goodIn_r _ [130, 131, 132, 133, 134, 135, 136, 137, 138, 379, 380, 381, 382] (by decide +kernel) (by decide +kernel)
set_option maxRecDepth 20000 in
theorem ggL_X3_image_0 : GoodIn wsL_law [.code yX3_image cX3_image 3 (some .int)] := goodIn_r _ [446] (by decide +kernel) (by decide +kernel)
theorem ggL_law_X3_image : GoodIn wsL_law wsX3_image := goodIn_cons ggL_X3_image_0 (goodIn_app (goodIn_app (goodIn_app (goodIn_app ggL_X3_image_1 (goodIn_app ggL_X3_image_2 ggL_X3_image_3)) ggL_wsX30) ggL_wsX00) ggL_wsX10)
set_option maxRecDepth 20000 in
theorem gL_law_X3_image : GoodIn wsL_law (wsV RL 71 RX3 yX3_image wsX3_image) := goodIn_app (goodIn_of _ (by decide +kernel)) ggL_law_X3_image
set_option maxRecDepth 20000 in
theorem ggL_X4_image_1 : GoodIn wsL_law wsX4_image_r1 := goodIn_r _ [57, 253, 254, 255, 5, 256, 66, 243, 244, 245, 257, 258, 259, 143, 144, 145, 146, 68, 69, 147, 148, 149, 150, 151] (by decide +kernel) (by decide +kernel)
set_option maxRecDepth 20000 in
theorem ggL_X4_image_2 : GoodIn wsL_law wsX4_image_r2 := goodIn_r _ [67, 152, 153, 154, 155] (by decide +kernel) (by decide +kernel)
set_option maxRecDepth 20000 in
theorem ggL_X4_image_0 : GoodIn wsL_law [.code yX4_image cX4_image 3 (some .int)] := goodIn_r _ [450] (by decide +kernel) (by decide +kernel)
theorem ggL_law_X4_image : GoodIn wsL_law wsX4_image := goodIn_cons ggL_X4_image_0 (goodIn_app (goodIn_app ggL_X4_image_1 ggL_X4_image_2) ggL_wsX40)
set_option maxRecDepth 20000 in
theorem gL_law_X4_image : GoodIn wsL_law (wsV RL 75 RX4 yX4_image wsX4_image) := goodIn_app (goodIn_of _ (by decide +kernel)) ggL_law_X4_image
set_option maxRecDepth 20000 in
theorem ggL_X3_trailer_1 : GoodIn wsL_law wsX3_trailer_r1 := goodIn_r _ [15, 160, 161, 2, 162, 205, 206, 207, 317, 14, 318, 319, 170, 171, 172, 173, 174, 175, 176, 33, 455, 456, 457, 167] (by decide +kernel) (by decide +kernel)
set_option maxRecDepth 20000 in
theorem ggL_X3_trailer_2 : GoodIn wsL_law wsX3_trailer_r2 := goodIn_r _ [168, 169, 177, 178, 179, 180, 458, 459, 460, 461] (by decide +kernel) (by decide +kernel)
set_option maxRecDepth 20000 in
theorem ggL_X3_trailer_0 : GoodIn wsL_law [.code yX3_trailer cX3_trailer 4 (some .int)] := goodIn_r _ [454] (by decide +kernel) (by decide +kernel)
theorem ggL_law_X3_trailer : GoodIn wsL_law wsX3_trailer := goodIn_cons ggL_X3_trailer_0 (goodIn_app (goodIn_app (goodIn_app ggL_X3_trailer_1 ggL_X3_trailer_2) ggL_wsX30) ggL_wsX00)
set_option maxRecDepth 20000 in
theorem gL_law_X3_trailer : GoodIn wsL_law (wsV RL 76 RX3 yX3_trailer wsX3_trailer) := goodIn_app (goodIn_of _ (by decide +kernel)) ggL_law_X3_trailer
set_option maxRecDepth 20000 in
theorem ggL_law_X4_trailer : GoodIn wsL_law wsX4_trailer := goodIn_r _ [465, 57, 249, 250, 5, 251, 252, 243, 244, 245, 240, 241, 242, 246, 247, 248, 493, 494, 495, 496, 497, 498, 499, 500, 501, 502, 503, 504, 505, 506, 507, 508, 509, 510, 511, 512, 513, 514, 515, 516, 517, 518] (by decide +kernel) (by decide +kernel)
set_option maxRecDepth 20000 in
theorem gL_law_X4_trailer : GoodIn wsL_law (wsV RL 79 RX4 yX4_trailer wsX4_trailer) := goodIn_app (goodIn_of _ (by decide +kernel)) ggL_law_X4_trailer
set_option maxRecDepth 20000 in
theorem ggL_law_X3_wear : GoodIn wsL_law wsX3_wear := goodIn_r _ [469, 15, 196, 14, 197, 485, 486, 487, 488, 489, 490, 491, 492, 519, 520, 521, 522, 523, 524, 525, 526, 527] (by decide +kernel) (by decide +kernel)
set_option maxRecDepth 20000 in
theorem gL_law_X3_wear : GoodIn wsL_law (wsV RL 80 RX3 yX3_wear wsX3_wear) := goodIn_app (goodIn_of _ (by decide +kernel)) ggL_law_X3_wear
set_option maxRecDepth 20000 in
theorem ggL_law_X4_wear : GoodIn wsL_law wsX4_wear := goodIn_r _ [473, 64, 493, 494, 495, 496, 497, 498, 499, 500, 501, 502, 503, 504, 505, 506, 507, 508, 509, 510, 511, 512, 513, 514, 515, 516, 517, 518] (by decide +kernel) (by decide +kernel)
set_option maxRecDepth 20000 in
theorem gL_law_X4_wear : GoodIn wsL_law (wsV RL 83 RX4 yX4_wear wsX4_wear) := goodIn_app (goodIn_of _ (by decide +kernel)) ggL_law_X4_wear
set_option maxRecDepth 20000 in
theorem ggL_law_X3_look : GoodIn wsL_law wsX3_look := goodIn_r _ [477, 15, 24, 25, 26, 27, 28, 455, 456, 2, 457, 478, 14, 479, 480, 36, 37, 38, 485, 486, 487, 488, 489, 490, 491, 492, 519, 520, 521, 522, 523, 524, 525, 526, 527] (by decide +kernel) (by decide +kernel)
set_option maxRecDepth 20000 in
theorem gL_law_X3_look : GoodIn wsL_law (wsV RL 84 RX3 yX3_look wsX3_look) := goodIn_app (goodIn_of _ (by decide +kernel)) ggL_law_X3_look
set_option maxRecDepth 20000 in
theorem ggL_law_X4_look : GoodIn wsL_law wsX4_look := goodIn_r _ [484, 234, 235, 389, 281, 63, 388, 282, 387, 284, 493, 494, 495, 496, 497, 498, 499, 500, 501, 502, 503, 504, 505, 506, 507, 508, 509, 510, 511, 512, 513, 514, 515, 516, 517, 518] (by decide +kernel) (by decide +kernel)
set_option maxRecDepth 20000 in
theorem gL_law_X4_look : GoodIn wsL_law (wsV RL 87 RX4 yX4_look wsX4_look) := goodIn_app (goodIn_of _ (by decide +kernel)) ggL_law_X4_look
