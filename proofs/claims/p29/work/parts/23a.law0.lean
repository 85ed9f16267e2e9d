set_option maxRecDepth 20000 in
theorem ggL_law_X3_init : GoodIn wsL_law wsX3_init := goodIn_r _ [5, 6, 7, 8, 9, 10, 11, 12, 13, 14, 15, 16, 17, 18, 19, 20, 21, 22, 23, 24, 25, 26, 27, 28, 29, 30, 31, 32, 33, 34, 35, 36, 37, 38, 39, 337, 338, 339, 340, 341, 342, 343, 344, 345, 346, 347, 348, 349, 350, 351, 352, 353] (by decide +kernel) (by decide +kernel)
set_option maxRecDepth 20000 in
theorem gL_law_X3_init : GoodIn wsL_law (wsX3_init) := ggL_law_X3_init
set_option maxRecDepth 20000 in
theorem ggL_law_L_drawn : GoodIn wsL_law wsL_drawn := goodIn_r _ [43, 44] (by decide +kernel) (by decide +kernel)
set_option maxRecDepth 20000 in
theorem gL_law_L_drawn : GoodIn wsL_law (va_wsS RL 94 yL_drawn wsL_drawn) := goodIn_app (goodIn_of _ (by decide +kernel)) ggL_law_L_drawn
set_option maxRecDepth 20000 in
theorem ggL_law_X3_boxes : GoodIn wsL_law wsX3_boxes := goodIn_r _ [48, 21, 337, 338, 339, 340, 341, 342, 343, 344, 345] (by decide +kernel) (by decide +kernel)
set_option maxRecDepth 20000 in
theorem gL_law_X3_boxes : GoodIn wsL_law (wsV RL 98 RX3 yX3_boxes wsX3_boxes) := goodIn_app (goodIn_of _ (by decide +kernel)) ggL_law_X3_boxes
set_option maxRecDepth 20000 in
theorem ggL_law_L_does : GoodIn wsL_law wsL_does := goodIn_ca (goodIn_ca (goodIn_ca (goodIn_r _ [51, 52, 53, 54, 55, 56, 57, 58, 2, 59, 60, 61, 62, 63, 21, 10, 9, 64, 65, 66, 67, 68, 69, 70, 71, 72, 7, 8, 13, 73, 74, 75, 76, 77, 78, 79, 80, 81, 82, 83, 84, 85, 86, 87, 14, 88, 89, 90, 91, 92, 93, 94, 95, 96, 97, 98, 99, 100, 19, 20, 101, 18, 102, 103, 104, 105, 106, 107, 108, 109, 110, 111, 112, 113, 114, 115, 12, 116, 117, 118, 119, 120, 121, 122, 123, 124, 125, 126, 127, 128, 129, 130, 131, 132, 133, 134, 135, 136, 137, 138, 139, 140, 141, 142, 143, 17, 144, 30, 31, 145, 146, 147, 148, 149, 150, 151, 152, 153, 154, 29, 155, 156, 157, 158, 22, 159, 160, 161, 162, 163, 164, 165, 166, 167, 168, 169, 170, 171, 172, 173, 174, 175, 176, 177, 178, 179, 180, 181, 182, 183, 184, 185, 186, 187, 188, 189, 190, 191, 192, 193, 194, 195, 196, 197, 198, 199, 200, 201, 202, 203, 204, 205, 25, 206, 37, 207, 208, 209, 210, 211, 23, 212, 213, 214, 215, 216, 217, 218, 219, 220, 221, 222, 223, 224, 225, 226, 227, 228, 229, 230, 231, 232, 233, 337, 338, 339, 340, 341, 342, 343, 344, 345, 354, 355, 356, 357, 358, 359, 360, 361, 362, 363, 364, 349, 350, 351, 352, 353, 346, 347, 348] (by decide +kernel) (by decide +kernel)) (goodIn_sub (fun _ h => List.mem_append_left _ (List.mem_append_left _ (List.mem_append_right _ h))) (by decide +kernel))) (goodIn_sub (fun _ h => List.mem_append_left _ (List.mem_append_right _ h)) (by decide +kernel))) (goodIn_sub (fun _ h => List.mem_append_right _ h) (by decide +kernel))
set_option maxRecDepth 20000 in
theorem gL_law_L_does : GoodIn wsL_law (va_wsS RL 102 yL_does wsL_does) := goodIn_app (goodIn_of _ (by decide +kernel)) ggL_law_L_does
set_option maxRecDepth 20000 in
theorem ggL_law_L_scan : GoodIn wsL_law wsL_scan := goodIn_ca (goodIn_ca (goodIn_ca (goodIn_r _ [236, 52, 53, 54, 55, 237, 238, 239, 2, 240, 60, 61, 165, 166, 167, 168, 91, 92, 10, 241, 242, 243, 66, 67, 68, 173, 174, 175, 62, 63, 110, 244, 245, 246, 176, 177, 178, 179, 22, 180, 181, 182, 65, 183, 77, 73, 74, 75, 76, 184, 185, 186, 187, 188, 189, 190, 191, 192, 193, 194, 97, 98, 99, 100, 19, 20, 101, 18, 102, 103, 104, 105, 106, 107, 108, 109, 111, 112, 113, 114, 115, 12, 116, 14, 117, 118, 119, 120, 121, 122, 123, 124, 78, 125, 126, 127, 128, 129, 130, 131, 132, 133, 134, 135, 136, 137, 138, 139, 140, 141, 142, 143, 17, 144, 30, 31, 145, 146, 147, 148, 149, 150, 151, 152, 153, 154, 29, 337, 338, 339, 340, 341, 342, 343, 344, 345, 354, 355, 356, 357, 358, 359, 360, 361, 362, 363, 364, 349, 350, 351, 352, 353, 346, 347, 348] (by decide +kernel) (by decide +kernel)) (goodIn_sub (fun _ h => List.mem_append_left _ (List.mem_append_left _ (List.mem_append_right _ h))) (by decide +kernel))) (goodIn_sub (fun _ h => List.mem_append_right _ h) (by decide +kernel))) (goodIn_sub (fun _ h => List.mem_append_left _ (List.mem_append_right _ h)) (by decide +kernel))
set_option maxRecDepth 20000 in
theorem gL_law_L_scan : GoodIn wsL_law (va_wsS RL 106 yL_scan wsL_scan) := goodIn_app (goodIn_of _ (by decide +kernel)) ggL_law_L_scan
set_option maxRecDepth 20000 in
theorem ggL_law_L_there : GoodIn wsL_law wsL_there := goodIn_r _ [249] (by decide +kernel) (by decide +kernel)
set_option maxRecDepth 20000 in
theorem gL_law_L_there : GoodIn wsL_law (va_wsS RL 88 yL_there wsL_there) := goodIn_app (goodIn_of _ (by decide +kernel)) ggL_law_L_there
set_option maxRecDepth 20000 in
theorem ggL_law_L_place : GoodIn wsL_law wsL_place := goodIn_r _ [252, 247, 248, 42, 249] (by decide +kernel) (by decide +kernel)
set_option maxRecDepth 20000 in
theorem gL_law_L_place : GoodIn wsL_law (va_wsS RL 108 yL_place wsL_place) := goodIn_app (goodIn_of _ (by decide +kernel)) ggL_law_L_place
set_option maxRecDepth 20000 in
theorem ggL_law_L_jam : GoodIn wsL_law wsL_jam := goodIn_ca (goodIn_r _ [255, 52, 55, 256, 257, 258, 2, 259, 116, 213, 169, 170, 171, 172, 91, 92, 12, 93, 94, 95, 96, 10, 97, 98, 99, 100, 19, 20, 101, 18, 102, 103, 104, 105, 106, 107, 108, 109, 110, 111, 112, 113, 114, 115, 14, 66, 67, 68, 117, 118, 119, 65, 120, 77, 121, 122, 123, 124, 78, 125, 126, 127, 128, 76, 129, 130, 131, 132, 133, 134, 135, 136, 74, 137, 138, 139, 140, 141, 142, 143, 17, 144, 30, 31, 145, 146, 147, 148, 149, 150, 151, 152, 153, 154, 29, 349, 350, 351, 352, 353, 337, 338, 339, 340, 341, 342, 343, 344, 345, 354, 355, 356, 357, 358, 359, 360, 361, 362, 363, 364, 346, 347, 348] (by decide +kernel) (by decide +kernel)) (goodIn_sub (fun _ h => List.mem_append_right _ h) (by decide +kernel))
set_option maxRecDepth 20000 in
theorem gL_law_L_jam : GoodIn wsL_law (va_wsS RL 111 yL_jam wsL_jam) := goodIn_app (goodIn_of _ (by decide +kernel)) ggL_law_L_jam
set_option maxRecDepth 20000 in
theorem ggL_law_X3_time : GoodIn wsL_law wsX3_time := goodIn_r _ [263, 22, 337, 338, 339, 340, 341, 342, 343, 344, 345] (by decide +kernel) (by decide +kernel)
set_option maxRecDepth 20000 in
theorem gL_law_X3_time : GoodIn wsL_law (wsV RL 114 RX3 yX3_time wsX3_time) := goodIn_app (goodIn_of _ (by decide +kernel)) ggL_law_X3_time
set_option maxRecDepth 20000 in
theorem ggL_law_X3_insurers : GoodIn wsL_law wsX3_insurers := goodIn_r _ [267, 18, 268, 337, 338, 339, 340, 341, 342, 343, 344, 345, 346, 347, 348] (by decide +kernel) (by decide +kernel)
set_option maxRecDepth 20000 in
theorem gL_law_X3_insurers : GoodIn wsL_law (wsV RL 117 RX3 yX3_insurers wsX3_insurers) := goodIn_app (goodIn_of _ (by decide +kernel)) ggL_law_X3_insurers
set_option maxRecDepth 20000 in
theorem ggL_law_X3_entries : GoodIn wsL_law wsX3_entries := goodIn_r _ [272, 18, 273, 337, 338, 339, 340, 341, 342, 343, 344, 345, 346, 347, 348] (by decide +kernel) (by decide +kernel)
set_option maxRecDepth 20000 in
theorem gL_law_X3_entries : GoodIn wsL_law (wsV RL 120 RX3 yX3_entries wsX3_entries) := goodIn_app (goodIn_of _ (by decide +kernel)) ggL_law_X3_entries
set_option maxRecDepth 20000 in
theorem ggL_law_L_of : GoodIn wsL_law wsL_of := goodIn_ca (goodIn_r _ [276, 52, 55, 277, 278, 279, 2, 280, 110, 165, 166, 167, 168, 91, 92, 10, 281, 282, 283, 284, 285, 286, 287, 288, 289, 19, 106, 107, 108, 109, 111, 112, 113, 114, 115, 12, 116, 14, 66, 67, 68, 290, 291, 292, 293, 122, 123, 124, 294, 126, 127, 65, 128, 76, 295, 296, 297, 298, 103, 299, 300, 301, 302, 101, 303, 304, 305, 306, 22, 307, 134, 135, 136, 77, 74, 137, 138, 139, 140, 78, 192, 193, 194, 308, 309, 310, 311, 73, 133, 312, 313, 314, 315, 169, 170, 171, 172, 316, 317, 318, 319, 211, 320, 321, 322, 323, 324, 325, 326, 327, 88, 89, 90, 328, 329, 330, 331, 75, 332, 333, 334, 335, 18, 336, 241, 242, 243, 354, 355, 356, 357, 358, 359, 360, 361, 362, 363, 364, 337, 338, 339, 340, 341, 342, 343, 344, 345, 349, 350, 351, 352, 353, 346, 347, 348] (by decide +kernel) (by decide +kernel)) (goodIn_sub (fun _ h => List.mem_append_right _ h) (by decide +kernel))
set_option maxRecDepth 20000 in
theorem gL_law_L_of : GoodIn wsL_law (va_wsS RL 123 yL_of wsL_of) := goodIn_app (goodIn_of _ (by decide +kernel)) ggL_law_L_of
