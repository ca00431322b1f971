set_option maxRecDepth 20000 in
theorem ggL_law_X6_init : GoodIn wsL_law wsX6_init := goodIn_r _ [11, 12, 13, 14, 15, 16, 17, 18, 19, 20, 21, 22, 23, 24, 25, 26, 27, 28, 29, 30, 31, 32, 33, 34, 35, 36, 37, 38, 39, 40, 41, 42, 43, 44, 45, 46, 47, 48, 49, 50, 51, 52, 53, 54, 55, 56, 57, 58, 59, 60, 61, 62, 63, 64, 65, 66, 67, 68, 69, 70, 71, 72, 73, 74, 75, 76, 77, 78, 79, 80, 81, 1232, 1233, 1234, 1235, 1236, 1237, 1238, 1239, 1240, 1241, 1242, 1243, 1244, 1245, 1259, 1260, 1261, 1262, 1263, 1264, 1265, 1266, 1267, 1268, 1269, 1270, 1271, 1272, 1273, 1274, 1275, 1276] (by decide +kernel) (by decide +kernel)
set_option maxRecDepth 20000 in
theorem gL_law_X6_init : GoodIn wsL_law (wsX6_init) := ggL_law_X6_init
set_option maxRecDepth 20000 in
theorem ggL_law_X8_init : GoodIn wsL_law wsX8_init := goodIn_r _ [84, 85, 13, 14, 75, 86, 87, 88, 89, 90, 91, 92, 93, 94, 95, 96, 5, 97, 98, 99, 100, 101, 102, 1246, 1247, 1248, 1249, 1250, 1251, 1252, 1253, 1254, 1255, 1256] (by decide +kernel) (by decide +kernel)
set_option maxRecDepth 20000 in
theorem gL_law_X8_init : GoodIn wsL_law (wsX8_init) := ggL_law_X8_init
set_option maxRecDepth 20000 in
theorem ggL_law_X7_init : GoodIn wsL_law wsX7_init := goodIn_r _ [104, 105, 13, 14] (by decide +kernel) (by decide +kernel)
set_option maxRecDepth 20000 in
theorem gL_law_X7_init_n169 : GoodIn wsL_law (wsX7_init) := ggL_law_X7_init
set_option maxRecDepth 20000 in
theorem ggL_law_L_allocate : GoodIn wsL_law wsL_allocate := goodIn_ca (goodIn_ca (goodIn_r _ [109, 110, 111, 112, 113, 114, 2, 115, 116, 117, 118, 119, 120, 121, 16, 122, 123, 124, 125, 126, 127, 128, 129, 27, 130, 65, 44, 45, 46, 47, 66, 131, 67, 132, 133, 134, 135, 136, 68, 69, 137, 138, 139, 140, 141, 142, 143, 144, 145, 1257, 1258, 1232, 1233, 1234, 1235, 1236, 1237, 1238, 1239, 1240, 1241, 1242, 1243, 1244, 1245, 1265, 1266, 1267, 1268, 1269, 1270] (by decide +kernel) (by decide +kernel)) (goodIn_sub (fun _ h => List.mem_append_left _ (List.mem_append_left _ (List.mem_append_right _ h))) (by decide +kernel))) (goodIn_sub (fun _ h => List.mem_append_left _ (List.mem_append_right _ h)) (by decide +kernel))
set_option maxRecDepth 20000 in
theorem gL_law_L_allocate : GoodIn wsL_law (va_wsS RL 170 yL_allocate wsL_allocate) := goodIn_app (goodIn_of _ (by decide +kernel)) ggL_law_L_allocate
set_option maxRecDepth 20000 in
theorem ggL_law_X8_allocate : GoodIn wsL_law wsX8_allocate := goodIn_r _ [149, 88, 150, 151, 5, 152, 153, 154, 155, 156, 157, 158, 159, 160, 94, 95, 96, 97, 98, 86, 75, 99, 100, 101, 102, 161, 162, 163, 164, 93, 1246, 1247, 1248, 1249, 1250, 1251, 1252, 1253, 1254, 1255, 1256] (by decide +kernel) (by decide +kernel)
set_option maxRecDepth 20000 in
theorem gL_law_X8_allocate : GoodIn wsL_law (wsV RL 175 RX8 yX8_allocate wsX8_allocate) := goodIn_app (goodIn_of _ (by decide +kernel)) ggL_law_X8_allocate
set_option maxRecDepth 20000 in
theorem ggL_law_L_slice : GoodIn wsL_law wsL_slice := goodIn_ca (goodIn_r _ [167, 110, 168, 169, 170, 2, 171, 116, 117, 118, 119, 120, 121, 16, 172, 173, 174, 27, 175, 66, 131, 136, 67, 176, 138, 139, 140, 68, 132, 133, 134, 135, 69, 137, 141, 142, 143, 144, 145, 1257, 1258, 1232, 1233, 1234, 1235, 1236, 1237, 1238, 1239, 1240, 1241, 1242, 1243, 1244, 1245, 1265, 1266, 1267, 1268, 1269, 1270] (by decide +kernel) (by decide +kernel)) (goodIn_sub (fun _ h => List.mem_append_left _ (List.mem_append_left _ (List.mem_append_right _ h))) (by decide +kernel))
set_option maxRecDepth 20000 in
theorem gL_law_L_slice : GoodIn wsL_law (va_wsS RL 176 yL_slice wsL_slice) := goodIn_app (goodIn_of _ (by decide +kernel)) ggL_law_L_slice
set_option maxRecDepth 20000 in
theorem ggL_law_X8_slice : GoodIn wsL_law wsX8_slice := goodIn_r _ [180, 88, 150, 151, 5, 152, 153, 154, 155, 156, 157, 158, 159, 160, 181, 182, 183, 184, 185, 186, 187, 75, 161, 162, 163, 164, 93, 1246, 1247, 1248, 1249, 1250, 1251, 1252, 1253, 1254, 1255, 1256] (by decide +kernel) (by decide +kernel)
set_option maxRecDepth 20000 in
theorem gL_law_X8_slice : GoodIn wsL_law (wsV RL 178 RX8 yX8_slice wsX8_slice) := goodIn_app (goodIn_of _ (by decide +kernel)) ggL_law_X8_slice
set_option maxRecDepth 20000 in
theorem ggL_law_L_duplicate : GoodIn wsL_law wsL_duplicate := goodIn_ca (goodIn_r _ [190, 110, 191, 192, 193, 2, 194, 116, 117, 118, 119, 120, 121, 16, 195, 196, 197, 27, 198, 66, 131, 67, 68, 136, 69, 137, 138, 139, 140, 141, 142, 143, 144, 145, 1257, 1258, 1232, 1233, 1234, 1235, 1236, 1237, 1238, 1239, 1240, 1241, 1242, 1243, 1244, 1245, 1265, 1266, 1267, 1268, 1269, 1270] (by decide +kernel) (by decide +kernel)) (goodIn_sub (fun _ h => List.mem_append_left _ (List.mem_append_left _ (List.mem_append_right _ h))) (by decide +kernel))
set_option maxRecDepth 20000 in
theorem gL_law_L_duplicate : GoodIn wsL_law (va_wsS RL 179 yL_duplicate wsL_duplicate) := goodIn_app (goodIn_of _ (by decide +kernel)) ggL_law_L_duplicate
set_option maxRecDepth 20000 in
theorem ggL_law_X8_duplicate : GoodIn wsL_law wsX8_duplicate := goodIn_r _ [202, 88, 150, 151, 5, 152, 153, 154, 155, 156, 157, 158, 159, 160, 184, 185, 186, 187, 75, 161, 162, 163, 164, 93, 1246, 1247, 1248, 1249, 1250, 1251, 1252, 1253, 1254, 1255, 1256] (by decide +kernel) (by decide +kernel)
set_option maxRecDepth 20000 in
theorem gL_law_X8_duplicate : GoodIn wsL_law (wsV RL 181 RX8 yX8_duplicate wsX8_duplicate) := goodIn_app (goodIn_of _ (by decide +kernel)) ggL_law_X8_duplicate
set_option maxRecDepth 20000 in
theorem ggL_law_L_part : GoodIn wsL_law wsL_part := goodIn_ca (goodIn_r _ [205, 110, 206, 207, 208, 2, 209, 116, 117, 118, 119, 120, 121, 16, 137, 138, 139, 27, 140, 68, 136, 210, 211, 212, 213, 214, 215, 216, 217, 218, 219, 220, 221, 66, 131, 67, 69, 141, 142, 143, 144, 145, 1257, 1258, 1232, 1233, 1234, 1235, 1236, 1237, 1238, 1239, 1240, 1241, 1242, 1243, 1244, 1245, 1265, 1266, 1267, 1268, 1269, 1270] (by decide +kernel) (by decide +kernel)) (goodIn_sub (fun _ h => List.mem_append_left _ (List.mem_append_left _ (List.mem_append_right _ h))) (by decide +kernel))
set_option maxRecDepth 20000 in
theorem gL_law_L_part : GoodIn wsL_law (va_wsS RL 182 yL_part wsL_part) := goodIn_app (goodIn_of _ (by decide +kernel)) ggL_law_L_part
set_option maxRecDepth 20000 in
theorem ggL_law_X8_part : GoodIn wsL_law wsX8_part := goodIn_r _ [225, 88, 150, 151, 5, 152, 153, 154, 155, 156, 157, 158, 159, 160, 181, 182, 183, 226, 227, 228, 229, 93, 184, 185, 186, 187, 75, 161, 162, 163, 164, 1246, 1247, 1248, 1249, 1250, 1251, 1252, 1253, 1254, 1255, 1256] (by decide +kernel) (by decide +kernel)
set_option maxRecDepth 20000 in
theorem gL_law_X8_part : GoodIn wsL_law (wsV RL 185 RX8 yX8_part wsX8_part) := goodIn_app (goodIn_of _ (by decide +kernel)) ggL_law_X8_part
set_option maxRecDepth 20000 in
theorem ggL_law_L_put : GoodIn wsL_law wsL_put := goodIn_ca (goodIn_ca (goodIn_r _ [232, 110, 111, 233, 234, 235, 2, 236, 116, 117, 118, 119, 120, 121, 16, 122, 123, 124, 125, 126, 237, 238, 239, 27, 240, 136, 176, 138, 139, 140, 68, 241, 242, 243, 244, 131, 66, 137, 141, 142, 143, 144, 145, 213, 214, 215, 216, 217, 1257, 1258, 1232, 1233, 1234, 1235, 1236, 1237, 1238, 1239, 1240, 1241, 1242, 1243, 1244, 1245, 1265, 1266, 1267, 1268, 1269, 1270] (by decide +kernel) (by decide +kernel)) (goodIn_sub (fun _ h => List.mem_append_left _ (List.mem_append_left _ (List.mem_append_right _ h))) (by decide +kernel))) (goodIn_sub (fun _ h => List.mem_append_left _ (List.mem_append_right _ h)) (by decide +kernel))
set_option maxRecDepth 20000 in
theorem gL_law_L_put : GoodIn wsL_law (va_wsS RL 186 yL_put wsL_put) := goodIn_app (goodIn_of _ (by decide +kernel)) ggL_law_L_put
set_option maxRecDepth 20000 in
theorem ggL_law_X8_put : GoodIn wsL_law wsX8_put := goodIn_r _ [248, 88, 150, 151, 5, 152, 153, 154, 155, 156, 157, 158, 159, 160, 181, 182, 183, 226, 227, 228, 229, 93, 249, 250, 251, 252, 86, 161, 162, 163, 164, 1246, 1247, 1248, 1249, 1250, 1251, 1252, 1253, 1254, 1255, 1256] (by decide +kernel) (by decide +kernel)
set_option maxRecDepth 20000 in
theorem gL_law_X8_put : GoodIn wsL_law (wsV RL 188 RX8 yX8_put wsX8_put) := goodIn_app (goodIn_of _ (by decide +kernel)) ggL_law_X8_put
set_option maxRecDepth 20000 in
theorem ggL_law_L_run : GoodIn wsL_law wsL_run := goodIn_ca (goodIn_ca (goodIn_r _ [255, 110, 111, 256, 257, 258, 2, 259, 116, 117, 118, 119, 120, 121, 16, 122, 123, 124, 125, 126, 237, 238, 239, 27, 240, 136, 176, 138, 139, 140, 68, 241, 242, 243, 244, 131, 66, 141, 142, 143, 144, 145, 1257, 1258, 1232, 1233, 1234, 1235, 1236, 1237, 1238, 1239, 1240, 1241, 1242, 1243, 1244, 1245, 1265, 1266, 1267, 1268, 1269, 1270] (by decide +kernel) (by decide +kernel)) (goodIn_sub (fun _ h => List.mem_append_left _ (List.mem_append_left _ (List.mem_append_right _ h))) (by decide +kernel))) (goodIn_sub (fun _ h => List.mem_append_left _ (List.mem_append_right _ h)) (by decide +kernel))
set_option maxRecDepth 20000 in
theorem gL_law_L_run : GoodIn wsL_law (va_wsS RL 189 yL_run wsL_run) := goodIn_app (goodIn_of _ (by decide +kernel)) ggL_law_L_run
set_option maxRecDepth 20000 in
theorem ggL_law_X8_run : GoodIn wsL_law wsX8_run := goodIn_r _ [263, 88, 264, 265, 45, 266, 150, 151, 5, 152, 153, 154, 155, 156, 157, 158, 159, 160, 181, 182, 183, 249, 250, 251, 252, 86, 161, 162, 163, 164, 93, 1246, 1247, 1248, 1249, 1250, 1251, 1252, 1253, 1254, 1255, 1256] (by decide +kernel) (by decide +kernel)
set_option maxRecDepth 20000 in
theorem gL_law_X8_run : GoodIn wsL_law (wsV RL 191 RX8 yX8_run wsX8_run) := goodIn_app (goodIn_of _ (by decide +kernel)) ggL_law_X8_run
set_option maxRecDepth 20000 in
theorem ggL_law_L_write : GoodIn wsL_law wsL_write := goodIn_ca (goodIn_ca (goodIn_r _ [269, 110, 111, 270, 271, 272, 2, 273, 116, 117, 118, 119, 120, 121, 16, 274, 275, 276, 277, 122, 123, 124, 125, 126, 278, 279, 280, 237, 238, 239, 27, 240, 136, 176, 138, 139, 140, 68, 241, 242, 243, 244, 131, 66, 141, 142, 143, 144, 145, 1257, 1258, 1232, 1233, 1234, 1235, 1236, 1237, 1238, 1239, 1240, 1241, 1242, 1243, 1244, 1245, 1265, 1266, 1267, 1268, 1269, 1270] (by decide +kernel) (by decide +kernel)) (goodIn_sub (fun _ h => List.mem_append_left _ (List.mem_append_left _ (List.mem_append_right _ h))) (by decide +kernel))) (goodIn_sub (fun _ h => List.mem_append_left _ (List.mem_append_right _ h)) (by decide +kernel))
set_option maxRecDepth 20000 in
theorem gL_law_L_write : GoodIn wsL_law (va_wsS RL 192 yL_write wsL_write) := goodIn_app (goodIn_of _ (by decide +kernel)) ggL_law_L_write
set_option maxRecDepth 20000 in
theorem ggL_law_X8_write_ : GoodIn wsL_law wsX8_write_ := goodIn_r _ [284, 88, 264, 265, 45, 266, 150, 151, 5, 152, 153, 154, 155, 156, 157, 158, 159, 160, 181, 182, 183, 285, 286, 287, 249, 250, 251, 252, 86, 161, 162, 163, 164, 93, 1246, 1247, 1248, 1249, 1250, 1251, 1252, 1253, 1254, 1255, 1256] (by decide +kernel) (by decide +kernel)
set_option maxRecDepth 20000 in
theorem gL_law_X8_write_ : GoodIn wsL_law (wsV RL 195 RX8 yX8_write_ wsX8_write_) := goodIn_app (goodIn_of _ (by decide +kernel)) ggL_law_X8_write_
set_option maxRecDepth 20000 in
theorem ggL_law_L_get : GoodIn wsL_law wsL_get := goodIn_ca (goodIn_r _ [290, 110, 291, 292, 293, 2, 294, 116, 117, 118, 119, 120, 121, 16, 137, 138, 139, 27, 140, 68, 136, 213, 214, 215, 216, 217, 295, 296, 297, 298, 299, 300, 301, 302, 303, 304, 305, 306, 131, 66, 176, 141, 142, 143, 144, 145, 1257, 1258, 1232, 1233, 1234, 1235, 1236, 1237, 1238, 1239, 1240, 1241, 1242, 1243, 1244, 1245, 1265, 1266, 1267, 1268, 1269, 1270] (by decide +kernel) (by decide +kernel)) (goodIn_sub (fun _ h => List.mem_append_left _ (List.mem_append_left _ (List.mem_append_right _ h))) (by decide +kernel))
set_option maxRecDepth 20000 in
theorem gL_law_L_get : GoodIn wsL_law (va_wsS RL 196 yL_get wsL_get) := goodIn_app (goodIn_of _ (by decide +kernel)) ggL_law_L_get
set_option maxRecDepth 20000 in
theorem ggL_law_X8_get : GoodIn wsL_law wsX8_get := goodIn_r _ [310, 88, 150, 151, 5, 152, 153, 154, 155, 156, 157, 158, 159, 160, 181, 182, 183, 226, 227, 228, 229, 93, 311, 312, 313, 314, 86, 161, 162, 163, 164, 1246, 1247, 1248, 1249, 1250, 1251, 1252, 1253, 1254, 1255, 1256] (by decide +kernel) (by decide +kernel)
set_option maxRecDepth 20000 in
theorem gL_law_X8_get : GoodIn wsL_law (wsV RL 199 RX8 yX8_get wsX8_get) := goodIn_app (goodIn_of _ (by decide +kernel)) ggL_law_X8_get
set_option maxRecDepth 20000 in
theorem ggL_law_L_read : GoodIn wsL_law wsL_read := goodIn_ca (goodIn_ca (goodIn_r _ [317, 110, 111, 318, 319, 320, 2, 321, 322, 323, 324, 116, 117, 118, 119, 120, 121, 16, 122, 123, 124, 125, 126, 325, 326, 327, 328, 329, 330, 331, 332, 13, 14, 333, 334, 335, 336, 337, 338, 339, 340, 341, 342, 343, 344, 137, 138, 139, 27, 140, 68, 136, 295, 296, 297, 298, 299, 300, 301, 302, 303, 304, 305, 306, 131, 66, 176, 345, 346, 347, 348, 349, 350, 351, 352, 353, 354, 355, 356, 357, 358, 359, 360, 361, 362, 363, 364, 365, 366, 367, 368, 369, 370, 44, 45, 46, 371, 372, 373, 374, 375, 376, 377, 378, 379, 380, 381, 382, 383, 384, 385, 265, 266, 386, 100, 101, 102, 387, 388, 389, 390, 391, 392, 393, 394, 395, 396, 397, 398, 399, 400, 401, 402, 403, 404, 405, 406, 407, 408, 409, 410, 411, 412, 413, 414, 415, 416, 417, 418, 419, 420, 421, 422, 423, 424, 425, 426, 427, 428, 429, 430, 431, 432, 433, 434, 435, 436, 437, 438, 439, 440, 441, 442, 443, 444, 445, 446, 447, 448, 449, 450, 451, 452, 453, 454, 455, 456, 457, 458, 459, 460, 461, 462, 463, 464, 465, 466, 467, 468, 469, 470, 471, 472, 473, 474, 475, 476, 477, 478, 479, 480, 481, 482, 483, 484, 485, 486, 487, 488, 489, 490, 491, 492, 493, 494, 495, 496, 497, 498, 145, 1257, 1258, 1277, 1278, 1279, 1280, 1232, 1233, 1234, 1235, 1236, 1237, 1238, 1239, 1240, 1241, 1242, 1243, 1244, 1245, 1265, 1266, 1267, 1268, 1269, 1270, 1281, 1282, 1283, 1284] (by decide +kernel) (by decide +kernel)) (goodIn_sub (fun _ h => List.mem_append_left _ (List.mem_append_left _ (List.mem_append_right _ h))) (by decide +kernel))) (goodIn_sub (fun _ h => List.mem_append_left _ (List.mem_append_right _ h)) (by decide +kernel))
set_option maxRecDepth 20000 in
theorem gL_law_L_read : GoodIn wsL_law (va_wsS RL 200 yL_read wsL_read) := goodIn_app (goodIn_of _ (by decide +kernel)) ggL_law_L_read
set_option maxRecDepth 20000 in
theorem ggL_law_X8_read_ : GoodIn wsL_law wsX8_read_ := goodIn_r _ [502, 88, 264, 265, 45, 266, 150, 151, 5, 152, 153, 154, 155, 156, 157, 158, 159, 160, 503, 504, 505, 506, 75, 86, 181, 182, 183, 161, 162, 163, 164, 93, 507, 508, 509, 510, 323, 324, 511, 326, 327, 328, 329, 330, 331, 332, 13, 14, 333, 334, 335, 336, 337, 338, 339, 340, 341, 342, 343, 344, 512, 346, 347, 348, 349, 350, 351, 352, 353, 354, 355, 356, 357, 358, 359, 360, 361, 362, 363, 364, 365, 366, 367, 368, 369, 370, 44, 46, 371, 372, 373, 374, 375, 376, 377, 378, 379, 380, 381, 382, 383, 384, 385, 386, 100, 101, 102, 387, 388, 389, 390, 391, 392, 393, 394, 395, 396, 397, 398, 399, 400, 401, 402, 403, 404, 405, 406, 407, 408, 409, 410, 411, 412, 413, 414, 415, 416, 417, 418, 419, 420, 421, 422, 423, 424, 425, 426, 427, 428, 429, 430, 431, 432, 433, 434, 435, 436, 437, 438, 439, 513, 441, 442, 443, 444, 445, 446, 447, 448, 449, 450, 451, 452, 453, 454, 455, 456, 457, 458, 459, 460, 461, 462, 463, 464, 465, 466, 467, 468, 469, 470, 471, 472, 473, 474, 475, 476, 477, 478, 479, 480, 481, 482, 483, 484, 485, 486, 487, 488, 489, 490, 491, 492, 493, 494, 1246, 1247, 1248, 1249, 1250, 1251, 1252, 1253, 1254, 1255, 1256, 1277, 1278, 1279, 1280, 1281, 1282, 1283, 1284] (by decide +kernel) (by decide +kernel)
set_option maxRecDepth 20000 in
theorem gL_law_X8_read_ : GoodIn wsL_law (wsV RL 202 RX8 yX8_read_ wsX8_read_) := goodIn_app (goodIn_of _ (by decide +kernel)) ggL_law_X8_read_
set_option maxRecDepth 20000 in
theorem ggL_law_L_pour : GoodIn wsL_law wsL_pour := goodIn_ca (goodIn_ca (goodIn_r _ [516, 110, 111, 517, 518, 519, 2, 520, 116, 117, 118, 119, 120, 121, 16, 521, 522, 523, 125, 126, 122, 123, 124, 137, 138, 139, 27, 140, 68, 136, 295, 296, 297, 298, 299, 300, 301, 302, 303, 304, 305, 306, 131, 66, 176, 237, 238, 239, 240, 241, 242, 243, 244, 141, 142, 143, 144, 145, 1257, 1258, 1232, 1233, 1234, 1235, 1236, 1237, 1238, 1239, 1240, 1241, 1242, 1243, 1244, 1245, 1265, 1266, 1267, 1268, 1269, 1270] (by decide +kernel) (by decide +kernel)) (goodIn_sub (fun _ h => List.mem_append_left _ (List.mem_append_left _ (List.mem_append_right _ h))) (by decide +kernel))) (goodIn_sub (fun _ h => List.mem_append_left _ (List.mem_append_right _ h)) (by decide +kernel))
set_option maxRecDepth 20000 in
theorem gL_law_L_pour : GoodIn wsL_law (va_wsS RL 203 yL_pour wsL_pour) := goodIn_app (goodIn_of _ (by decide +kernel)) ggL_law_L_pour
set_option maxRecDepth 20000 in
theorem ggL_law_X8_pour : GoodIn wsL_law wsX8_pour := goodIn_r _ [527, 88, 264, 265, 45, 266, 150, 151, 5, 152, 153, 154, 155, 156, 157, 158, 159, 160, 181, 182, 183, 311, 312, 313, 314, 86, 249, 250, 251, 252, 161, 162, 163, 164, 93, 1246, 1247, 1248, 1249, 1250, 1251, 1252, 1253, 1254, 1255, 1256] (by decide +kernel) (by decide +kernel)
set_option maxRecDepth 20000 in
theorem gL_law_X8_pour : GoodIn wsL_law (wsV RL 205 RX8 yX8_pour wsX8_pour) := goodIn_app (goodIn_of _ (by decide +kernel)) ggL_law_X8_pour
set_option maxRecDepth 20000 in
theorem ggL_law_L_mark : GoodIn wsL_law wsL_mark := goodIn_ca (goodIn_r _ [530, 110, 531, 532, 533, 2, 534, 116, 117, 118, 119, 120, 121, 16, 535, 536, 537, 27, 538, 136, 69, 141, 142, 143, 144, 145, 1257, 1258, 1265, 1266, 1267, 1268, 1269, 1270, 1232, 1233, 1234, 1235, 1236, 1237, 1238, 1239, 1240, 1241, 1242, 1243, 1244, 1245] (by decide +kernel) (by decide +kernel)) (goodIn_sub (fun _ h => List.mem_append_left _ (List.mem_append_left _ (List.mem_append_right _ h))) (by decide +kernel))
set_option maxRecDepth 20000 in
theorem gL_law_L_mark : GoodIn wsL_law (va_wsS RL 206 yL_mark wsL_mark) := goodIn_app (goodIn_of _ (by decide +kernel)) ggL_law_L_mark
set_option maxRecDepth 20000 in
theorem ggL_law_X8_mark : GoodIn wsL_law wsX8_mark := goodIn_r _ [542, 88, 150, 151, 5, 152, 153, 154, 155, 156, 157, 158, 159, 160, 161, 162, 163, 164, 93, 1246, 1247, 1248, 1249, 1250, 1251, 1252, 1253, 1254, 1255, 1256] (by decide +kernel) (by decide +kernel)
set_option maxRecDepth 20000 in
theorem gL_law_X8_mark : GoodIn wsL_law (wsV RL 208 RX8 yX8_mark wsX8_mark) := goodIn_app (goodIn_of _ (by decide +kernel)) ggL_law_X8_mark
set_option maxRecDepth 20000 in
theorem ggL_law_L_reset : GoodIn wsL_law wsL_reset := goodIn_ca (goodIn_r _ [545, 110, 546, 547, 548, 2, 549, 116, 117, 118, 119, 120, 121, 16, 213, 214, 215, 216, 217, 550, 551, 552, 27, 553, 69, 136, 141, 142, 143, 144, 145, 1257, 1258, 1265, 1266, 1267, 1268, 1269, 1270, 1232, 1233, 1234, 1235, 1236, 1237, 1238, 1239, 1240, 1241, 1242, 1243, 1244, 1245] (by decide +kernel) (by decide +kernel)) (goodIn_sub (fun _ h => List.mem_append_left _ (List.mem_append_left _ (List.mem_append_right _ h))) (by decide +kernel))
set_option maxRecDepth 20000 in
theorem gL_law_L_reset : GoodIn wsL_law (va_wsS RL 209 yL_reset wsL_reset) := goodIn_app (goodIn_of _ (by decide +kernel)) ggL_law_L_reset
set_option maxRecDepth 20000 in
theorem ggL_law_X8_reset : GoodIn wsL_law wsX8_reset := goodIn_r _ [557, 88, 150, 151, 5, 152, 153, 154, 155, 156, 157, 158, 159, 160, 226, 227, 228, 229, 93, 161, 162, 163, 164, 1246, 1247, 1248, 1249, 1250, 1251, 1252, 1253, 1254, 1255, 1256] (by decide +kernel) (by decide +kernel)
set_option maxRecDepth 20000 in
theorem gL_law_X8_reset : GoodIn wsL_law (wsV RL 211 RX8 yX8_reset wsX8_reset) := goodIn_app (goodIn_of _ (by decide +kernel)) ggL_law_X8_reset
set_option maxRecDepth 20000 in
theorem ggL_law_L_rewind : GoodIn wsL_law wsL_rewind := goodIn_ca (goodIn_r _ [560, 110, 561, 562, 563, 2, 564, 116, 117, 118, 119, 120, 121, 16, 565, 133, 134, 27, 135, 136, 68, 69, 137, 138, 139, 140, 141, 142, 143, 144, 145, 1257, 1258, 1265, 1266, 1267, 1268, 1269, 1270, 1232, 1233, 1234, 1235, 1236, 1237, 1238, 1239, 1240, 1241, 1242, 1243, 1244, 1245] (by decide +kernel) (by decide +kernel)) (goodIn_sub (fun _ h => List.mem_append_left _ (List.mem_append_left _ (List.mem_append_right _ h))) (by decide +kernel))
set_option maxRecDepth 20000 in
theorem gL_law_L_rewind : GoodIn wsL_law (va_wsS RL 212 yL_rewind wsL_rewind) := goodIn_app (goodIn_of _ (by decide +kernel)) ggL_law_L_rewind
set_option maxRecDepth 20000 in
theorem ggL_law_X8_rewind : GoodIn wsL_law wsX8_rewind := goodIn_r _ [569, 88, 150, 151, 5, 152, 153, 154, 155, 156, 157, 158, 159, 160, 570, 571, 572, 181, 182, 183, 161, 162, 163, 164, 93, 1246, 1247, 1248, 1249, 1250, 1251, 1252, 1253, 1254, 1255, 1256] (by decide +kernel) (by decide +kernel)
set_option maxRecDepth 20000 in
theorem gL_law_X8_rewind : GoodIn wsL_law (wsV RL 214 RX8 yX8_rewind wsX8_rewind) := goodIn_app (goodIn_of _ (by decide +kernel)) ggL_law_X8_rewind
set_option maxRecDepth 20000 in
theorem ggL_law_L_flip : GoodIn wsL_law wsL_flip := goodIn_ca (goodIn_r _ [575, 110, 576, 577, 578, 2, 579, 116, 117, 118, 119, 120, 121, 16, 565, 133, 134, 27, 135, 136, 68, 69, 137, 138, 139, 140, 141, 142, 143, 144, 145, 1257, 1258, 1265, 1266, 1267, 1268, 1269, 1270, 1232, 1233, 1234, 1235, 1236, 1237, 1238, 1239, 1240, 1241, 1242, 1243, 1244, 1245] (by decide +kernel) (by decide +kernel)) (goodIn_sub (fun _ h => List.mem_append_left _ (List.mem_append_left _ (List.mem_append_right _ h))) (by decide +kernel))
set_option maxRecDepth 20000 in
theorem gL_law_L_flip : GoodIn wsL_law (va_wsS RL 215 yL_flip wsL_flip) := goodIn_app (goodIn_of _ (by decide +kernel)) ggL_law_L_flip
set_option maxRecDepth 20000 in
theorem ggL_law_X8_flip : GoodIn wsL_law wsX8_flip := goodIn_r _ [583, 88, 150, 151, 5, 152, 153, 154, 155, 156, 157, 158, 159, 160, 570, 571, 572, 181, 182, 183, 161, 162, 163, 164, 93, 1246, 1247, 1248, 1249, 1250, 1251, 1252, 1253, 1254, 1255, 1256] (by decide +kernel) (by decide +kernel)
set_option maxRecDepth 20000 in
theorem gL_law_X8_flip : GoodIn wsL_law (wsV RL 217 RX8 yX8_flip wsX8_flip) := goodIn_app (goodIn_of _ (by decide +kernel)) ggL_law_X8_flip
set_option maxRecDepth 20000 in
theorem ggL_law_L_compact : GoodIn wsL_law wsL_compact := goodIn_ca (goodIn_r _ [586, 110, 587, 588, 589, 2, 590, 116, 117, 118, 119, 120, 121, 16, 591, 592, 593, 27, 594, 67, 176, 138, 139, 140, 68, 136, 299, 300, 301, 302, 303, 304, 305, 306, 131, 66, 241, 242, 243, 244, 132, 133, 134, 135, 69, 141, 142, 143, 144, 145, 1257, 1258, 1265, 1266, 1267, 1268, 1269, 1270, 1232, 1233, 1234, 1235, 1236, 1237, 1238, 1239, 1240, 1241, 1242, 1243, 1244, 1245] (by decide +kernel) (by decide +kernel)) (goodIn_sub (fun _ h => List.mem_append_left _ (List.mem_append_left _ (List.mem_append_right _ h))) (by decide +kernel))
set_option maxRecDepth 20000 in
theorem gL_law_L_compact : GoodIn wsL_law (va_wsS RL 218 yL_compact wsL_compact) := goodIn_app (goodIn_of _ (by decide +kernel)) ggL_law_L_compact
set_option maxRecDepth 20000 in
theorem ggL_law_X8_compact : GoodIn wsL_law wsX8_compact := goodIn_r _ [598, 88, 86, 150, 151, 5, 152, 153, 154, 155, 156, 157, 158, 159, 160, 503, 504, 505, 506, 75, 181, 182, 183, 570, 571, 572, 161, 162, 163, 164, 93, 1246, 1247, 1248, 1249, 1250, 1251, 1252, 1253, 1254, 1255, 1256] (by decide +kernel) (by decide +kernel)
set_option maxRecDepth 20000 in
theorem gL_law_X8_compact : GoodIn wsL_law (wsV RL 220 RX8 yX8_compact wsX8_compact) := goodIn_app (goodIn_of _ (by decide +kernel)) ggL_law_X8_compact
