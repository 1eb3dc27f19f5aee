theorem inlX0 : ∀ w ∈ wsX00, w ∈ wsL_law := fun _ h => List.mem_append_left _ (List.mem_append_left _ (List.mem_append_left _ (List.mem_append_right _ h)))
theorem inlX2 : ∀ w ∈ wsX20, w ∈ wsL_law := fun _ h => List.mem_append_left _ (List.mem_append_left _ (List.mem_append_right _ h))
theorem inlX3 : ∀ w ∈ wsX30, w ∈ wsL_law := fun _ h => List.mem_append_left _ (List.mem_append_left _ (List.mem_append_left _ (List.mem_append_left _ (List.mem_append_left _ (List.mem_append_right _ h)))))
theorem inlX4 : ∀ w ∈ wsX40, w ∈ wsL_law := fun _ h => List.mem_append_left _ (List.mem_append_right _ h)
theorem inlX5 : ∀ w ∈ wsX50, w ∈ wsL_law := fun _ h => List.mem_append_left _ (List.mem_append_left _ (List.mem_append_left _ (List.mem_append_left _ (List.mem_append_right _ h))))
set_option maxRecDepth 20000 in
theorem ggL_law_X3_init : GoodIn wsL_law wsX3_init := goodIn_r _ [8, 9, 10, 11, 12, 13, 14, 15, 16, 17, 18, 19, 20, 21, 22, 23, 24, 25, 26, 27, 28, 29, 30, 31, 32, 33, 34, 35, 36, 37, 38, 39, 40, 41, 42, 43, 44, 45, 46, 47, 48, 49, 50, 375, 376, 377, 378, 379, 380, 381, 389, 390, 391, 392, 393, 394, 395, 396, 397, 398, 399, 400, 401, 402, 403, 404] (by decide +kernel) (by decide +kernel)
set_option maxRecDepth 20000 in
theorem gL_law_X3_init : GoodIn wsL_law (wsX3_init) := ggL_law_X3_init
set_option maxRecDepth 20000 in
theorem ggL_law_X5_init : GoodIn wsL_law wsX5_init := goodIn_r _ [53, 54, 10, 11, 55, 13, 56, 15, 57, 58, 59, 60, 61, 62, 5, 63, 64, 65, 66, 67, 68, 69, 70, 382, 383, 384, 385, 386, 387, 388, 405, 406, 407, 408] (by decide +kernel) (by decide +kernel)
set_option maxRecDepth 20000 in
theorem gL_law_X5_init : GoodIn wsL_law (wsX5_init) := ggL_law_X5_init
set_option maxRecDepth 20000 in
theorem ggL_law_X3_begin : GoodIn wsL_law wsX3_begin := goodIn_r _ [74, 14, 26, 27, 75, 76, 77, 78, 375, 376, 377, 378, 379, 380, 381] (by decide +kernel) (by decide +kernel)
set_option maxRecDepth 20000 in
theorem gL_law_X3_begin : GoodIn wsL_law (wsV RL 13 RX3 yX3_begin wsX3_begin) := goodIn_app (goodIn_of _ (by decide +kernel)) ggL_law_X3_begin
set_option maxRecDepth 20000 in
theorem ggL_law_X5_begin : GoodIn wsL_law wsX5_begin := goodIn_r _ [82, 55, 56, 83, 382, 383, 384, 385, 386, 387, 388] (by decide +kernel) (by decide +kernel)
set_option maxRecDepth 20000 in
theorem gL_law_X5_begin : GoodIn wsL_law (wsV RL 17 RX5 yX5_begin wsX5_begin) := goodIn_app (goodIn_of _ (by decide +kernel)) ggL_law_X5_begin
set_option maxRecDepth 20000 in
theorem ggL_law_X3_put : GoodIn wsL_law wsX3_put := goodIn_r _ [87, 14, 88, 89, 90, 2, 91, 26, 375, 376, 377, 378, 379, 380, 381] (by decide +kernel) (by decide +kernel)
set_option maxRecDepth 20000 in
theorem gL_law_X3_put : GoodIn wsL_law (wsV RL 18 RX3 yX3_put wsX3_put) := goodIn_app (goodIn_of _ (by decide +kernel)) ggL_law_X3_put
set_option maxRecDepth 20000 in
theorem ggL_law_X5_put : GoodIn wsL_law wsX5_put := goodIn_r _ [95, 56, 55, 96, 97, 98, 5, 99, 382, 383, 384, 385, 386, 387, 388] (by decide +kernel) (by decide +kernel)
set_option maxRecDepth 20000 in
theorem gL_law_X5_put : GoodIn wsL_law (wsV RL 22 RX5 yX5_put wsX5_put) := goodIn_app (goodIn_of _ (by decide +kernel)) ggL_law_X5_put
set_option maxRecDepth 20000 in
theorem ggL_law_X3_get : GoodIn wsL_law wsX3_get := goodIn_r _ [103, 14, 88, 89, 90, 2, 91, 26, 375, 376, 377, 378, 379, 380, 381] (by decide +kernel) (by decide +kernel)
set_option maxRecDepth 20000 in
theorem gL_law_X3_get : GoodIn wsL_law (wsV RL 23 RX3 yX3_get wsX3_get) := goodIn_app (goodIn_of _ (by decide +kernel)) ggL_law_X3_get
set_option maxRecDepth 20000 in
theorem ggL_law_X5_get : GoodIn wsL_law wsX5_get := goodIn_r _ [107, 56, 55, 96, 97, 98, 5, 99, 382, 383, 384, 385, 386, 387, 388] (by decide +kernel) (by decide +kernel)
set_option maxRecDepth 20000 in
theorem gL_law_X5_get : GoodIn wsL_law (wsV RL 27 RX5 yX5_get wsX5_get) := goodIn_app (goodIn_of _ (by decide +kernel)) ggL_law_X5_get
set_option maxRecDepth 20000 in
theorem ggL_law_X3_solve : GoodIn wsL_law wsX3_solve := goodIn_r _ [111, 27, 21, 14, 26, 25, 16, 17, 112, 113, 114, 20, 115, 36, 116, 117, 118, 119, 37, 120, 121, 122, 123, 32, 124, 125, 126, 127, 128, 129, 130, 77, 131, 132, 133, 134, 135, 136, 137, 138, 139, 140, 141, 142, 143, 144, 145, 146, 33, 34, 38, 39, 147, 148, 149, 150, 40, 41, 151, 152, 153, 154, 155, 156, 157, 158, 159, 160, 161, 162, 163, 164, 165, 166, 167, 168, 169, 170, 171, 172, 173, 174, 175, 176, 177, 178, 179, 180, 181, 182, 183, 184, 185, 186, 187, 188, 189, 190, 191, 192, 193, 194, 195, 196, 35, 197, 198, 199, 200, 201, 202, 203, 204, 205, 206, 207, 208, 209, 210, 211, 212, 213, 214, 215, 216, 217, 218, 219, 220, 221, 222, 223, 224, 225, 226, 227, 228, 229, 230, 24, 231, 49, 50, 45, 46, 232, 233, 234, 235, 236, 237, 238, 239, 240, 241, 242, 243, 244, 245, 246, 247, 248, 249, 250, 251, 252, 47, 48, 253, 254, 255, 256, 257, 258, 259, 260, 261, 262, 263, 264, 265, 266, 267, 268, 269, 270, 271, 272, 273, 375, 376, 377, 378, 379, 380, 381, 399, 400, 401, 402, 403, 404, 389, 390, 391, 392, 393, 394, 395, 396, 397, 398] (by decide +kernel) (by decide +kernel)
set_option maxRecDepth 20000 in
theorem gL_law_X3_solve : GoodIn wsL_law (wsV RL 28 RX3 yX3_solve wsX3_solve) := goodIn_app (goodIn_of _ (by decide +kernel)) ggL_law_X3_solve
set_option maxRecDepth 20000 in
theorem ggL_law_X5_solve : GoodIn wsL_law wsX5_solve := goodIn_r _ [277, 83, 55, 59, 56, 278, 279, 280, 66, 281, 282, 283, 284, 70, 285, 286, 287, 5, 288, 60, 289, 290, 291, 292, 293, 294, 295, 296, 297, 298, 299, 300, 301, 302, 303, 304, 305, 306, 148, 149, 150, 307, 308, 309, 310, 311, 312, 313, 314, 315, 316, 317, 318, 319, 320, 321, 322, 323, 324, 325, 326, 327, 328, 329, 330, 331, 332, 333, 334, 335, 336, 337, 338, 339, 340, 341, 342, 343, 344, 345, 346, 347, 57, 348, 58, 349, 350, 351, 352, 353, 354, 382, 383, 384, 385, 386, 387, 388, 405, 406, 407, 408] (by decide +kernel) (by decide +kernel)
set_option maxRecDepth 20000 in
theorem gL_law_X5_solve : GoodIn wsL_law (wsV RL 32 RX5 yX5_solve wsX5_solve) := goodIn_app (goodIn_of _ (by decide +kernel)) ggL_law_X5_solve
set_option maxRecDepth 20000 in
theorem ggL_law_X3_above : GoodIn wsL_law wsX3_above := goodIn_r _ [358, 16, 359, 360, 361, 2, 362, 27, 26, 375, 376, 377, 378, 379, 380, 381] (by decide +kernel) (by decide +kernel)
set_option maxRecDepth 20000 in
theorem gL_law_X3_above : GoodIn wsL_law (wsV RL 33 RX3 yX3_above wsX3_above) := goodIn_app (goodIn_of _ (by decide +kernel)) ggL_law_X3_above
set_option maxRecDepth 20000 in
theorem ggL_law_X5_above : GoodIn wsL_law wsX5_above := goodIn_r _ [366, 83, 55, 57, 382, 383, 384, 385, 386, 387, 388] (by decide +kernel) (by decide +kernel)
set_option maxRecDepth 20000 in
theorem gL_law_X5_above : GoodIn wsL_law (wsV RL 37 RX5 yX5_above wsX5_above) := goodIn_app (goodIn_of _ (by decide +kernel)) ggL_law_X5_above
set_option maxRecDepth 20000 in
theorem ggL_law_X3_under : GoodIn wsL_law wsX3_under := goodIn_r _ [370, 17, 359, 360, 361, 2, 362, 27, 26, 375, 376, 377, 378, 379, 380, 381] (by decide +kernel) (by decide +kernel)
set_option maxRecDepth 20000 in
theorem gL_law_X3_under : GoodIn wsL_law (wsV RL 38 RX3 yX3_under wsX3_under) := goodIn_app (goodIn_of _ (by decide +kernel)) ggL_law_X3_under
set_option maxRecDepth 20000 in
theorem ggL_law_X5_under : GoodIn wsL_law wsX5_under := goodIn_r _ [374, 83, 55, 58, 382, 383, 384, 385, 386, 387, 388] (by decide +kernel) (by decide +kernel)
set_option maxRecDepth 20000 in
theorem gL_law_X5_under : GoodIn wsL_law (wsV RL 41 RX5 yX5_under wsX5_under) := goodIn_app (goodIn_of _ (by decide +kernel)) ggL_law_X5_under
