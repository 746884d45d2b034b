set_option maxRecDepth 20000 in
theorem ggL_law_X2_init : GoodIn wsL_law wsX2_init := goodIn_r _ [8, 9, 10, 11, 12, 13, 14, 15, 16, 17, 18, 19, 20, 21, 22, 23, 24, 25, 26, 27, 28, 353, 354, 355, 356, 357, 358, 359, 360, 361, 362, 363, 364, 365, 366] (by rfl) (by decide +kernel)
set_option maxRecDepth 20000 in
theorem gL_law_X2_init : GoodIn wsL_law (wsX2_init) := ggL_law_X2_init
set_option maxRecDepth 20000 in
theorem ggL_law_X3_init : GoodIn wsL_law wsX3_init := goodIn_r _ [31, 32, 10, 11, 12, 33, 34, 35, 36, 37, 38, 39, 40, 41, 42, 43, 44, 45, 46, 47, 48, 367, 368, 369, 370, 371, 372, 373, 374, 375, 376, 377, 378, 379, 380, 381, 382, 383, 384, 385, 386, 387, 388, 389, 390, 391] (by rfl) (by decide +kernel)
set_option maxRecDepth 20000 in
theorem gL_law_X3_init : GoodIn wsL_law (wsX3_init) := ggL_law_X3_init
set_option maxRecDepth 20000 in
theorem ggL_law_X2_basin : GoodIn wsL_law wsX2_basin := goodIn_r _ [52, 14, 13, 53, 54, 2, 55, 56, 353, 354, 355, 356, 357, 358, 359, 360, 361, 362, 363, 364, 365, 366] (by rfl) (by decide +kernel)
set_option maxRecDepth 20000 in
theorem gL_law_X2_basin : GoodIn wsL_law (wsV RL 13 RX2 yX2_basin wsX2_basin) := goodIn_app (goodIn_of _ (by decide +kernel)) ggL_law_X2_basin
set_option maxRecDepth 20000 in
theorem ggL_law_X3_basin : GoodIn wsL_law wsX3_basin := goodIn_r _ [60, 61, 62, 33, 63, 64, 5, 65, 367, 368, 369, 370, 371, 372, 373, 374, 375, 376, 377, 378, 379, 380, 381, 382, 383, 384, 385, 386, 387, 388, 389, 390, 391] (by rfl) (by decide +kernel)
set_option maxRecDepth 20000 in
theorem gL_law_X3_basin : GoodIn wsL_law (wsV RL 17 RX3 yX3_basin wsX3_basin) := goodIn_app (goodIn_of _ (by decide +kernel)) ggL_law_X3_basin
set_option maxRecDepth 20000 in
theorem ggL_law_X2_fill : GoodIn wsL_law wsX2_fill := goodIn_r _ [69, 13, 70, 71, 72, 2, 73, 14, 53, 54, 55, 56, 353, 354, 355, 356, 357, 358, 359, 360, 361, 362, 363, 364, 365, 366] (by rfl) (by decide +kernel)
set_option maxRecDepth 20000 in
theorem gL_law_X2_fill : GoodIn wsL_law (wsV RL 18 RX2 yX2_fill wsX2_fill) := goodIn_app (goodIn_of _ (by decide +kernel)) ggL_law_X2_fill
set_option maxRecDepth 20000 in
theorem ggL_law_X3_fill : GoodIn wsL_law wsX3_fill := goodIn_r _ [77, 61, 33, 78, 79, 80, 5, 81, 62, 63, 64, 65, 367, 368, 369, 370, 371, 372, 373, 374, 375, 376, 377, 378, 379, 380, 381, 382, 383, 384, 385, 386, 387, 388, 389, 390, 391] (by rfl) (by decide +kernel)
set_option maxRecDepth 20000 in
theorem gL_law_X3_fill : GoodIn wsL_law (wsV RL 22 RX3 yX3_fill wsX3_fill) := goodIn_app (goodIn_of _ (by decide +kernel)) ggL_law_X3_fill
set_option maxRecDepth 20000 in
theorem ggL_law_X2_moon : GoodIn wsL_law wsX2_moon := goodIn_r _ [85, 15, 353, 354, 355, 356, 357, 358, 359, 360, 361, 362, 363, 364, 365, 366] (by rfl) (by decide +kernel)
set_option maxRecDepth 20000 in
theorem gL_law_X2_moon : GoodIn wsL_law (wsV RL 23 RX2 yX2_moon wsX2_moon) := goodIn_app (goodIn_of _ (by decide +kernel)) ggL_law_X2_moon
set_option maxRecDepth 20000 in
theorem ggL_law_X3_moon : GoodIn wsL_law wsX3_moon := goodIn_r _ [89, 34, 63, 64, 5, 65, 367, 368, 369, 370, 371, 372, 373, 374, 375, 376, 377, 378, 379, 380, 381, 382, 383, 384, 385, 386, 387, 388, 389, 390, 391] (by rfl) (by decide +kernel)
set_option maxRecDepth 20000 in
theorem gL_law_X3_moon : GoodIn wsL_law (wsV RL 26 RX3 yX3_moon wsX3_moon) := goodIn_app (goodIn_of _ (by decide +kernel)) ggL_law_X3_moon
set_option maxRecDepth 20000 in
theorem ggL_law_X2_make : GoodIn wsL_law wsX2_make := goodIn_r _ [93, 19, 18, 24, 17, 94, 95, 96, 97, 98, 2, 99, 70, 71, 72, 73, 14, 13, 100, 101, 102, 103, 104, 105, 106, 107, 108, 109, 110, 111, 112, 113, 114, 115, 16, 116, 117, 118, 119, 120, 121, 122, 23, 123, 124, 125, 126, 127, 128, 129, 130, 131, 132, 133, 134, 135, 136, 137, 138, 139, 140, 141, 142, 143, 144, 145, 146, 147, 148, 149, 150, 151, 152, 153, 154, 155, 156, 157, 158, 159, 160, 161, 162, 163, 15, 164, 165, 166, 167, 168, 169, 170, 171, 172, 173, 174, 175, 176, 177, 178, 10, 11, 179, 180, 181, 182, 183, 184, 185, 186, 353, 354, 355, 356, 357, 358, 359, 360, 361, 362, 363, 364, 365, 366, 392, 393, 394, 395, 396, 397, 398, 399] (by rfl) (by decide +kernel)
set_option maxRecDepth 20000 in
theorem gL_law_X2_make : GoodIn wsL_law (wsV RL 27 RX2 yX2_make wsX2_make) := goodIn_app (goodIn_of _ (by decide +kernel)) ggL_law_X2_make
set_option maxRecDepth 20000 in
theorem ggL_law_X3_make : GoodIn wsL_law wsX3_make := goodIn_r _ [190, 191, 192, 36, 37, 39, 193, 40, 194, 195, 196, 5, 197, 78, 79, 80, 81, 62, 63, 64, 65, 198, 199, 200, 201, 202, 203, 204, 205, 206, 207, 208, 209, 210, 211, 212, 213, 214, 215, 216, 217, 218, 44, 45, 46, 47, 219, 220, 221, 222, 35, 223, 224, 225, 226, 33, 227, 228, 229, 230, 231, 232, 233, 234, 34, 235, 236, 237, 238, 239, 240, 241, 242, 243, 244, 245, 246, 247, 248, 249, 250, 251, 252, 253, 254, 255, 256, 257, 258, 367, 368, 369, 370, 371, 372, 373, 374, 375, 376, 377, 378, 379, 380, 381, 382, 383, 384, 385, 386, 387, 388, 389, 390, 391] (by rfl) (by decide +kernel)
set_option maxRecDepth 20000 in
theorem gL_law_X3_make : GoodIn wsL_law (wsV RL 31 RX3 yX3_make wsX3_make) := goodIn_app (goodIn_of _ (by decide +kernel)) ggL_law_X3_make
set_option maxRecDepth 20000 in
theorem ggL_law_X2_put : GoodIn wsL_law wsX2_put := goodIn_r _ [262, 16, 112, 113, 114, 2, 115, 100, 101, 102, 103, 104, 105, 106, 107, 18, 353, 354, 355, 356, 357, 358, 359, 360, 361, 362, 363, 364, 365, 366] (by rfl) (by decide +kernel)
set_option maxRecDepth 20000 in
theorem gL_law_X2_put : GoodIn wsL_law (wsV RL 32 RX2 yX2_put wsX2_put) := goodIn_app (goodIn_of _ (by decide +kernel)) ggL_law_X2_put
set_option maxRecDepth 20000 in
theorem ggL_law_X3_put : GoodIn wsL_law wsX3_put := goodIn_r _ [266, 35, 206, 207, 5, 208, 63, 64, 65, 198, 199, 200, 201, 202, 203, 204, 205, 191, 367, 368, 369, 370, 371, 372, 373, 374, 375, 376, 377, 378, 379, 380, 381, 382, 383, 384, 385, 386, 387, 388, 389, 390, 391] (by rfl) (by decide +kernel)
set_option maxRecDepth 20000 in
theorem gL_law_X3_put : GoodIn wsL_law (wsV RL 35 RX3 yX3_put wsX3_put) := goodIn_app (goodIn_of _ (by decide +kernel)) ggL_law_X3_put
set_option maxRecDepth 20000 in
theorem ggL_law_X2_ask : GoodIn wsL_law wsX2_ask := goodIn_r _ [270, 24, 25, 104, 105, 106, 2, 107, 18, 119, 120, 121, 122, 23, 123, 124, 125, 126, 127, 128, 129, 130, 131, 132, 133, 134, 135, 136, 137, 138, 139, 140, 141, 142, 143, 144, 145, 146, 147, 148, 149, 150, 151, 16, 112, 113, 114, 115, 152, 153, 154, 155, 156, 157, 158, 159, 13, 70, 71, 72, 73, 14, 160, 161, 162, 163, 15, 164, 165, 166, 167, 168, 169, 170, 171, 172, 173, 174, 175, 108, 109, 110, 111, 353, 354, 355, 356, 357, 358, 359, 360, 361, 362, 363, 364, 365, 366, 392, 393, 394, 395, 396, 397, 398, 399] (by rfl) (by decide +kernel)
set_option maxRecDepth 20000 in
theorem gL_law_X2_ask : GoodIn wsL_law (wsV RL 36 RX2 yX2_ask wsX2_ask) := goodIn_app (goodIn_of _ (by decide +kernel)) ggL_law_X2_ask
set_option maxRecDepth 20000 in
theorem ggL_law_X3_ask : GoodIn wsL_law wsX3_ask := goodIn_r _ [274, 192, 193, 275, 202, 203, 204, 5, 205, 191, 63, 64, 65, 209, 210, 211, 212, 213, 214, 215, 216, 217, 218, 44, 45, 46, 47, 219, 220, 221, 222, 36, 40, 35, 37, 223, 224, 225, 226, 33, 39, 227, 228, 229, 230, 231, 232, 233, 234, 34, 235, 236, 237, 238, 239, 240, 241, 242, 243, 244, 245, 246, 247, 248, 249, 250, 251, 252, 253, 254, 255, 256, 257, 258, 367, 368, 369, 370, 371, 372, 373, 374, 375, 376, 377, 378, 379, 380, 381, 382, 383, 384, 385, 386, 387, 388, 389, 390, 391] (by rfl) (by decide +kernel)
set_option maxRecDepth 20000 in
theorem gL_law_X3_ask : GoodIn wsL_law (wsV RL 39 RX3 yX3_ask wsX3_ask) := goodIn_app (goodIn_of _ (by decide +kernel)) ggL_law_X3_ask
set_option maxRecDepth 20000 in
theorem ggL_law_X2_given : GoodIn wsL_law wsX2_given := goodIn_r _ [279, 25, 353, 354, 355, 356, 357, 358, 359, 360, 361, 362, 363, 364, 365, 366] (by rfl) (by decide +kernel)
set_option maxRecDepth 20000 in
theorem gL_law_X2_given : GoodIn wsL_law (wsV RL 40 RX2 yX2_given wsX2_given) := goodIn_app (goodIn_of _ (by decide +kernel)) ggL_law_X2_given
set_option maxRecDepth 20000 in
theorem ggL_law_X3_given : GoodIn wsL_law wsX3_given := goodIn_r _ [283, 275, 367, 368, 369, 370, 371, 372, 373, 374, 375, 376, 377, 378, 379, 380, 381, 382, 383, 384, 385, 386, 387, 388, 389, 390, 391] (by rfl) (by decide +kernel)
set_option maxRecDepth 20000 in
theorem gL_law_X3_given : GoodIn wsL_law (wsV RL 44 RX3 yX3_given wsX3_given) := goodIn_app (goodIn_of _ (by decide +kernel)) ggL_law_X3_given
set_option maxRecDepth 20000 in
theorem ggL_law_X2_sluice : GoodIn wsL_law wsX2_sluice := goodIn_r _ [287, 22, 21, 20, 288, 289, 70, 71, 72, 2, 73, 14, 13, 104, 105, 106, 107, 18, 290, 291, 292, 10, 11, 293, 294, 295, 353, 354, 355, 356, 357, 358, 359, 360, 361, 362, 363, 364, 365, 366, 400, 401, 402] (by rfl) (by decide +kernel)
set_option maxRecDepth 20000 in
theorem gL_law_X2_sluice : GoodIn wsL_law (wsV RL 45 RX2 yX2_sluice wsX2_sluice) := goodIn_app (goodIn_of _ (by decide +kernel)) ggL_law_X2_sluice
set_option maxRecDepth 20000 in
theorem ggL_law_X3_sluice : GoodIn wsL_law wsX3_sluice := goodIn_r _ [299, 300, 41, 42, 43, 78, 79, 80, 5, 81, 62, 63, 64, 65, 202, 203, 204, 205, 191, 367, 368, 369, 370, 371, 372, 373, 374, 375, 376, 377, 378, 379, 380, 381, 382, 383, 384, 385, 386, 387, 388, 389, 390, 391] (by rfl) (by decide +kernel)
set_option maxRecDepth 20000 in
theorem gL_law_X3_sluice : GoodIn wsL_law (wsV RL 49 RX3 yX3_sluice wsX3_sluice) := goodIn_app (goodIn_of _ (by decide +kernel)) ggL_law_X3_sluice
set_option maxRecDepth 20000 in
theorem ggL_law_X2_run : GoodIn wsL_law wsX2_run := goodIn_r _ [304, 26, 27, 28, 305, 306, 307, 2, 308, 21, 24, 119, 120, 121, 122, 23, 123, 124, 125, 126, 127, 128, 129, 130, 131, 132, 133, 134, 135, 136, 137, 104, 105, 106, 107, 18, 138, 139, 140, 141, 142, 143, 144, 145, 146, 147, 148, 149, 150, 151, 16, 112, 113, 114, 115, 152, 153, 154, 155, 156, 157, 158, 159, 13, 70, 71, 72, 73, 14, 160, 161, 162, 163, 15, 164, 165, 166, 167, 168, 169, 170, 171, 172, 173, 174, 175, 108, 109, 110, 111, 309, 310, 311, 312, 56, 313, 314, 315, 316, 67, 68, 69, 53, 54, 55, 353, 354, 355, 356, 357, 358, 359, 360, 361, 362, 363, 364, 365, 366, 400, 401, 402, 392, 393, 394, 395, 396, 397, 398, 399] (by rfl) (by decide +kernel)
set_option maxRecDepth 20000 in
theorem gL_law_X2_run : GoodIn wsL_law (wsV RL 50 RX2 yX2_run wsX2_run) := goodIn_app (goodIn_of _ (by decide +kernel)) ggL_law_X2_run
set_option maxRecDepth 20000 in
theorem ggL_law_X3_run : GoodIn wsL_law wsX3_run := goodIn_r _ [320, 48, 321, 322, 300, 63, 64, 5, 65, 323, 324, 325, 326, 43, 192, 61, 33, 42, 41, 193, 209, 210, 211, 212, 213, 214, 215, 216, 217, 218, 44, 45, 46, 47, 219, 220, 221, 222, 36, 40, 35, 37, 223, 224, 225, 226, 39, 227, 228, 229, 230, 231, 232, 233, 234, 34, 235, 236, 237, 238, 239, 240, 241, 242, 243, 244, 245, 246, 247, 248, 249, 250, 251, 252, 253, 254, 255, 256, 257, 258, 367, 368, 369, 370, 371, 372, 373, 374, 375, 376, 377, 378, 379, 380, 381, 382, 383, 384, 385, 386, 387, 388, 389, 390, 391] (by rfl) (by decide +kernel)
set_option maxRecDepth 20000 in
theorem gL_law_X3_run : GoodIn wsL_law (wsV RL 53 RX3 yX3_run wsX3_run) := goodIn_app (goodIn_of _ (by decide +kernel)) ggL_law_X3_run
set_option maxRecDepth 20000 in
theorem ggL_law_X2_told : GoodIn wsL_law wsX2_told := goodIn_r _ [330, 26, 27, 28, 353, 354, 355, 356, 357, 358, 359, 360, 361, 362, 363, 364, 365, 366] (by rfl) (by decide +kernel)
set_option maxRecDepth 20000 in
theorem gL_law_X2_told : GoodIn wsL_law (wsV RL 54 RX2 yX2_told wsX2_told) := goodIn_app (goodIn_of _ (by decide +kernel)) ggL_law_X2_told
set_option maxRecDepth 20000 in
theorem ggL_law_X3_told : GoodIn wsL_law wsX3_told := goodIn_r _ [334, 48, 321, 322, 367, 368, 369, 370, 371, 372, 373, 374, 375, 376, 377, 378, 379, 380, 381, 382, 383, 384, 385, 386, 387, 388, 389, 390, 391] (by rfl) (by decide +kernel)
set_option maxRecDepth 20000 in
theorem gL_law_X3_told : GoodIn wsL_law (wsV RL 57 RX3 yX3_told wsX3_told) := goodIn_app (goodIn_of _ (by decide +kernel)) ggL_law_X3_told
set_option maxRecDepth 20000 in
theorem ggL_law_X2_level : GoodIn wsL_law wsX2_level := goodIn_r _ [159, 13, 70, 71, 72, 2, 73, 14, 353, 354, 355, 356, 357, 358, 359, 360, 361, 362, 363, 364, 365, 366] (by rfl) (by decide +kernel)
set_option maxRecDepth 20000 in
theorem gL_law_X2_level : GoodIn wsL_law (wsV RL 58 RX2 yX2_level wsX2_level) := goodIn_app (goodIn_of _ (by decide +kernel)) ggL_law_X2_level
set_option maxRecDepth 20000 in
theorem ggL_law_X3_level : GoodIn wsL_law wsX3_level := goodIn_r _ [339, 33, 78, 79, 80, 5, 81, 62, 63, 64, 65, 367, 368, 369, 370, 371, 372, 373, 374, 375, 376, 377, 378, 379, 380, 381, 382, 383, 384, 385, 386, 387, 388, 389, 390, 391] (by rfl) (by decide +kernel)
set_option maxRecDepth 20000 in
theorem gL_law_X3_level : GoodIn wsL_law (wsV RL 61 RX3 yX3_level wsX3_level) := goodIn_app (goodIn_of _ (by decide +kernel)) ggL_law_X3_level
set_option maxRecDepth 20000 in
theorem ggL_law_X2_counted : GoodIn wsL_law wsX2_counted := goodIn_r _ [175, 108, 109, 110, 2, 111, 104, 105, 106, 107, 18, 392, 393, 394, 395, 396, 397, 398, 399, 353, 354, 355, 356, 357, 358, 359, 360, 361, 362, 363, 364, 365, 366] (by rfl) (by decide +kernel)
set_option maxRecDepth 20000 in
theorem gL_law_X2_counted : GoodIn wsL_law (wsV RL 62 RX2 yX2_counted wsX2_counted) := goodIn_app (goodIn_of _ (by decide +kernel)) ggL_law_X2_counted
set_option maxRecDepth 20000 in
theorem ggL_law_X3_counted : GoodIn wsL_law wsX3_counted := goodIn_r _ [344, 36, 40, 202, 203, 204, 5, 205, 191, 63, 64, 65, 367, 368, 369, 370, 371, 372, 373, 374, 375, 376, 377, 378, 379, 380, 381, 382, 383, 384, 385, 386, 387, 388, 389, 390, 391] (by rfl) (by decide +kernel)
set_option maxRecDepth 20000 in
theorem gL_law_X3_counted : GoodIn wsL_law (wsV RL 65 RX3 yX3_counted wsX3_counted) := goodIn_app (goodIn_of _ (by decide +kernel)) ggL_law_X3_counted
set_option maxRecDepth 20000 in
theorem ggL_law_X2_count : GoodIn wsL_law wsX2_count := goodIn_r _ [348, 14, 19, 22, 23, 16, 112, 113, 114, 2, 115, 353, 354, 355, 356, 357, 358, 359, 360, 361, 362, 363, 364, 365, 366] (by rfl) (by decide +kernel)
set_option maxRecDepth 20000 in
theorem gL_law_X2_count : GoodIn wsL_law (wsV RL 66 RX2 yX2_count wsX2_count) := goodIn_app (goodIn_of _ (by decide +kernel)) ggL_law_X2_count
set_option maxRecDepth 20000 in
theorem ggL_law_X3_count : GoodIn wsL_law wsX3_count := goodIn_r _ [352, 35, 62, 191, 300, 213, 63, 64, 5, 65, 367, 368, 369, 370, 371, 372, 373, 374, 375, 376, 377, 378, 379, 380, 381, 382, 383, 384, 385, 386, 387, 388, 389, 390, 391] (by rfl) (by decide +kernel)
set_option maxRecDepth 20000 in
theorem gL_law_X3_count : GoodIn wsL_law (wsV RL 69 RX3 yX3_count wsX3_count) := goodIn_app (goodIn_of _ (by decide +kernel)) ggL_law_X3_count
