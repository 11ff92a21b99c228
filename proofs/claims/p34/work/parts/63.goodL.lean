set_option maxRecDepth 20000 in
theorem ggL_law_X7_init : GoodIn wsL_law wsX7_init := goodIn_r _ [7, 8, 9, 10, 11, 12, 13, 14, 15, 16, 17, 18, 19, 20, 21, 22, 23, 24, 25, 26, 27, 28, 29, 30, 31, 32, 33, 34, 35, 36, 37, 38, 39, 40, 41, 42, 43, 44, 3, 45, 46, 47, 48, 49, 50, 51, 52, 53, 54, 55, 56, 57, 58, 59, 60, 61, 62, 63, 64, 65, 66, 67, 68, 69, 70, 71, 72, 73, 74, 75, 76, 77, 78, 79, 80, 81, 82, 83, 84, 85, 86, 87, 88, 89, 90, 91, 92, 93, 94, 95, 96, 97, 98, 99, 100, 101, 102, 103, 104, 105, 106, 107, 108, 109, 110, 111, 112, 113, 114, 115, 116, 402, 403, 404, 405, 406, 407, 408, 409, 410, 411, 412, 413, 414, 415, 416, 417, 418, 419, 420, 421, 422, 423, 424, 425, 426, 427, 428, 429, 430, 431, 432, 433, 434, 435, 436, 437, 438, 439, 440, 441, 442, 443, 444, 445, 446, 447, 448, 449, 450, 451, 452, 453, 454, 455, 456, 457, 458] (by decide +kernel) (by decide +kernel)
set_option maxRecDepth 20000 in
theorem gL_law_X7_init : GoodIn wsL_law (wsX7_init) := ggL_law_X7_init
set_option maxRecDepth 20000 in
theorem ggL_law_L_put : GoodIn wsL_law wsL_put := goodIn_r _ [120, 121, 122, 119, 123, 124, 125, 126, 127, 128, 129, 130, 131, 2, 132, 40, 12, 133, 134, 135, 136, 137, 138, 139, 140, 141, 142, 143, 144, 145, 146, 147, 148, 14, 149, 46, 47, 45, 150, 151, 152, 153, 154, 155, 156, 157, 158, 159, 160, 161, 162, 163, 164, 165, 402, 403, 404, 405, 406, 407, 408, 409, 410, 411, 412, 413] (by decide +kernel) (by decide +kernel)
set_option maxRecDepth 20000 in
theorem gL_law_L_put : GoodIn wsL_law (va_wsS RL 43 yL_put wsL_put) := goodIn_app (goodIn_of _ (by decide +kernel)) ggL_law_L_put
set_option maxRecDepth 20000 in
theorem ggL_law_X7_plain : GoodIn wsL_law wsX7_plain := goodIn_r _ [169, 40, 12, 18, 22, 170, 26, 171, 172, 133, 134, 2, 135, 136, 137, 138, 139, 140, 141, 173, 174, 175, 14, 176, 46, 177, 155, 156, 157, 47, 178, 159, 160, 161, 142, 143, 144, 145, 179, 180, 17, 181, 182, 183, 184, 185, 45, 186, 187, 188, 189, 190, 191, 192, 193, 194, 195, 196, 55, 52, 53, 54, 56, 57, 58, 402, 403, 404, 405, 406, 407, 408, 409, 410, 421, 422, 423, 424, 425, 426, 427, 428, 429, 414, 415, 416, 417, 418, 419, 420, 411, 412, 413] (by decide +kernel) (by decide +kernel)
set_option maxRecDepth 20000 in
theorem gL_law_X7_plain : GoodIn wsL_law (wsV RL 46 RX7 yX7_plain wsX7_plain) := goodIn_app (goodIn_of _ (by decide +kernel)) ggL_law_X7_plain
set_option maxRecDepth 20000 in
theorem ggL_law_L_clouds : GoodIn wsL_law wsL_clouds := goodIn_r _ [199, 121, 122, 119, 123, 124, 125, 126, 127, 128, 200, 201, 202, 2, 203, 18, 172, 22, 170, 136, 137, 138, 204, 205, 206, 21, 207, 66, 63, 64, 65, 402, 403, 404, 405, 406, 407, 408, 409, 410, 414, 415, 416, 417, 418, 419, 420, 421, 422, 423, 424] (by decide +kernel) (by decide +kernel)
set_option maxRecDepth 20000 in
theorem gL_law_L_clouds : GoodIn wsL_law (va_wsS RL 49 yL_clouds wsL_clouds) := goodIn_app (goodIn_of _ (by decide +kernel)) ggL_law_L_clouds
set_option maxRecDepth 20000 in
theorem ggL_law_L_cell : GoodIn wsL_law wsL_cell := goodIn_r _ [123, 124] (by decide +kernel) (by decide +kernel)
set_option maxRecDepth 20000 in
theorem gL_law_L_cell : GoodIn wsL_law (va_wsS RL 9 yL_cell wsL_cell) := goodIn_app (goodIn_of _ (by decide +kernel)) ggL_law_L_cell
set_option maxRecDepth 20000 in
theorem ggL_law_L_change : GoodIn wsL_law wsL_change := goodIn_r _ [210, 125, 126, 119, 127, 128, 211, 212, 213, 2, 214, 18, 172, 215, 216, 217, 218, 219, 220, 136, 137, 138, 402, 403, 404, 405, 406, 407, 408, 409, 410, 414, 415, 416, 417, 418, 419, 420] (by decide +kernel) (by decide +kernel)
set_option maxRecDepth 20000 in
theorem gL_law_L_change : GoodIn wsL_law (va_wsS RL 53 yL_change wsL_change) := goodIn_app (goodIn_of _ (by decide +kernel)) ggL_law_L_change
set_option maxRecDepth 20000 in
theorem ggL_law_L_shoot : GoodIn wsL_law wsL_shoot := goodIn_r _ [223, 125, 126, 119, 127, 128, 224, 225, 226, 2, 227, 18, 26, 171, 228, 229, 230, 17, 231, 55, 232, 233, 234, 136, 137, 138, 235, 236, 237, 238, 239, 240, 241, 242, 243, 25, 244, 71, 72, 73, 74, 402, 403, 404, 405, 406, 407, 408, 409, 410, 425, 426, 427, 428, 429, 414, 415, 416, 417, 418, 419, 420] (by decide +kernel) (by decide +kernel)
set_option maxRecDepth 20000 in
theorem gL_law_L_shoot : GoodIn wsL_law (va_wsS RL 57 yL_shoot wsL_shoot) := goodIn_app (goodIn_of _ (by decide +kernel)) ggL_law_L_shoot
set_option maxRecDepth 20000 in
theorem ggL_law_L_day : GoodIn wsL_law wsL_day := goodIn_r _ [247] (by decide +kernel) (by decide +kernel)
set_option maxRecDepth 20000 in
theorem gL_law_L_day : GoodIn wsL_law (va_wsS RL 61 yL_day wsL_day) := goodIn_app (goodIn_of _ (by decide +kernel)) ggL_law_L_day
set_option maxRecDepth 20000 in
theorem ggL_law_X7_fell : GoodIn wsL_law wsX7_fell := goodIn_r _ [251, 18, 30, 252, 253, 228, 229, 230, 17, 231, 55, 235, 236, 2, 237, 136, 137, 138, 254, 255, 256, 29, 257, 85, 258, 87, 259, 260, 261, 262, 263, 264, 194, 195, 196, 265, 266, 267, 268, 269, 86, 270, 80, 271, 81, 82, 83, 84, 272, 273, 274, 275, 276, 277, 278, 279, 280, 21, 281, 63, 282, 283, 284, 285, 286, 287, 288, 289, 290, 291, 292, 293, 294, 295, 296, 25, 297, 71, 74, 402, 403, 404, 405, 406, 407, 408, 409, 410, 430, 431, 432, 433, 434, 435, 436, 437, 414, 415, 416, 417, 418, 419, 420, 425, 426, 427, 428, 429, 421, 422, 423, 424] (by decide +kernel) (by decide +kernel)
set_option maxRecDepth 20000 in
theorem gL_law_X7_fell : GoodIn wsL_law (wsV RL 65 RX7 yX7_fell wsX7_fell) := goodIn_app (goodIn_of _ (by decide +kernel)) ggL_law_X7_fell
set_option maxRecDepth 20000 in
theorem ggL_law_X7_ofCloud : GoodIn wsL_law wsX7_ofCloud := goodIn_r _ [301, 22, 18, 215, 302, 30, 303, 304, 305, 306, 21, 307, 66, 235, 236, 2, 237, 136, 137, 138, 308, 279, 280, 281, 63, 254, 255, 256, 29, 257, 85, 258, 87, 259, 260, 261, 262, 263, 264, 194, 195, 196, 265, 266, 267, 268, 269, 86, 270, 80, 271, 81, 82, 83, 84, 272, 273, 274, 275, 276, 277, 278, 282, 229, 230, 17, 231, 55, 283, 284, 285, 286, 287, 288, 289, 290, 291, 292, 293, 294, 295, 296, 25, 297, 71, 74, 402, 403, 404, 405, 406, 407, 408, 409, 410, 414, 415, 416, 417, 418, 419, 420, 421, 422, 423, 424, 430, 431, 432, 433, 434, 435, 436, 437, 425, 426, 427, 428, 429] (by decide +kernel) (by decide +kernel)
set_option maxRecDepth 20000 in
theorem gL_law_X7_ofCloud : GoodIn wsL_law (wsV RL 68 RX7 yX7_ofCloud wsX7_ofCloud) := goodIn_app (goodIn_of _ (by decide +kernel)) ggL_law_X7_ofCloud
set_option maxRecDepth 20000 in
theorem ggL_law_X7_yields : GoodIn wsL_law wsX7_yields := goodIn_r _ [312, 18, 30, 228, 229, 230, 17, 231, 55, 254, 255, 256, 29, 257, 85, 258, 87, 259, 260, 261, 262, 263, 264, 194, 195, 196, 265, 266, 267, 268, 269, 86, 270, 80, 271, 81, 82, 83, 84, 272, 273, 274, 275, 276, 277, 278, 279, 280, 21, 281, 63, 282, 283, 284, 285, 286, 287, 288, 289, 290, 291, 292, 293, 294, 295, 296, 25, 297, 71, 74, 313, 314, 315, 316, 317, 318, 319, 320, 321, 402, 403, 404, 405, 406, 407, 408, 409, 410, 414, 415, 416, 417, 418, 419, 420, 430, 431, 432, 433, 434, 435, 436, 437, 425, 426, 427, 428, 429, 421, 422, 423, 424] (by decide +kernel) (by decide +kernel)
set_option maxRecDepth 20000 in
theorem gL_law_X7_yields : GoodIn wsL_law (wsV RL 71 RX7 yX7_yields wsX7_yields) := goodIn_app (goodIn_of _ (by decide +kernel)) ggL_law_X7_yields
set_option maxRecDepth 20000 in
theorem ggL_law_L_brings : GoodIn wsL_law wsL_brings := goodIn_r _ [324] (by decide +kernel) (by decide +kernel)
set_option maxRecDepth 20000 in
theorem gL_law_L_brings : GoodIn wsL_law (va_wsS RL 38 yL_brings wsL_brings) := goodIn_app (goodIn_of _ (by decide +kernel)) ggL_law_L_brings
set_option maxRecDepth 20000 in
theorem ggL_law_X7_harvest : GoodIn wsL_law wsX7_harvest := goodIn_r _ [328, 30, 329, 330, 2, 331, 136, 137, 138, 254, 255, 256, 29, 257, 85, 258, 87, 259, 260, 261, 262, 263, 264, 194, 195, 196, 265, 266, 267, 268, 269, 86, 270, 80, 271, 81, 82, 83, 84, 272, 273, 274, 275, 276, 277, 278, 279, 280, 21, 281, 63, 282, 229, 230, 17, 231, 55, 283, 284, 285, 286, 287, 288, 289, 290, 291, 292, 293, 294, 295, 296, 25, 297, 71, 74, 332, 333, 334, 335, 336, 337, 338, 339, 340, 52, 341, 314, 315, 316, 317, 318, 319, 320, 321, 402, 403, 404, 405, 406, 407, 408, 409, 410, 430, 431, 432, 433, 434, 435, 436, 437, 414, 415, 416, 417, 418, 419, 420, 425, 426, 427, 428, 429, 421, 422, 423, 424] (by decide +kernel) (by decide +kernel)
set_option maxRecDepth 20000 in
theorem gL_law_X7_harvest : GoodIn wsL_law (wsV RL 75 RX7 yX7_harvest wsX7_harvest) := goodIn_app (goodIn_of _ (by decide +kernel)) ggL_law_X7_harvest
set_option maxRecDepth 20000 in
theorem ggL_law_L_all : GoodIn wsL_law wsL_all := goodIn_r _ [344, 322, 323, 119, 324] (by decide +kernel) (by decide +kernel)
set_option maxRecDepth 20000 in
theorem gL_law_L_all : GoodIn wsL_law (va_wsS RL 78 yL_all wsL_all) := goodIn_app (goodIn_of _ (by decide +kernel)) ggL_law_L_all
set_option maxRecDepth 20000 in
theorem ggL_law_X7_by : GoodIn wsL_law wsX7_by := goodIn_r _ [348, 26, 30, 349, 350, 351, 352, 353, 25, 354, 75, 136, 137, 2, 138, 254, 255, 256, 29, 257, 85, 258, 87, 259, 260, 261, 262, 263, 264, 194, 195, 196, 265, 266, 267, 268, 269, 86, 270, 80, 271, 81, 82, 83, 84, 272, 273, 274, 275, 276, 277, 278, 279, 280, 21, 281, 63, 282, 229, 230, 17, 231, 55, 283, 284, 285, 286, 287, 288, 289, 290, 291, 292, 293, 294, 295, 296, 297, 71, 74, 402, 403, 404, 405, 406, 407, 408, 409, 410, 430, 431, 432, 433, 434, 435, 436, 437, 425, 426, 427, 428, 429, 414, 415, 416, 417, 418, 419, 420, 421, 422, 423, 424] (by decide +kernel) (by decide +kernel)
set_option maxRecDepth 20000 in
theorem gL_law_X7_by : GoodIn wsL_law (wsV RL 81 RX7 yX7_by wsX7_by) := goodIn_app (goodIn_of _ (by decide +kernel)) ggL_law_X7_by
set_option maxRecDepth 20000 in
theorem ggL_law_X7_brought : GoodIn wsL_law wsX7_brought := goodIn_r _ [358, 26, 359, 34, 351, 352, 353, 25, 354, 75, 329, 330, 2, 331, 136, 137, 138, 360, 361, 362, 33, 363, 98, 364, 255, 256, 29, 257, 85, 258, 87, 259, 260, 261, 262, 263, 264, 194, 195, 196, 265, 266, 267, 268, 269, 86, 270, 80, 271, 81, 82, 83, 84, 272, 273, 274, 275, 276, 277, 278, 279, 280, 21, 281, 63, 282, 229, 230, 17, 231, 55, 283, 284, 285, 286, 287, 288, 289, 290, 291, 292, 293, 294, 295, 296, 297, 71, 74, 365, 333, 334, 335, 336, 337, 338, 339, 340, 52, 341, 314, 315, 316, 317, 318, 319, 320, 321, 366, 367, 368, 369, 96, 370, 97, 371, 372, 402, 403, 404, 405, 406, 407, 408, 409, 410, 425, 426, 427, 428, 429, 438, 439, 440, 441, 442, 443, 444, 430, 431, 432, 433, 434, 435, 436, 437, 414, 415, 416, 417, 418, 419, 420, 421, 422, 423, 424] (by decide +kernel) (by decide +kernel)
set_option maxRecDepth 20000 in
theorem gL_law_X7_brought : GoodIn wsL_law (wsV RL 84 RX7 yX7_brought wsX7_brought) := goodIn_app (goodIn_of _ (by decide +kernel)) ggL_law_X7_brought
set_option maxRecDepth 20000 in
theorem ggL_law_X7_due : GoodIn wsL_law wsX7_due := goodIn_r _ [376, 26, 34, 377, 320, 195, 321, 351, 352, 353, 25, 354, 75, 329, 330, 2, 331, 136, 137, 138, 360, 361, 362, 33, 363, 98, 364, 255, 256, 29, 257, 85, 258, 87, 259, 260, 261, 262, 263, 264, 194, 196, 265, 266, 267, 268, 269, 86, 270, 80, 271, 81, 82, 83, 84, 272, 273, 274, 275, 276, 277, 278, 279, 280, 21, 281, 63, 282, 229, 230, 17, 231, 55, 283, 284, 285, 286, 287, 288, 289, 290, 291, 292, 293, 294, 295, 296, 297, 71, 74, 365, 333, 334, 335, 336, 337, 338, 339, 340, 52, 341, 314, 315, 316, 317, 318, 319, 366, 367, 368, 369, 96, 370, 97, 371, 372, 402, 403, 404, 405, 406, 407, 408, 409, 410, 425, 426, 427, 428, 429, 438, 439, 440, 441, 442, 443, 444, 430, 431, 432, 433, 434, 435, 436, 437, 414, 415, 416, 417, 418, 419, 420, 421, 422, 423, 424] (by decide +kernel) (by decide +kernel)
set_option maxRecDepth 20000 in
theorem gL_law_X7_due : GoodIn wsL_law (wsV RL 88 RX7 yX7_due wsX7_due) := goodIn_app (goodIn_of _ (by decide +kernel)) ggL_law_X7_due
set_option maxRecDepth 20000 in
theorem ggL_law_X7_idle : GoodIn wsL_law wsX7_idle := goodIn_r _ [381, 34, 382, 383, 384, 33, 385, 98, 96, 386, 94, 387, 95, 388, 97, 371, 364, 255, 256, 29, 257, 85, 258, 87, 259, 260, 261, 262, 263, 264, 194, 195, 196, 265, 266, 267, 268, 269, 86, 270, 80, 271, 81, 82, 83, 84, 272, 273, 274, 275, 276, 277, 278, 279, 280, 21, 281, 63, 282, 229, 230, 17, 231, 55, 283, 284, 285, 286, 287, 288, 289, 290, 291, 292, 293, 294, 295, 296, 25, 297, 71, 74, 366, 367, 368, 369, 370, 372, 389, 390, 391, 392, 393, 394, 395, 396, 397, 398, 399, 400, 401, 58, 402, 403, 404, 405, 406, 407, 408, 409, 410, 438, 439, 440, 441, 442, 443, 444, 414, 415, 416, 417, 418, 419, 420, 430, 431, 432, 433, 434, 435, 436, 437, 425, 426, 427, 428, 429, 421, 422, 423, 424] (by decide +kernel) (by decide +kernel)
set_option maxRecDepth 20000 in
theorem gL_law_X7_idle : GoodIn wsL_law (wsV RL 91 RX7 yX7_idle wsX7_idle) := goodIn_app (goodIn_of _ (by decide +kernel)) ggL_law_X7_idle
