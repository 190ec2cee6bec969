set_option maxRecDepth 100000 in
theorem gg0_X5_agrees : GoodIn lw_tbl wsX5_agrees := goodIn_r _ [494, 235, 232, 420, 421, 422, 49, 423, 424, 366, 53, 367, 150, 148, 151, 425, 427, 7, 46, 428, 234, 233, 105, 495, 497, 16, 498, 429, 430, 431, 432, 100, 97, 94, 154, 433, 435, 8, 436, 155, 438, 158, 437, 340, 341, 48, 342, 82, 439, 358, 359, 360, 361, 362, 363, 364, 365, 76, 79, 440, 442, 9, 443, 113, 111, 109, 444, 446, 10, 447, 156, 448, 449, 450, 451, 452, 453, 454, 456, 11, 457, 458, 460, 12, 461, 159, 160, 462, 463, 464, 465, 466, 153, 152, 467, 469, 13, 470, 84, 78, 81, 471, 473, 14, 474, 144, 146, 475, 477, 15, 478, 239, 241, 243, 245, 247, 249, 251, 253, 255, 257, 259, 161, 163, 165, 167, 169, 171, 173, 175, 177, 179, 181, 183, 185, 187, 114, 116, 118, 120, 122, 124, 126, 128, 130, 85, 87, 89] rfl (by decide +kernel)
set_option maxRecDepth 100000 in
theorem gL_law_X5_agrees : GoodIn lw_tbl (wsV RL 74 RX5 yX5_agrees wsX5_agrees) := goodIn_app (goodIn_of _ (by decide +kernel)) gg0_X5_agrees

set_option maxRecDepth 100000 in
theorem gg0_X5_can : GoodIn lw_tbl wsX5_can := goodIn_r _ [486, 235, 232, 233, 335, 337, 0, 46, 338, 326, 296, 297, 298, 420, 421, 422, 49, 423, 424, 366, 53, 367, 150, 148, 151, 425, 427, 7, 428, 234, 105, 429, 430, 431, 432, 100, 97, 94, 154, 433, 435, 8, 436, 155, 438, 158, 437, 340, 341, 48, 342, 82, 439, 358, 359, 360, 361, 362, 363, 364, 365, 76, 79, 440, 442, 9, 443, 113, 111, 109, 444, 446, 10, 447, 156, 448, 449, 450, 451, 452, 453, 454, 456, 11, 457, 458, 460, 12, 461, 159, 160, 462, 487, 488, 489, 490, 157, 463, 464, 465, 466, 153, 152, 467, 469, 13, 470, 84, 78, 81, 471, 473, 14, 474, 144, 146, 475, 477, 15, 478, 239, 241, 243, 245, 247, 249, 251, 253, 255, 257, 259, 161, 163, 165, 167, 169, 171, 173, 175, 177, 179, 181, 183, 185, 187, 114, 116, 118, 120, 122, 124, 126, 128, 130, 85, 87, 89] rfl (by decide +kernel)
set_option maxRecDepth 100000 in
theorem gL_law_X5_can : GoodIn lw_tbl (wsV RL 70 RX5 yX5_can wsX5_can) := goodIn_app (goodIn_of _ (by decide +kernel)) gg0_X5_can

set_option maxRecDepth 100000 in
theorem gg0_X5_copy : GoodIn lw_tbl wsX5_copy := goodIn_r _ [387, 233, 107, 388, 390, 4, 46, 391, 234, 239, 241, 243, 245, 247, 249, 251, 253, 255, 257, 259, 114, 116, 118, 120, 122, 124, 126, 128, 130] rfl (by decide +kernel)
set_option maxRecDepth 100000 in
theorem gL_law_X5_copy : GoodIn lw_tbl (wsV RL 41 RX5 yX5_copy wsX5_copy) := goodIn_app (goodIn_of _ (by decide +kernel)) gg0_X5_copy

set_option maxRecDepth 100000 in
theorem gg0_X5_count : GoodIn lw_tbl wsX5_count := goodIn_r _ [575, 231, 232, 234, 235, 149, 239, 241, 243, 245, 247, 249, 251, 253, 255, 257, 259, 161, 163, 165, 167, 169, 171, 173, 175, 177, 179, 181, 183, 185, 187] rfl (by decide +kernel)
set_option maxRecDepth 100000 in
theorem gL_law_X5_count : GoodIn lw_tbl (wsV RL 98 RX5 yX5_count wsX5_count) := goodIn_app (goodIn_of _ (by decide +kernel)) gg0_X5_count

set_option maxRecDepth 100000 in
theorem gg0_X5_date : GoodIn lw_tbl wsX5_date := goodIn_r _ [302, 303, 304, 52, 305, 275, 276, 277, 296, 46, 297, 298, 306, 307, 308, 292, 293, 294, 278, 279, 280, 281, 282, 283, 284, 286, 287, 288] rfl (by decide +kernel)
set_option maxRecDepth 100000 in
theorem gL_law_X5_date : GoodIn lw_tbl (wsV RL 18 RX5 yX5_date wsX5_date) := goodIn_app (goodIn_of _ (by decide +kernel)) gg0_X5_date

set_option maxRecDepth 100000 in
theorem gg0_X5_day : GoodIn lw_tbl wsX5_day := goodIn_r _ [265, 266, 267, 52, 268, 269, 270, 271, 272, 273, 274, 275, 276, 277, 278, 279, 280, 281, 282, 283, 284, 286, 287, 288, 289, 290, 291, 292, 293, 294, 296, 46, 297, 298] rfl (by decide +kernel)
set_option maxRecDepth 100000 in
theorem gL_law_X5_day : GoodIn lw_tbl (wsV RL 13 RX5 yX5_day wsX5_day) := goodIn_app (goodIn_of _ (by decide +kernel)) gg0_X5_day

set_option maxRecDepth 100000 in
theorem gg0_X5_event : GoodIn lw_tbl wsX5_event := goodIn_r _ [330, 232, 239, 241, 243, 245, 247, 249, 251, 253, 255, 257, 259] rfl (by decide +kernel)
set_option maxRecDepth 100000 in
theorem gL_law_X5_event : GoodIn lw_tbl (wsV RL 31 RX5 yX5_event wsX5_event) := goodIn_app (goodIn_of _ (by decide +kernel)) gg0_X5_event

set_option maxRecDepth 100000 in
theorem gg0_X5_first : GoodIn lw_tbl wsX5_first := goodIn_r _ [415, 235, 145, 416, 418, 6, 46, 419, 232, 233, 335, 337, 0, 338, 420, 421, 422, 49, 423, 424, 366, 53, 367, 150, 148, 151, 425, 427, 7, 428, 234, 105, 429, 430, 431, 432, 100, 97, 94, 154, 433, 435, 8, 436, 155, 438, 158, 437, 340, 341, 48, 342, 82, 439, 358, 359, 360, 361, 362, 363, 364, 365, 76, 79, 440, 442, 9, 443, 113, 111, 109, 444, 446, 10, 447, 156, 448, 449, 450, 451, 452, 453, 454, 456, 11, 457, 458, 460, 12, 461, 159, 160, 462, 463, 464, 465, 466, 153, 152, 467, 469, 13, 470, 84, 78, 81, 471, 473, 14, 474, 144, 146, 475, 477, 15, 478, 239, 241, 243, 245, 247, 249, 251, 253, 255, 257, 259, 161, 163, 165, 167, 169, 171, 173, 175, 177, 179, 181, 183, 185, 187, 114, 116, 118, 120, 122, 124, 126, 128, 130, 85, 87, 89] rfl (by decide +kernel)
set_option maxRecDepth 100000 in
theorem gL_law_X5_first : GoodIn lw_tbl (wsV RL 61 RX5 yX5_first wsX5_first) := goodIn_app (goodIn_of _ (by decide +kernel)) gg0_X5_first

set_option maxRecDepth 100000 in
theorem gg0_X5_init : GoodIn lw_tbl wsX5_init := goodIn_r _ [59, 60, 61, 62, 92, 228, 229, 230, 63, 233, 65, 47, 133, 134, 49, 235, 190, 191, 50, 236, 237, 238, 67, 68, 69, 70, 71, 48, 93, 73, 74, 75, 76, 79, 135, 136, 137, 138, 144, 146, 139, 155, 156, 157, 142, 158, 159, 160, 193, 194, 195, 202, 204, 205, 206, 207, 239, 241, 243, 245, 247, 249, 251, 253, 255, 257, 259, 114, 116, 118, 120, 122, 124, 126, 128, 130, 161, 163, 165, 167, 169, 171, 173, 175, 177, 179, 181, 183, 185, 187, 209, 211, 213, 215, 217, 219, 221, 223, 225, 85, 87, 89] rfl (by decide +kernel)
theorem gL_law_X5_init : GoodIn lw_tbl (wsX5_init) := gg0_X5_init

set_option maxRecDepth 100000 in
theorem gg0_X5_king : GoodIn lw_tbl wsX5_king := goodIn_r _ [321, 231, 228, 229, 230, 322, 276, 52, 277, 323, 324, 46, 325, 326, 296, 297, 298, 239, 241, 243, 245, 247, 249, 251, 253, 255, 257, 259] rfl (by decide +kernel)
set_option maxRecDepth 100000 in
theorem gL_law_X5_king : GoodIn lw_tbl (wsV RL 27 RX5 yX5_king wsX5_king) := goodIn_app (goodIn_of _ (by decide +kernel)) gg0_X5_king

set_option maxRecDepth 100000 in
theorem gg0_X5_last : GoodIn lw_tbl wsX5_last := goodIn_r _ [482, 235, 147, 416, 418, 6, 46, 419, 232, 233, 335, 337, 0, 338, 420, 421, 422, 49, 423, 424, 366, 53, 367, 150, 148, 151, 425, 427, 7, 428, 234, 105, 429, 430, 431, 432, 100, 97, 94, 154, 433, 435, 8, 436, 155, 438, 158, 437, 340, 341, 48, 342, 82, 439, 358, 359, 360, 361, 362, 363, 364, 365, 76, 79, 440, 442, 9, 443, 113, 111, 109, 444, 446, 10, 447, 156, 448, 449, 450, 451, 452, 453, 454, 456, 11, 457, 458, 460, 12, 461, 159, 160, 462, 463, 464, 465, 466, 153, 152, 467, 469, 13, 470, 84, 78, 81, 471, 473, 14, 474, 144, 146, 475, 477, 15, 478, 239, 241, 243, 245, 247, 249, 251, 253, 255, 257, 259, 161, 163, 165, 167, 169, 171, 173, 175, 177, 179, 181, 183, 185, 187, 114, 116, 118, 120, 122, 124, 126, 128, 130, 85, 87, 89] rfl (by decide +kernel)
set_option maxRecDepth 100000 in
theorem gL_law_X5_last : GoodIn lw_tbl (wsV RL 66 RX5 yX5_last wsX5_last) := goodIn_app (goodIn_of _ (by decide +kernel)) gg0_X5_last

set_option maxRecDepth 100000 in
theorem gg0_X5_look : GoodIn lw_tbl wsX5_look := goodIn_r _ [399, 233, 98, 101, 103, 105, 107, 95, 83, 388, 390, 4, 46, 391, 234, 400, 402, 5, 403, 239, 241, 243, 245, 247, 249, 251, 253, 255, 257, 259, 114, 116, 118, 120, 122, 124, 126, 128, 130, 85, 87, 89] rfl (by decide +kernel)
set_option maxRecDepth 100000 in
theorem gL_law_X5_look : GoodIn lw_tbl (wsV RL 51 RX5 yX5_look wsX5_look) := goodIn_app (goodIn_of _ (by decide +kernel)) gg0_X5_look
