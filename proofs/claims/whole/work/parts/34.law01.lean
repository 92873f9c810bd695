set_option maxRecDepth 20000 in
theorem gW_X6_power_r1 : GoodIn wsL_law wsX6_power_r1 := goodIn_r _ [197, 198, 2, 199, 205, 206, 207, 208, 97, 209, 210, 211, 212, 20, 101, 93, 94, 95, 96, 98, 99, 100, 36, 24] (by decide +kernel) (by decide +kernel)
set_option maxRecDepth 20000 in
theorem gW_X6_power_r2 : GoodIn wsL_law wsX6_power_r2 := goodIn_r _ [28, 32, 102, 103, 104, 35, 105, 106, 107, 108, 109, 110, 111, 23, 112, 113, 114, 115, 116, 117, 27, 118, 119, 120] (by decide +kernel) (by decide +kernel)
set_option maxRecDepth 20000 in
theorem gW_X6_power_r3 : GoodIn wsL_law wsX6_power_r3 := goodIn_r _ [121, 122, 123, 124, 125, 126, 127, 128, 129, 130, 131, 31, 132, 133, 134, 135, 136, 137, 213, 214, 215, 18, 216, 92] (by decide +kernel) (by decide +kernel)
set_option maxRecDepth 20000 in
theorem gW_X6_power_r4 : GoodIn wsL_law wsX6_power_r4 := goodIn_r _ [217, 218, 219, 220, 15, 221, 222, 223, 224, 225, 226, 227, 228, 57, 58, 229, 230, 231, 14, 232, 233, 234, 235, 236] (by decide +kernel) (by decide +kernel)
set_option maxRecDepth 20000 in
theorem gW_X6_power_r5 : GoodIn wsL_law wsX6_power_r5 := goodIn_r _ [84, 80, 81, 51, 82, 83, 50, 52, 41, 87, 43, 237, 238, 239, 240, 86, 44, 241, 242, 243, 244, 245, 246, 247] (by decide +kernel) (by decide +kernel)
set_option maxRecDepth 20000 in
theorem gW_X6_power_r6 : GoodIn wsL_law wsX6_power_r6 := goodIn_r _ [248, 249, 250, 251, 252, 85] (by decide +kernel) (by decide +kernel)
set_option maxRecDepth 20000 in
theorem ggL_law_X6_power : GoodIn wsL_law wsX6_power := goodIn_app (a := [.code yX6_power cX6_power 2 (some .int)]) (goodIn_r _ [204] (by decide +kernel) (by decide +kernel)) (goodIn_app (goodIn_app (goodIn_app (goodIn_app (goodIn_app (goodIn_app (goodIn_app (goodIn_app gW_X6_power_r1 (goodIn_app gW_X6_power_r2 (goodIn_app gW_X6_power_r3 (goodIn_app gW_X6_power_r4 (goodIn_app gW_X6_power_r5 (gW_X6_power_r6)))))) gW_X60) gW_X20) gW_X40) gW_X00) gW_X50) gW_X10) gW_X30)
set_option maxRecDepth 20000 in
theorem gL_law_X6_power : GoodIn wsL_law (wsV RL 18 RX6 yX6_power wsX6_power) := goodIn_app (goodIn_of _ (by decide +kernel)) ggL_law_X6_power
set_option maxRecDepth 20000 in
theorem gW_X7_power_r1 : GoodIn wsL_law wsX7_power_r1 := goodIn_r _ [168, 169, 170, 5, 171, 257, 258, 259, 260, 183, 149, 147, 184, 185, 261, 262, 263, 264, 265, 143, 167, 144, 266, 267] (by decide +kernel) (by decide +kernel)
set_option maxRecDepth 20000 in
theorem gW_X7_power_r2 : GoodIn wsL_law wsX7_power_r2 := goodIn_r _ [268, 269, 166, 146, 270, 271, 272, 273, 160, 159, 172, 173, 174, 175, 176, 177, 178, 179, 180, 165, 181, 182, 186, 187] (by decide +kernel) (by decide +kernel)
set_option maxRecDepth 20000 in
theorem gW_X7_power_r3 : GoodIn wsL_law wsX7_power_r3 := goodIn_r _ [188, 189, 190, 191] (by decide +kernel) (by decide +kernel)
set_option maxRecDepth 20000 in
theorem ggL_law_X7_power : GoodIn wsL_law wsX7_power := goodIn_app (a := [.code yX7_power cX7_power 2 (some .int)]) (goodIn_r _ [256] (by decide +kernel) (by decide +kernel)) (goodIn_app (goodIn_app gW_X7_power_r1 (goodIn_app gW_X7_power_r2 (gW_X7_power_r3))) gW_X70)
set_option maxRecDepth 20000 in
theorem gL_law_X7_power : GoodIn wsL_law (wsV RL 22 RX7 yX7_power wsX7_power) := goodIn_app (goodIn_of _ (by decide +kernel)) ggL_law_X7_power
set_option maxRecDepth 20000 in
theorem gW_X6_warm_l : GoodIn wsL_law ([.fieldLink RX6 78 "BlockCard" "heat" "I", .methodLink RX6 60 yX6_isOutside, .static yX6_isOutside, .initialized RX6, .code yX6_isOutside cX6_isOutside 3 (some .boolean)] : List Cond) := goodIn_r _ [278, 197, 198, 2, 199] (by decide +kernel) (by decide +kernel)
set_option maxRecDepth 20000 in
theorem ggL_law_X6_warm : GoodIn wsL_law wsX6_warm := goodIn_app (a := [.code yX6_warm cX6_warm 3 (some .int)]) (goodIn_r _ [277] (by decide +kernel) (by decide +kernel)) (goodIn_app (gW_X6_warm_l) gW_X60)
set_option maxRecDepth 20000 in
theorem gL_law_X6_warm : GoodIn wsL_law (wsV RL 23 RX6 yX6_warm wsX6_warm) := goodIn_app (goodIn_of _ (by decide +kernel)) ggL_law_X6_warm
set_option maxRecDepth 20000 in
theorem gW_X7_warm_l : GoodIn wsL_law ([.constantLong RX7 150 (15), .fieldLink RX7 152 "BlockCardModel" "heat" "I", .methodLink RX7 42 yX7_in, .static yX7_in, .initialized RX7, .code yX7_in cX7_in 6 (some .boolean)] : List Cond) := goodIn_r _ [283, 284, 169, 170, 5, 171] (by decide +kernel) (by decide +kernel)
set_option maxRecDepth 20000 in
theorem ggL_law_X7_warm : GoodIn wsL_law wsX7_warm := goodIn_app (a := [.code yX7_warm cX7_warm 3 (some .int)]) (goodIn_r _ [282] (by decide +kernel) (by decide +kernel)) (goodIn_app (gW_X7_warm_l) gW_X70)
set_option maxRecDepth 20000 in
theorem gL_law_X7_warm : GoodIn wsL_law (wsV RL 26 RX7 yX7_warm wsX7_warm) := goodIn_app (goodIn_of _ (by decide +kernel)) ggL_law_X7_warm
set_option maxRecDepth 20000 in
theorem gW_X6_write_l : GoodIn wsL_law ([.fieldLink RX6 21 "BlockCard" "text" "LBlockCard$Letters;", .methodLink RX6 60 yX6_isOutside, .static yX6_isOutside, .initialized RX6, .code yX6_isOutside cX6_isOutside 3 (some .boolean), .methodLink RX6 82 yX1_append, .instanceMethod yX1_append, .selects RX1 yX1_append yX1_append, .initialized RX1, .code yX1_append cX1_append 2 (some .boolean), .fieldLink RX1 21 "BlockCard$Letters" "length" "I", .fieldLink RX1 15 "BlockCard$Letters" "signs" "[I", .methodLink RX6 86 yX1_length, .instanceMethod yX1_length, .selects RX1 yX1_length yX1_length, .code yX1_length cX1_length 1 (some .int)] : List Cond) := goodIn_r _ [19, 197, 198, 2, 199, 289, 290, 291, 18, 292, 92, 53, 213, 214, 215, 216] (by decide +kernel) (by decide +kernel)
set_option maxRecDepth 20000 in
theorem ggL_law_X6_write : GoodIn wsL_law wsX6_write := goodIn_app (a := [.code yX6_write cX6_write 2 (some .int)]) (goodIn_r _ [288] (by decide +kernel) (by decide +kernel)) (goodIn_app (goodIn_app (gW_X6_write_l) gW_X60) gW_X10)
set_option maxRecDepth 20000 in
theorem gL_law_X6_write : GoodIn wsL_law (wsV RL 27 RX6 yX6_write wsX6_write) := goodIn_app (goodIn_of _ (by decide +kernel)) ggL_law_X6_write
set_option maxRecDepth 20000 in
theorem gW_X7_write_l : GoodIn wsL_law ([.constantLong RX7 155 (32), .constantLong RX7 157 (126), .fieldLink RX7 159 "BlockCardModel" "length" "I", .fieldLink RX7 7 "BlockCardModel" "text" "[I", .methodLink RX7 42 yX7_in, .static yX7_in, .initialized RX7, .code yX7_in cX7_in 6 (some .boolean)] : List Cond) := goodIn_r _ [297, 298, 299, 142, 169, 170, 5, 171] (by decide +kernel) (by decide +kernel)
set_option maxRecDepth 20000 in
theorem ggL_law_X7_write : GoodIn wsL_law wsX7_write := goodIn_app (a := [.code yX7_write cX7_write 2 (some .int)]) (goodIn_r _ [296] (by decide +kernel) (by decide +kernel)) (goodIn_app (gW_X7_write_l) gW_X70)
set_option maxRecDepth 20000 in
theorem gL_law_X7_write : GoodIn wsL_law (wsV RL 30 RX7 yX7_write wsX7_write) := goodIn_app (goodIn_of _ (by decide +kernel)) ggL_law_X7_write
set_option maxRecDepth 20000 in
theorem gW_X6_wipe_l : GoodIn wsL_law ([.fieldLink RX6 21 "BlockCard" "text" "LBlockCard$Letters;", .methodLink RX6 86 yX1_length, .instanceMethod yX1_length, .selects RX1 yX1_length yX1_length, .initialized RX1, .code yX1_length cX1_length 1 (some .int), .fieldLink RX1 21 "BlockCard$Letters" "length" "I", .methodLink RX6 90 yX1_empty, .instanceMethod yX1_empty, .selects RX1 yX1_empty yX1_empty, .code yX1_empty cX1_empty 1 none] : List Cond) := goodIn_r _ [19, 213, 214, 215, 18, 216, 92, 88, 89, 90, 91] (by decide +kernel) (by decide +kernel)
set_option maxRecDepth 20000 in
theorem ggL_law_X6_wipe : GoodIn wsL_law wsX6_wipe := goodIn_app (a := [.code yX6_wipe cX6_wipe 2 (some .int)]) (goodIn_r _ [303] (by decide +kernel) (by decide +kernel)) (goodIn_app (goodIn_app (gW_X6_wipe_l) gW_X60) gW_X10)
set_option maxRecDepth 20000 in
theorem gL_law_X6_wipe : GoodIn wsL_law (wsV RL 31 RX6 yX6_wipe wsX6_wipe) := goodIn_app (goodIn_of _ (by decide +kernel)) ggL_law_X6_wipe
set_option maxRecDepth 20000 in
theorem gW_X7_wipe_l : GoodIn wsL_law ([.fieldLink RX7 159 "BlockCardModel" "length" "I"] : List Cond) := goodIn_r _ [299] (by decide +kernel) (by decide +kernel)
set_option maxRecDepth 20000 in
theorem ggL_law_X7_wipe : GoodIn wsL_law wsX7_wipe := goodIn_app (a := [.code yX7_wipe cX7_wipe 2 (some .int)]) (goodIn_r _ [307] (by decide +kernel) (by decide +kernel)) (goodIn_app (gW_X7_wipe_l) gW_X70)
set_option maxRecDepth 20000 in
theorem gL_law_X7_wipe : GoodIn wsL_law (wsV RL 35 RX7 yX7_wipe wsX7_wipe) := goodIn_app (goodIn_of _ (by decide +kernel)) ggL_law_X7_wipe
set_option maxRecDepth 20000 in
theorem gW_X6_check_l : GoodIn wsL_law ([.methodLink RX6 93 yX6_isNoCommand, .static yX6_isNoCommand, .initialized RX6, .code yX6_isNoCommand cX6_isNoCommand 2 (some .boolean), .constant RX6 64 (65535), .methodLink RX6 60 yX6_isOutside, .static yX6_isOutside, .code yX6_isOutside cX6_isOutside 3 (some .boolean), .methodLink RX6 97 yX6_commandCheck, .static yX6_commandCheck, .code yX6_commandCheck cX6_commandCheck 2 (some .int), .constant RX6 225 (65536), .methodLink RX6 226 yX6_checkOfBits, .static yX6_checkOfBits, .code yX6_checkOfBits cX6_checkOfBits 5 (some .int)] : List Cond) := goodIn_r _ [312, 313, 2, 314, 196, 197, 198, 199, 315, 316, 317, 318, 319, 320, 321] (by decide +kernel) (by decide +kernel)
set_option maxRecDepth 20000 in
theorem ggL_law_X6_check : GoodIn wsL_law wsX6_check := goodIn_app (a := [.code yX6_check cX6_check 3 (some .int)]) (goodIn_r _ [311] (by decide +kernel) (by decide +kernel)) (gW_X6_check_l)
set_option maxRecDepth 20000 in
theorem gL_law_X6_check : GoodIn wsL_law (wsV RL 36 RX6 yX6_check wsX6_check) := goodIn_app (goodIn_of _ (by decide +kernel)) ggL_law_X6_check
set_option maxRecDepth 20000 in
theorem gW_X7_check_l : GoodIn wsL_law ([.constantLong RX7 162 (63), .constantLong RX7 50 (65535), .constant RX7 164 (65536), .methodLink RX7 42 yX7_in, .static yX7_in, .initialized RX7, .code yX7_in cX7_in 6 (some .boolean), .methodLink RX7 165 yX7_checked, .static yX7_checked, .code yX7_checked cX7_checked 4 (some .int)] : List Cond) := goodIn_r _ [326, 158, 327, 169, 170, 5, 171, 328, 329, 330] (by decide +kernel) (by decide +kernel)
set_option maxRecDepth 20000 in
theorem ggL_law_X7_check : GoodIn wsL_law wsX7_check := goodIn_app (a := [.code yX7_check cX7_check 3 (some .int)]) (goodIn_r _ [325] (by decide +kernel) (by decide +kernel)) (gW_X7_check_l)
set_option maxRecDepth 20000 in
theorem gL_law_X7_check : GoodIn wsL_law (wsV RL 40 RX7 yX7_check wsX7_check) := goodIn_app (goodIn_of _ (by decide +kernel)) ggL_law_X7_check
set_option maxRecDepth 20000 in
theorem gW_X6_checkOf_l : GoodIn wsL_law ([.constant RX6 64 (65535), .methodLink RX6 60 yX6_isOutside, .static yX6_isOutside, .initialized RX6, .code yX6_isOutside cX6_isOutside 3 (some .boolean), .methodLink RX6 101 yX6_contentCheck, .static yX6_contentCheck, .code yX6_contentCheck cX6_contentCheck 1 (some .int), .methodLink RX6 226 yX6_checkOfBits, .static yX6_checkOfBits, .code yX6_checkOfBits cX6_checkOfBits 5 (some .int)] : List Cond) := goodIn_r _ [196, 197, 198, 2, 199, 335, 336, 337, 319, 320, 321] (by decide +kernel) (by decide +kernel)
set_option maxRecDepth 20000 in
theorem ggL_law_X6_checkOf : GoodIn wsL_law wsX6_checkOf := goodIn_app (a := [.code yX6_checkOf cX6_checkOf 2 (some .int)]) (goodIn_r _ [334] (by decide +kernel) (by decide +kernel)) (gW_X6_checkOf_l)
set_option maxRecDepth 20000 in
theorem gL_law_X6_checkOf : GoodIn wsL_law (wsV RL 41 RX6 yX6_checkOf wsX6_checkOf) := goodIn_app (goodIn_of _ (by decide +kernel)) ggL_law_X6_checkOf
set_option maxRecDepth 20000 in
theorem gW_X7_checkOf_l : GoodIn wsL_law ([.constantLong RX7 50 (65535), .methodLink RX7 42 yX7_in, .static yX7_in, .initialized RX7, .code yX7_in cX7_in 6 (some .boolean), .methodLink RX7 165 yX7_checked, .static yX7_checked, .code yX7_checked cX7_checked 4 (some .int)] : List Cond) := goodIn_r _ [158, 169, 170, 5, 171, 328, 329, 330] (by decide +kernel) (by decide +kernel)
set_option maxRecDepth 20000 in
theorem ggL_law_X7_checkOf : GoodIn wsL_law wsX7_checkOf := goodIn_app (a := [.code yX7_checkOf cX7_checkOf 2 (some .int)]) (goodIn_r _ [341] (by decide +kernel) (by decide +kernel)) (gW_X7_checkOf_l)
set_option maxRecDepth 20000 in
theorem gL_law_X7_checkOf : GoodIn wsL_law (wsV RL 44 RX7 yX7_checkOf wsX7_checkOf) := goodIn_app (goodIn_of _ (by decide +kernel)) ggL_law_X7_checkOf
set_option maxRecDepth 20000 in
theorem gW_X6_send_r1 : GoodIn wsL_law wsX6_send_r1 := goodIn_r _ [312, 313, 2, 314, 196, 197, 198, 199, 346, 347, 348, 349, 28, 205, 206, 207, 208, 97, 315, 316, 317, 318, 319, 320] (by decide +kernel) (by decide +kernel)
set_option maxRecDepth 20000 in
theorem gW_X6_send_r2 : GoodIn wsL_law wsX6_send_r2 := goodIn_r _ [321, 350, 351, 352, 353, 99, 354, 355, 356, 357, 101, 358, 359, 360, 361, 362, 363, 364, 365, 366, 27, 367, 126, 368] (by decide +kernel) (by decide +kernel)
set_option maxRecDepth 20000 in
theorem gW_X6_send_r3 : GoodIn wsL_law wsX6_send_r3 := goodIn_r _ [123, 124, 125, 127, 128, 369, 370, 371, 372, 74, 373, 374, 375, 376, 217, 218, 219, 220, 24, 15, 221, 222, 223, 23] (by decide +kernel) (by decide +kernel)
