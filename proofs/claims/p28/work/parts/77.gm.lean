-- the words of the law for its own large methods, row by row
set_option maxRecDepth 100000 in
theorem gqL_hangs_0 : GoodIn wsL_law [.code yL_hangs cL_hangs 14 (some .boolean)] := goodIn_r _ [326] rfl (by decide +kernel)
set_option maxRecDepth 20000 in
theorem gqL_hangs_r1 : GoodIn wsL_law wsL_hangs_r1 := goodIn_r _ [327, 328, 329, 94, 330, 331, 275, 332, 333, 334, 2, 335, 13, 292, 336, 337, 338, 339, 340, 282, 283, 284, 285, 286] (by decide +kernel) (by decide +kernel)
set_option maxRecDepth 20000 in
theorem gqL_hangs_r2 : GoodIn wsL_law wsL_hangs_r2 := goodIn_r _ [341, 313, 314, 35, 315, 53, 342, 309, 310, 311, 312, 316, 317, 318, 319, 343, 344, 345, 346, 347, 348, 349, 350, 351] (by decide +kernel) (by decide +kernel)
set_option maxRecDepth 20000 in
theorem gqL_hangs_r3 : GoodIn wsL_law wsL_hangs_r3 := goodIn_r _ [352, 353, 354, 293, 355, 356, 357, 358, 359, 360, 361, 362, 308, 363, 364, 365, 366, 367, 368, 369, 147, 148, 291, 370] (by decide +kernel) (by decide +kernel)
set_option maxRecDepth 20000 in
theorem gqL_hangs_r4 : GoodIn wsL_law wsL_hangs_r4 := goodIn_r _ [371, 17, 103, 294, 295, 296, 372, 373, 374, 375, 376, 377, 378, 25, 379, 380, 381, 382, 383, 384, 385, 386, 387, 39] (by decide +kernel) (by decide +kernel)
set_option maxRecDepth 20000 in
theorem gqL_hangs_r5 : GoodIn wsL_law wsL_hangs_r5 := goodIn_r _ [388, 128, 62, 389, 127, 114, 115, 116, 63, 390, 64, 391, 392, 393, 394, 395, 396, 397, 398, 399, 400, 401, 43, 402] (by decide +kernel) (by decide +kernel)
set_option maxRecDepth 20000 in
theorem gqL_hangs_r6 : GoodIn wsL_law wsL_hangs_r6 := goodIn_r _ [134, 69, 403, 404, 405, 406, 407, 408, 409, 410, 411, 412, 413, 414, 415, 416, 417, 418, 68, 419, 420, 421, 422, 423] (by decide +kernel) (by decide +kernel)
set_option maxRecDepth 20000 in
theorem gqL_hangs_r7 : GoodIn wsL_law wsL_hangs_r7 := goodIn_r _ [424, 425, 426, 427, 428, 429, 430, 431, 432, 433, 434, 435, 12, 436, 437, 438, 439, 440, 46, 272, 273, 274, 276, 277] (by decide +kernel) (by decide +kernel)
set_option maxRecDepth 20000 in
theorem gqL_hangs_r8 : GoodIn wsL_law wsL_hangs_r8 := goodIn_r _ [278, 279, 280, 281, 287, 288, 289, 290, 441, 442, 443, 444, 445, 446, 447, 29, 448, 449, 450, 451, 452, 453, 454, 28] (by decide +kernel) (by decide +kernel)
set_option maxRecDepth 20000 in
theorem gqL_hangs_r9 : GoodIn wsL_law wsL_hangs_r9 := goodIn_r _ [455, 456, 89, 457, 90, 458, 459, 460, 461, 462, 463, 321, 322, 323, 464, 465, 466, 467, 468, 469, 470, 471, 472, 473] (by decide +kernel) (by decide +kernel)
set_option maxRecDepth 20000 in
theorem gqL_hangs_r10 : GoodIn wsL_law wsL_hangs_r10 := goodIn_r _ [474, 475, 476, 477, 478, 479, 480, 481, 482, 483, 484, 485, 486, 487, 488, 489, 490, 491, 492, 493, 494, 495, 496, 497] (by decide +kernel) (by decide +kernel)
theorem gquX80 : GoodIn wsL_law wsX80 := goodIn_sub inlX8 (by decide +kernel)
theorem gquX50 : GoodIn wsL_law wsX50 := goodIn_sub inlX5 (by decide +kernel)
theorem gquX20 : GoodIn wsL_law wsX20 := goodIn_sub inlX2 (by decide +kernel)
theorem gquX70 : GoodIn wsL_law wsX70 := goodIn_sub inlX7 (by decide +kernel)
theorem gquX00 : GoodIn wsL_law wsX00 := goodIn_sub inlX0 (by decide +kernel)
theorem gquX10 : GoodIn wsL_law wsX10 := goodIn_sub inlX1 (by decide +kernel)
theorem gquX40 : GoodIn wsL_law wsX40 := goodIn_sub inlX4 (by decide +kernel)
theorem gquX60 : GoodIn wsL_law wsX60 := goodIn_sub inlX6 (by decide +kernel)
theorem gqf_286 : GoodIn wsL_law ((vx_atS RX8 286 "java/lang/IndexOutOfBoundsException" ["java/lang/RuntimeException", "java/lang/Exception"]).filter goodWord) := goodIn_sub (fun _ h => List.mem_append_right _ h) (by decide +kernel)
theorem gqf_116 : GoodIn wsL_law ((vx_atS RX8 116 "java/lang/IllegalArgumentException" ["java/lang/RuntimeException", "java/lang/Exception"]).filter goodWord) := goodIn_sub (fun _ h => List.mem_append_left _ (List.mem_append_right _ h)) (by decide +kernel)
set_option maxRecDepth 20000 in
theorem ggL_law_L_hangs : GoodIn wsL_law wsL_hangs := goodIn_app (a := [.code yL_hangs cL_hangs 14 (some .boolean)]) gqL_hangs_0 (goodIn_app (goodIn_app (goodIn_app (goodIn_app (goodIn_app (goodIn_app (goodIn_app (goodIn_app (goodIn_app (goodIn_app (goodIn_app gqL_hangs_r1 (goodIn_app gqL_hangs_r2 (goodIn_app gqL_hangs_r3 (goodIn_app gqL_hangs_r4 (goodIn_app gqL_hangs_r5 (goodIn_app gqL_hangs_r6 (goodIn_app gqL_hangs_r7 (goodIn_app gqL_hangs_r8 (goodIn_app gqL_hangs_r9 gqL_hangs_r10))))))))) gquX80) gquX50) gquX20) gquX70) gquX00) gquX10) gquX40) gquX60) gqf_286) gqf_116)
set_option maxRecDepth 20000 in
theorem gL_law_L_hangs : GoodIn wsL_law (va_wsS RL 148 yL_hangs wsL_hangs) := goodIn_app (goodIn_of _ (by decide +kernel)) ggL_law_L_hangs
set_option maxRecDepth 100000 in
theorem gqL_acts_0 : GoodIn wsL_law [.code yL_acts cL_acts 10 (some .int)] := goodIn_r _ [505] rfl (by decide +kernel)
set_option maxRecDepth 20000 in
theorem gqL_acts_r1 : GoodIn wsL_law wsL_acts_r1 := goodIn_r _ [498, 499, 94, 500, 501, 502, 506, 507, 508, 331, 275, 509, 510, 511, 2, 512, 17, 13, 292, 351, 336, 337, 338, 339] (by decide +kernel) (by decide +kernel)
set_option maxRecDepth 20000 in
theorem gqL_acts_r2 : GoodIn wsL_law wsL_acts_r2 := goodIn_r _ [340, 282, 283, 284, 285, 286, 149, 150, 151, 16, 152, 108, 74, 73, 11, 12, 153, 154, 155, 156, 30, 31, 32, 8] (by decide +kernel) (by decide +kernel)
set_option maxRecDepth 20000 in
theorem gqL_acts_r3 : GoodIn wsL_law wsL_acts_r3 := goodIn_r _ [9, 33, 34, 35, 36, 37, 38, 39, 40, 41, 42, 43, 44, 45, 46, 47, 48, 49, 50, 51, 52, 53, 54, 55] (by decide +kernel) (by decide +kernel)
set_option maxRecDepth 20000 in
theorem gqL_acts_r4 : GoodIn wsL_law wsL_acts_r4 := goodIn_r _ [56, 57, 58, 59, 60, 61, 62, 63, 64, 65, 66, 67, 68, 69, 157, 110, 111, 112, 113, 114, 115, 116, 117, 118] (by decide +kernel) (by decide +kernel)
set_option maxRecDepth 20000 in
theorem gqL_acts_r5 : GoodIn wsL_law wsL_acts_r5 := goodIn_r _ [119, 120, 121, 122, 123, 124, 125, 126, 127, 128, 129, 130, 131, 132, 133, 134, 513, 514, 515, 516, 517, 518, 519, 352] (by decide +kernel) (by decide +kernel)
set_option maxRecDepth 20000 in
theorem gqL_acts_r6 : GoodIn wsL_law wsL_acts_r6 := goodIn_r _ [520, 521, 522, 523, 524, 525, 526, 341, 313, 314, 315, 527, 528, 529, 530, 531, 532, 533, 96, 534, 535, 536, 537, 101] (by decide +kernel) (by decide +kernel)
set_option maxRecDepth 20000 in
theorem gqL_acts_r7 : GoodIn wsL_law wsL_acts_r7 := goodIn_r _ [102, 147, 148, 538, 539, 540, 541, 25, 29, 370, 291, 385, 386, 387, 388, 389, 390, 391, 542, 543, 544, 545, 546, 547] (by decide +kernel) (by decide +kernel)
set_option maxRecDepth 20000 in
theorem gqL_acts_r8 : GoodIn wsL_law wsL_acts_r8 := goodIn_r _ [548, 549, 452, 453, 454, 28, 455, 456, 89, 457, 90, 458, 459, 460, 461, 462, 463, 321, 322, 323, 312, 550, 551, 552] (by decide +kernel) (by decide +kernel)
set_option maxRecDepth 20000 in
theorem gqL_acts_r9 : GoodIn wsL_law wsL_acts_r9 := goodIn_r _ [553, 554, 478, 479, 480, 555, 556, 557, 558, 559, 309, 310, 311, 316, 317, 318, 319, 560, 561, 562, 563, 564, 565, 473] (by decide +kernel) (by decide +kernel)
set_option maxRecDepth 20000 in
theorem gqL_acts_r10 : GoodIn wsL_law wsL_acts_r10 := goodIn_r _ [474, 475, 476, 566, 567, 568, 569, 570, 571, 572, 24, 573, 248, 84, 574, 305, 306, 307, 308, 320, 575, 576, 577, 578] (by decide +kernel) (by decide +kernel)
set_option maxRecDepth 20000 in
theorem gqL_acts_r11 : GoodIn wsL_law wsL_acts_r11 := goodIn_r _ [579, 580, 581, 582, 583, 584, 585, 586, 587, 588, 589, 590, 591, 495, 496, 497, 592, 469, 470, 471, 593, 486, 487, 488] (by decide +kernel) (by decide +kernel)
set_option maxRecDepth 20000 in
theorem gqL_acts_r12 : GoodIn wsL_law wsL_acts_r12 := goodIn_r _ [489, 594, 595, 596, 597, 598, 599, 600, 601, 91, 602, 603, 604, 605, 606, 494, 92, 93, 95, 97, 98, 99, 100, 103] (by decide +kernel) (by decide +kernel)
set_option maxRecDepth 20000 in
theorem gqL_acts_r13 : GoodIn wsL_law wsL_acts_r13 := goodIn_r _ [104, 105, 106, 107, 109, 135, 136, 137, 138, 607, 608, 609, 610, 146, 10, 139, 140, 141, 142, 143, 144, 145, 611, 612] (by decide +kernel) (by decide +kernel)
set_option maxRecDepth 20000 in
theorem gqL_acts_r14 : GoodIn wsL_law wsL_acts_r14 := goodIn_r _ [613, 614, 21, 615, 616, 617, 618, 619, 620, 621, 622, 623, 624, 625, 20, 626, 168, 78, 158, 159, 160, 161, 162, 163] (by decide +kernel) (by decide +kernel)
set_option maxRecDepth 20000 in
theorem gqL_acts_r15 : GoodIn wsL_law wsL_acts_r15 := goodIn_r _ [164, 165, 166, 167, 169, 170, 171, 172, 173, 174, 175, 176, 177, 178, 179, 180, 181, 182, 183, 184, 185, 186, 187, 188] (by decide +kernel) (by decide +kernel)
set_option maxRecDepth 20000 in
theorem gqL_acts_r16 : GoodIn wsL_law wsL_acts_r16 := goodIn_r _ [189, 190, 191, 192, 193, 194, 195, 196, 197, 198, 199, 200, 201, 202, 203, 204, 205, 206, 207, 208, 209, 210, 211, 212] (by decide +kernel) (by decide +kernel)
set_option maxRecDepth 20000 in
theorem gqL_acts_r17 : GoodIn wsL_law wsL_acts_r17 := goodIn_r _ [213, 214, 215, 216, 217, 218, 219, 220, 221, 222, 223, 224, 225, 226, 227, 228, 229, 230, 231, 232, 233, 234, 235, 236] (by decide +kernel) (by decide +kernel)
set_option maxRecDepth 20000 in
theorem gqL_acts_r18 : GoodIn wsL_law wsL_acts_r18 := goodIn_r _ [237, 238, 239, 240, 241, 242, 80, 243, 244, 245, 246, 247, 85, 249, 250, 251, 252, 253, 254, 255, 256, 257, 258, 259] (by decide +kernel) (by decide +kernel)
set_option maxRecDepth 20000 in
theorem gqL_acts_r19 : GoodIn wsL_law wsL_acts_r19 := goodIn_r _ [260, 261, 262, 263, 264, 265, 266, 267, 268, 269, 270, 271, 627, 628, 629, 630, 631, 632, 633, 280, 281, 634, 635, 636] (by decide +kernel) (by decide +kernel)
set_option maxRecDepth 20000 in
theorem gqL_acts_r20 : GoodIn wsL_law wsL_acts_r20 := goodIn_r _ [637, 638, 639, 640, 641, 642, 643, 644, 645, 646, 647, 648, 649, 650, 651, 652, 653, 654, 655, 656, 657, 658, 659] (by decide +kernel) (by decide +kernel)
theorem gquX30 : GoodIn wsL_law wsX30 := goodIn_sub inlX3 (by decide +kernel)
theorem gqf_90 : GoodIn wsL_law ((vx_atS RX8 90 "java/lang/IllegalStateException" ["java/lang/RuntimeException", "java/lang/Exception"]).filter goodWord) := goodIn_sub (fun _ h => List.mem_append_left _ (List.mem_append_left _ (List.mem_append_right _ h))) (by decide +kernel)
set_option maxRecDepth 20000 in
theorem ggL_law_L_acts : GoodIn wsL_law wsL_acts := goodIn_app (a := [.code yL_acts cL_acts 10 (some .int)]) gqL_acts_0 (goodIn_app (goodIn_app (goodIn_app (goodIn_app (goodIn_app (goodIn_app (goodIn_app (goodIn_app (goodIn_app (goodIn_app (goodIn_app (goodIn_app (goodIn_app gqL_acts_r1 (goodIn_app gqL_acts_r2 (goodIn_app gqL_acts_r3 (goodIn_app gqL_acts_r4 (goodIn_app gqL_acts_r5 (goodIn_app gqL_acts_r6 (goodIn_app gqL_acts_r7 (goodIn_app gqL_acts_r8 (goodIn_app gqL_acts_r9 (goodIn_app gqL_acts_r10 (goodIn_app gqL_acts_r11 (goodIn_app gqL_acts_r12 (goodIn_app gqL_acts_r13 (goodIn_app gqL_acts_r14 (goodIn_app gqL_acts_r15 (goodIn_app gqL_acts_r16 (goodIn_app gqL_acts_r17 (goodIn_app gqL_acts_r18 (goodIn_app gqL_acts_r19 gqL_acts_r20))))))))))))))))))) gquX80) gquX50) gquX20) gquX10) gquX70) gquX00) gquX40) gquX60) gquX30) gqf_286) gqf_116) gqf_90)
set_option maxRecDepth 20000 in
theorem gL_law_L_acts : GoodIn wsL_law (va_wsS RL 152 yL_acts wsL_acts) := goodIn_app (goodIn_of _ (by decide +kernel)) ggL_law_L_acts
set_option maxRecDepth 100000 in
theorem gqL_refuses_0 : GoodIn wsL_law [.code yL_refuses cL_refuses 6 (some .boolean)] := goodIn_r _ [662] rfl (by decide +kernel)
set_option maxRecDepth 20000 in
theorem gqL_refuses_r1 : GoodIn wsL_law wsL_refuses_r1 := goodIn_r _ [520, 521, 94, 522, 331, 275, 523, 524, 525, 2, 526, 17, 13, 292, 336, 337, 338, 339, 340, 282, 283, 284, 285, 286] (by decide +kernel) (by decide +kernel)
set_option maxRecDepth 20000 in
theorem gqL_refuses_r2 : GoodIn wsL_law wsL_refuses_r2 := goodIn_r _ [149, 150, 151, 16, 152, 108, 74, 73, 11, 12, 153, 154, 155, 156, 30, 31, 32, 8, 9, 33, 34, 35, 36, 37] (by decide +kernel) (by decide +kernel)
set_option maxRecDepth 20000 in
theorem gqL_refuses_r3 : GoodIn wsL_law wsL_refuses_r3 := goodIn_r _ [38, 39, 40, 41, 42, 43, 44, 45, 46, 47, 48, 49, 50, 51, 52, 53, 54, 55, 56, 57, 58, 59, 60, 61] (by decide +kernel) (by decide +kernel)
set_option maxRecDepth 20000 in
theorem gqL_refuses_r4 : GoodIn wsL_law wsL_refuses_r4 := goodIn_r _ [62, 63, 64, 65, 66, 67, 68, 69, 157, 110, 111, 112, 113, 114, 115, 116, 117, 118, 119, 120, 121, 122, 123, 124] (by decide +kernel) (by decide +kernel)
set_option maxRecDepth 20000 in
theorem gqL_refuses_r5 : GoodIn wsL_law wsL_refuses_r5 := goodIn_r _ [125, 126, 127, 128, 129, 130, 131, 132, 133, 134, 341, 313, 314, 315, 527, 528, 529, 530, 506, 507, 508, 509, 510, 511] (by decide +kernel) (by decide +kernel)
set_option maxRecDepth 20000 in
theorem gqL_refuses_r6 : GoodIn wsL_law wsL_refuses_r6 := goodIn_r _ [512, 351, 513, 514, 515, 516, 517, 518, 519, 352, 616, 617, 618, 96, 619, 620, 621, 622, 101, 102, 21, 615, 623, 624] (by decide +kernel) (by decide +kernel)
set_option maxRecDepth 20000 in
theorem gqL_refuses_r7 : GoodIn wsL_law wsL_refuses_r7 := goodIn_r _ [625, 20, 626, 168, 78, 272, 273, 274, 276, 277, 278, 279, 280, 281, 403, 404, 405, 406, 407, 408, 409, 370, 382, 383] (by decide +kernel) (by decide +kernel)
set_option maxRecDepth 20000 in
theorem gqL_refuses_r8 : GoodIn wsL_law wsL_refuses_r8 := goodIn_r _ [384, 410, 411, 412, 413, 414, 400, 401, 402, 415, 416, 417, 418, 419, 420, 421, 422, 423, 424, 328, 329, 330, 332, 333] (by decide +kernel) (by decide +kernel)
set_option maxRecDepth 20000 in
theorem gqL_refuses_r9 : GoodIn wsL_law wsL_refuses_r9 := goodIn_r _ [334, 335, 342, 309, 310, 311, 312, 316, 317, 318, 319, 343, 344, 345, 346, 347, 348, 349, 350, 353, 354, 293, 355, 356] (by decide +kernel) (by decide +kernel)
set_option maxRecDepth 20000 in
theorem gqL_refuses_r10 : GoodIn wsL_law wsL_refuses_r10 := goodIn_r _ [357, 358, 359, 360, 361, 362, 308, 372, 373, 374, 375, 376, 377, 378, 147, 148, 25, 379, 380, 381, 385, 386, 387, 388] (by decide +kernel) (by decide +kernel)
set_option maxRecDepth 20000 in
theorem gqL_refuses_r11 : GoodIn wsL_law wsL_refuses_r11 := goodIn_r _ [389, 390, 391, 392, 393, 394, 395, 396, 397, 398, 399, 363, 364, 365, 366, 367, 368, 369, 291, 371, 103, 294, 295, 296] (by decide +kernel) (by decide +kernel)
set_option maxRecDepth 20000 in
theorem gqL_refuses_r12 : GoodIn wsL_law wsL_refuses_r12 := goodIn_r _ [425, 426, 427, 428, 429, 430, 431, 432, 433, 434, 435, 436, 437, 438, 439, 440, 441, 442, 443, 444, 445, 446, 447, 29] (by decide +kernel) (by decide +kernel)
set_option maxRecDepth 20000 in
theorem gqL_refuses_r13 : GoodIn wsL_law wsL_refuses_r13 := goodIn_r _ [448, 449, 450, 451, 452, 453, 454, 28, 455, 456, 89, 457, 90, 458, 459, 460, 461, 462, 463, 321, 322, 323, 464, 465] (by decide +kernel) (by decide +kernel)
set_option maxRecDepth 20000 in
theorem gqL_refuses_r14 : GoodIn wsL_law wsL_refuses_r14 := goodIn_r _ [466, 467, 468, 469, 470, 471, 472, 473, 474, 475, 476, 477, 478, 479, 480, 297, 298, 299, 300, 301, 302, 303, 304, 305] (by decide +kernel) (by decide +kernel)
set_option maxRecDepth 20000 in
theorem gqL_refuses_r15 : GoodIn wsL_law wsL_refuses_r15 := goodIn_r _ [306, 307, 320, 531, 532, 533, 534, 535, 536, 537, 538, 539, 540, 541, 542, 543, 544, 545, 546, 547, 548, 549, 550, 551] (by decide +kernel) (by decide +kernel)
set_option maxRecDepth 20000 in
theorem gqL_refuses_r16 : GoodIn wsL_law wsL_refuses_r16 := goodIn_r _ [552, 553, 554, 555, 556, 557, 558, 559, 560, 561, 562, 563, 564, 565, 566, 567, 568, 569, 570, 571, 572, 24, 573, 248] (by decide +kernel) (by decide +kernel)
set_option maxRecDepth 20000 in
theorem gqL_refuses_r17 : GoodIn wsL_law wsL_refuses_r17 := goodIn_r _ [84, 574, 575, 576, 577, 578, 579, 580, 581, 582, 583, 584, 585, 586, 587, 588, 589, 590, 591, 495, 496, 497, 592, 593] (by decide +kernel) (by decide +kernel)
set_option maxRecDepth 20000 in
theorem gqL_refuses_r18 : GoodIn wsL_law wsL_refuses_r18 := goodIn_r _ [486, 487, 488, 489, 594, 595, 596, 597, 598, 599, 600, 601, 91, 602, 603, 604, 605, 606, 494, 611, 612, 613, 614, 627] (by decide +kernel) (by decide +kernel)
set_option maxRecDepth 20000 in
theorem gqL_refuses_r19 : GoodIn wsL_law wsL_refuses_r19 := goodIn_r _ [628, 629, 630, 631, 632, 633, 163, 164, 165, 166, 167, 169, 170, 171, 172, 173, 174, 175, 176, 177, 178, 179, 180, 181] (by decide +kernel) (by decide +kernel)
set_option maxRecDepth 20000 in
theorem gqL_refuses_r20 : GoodIn wsL_law wsL_refuses_r20 := goodIn_r _ [182, 183, 184, 185, 186, 187, 188, 189, 190, 191, 192, 193, 194, 195, 196, 197, 198, 199, 200, 201, 202, 203, 204, 205] (by decide +kernel) (by decide +kernel)
set_option maxRecDepth 20000 in
theorem gqL_refuses_r21 : GoodIn wsL_law wsL_refuses_r21 := goodIn_r _ [206, 207, 208, 209, 210, 211, 212, 213, 214, 215, 216, 217, 218, 219, 220, 221, 222, 223, 224, 225, 226, 227, 228, 229] (by decide +kernel) (by decide +kernel)
set_option maxRecDepth 20000 in
theorem gqL_refuses_r22 : GoodIn wsL_law wsL_refuses_r22 := goodIn_r _ [230, 231, 232, 233, 234, 235, 236, 237, 238, 239, 240, 241, 242, 80, 243, 244, 245, 246, 247, 85, 249, 250, 251, 252] (by decide +kernel) (by decide +kernel)
set_option maxRecDepth 20000 in
theorem gqL_refuses_r23 : GoodIn wsL_law wsL_refuses_r23 := goodIn_r _ [253, 254, 255, 256, 257, 258, 259, 260, 261, 262, 263, 264, 265, 266, 267, 268, 269, 270, 271, 634, 635, 636, 637, 638] (by decide +kernel) (by decide +kernel)
set_option maxRecDepth 20000 in
theorem gqL_refuses_r24 : GoodIn wsL_law wsL_refuses_r24 := goodIn_r _ [639, 640, 641, 642, 643, 644, 645, 646, 647, 648, 649, 650, 651, 652, 653, 654, 655, 158, 159, 160, 161, 162] (by decide +kernel) (by decide +kernel)
set_option maxRecDepth 20000 in
theorem ggL_law_L_refuses : GoodIn wsL_law wsL_refuses := goodIn_app (a := [.code yL_refuses cL_refuses 6 (some .boolean)]) gqL_refuses_0 (goodIn_app (goodIn_app (goodIn_app (goodIn_app (goodIn_app (goodIn_app (goodIn_app (goodIn_app (goodIn_app (goodIn_app (goodIn_app (goodIn_app (goodIn_app gqL_refuses_r1 (goodIn_app gqL_refuses_r2 (goodIn_app gqL_refuses_r3 (goodIn_app gqL_refuses_r4 (goodIn_app gqL_refuses_r5 (goodIn_app gqL_refuses_r6 (goodIn_app gqL_refuses_r7 (goodIn_app gqL_refuses_r8 (goodIn_app gqL_refuses_r9 (goodIn_app gqL_refuses_r10 (goodIn_app gqL_refuses_r11 (goodIn_app gqL_refuses_r12 (goodIn_app gqL_refuses_r13 (goodIn_app gqL_refuses_r14 (goodIn_app gqL_refuses_r15 (goodIn_app gqL_refuses_r16 (goodIn_app gqL_refuses_r17 (goodIn_app gqL_refuses_r18 (goodIn_app gqL_refuses_r19 (goodIn_app gqL_refuses_r20 (goodIn_app gqL_refuses_r21 (goodIn_app gqL_refuses_r22 (goodIn_app gqL_refuses_r23 gqL_refuses_r24))))))))))))))))))))))) gquX80) gquX50) gquX10) gquX20) gquX70) gquX00) gquX30) gquX40) gquX60) gqf_286) gqf_116) gqf_90)
set_option maxRecDepth 20000 in
theorem gL_law_L_refuses : GoodIn wsL_law (va_wsS RL 157 yL_refuses wsL_refuses) := goodIn_app (goodIn_of _ (by decide +kernel)) ggL_law_L_refuses
