/-! THE TABLES' WORDS OF THE LAW'S CALLEES, piece by piece. -/
theorem tcode {w : Cond} {ws : List Cond} (i : Nat) (h : lw_tbl[i]? = some w) (hg : goodWord w = true) (ht : GoodIn lw_tbl ws) : GoodIn lw_tbl (w :: ws) := fun v hv => (List.mem_cons.mp hv).elim (fun e => by subst e; exact ⟨List.mem_of_getElem? h, good_of_word hg⟩) (ht v)
set_option maxRecDepth 200000 in
set_option maxHeartbeats 4000000 in
theorem tX40 : GoodIn lw_tbl wsX40 := goodIn_r _ [133, 135, 137, 139, 141] rfl (by decide +kernel)
set_option maxRecDepth 200000 in
set_option maxHeartbeats 4000000 in
theorem tX10 : GoodIn lw_tbl wsX10 := goodIn_r _ [55, 57, 59, 61, 63, 65, 67] rfl (by decide +kernel)
set_option maxRecDepth 200000 in
set_option maxHeartbeats 4000000 in
theorem tX20 : GoodIn lw_tbl wsX20 := goodIn_r _ [109, 111, 113, 115, 117, 119, 121, 123] rfl (by decide +kernel)
set_option maxRecDepth 200000 in
set_option maxHeartbeats 4000000 in
theorem tX00 : GoodIn lw_tbl wsX00 := goodIn_r _ [88, 90, 92, 94] rfl (by decide +kernel)
set_option maxRecDepth 200000 in
set_option maxHeartbeats 4000000 in
theorem tX50 : GoodIn lw_tbl wsX50 := goodIn_r _ [714, 716, 718, 720, 722] rfl (by decide +kernel)
set_option maxRecDepth 200000 in
set_option maxHeartbeats 4000000 in
theorem tX30 : GoodIn lw_tbl wsX30 := goodIn_r _ [465, 467, 469] rfl (by decide +kernel)
set_option maxRecDepth 200000 in
set_option maxHeartbeats 4000000 in
theorem tVX0 : GoodIn lw_tbl ((vx_atS RX4 43 "java/lang/IllegalArgumentException" ["java/lang/RuntimeException", "java/lang/Exception"]).filter goodWord) := goodIn_r _ [25, 178, 187, 191, 194, 196, 179, 180, 40, 41, 181, 186, 192, 212, 168, 213, 170, 214, 172, 182, 184, 174, 208, 209, 211, 174, 430, 431, 432, 202, 202, 203, 204, 205, 205, 206, 207, 208, 429, 420, 422, 189, 423, 424, 425, 426, 177, 176, 427] rfl (by decide +kernel)
set_option maxRecDepth 200000 in
set_option maxHeartbeats 4000000 in
theorem tVX1 : GoodIn lw_tbl ((vx_atS RX4 54 "java/lang/IllegalStateException" ["java/lang/RuntimeException", "java/lang/Exception"]).filter goodWord) := goodIn_r _ [25, 178, 187, 191, 194, 196, 179, 180, 40, 41, 181, 186, 192, 212, 168, 213, 170, 214, 172, 182, 184, 174, 208, 209, 211, 174, 644, 645, 646, 202, 202, 203, 204, 205, 205, 206, 207, 208, 643, 634, 636, 190, 637, 638, 639, 640, 177, 176, 641] rfl (by decide +kernel)
set_option maxRecDepth 200000 in
set_option maxHeartbeats 4000000 in
theorem tVX2 : GoodIn lw_tbl ((vx_atS RX4 148 "java/lang/IndexOutOfBoundsException" ["java/lang/RuntimeException", "java/lang/Exception"]).filter goodWord) := goodIn_r _ [25, 178, 187, 191, 194, 196, 179, 180, 40, 41, 181, 186, 192, 212, 168, 213, 170, 214, 172, 182, 184, 174, 208, 209, 211, 174, 199, 200, 201, 202, 202, 203, 204, 205, 205, 206, 207, 208, 198, 157, 165, 166, 167, 169, 171, 173, 177, 176, 175] rfl (by decide +kernel)
set_option maxRecDepth 200000 in
set_option maxHeartbeats 4000000 in
theorem tL_law0_r1 : GoodIn lw_tbl wsL_law0_r1 := goodIn_r _ [34, 35, 20, 36, 37, 38, 39, 40, 41, 42, 43, 21, 128, 72, 73, 22, 129, 130, 126, 79, 23, 131, 70, 132] rfl (by decide +kernel)
set_option maxRecDepth 200000 in
set_option maxHeartbeats 4000000 in
theorem tL_law0_r2 : GoodIn lw_tbl wsL_law0_r2 := goodIn_r _ [45, 46, 47, 48, 49, 50, 51, 71, 52, 74, 75, 76, 77, 78, 102, 103, 97, 104, 105, 99, 106, 107, 101, 81] rfl (by decide +kernel)
set_option maxRecDepth 200000 in
set_option maxHeartbeats 4000000 in
theorem tL_law0_r3 : GoodIn lw_tbl wsL_law0_r3 := goodIn_r _ [82, 83, 84, 85, 86, 697, 698, 19, 699, 700, 544, 24, 725, 702, 703, 704, 707, 709, 705, 710, 554, 712, 610, 611] rfl (by decide +kernel)
set_option maxRecDepth 200000 in
set_option maxHeartbeats 4000000 in
theorem tL_law0_r4 : GoodIn lw_tbl wsL_law0_r4 := goodIn_r _ [612, 613, 617, 618, 619, 620, 621, 622, 623, 624, 625, 626, 627, 628, 629, 630, 631, 419, 28, 633, 29, 152, 153, 154] rfl (by decide +kernel)
set_option maxRecDepth 200000 in
set_option maxHeartbeats 4000000 in
theorem tL_law0_r5 : GoodIn lw_tbl wsL_law0_r5 := goodIn_r _ [155, 53, 649, 650, 651, 652, 614, 615, 616, 708, 713, 711, 653, 654, 655, 656, 657, 658, 659, 660, 148, 150, 0, 151] rfl (by decide +kernel)
set_option maxRecDepth 200000 in
set_option maxHeartbeats 4000000 in
theorem tL_law0_r6 : GoodIn lw_tbl wsL_law0_r6 := goodIn_r _ [156, 30, 662, 664, 18, 665, 332, 273, 274, 275, 54, 668, 669, 670, 671, 672, 673, 674, 675, 328, 330, 4, 331, 676] rfl (by decide +kernel)
set_option maxRecDepth 200000 in
set_option maxHeartbeats 4000000 in
theorem tL_law0_r7 : GoodIn lw_tbl wsL_law0_r7 := goodIn_r _ [677, 678, 679, 680, 681, 682, 683, 684, 685, 686, 687, 688, 588, 589, 590, 689, 690, 691, 692, 693, 694, 695, 696, 391] rfl (by decide +kernel)
set_option maxRecDepth 200000 in
set_option maxHeartbeats 4000000 in
theorem tL_law0_r8 : GoodIn lw_tbl wsL_law0_r8 := goodIn_r _ [363, 364, 365, 233, 234, 235, 494, 496, 14, 497, 530, 531, 532, 533, 548, 549, 550, 551, 552, 706, 534, 535, 536, 537] rfl (by decide +kernel)
set_option maxRecDepth 200000 in
set_option maxHeartbeats 4000000 in
theorem tL_law0_r9 : GoodIn lw_tbl wsL_law0_r9 := goodIn_r _ [538, 539, 540, 541, 543, 16, 545, 411, 412, 413, 414, 415, 417, 7, 418, 435, 436, 437, 438, 108, 439, 441, 8, 442] rfl (by decide +kernel)
set_option maxRecDepth 200000 in
set_option maxHeartbeats 4000000 in
theorem tL_law0_r10 : GoodIn lw_tbl wsL_law0_r10 := goodIn_r _ [457, 31, 348, 443, 445, 9, 446, 447, 245, 246, 247, 463, 448, 449, 450, 451, 464, 452, 453, 454, 455, 456, 458, 459] rfl (by decide +kernel)
set_option maxRecDepth 200000 in
set_option maxHeartbeats 4000000 in
theorem tL_law0_r11 : GoodIn lw_tbl wsL_law0_r11 := goodIn_r _ [460, 461, 462, 472, 474, 10, 475, 272, 476, 341, 342, 343, 276, 277, 278, 279, 280, 281, 282, 283, 477, 479, 11, 480] rfl (by decide +kernel)
set_option maxRecDepth 200000 in
set_option maxHeartbeats 4000000 in
theorem tL_law0_r12 : GoodIn lw_tbl wsL_law0_r12 := goodIn_r _ [481, 482, 483, 484, 485, 487, 12, 488, 489, 237, 238, 239, 490, 492, 13, 493, 515, 516, 517, 518, 519, 520, 521, 380] rfl (by decide +kernel)
set_option maxRecDepth 200000 in
set_option maxHeartbeats 4000000 in
theorem tL_law0_r13 : GoodIn lw_tbl wsL_law0_r13 := goodIn_r _ [381, 382, 240, 241, 242, 243, 383, 384, 385, 386, 387, 388, 389, 390, 392, 393, 394, 395, 378, 304, 305, 306, 308, 307] rfl (by decide +kernel)
set_option maxRecDepth 200000 in
set_option maxHeartbeats 4000000 in
theorem tL_law0_r14 : GoodIn lw_tbl wsL_law0_r14 := goodIn_r _ [261, 262, 263, 264, 266, 3, 267, 268, 269, 270, 271, 87, 284, 253, 254, 255, 285, 286, 287, 288, 289, 290, 291, 292] rfl (by decide +kernel)
set_option maxRecDepth 200000 in
set_option maxHeartbeats 4000000 in
theorem tL_law0_r15 : GoodIn lw_tbl wsL_law0_r15 := goodIn_r _ [293, 294, 295, 296, 297, 309, 310, 311, 312, 396, 397, 398, 399, 400, 402, 6, 403, 404, 405, 32, 406, 407, 408, 409] rfl (by decide +kernel)
set_option maxRecDepth 200000 in
set_option maxHeartbeats 4000000 in
theorem tL_law0_r16 : GoodIn lw_tbl wsL_law0_r16 := goodIn_r _ [522, 355, 356, 357, 358, 359, 360, 361, 362, 366, 367, 368, 369, 370, 371, 372, 373, 374, 375, 376, 377, 523, 325, 326] rfl (by decide +kernel)
set_option maxRecDepth 200000 in
set_option maxHeartbeats 4000000 in
theorem tL_law0_r17 : GoodIn lw_tbl wsL_law0_r17 := goodIn_r _ [327, 334, 335, 336, 337, 338, 339, 340, 344, 345, 346, 347, 349, 351, 5, 352, 524, 526, 15, 527, 528, 145, 146, 147] rfl (by decide +kernel)
set_option maxRecDepth 200000 in
set_option maxHeartbeats 4000000 in
theorem tL_law0_r18 : GoodIn lw_tbl wsL_law0_r18 := goodIn_r _ [224, 226, 2, 227, 229, 230, 231, 232, 236, 244, 248, 249, 250, 251, 252, 529, 257, 258, 259, 298, 260, 379, 354, 144] rfl (by decide +kernel)
set_option maxRecDepth 200000 in
set_option maxHeartbeats 4000000 in
theorem tL_law0_r19 : GoodIn lw_tbl wsL_law0_r19 := goodIn_r _ [256, 299, 300, 301, 302, 303, 313, 314, 315, 316, 317, 318, 319, 320, 321, 322, 323, 507, 508, 509, 510, 503, 504, 505] rfl (by decide +kernel)
set_option maxRecDepth 200000 in
set_option maxHeartbeats 4000000 in
theorem tL_law0_r20 : GoodIn lw_tbl wsL_law0_r20 := goodIn_r _ [506, 498, 499, 500, 501, 511, 512, 513, 514, 324, 555, 556, 557, 558, 564, 559, 560, 561, 562, 563, 573, 574, 33, 575] rfl (by decide +kernel)
set_option maxRecDepth 200000 in
set_option maxHeartbeats 4000000 in
theorem tL_law0_r21 : GoodIn lw_tbl wsL_law0_r21 := goodIn_r _ [565, 567, 17, 568, 569, 570, 571, 572, 576, 577, 578, 579, 580, 581, 582, 583, 584, 585, 586, 587, 591, 592, 593, 594] rfl (by decide +kernel)
set_option maxRecDepth 200000 in
set_option maxHeartbeats 4000000 in
theorem tL_law0_r22 : GoodIn lw_tbl wsL_law0_r22 := goodIn_r _ [595, 596, 597, 598, 599, 600, 601, 602, 603, 604, 605, 606, 607, 608, 609] rfl (by decide +kernel)
set_option maxRecDepth 200000 in
set_option maxHeartbeats 4000000 in
theorem tL_law0 : GoodIn lw_tbl wsL_law0 := (goodIn_app (goodIn_app (goodIn_app (goodIn_app (goodIn_app (goodIn_app (goodIn_app (goodIn_app tL_law0_r1 (goodIn_app tL_law0_r2 (goodIn_app tL_law0_r3 (goodIn_app tL_law0_r4 (goodIn_app tL_law0_r5 (goodIn_app tL_law0_r6 (goodIn_app tL_law0_r7 (goodIn_app tL_law0_r8 (goodIn_app tL_law0_r9 (goodIn_app tL_law0_r10 (goodIn_app tL_law0_r11 (goodIn_app tL_law0_r12 (goodIn_app tL_law0_r13 (goodIn_app tL_law0_r14 (goodIn_app tL_law0_r15 (goodIn_app tL_law0_r16 (goodIn_app tL_law0_r17 (goodIn_app tL_law0_r18 (goodIn_app tL_law0_r19 (goodIn_app tL_law0_r20 (goodIn_app tL_law0_r21 tL_law0_r22))))))))))))))))))))) tX40) tX10) tX20) tX00) tX50) tX30) (fun _ h => absurd h List.not_mem_nil))
set_option maxRecDepth 200000 in
set_option maxHeartbeats 4000000 in
theorem tL_act_r1 : GoodIn lw_tbl wsL_act_r1 := goodIn_r _ [708, 713, 711, 70, 617, 618, 19, 619, 620, 621, 622, 623, 24, 624, 707, 709, 710, 625, 626, 627, 628, 629, 630, 20] rfl (by decide +kernel)
set_option maxRecDepth 200000 in
set_option maxHeartbeats 4000000 in
theorem tL_act_r2 : GoodIn lw_tbl wsL_act_r2 := goodIn_r _ [631, 419, 28, 633, 29, 128, 152, 153, 154, 21, 155, 53, 649, 650, 651, 652, 48, 653, 654, 655, 656, 712, 554, 657] rfl (by decide +kernel)
set_option maxRecDepth 200000 in
set_option maxHeartbeats 4000000 in
theorem tL_act_r3 : GoodIn lw_tbl wsL_act_r3 := goodIn_r _ [658, 659, 660, 148, 150, 0, 151, 156, 30, 662, 664, 18, 665, 332, 273, 274, 275, 54, 668, 669, 670, 671, 49, 50] rfl (by decide +kernel)
set_option maxRecDepth 200000 in
set_option maxHeartbeats 4000000 in
theorem tL_act_r4 : GoodIn lw_tbl wsL_act_r4 := goodIn_r _ [51, 52, 672, 673, 674, 675, 328, 330, 4, 331, 676, 677, 678, 679, 680, 681, 682, 683, 684, 685, 686, 687, 688, 588] rfl (by decide +kernel)
set_option maxRecDepth 200000 in
set_option maxHeartbeats 4000000 in
theorem tL_act_r5 : GoodIn lw_tbl wsL_act_r5 := goodIn_r _ [589, 590, 689, 690, 691, 692, 129, 693, 694, 695, 22, 696, 106, 391, 363, 364, 365, 233, 234, 235, 494, 496, 14, 497] rfl (by decide +kernel)
set_option maxRecDepth 200000 in
set_option maxHeartbeats 4000000 in
theorem tL_act_r6 : GoodIn lw_tbl wsL_act_r6 := goodIn_r _ [105, 530, 531, 532, 533, 548, 549, 550, 551, 552, 706, 534, 535, 536, 537, 538, 539, 540, 541, 543, 16, 545, 411, 412] rfl (by decide +kernel)
set_option maxRecDepth 200000 in
set_option maxHeartbeats 4000000 in
theorem tL_act_r7 : GoodIn lw_tbl wsL_act_r7 := goodIn_r _ [413, 414, 415, 417, 7, 418, 435, 436, 437, 438, 108, 439, 441, 8, 442, 101, 103, 99, 457, 31, 348, 443, 445, 9] rfl (by decide +kernel)
set_option maxRecDepth 200000 in
set_option maxHeartbeats 4000000 in
theorem tL_act_r8 : GoodIn lw_tbl wsL_act_r8 := goodIn_r _ [446, 447, 245, 246, 247, 463, 448, 449, 450, 451, 464, 452, 453, 454, 455, 456, 458, 459, 460, 461, 40, 41, 462, 472] rfl (by decide +kernel)
set_option maxRecDepth 200000 in
set_option maxHeartbeats 4000000 in
theorem tL_act_r9 : GoodIn lw_tbl wsL_act_r9 := goodIn_r _ [474, 10, 475, 107, 272, 476, 341, 342, 343, 276, 277, 278, 279, 280, 281, 282, 283, 477, 479, 11, 480, 481, 482, 483] rfl (by decide +kernel)
set_option maxRecDepth 200000 in
set_option maxHeartbeats 4000000 in
theorem tL_act_r10 : GoodIn lw_tbl wsL_act_r10 := goodIn_r _ [484, 485, 487, 12, 488, 489, 237, 238, 239, 490, 492, 13, 493] rfl (by decide +kernel)
set_option maxRecDepth 200000 in
set_option maxHeartbeats 4000000 in
theorem tL_act : GoodIn lw_tbl wsL_act := (tcode 616 rfl (by decide +kernel) (goodIn_app (goodIn_app (goodIn_app (goodIn_app (goodIn_app (goodIn_app (goodIn_app (goodIn_app (goodIn_app tL_act_r1 (goodIn_app tL_act_r2 (goodIn_app tL_act_r3 (goodIn_app tL_act_r4 (goodIn_app tL_act_r5 (goodIn_app tL_act_r6 (goodIn_app tL_act_r7 (goodIn_app tL_act_r8 (goodIn_app tL_act_r9 tL_act_r10))))))))) tX50) tX40) tX10) tX20) tX30) tVX0) tVX1) tVX2))
set_option maxRecDepth 200000 in
set_option maxHeartbeats 4000000 in
theorem tL_build_r1 : GoodIn lw_tbl wsL_build_r1 := goodIn_r _ [700, 544, 24, 725, 702, 703, 704, 40, 41, 70, 707, 709, 705, 710, 554, 712, 610, 611, 19, 612, 613, 617, 618, 619] rfl (by decide +kernel)
set_option maxRecDepth 200000 in
set_option maxHeartbeats 4000000 in
theorem tL_build_r2 : GoodIn lw_tbl wsL_build_r2 := goodIn_r _ [620, 621, 622, 623, 624, 625, 626, 627, 628, 629, 630, 20, 631, 419, 28, 633, 29, 128, 152, 153, 154, 21, 155, 53] rfl (by decide +kernel)
set_option maxRecDepth 200000 in
set_option maxHeartbeats 4000000 in
theorem tL_build_r3 : GoodIn lw_tbl wsL_build_r3 := goodIn_r _ [649, 650, 651, 652, 48, 614, 615, 616, 708, 713, 711, 653, 654, 655, 656, 657, 658, 659, 660, 148, 150, 0, 151, 156] rfl (by decide +kernel)
set_option maxRecDepth 200000 in
set_option maxHeartbeats 4000000 in
theorem tL_build_r4 : GoodIn lw_tbl wsL_build_r4 := goodIn_r _ [30, 662, 664, 18, 665, 332, 273, 274, 275, 54, 668, 669, 670, 671, 49, 50, 51, 52, 672, 673, 674, 675, 328, 330] rfl (by decide +kernel)
set_option maxRecDepth 200000 in
set_option maxHeartbeats 4000000 in
theorem tL_build_r5 : GoodIn lw_tbl wsL_build_r5 := goodIn_r _ [4, 331, 676, 677, 678, 679, 680, 681, 682, 683, 684, 685, 686, 687, 688, 588, 589, 590, 689, 690, 691, 692, 129, 693] rfl (by decide +kernel)
set_option maxRecDepth 200000 in
set_option maxHeartbeats 4000000 in
theorem tL_build_r6 : GoodIn lw_tbl wsL_build_r6 := goodIn_r _ [694, 695, 22, 696, 106, 391, 363, 364, 365, 233, 234, 235, 494, 496, 14, 497, 105, 530, 531, 532, 533, 548, 549, 550] rfl (by decide +kernel)
set_option maxRecDepth 200000 in
set_option maxHeartbeats 4000000 in
theorem tL_build_r7 : GoodIn lw_tbl wsL_build_r7 := goodIn_r _ [551, 552, 706, 534, 535, 536, 537, 538, 539, 540, 541, 543, 16, 545, 411, 412, 413, 414, 415, 417, 7, 418, 435, 436] rfl (by decide +kernel)
set_option maxRecDepth 200000 in
set_option maxHeartbeats 4000000 in
theorem tL_build_r8 : GoodIn lw_tbl wsL_build_r8 := goodIn_r _ [437, 438, 108, 439, 441, 8, 442, 101, 103, 99, 457, 31, 348, 443, 445, 9, 446, 447, 245, 246, 247, 463, 448, 449] rfl (by decide +kernel)
set_option maxRecDepth 200000 in
set_option maxHeartbeats 4000000 in
theorem tL_build_r9 : GoodIn lw_tbl wsL_build_r9 := goodIn_r _ [450, 451, 464, 452, 453, 454, 455, 456, 458, 459, 460, 461, 462, 472, 474, 10, 475, 107, 272, 476, 341, 342, 343, 276] rfl (by decide +kernel)
set_option maxRecDepth 200000 in
set_option maxHeartbeats 4000000 in
theorem tL_build_r10 : GoodIn lw_tbl wsL_build_r10 := goodIn_r _ [277, 278, 279, 280, 281, 282, 283, 477, 479, 11, 480, 481, 482, 483, 484, 485, 487, 12, 488, 489, 237, 238, 239, 490] rfl (by decide +kernel)
set_option maxRecDepth 200000 in
set_option maxHeartbeats 4000000 in
theorem tL_build_r11 : GoodIn lw_tbl wsL_build_r11 := goodIn_r _ [492, 13, 493] rfl (by decide +kernel)
set_option maxRecDepth 200000 in
set_option maxHeartbeats 4000000 in
theorem tL_build : GoodIn lw_tbl wsL_build := (tcode 699 rfl (by decide +kernel) (goodIn_app (goodIn_app (goodIn_app (goodIn_app (goodIn_app (goodIn_app (goodIn_app (goodIn_app (goodIn_app tL_build_r1 (goodIn_app tL_build_r2 (goodIn_app tL_build_r3 (goodIn_app tL_build_r4 (goodIn_app tL_build_r5 (goodIn_app tL_build_r6 (goodIn_app tL_build_r7 (goodIn_app tL_build_r8 (goodIn_app tL_build_r9 (goodIn_app tL_build_r10 tL_build_r11)))))))))) tX50) tX40) tX10) tX20) tX30) tVX0) tVX1) tVX2))
set_option maxRecDepth 200000 in
set_option maxHeartbeats 4000000 in
theorem tX5_isSame_r1 : GoodIn lw_tbl wsX5_isSame_r1 := goodIn_r _ [707, 710, 712, 564, 70, 709, 706, 538, 539, 24, 540, 559, 145, 146, 20, 147, 129, 148, 150, 0, 151, 156, 30, 128] rfl (by decide +kernel)
set_option maxRecDepth 200000 in
set_option maxHeartbeats 4000000 in
theorem tX5_isSame_r2 : GoodIn lw_tbl wsX5_isSame_r2 := goodIn_r _ [152, 153, 154, 21, 155, 53, 224, 226, 2, 227, 229, 230, 231, 22, 232, 106, 233, 234, 235, 236, 237, 238, 31, 239] rfl (by decide +kernel)
set_option maxRecDepth 200000 in
set_option maxHeartbeats 4000000 in
theorem tX5_isSame_r3 : GoodIn lw_tbl wsX5_isSame_r3 := goodIn_r _ [462, 240, 241, 242, 243, 108, 244, 245, 246, 247, 463, 248, 249, 250, 251, 464, 252, 253, 254, 255, 560, 561, 562, 563] rfl (by decide +kernel)
set_option maxRecDepth 200000 in
set_option maxHeartbeats 4000000 in
theorem tX5_isSame_r4 : GoodIn lw_tbl wsX5_isSame_r4 := goodIn_r _ [573, 574, 33, 575, 565, 567, 17, 568, 569, 570, 571, 572, 576, 257, 258, 259, 298, 260, 261, 262, 263, 105, 104, 264] rfl (by decide +kernel)
set_option maxRecDepth 200000 in
set_option maxHeartbeats 4000000 in
theorem tX5_isSame_r5 : GoodIn lw_tbl wsX5_isSame_r5 := goodIn_r _ [266, 3, 267, 102, 101, 268, 269, 270, 23, 271, 87, 272, 273, 274, 275, 54, 276, 277, 278, 279, 49, 280, 281, 282] rfl (by decide +kernel)
set_option maxRecDepth 200000 in
set_option maxHeartbeats 4000000 in
theorem tX5_isSame_r6 : GoodIn lw_tbl wsX5_isSame_r6 := goodIn_r _ [283, 50, 284, 285, 286, 287, 288, 289, 290, 291, 292, 84, 85, 86, 293, 294, 295, 296, 297, 577, 578, 579, 580, 581] rfl (by decide +kernel)
set_option maxRecDepth 200000 in
set_option maxHeartbeats 4000000 in
theorem tX5_isSame_r7 : GoodIn lw_tbl wsX5_isSame_r7 := goodIn_r _ [582, 583, 584, 585, 300, 301, 302, 303, 304, 305, 306, 308, 307, 309, 310, 311, 312, 52, 586, 314, 315, 316, 131, 132] rfl (by decide +kernel)
set_option maxRecDepth 200000 in
set_option maxHeartbeats 4000000 in
theorem tX5_isSame_r8 : GoodIn lw_tbl wsX5_isSame_r8 := goodIn_r _ [317, 318, 319, 320, 51, 321, 322, 323, 587, 588, 589, 590, 591, 355, 356, 357, 358, 359, 360, 361, 48, 362, 363, 364] rfl (by decide +kernel)
set_option maxRecDepth 200000 in
set_option maxHeartbeats 4000000 in
theorem tX5_isSame_r9 : GoodIn lw_tbl wsX5_isSame_r9 := goodIn_r _ [365, 366, 367, 368, 369, 103, 370, 371, 372, 373, 348, 374, 375, 376, 377, 378, 592, 325, 326, 327, 328, 330, 4, 331] rfl (by decide +kernel)
set_option maxRecDepth 200000 in
set_option maxHeartbeats 4000000 in
theorem tX5_isSame_r10 : GoodIn lw_tbl wsX5_isSame_r10 := goodIn_r _ [332, 334, 335, 336, 337, 338, 339, 340, 341, 342, 343, 344, 345, 346, 347, 349, 351, 5, 352, 593, 594, 595, 596, 597] rfl (by decide +kernel)
set_option maxRecDepth 200000 in
set_option maxHeartbeats 4000000 in
theorem tX5_isSame_r11 : GoodIn lw_tbl wsX5_isSame_r11 := goodIn_r _ [598, 599, 600, 601, 380, 381, 382, 383, 384, 385, 386, 387, 388, 389, 390, 391, 392, 393, 394, 395, 396, 397, 398, 399] rfl (by decide +kernel)
set_option maxRecDepth 200000 in
set_option maxHeartbeats 4000000 in
theorem tX5_isSame_r12 : GoodIn lw_tbl wsX5_isSame_r12 := goodIn_r _ [400, 402, 6, 403, 404, 405, 32, 406, 407, 408, 409, 602, 603, 604, 605, 606, 607, 608, 609, 447] rfl (by decide +kernel)
set_option maxRecDepth 200000 in
set_option maxHeartbeats 4000000 in
theorem tX5_isSame : GoodIn lw_tbl wsX5_isSame := (tcode 558 rfl (by decide +kernel) (goodIn_app (goodIn_app (goodIn_app (goodIn_app (goodIn_app (goodIn_app (goodIn_app (goodIn_app tX5_isSame_r1 (goodIn_app tX5_isSame_r2 (goodIn_app tX5_isSame_r3 (goodIn_app tX5_isSame_r4 (goodIn_app tX5_isSame_r5 (goodIn_app tX5_isSame_r6 (goodIn_app tX5_isSame_r7 (goodIn_app tX5_isSame_r8 (goodIn_app tX5_isSame_r9 (goodIn_app tX5_isSame_r10 (goodIn_app tX5_isSame_r11 tX5_isSame_r12))))))))))) tX50) tX40) tX10) tX20) tX30) tX00) tVX2))
theorem tL_law : GoodIn lw_tbl wsL_law := (goodIn_app (goodIn_app (goodIn_app tL_law0 tVX0) tVX1) tVX2)
theorem t41 : GoodIn lw_tbl [Cond.classLink RX5 41 "[[[I"] := goodIn_r _ [546] (by decide +kernel) (by decide +kernel)
def wsL_actZ : List Cond := .code yL_act cL_act 16 (some .boolean) :: (.classLink RX5 41 "[[[I" :: wsL_act)
def wsL_buildZ : List Cond := .code yL_build cL_build 6 (some (.object "PassNotesLaw$Sim")) :: (wsL_actZ ++ wsL_build)
theorem tL_actZ : GoodIn lw_tbl wsL_actZ := fun w h => (List.mem_cons.mp h).elim (fun e => tL_act w (e ▸ List.mem_cons_self)) (fun h => (List.mem_cons.mp h).elim (fun e => t41 w (e ▸ List.mem_cons_self)) (tL_act w))
theorem tL_buildZ : GoodIn lw_tbl wsL_buildZ := fun w h => (List.mem_cons.mp h).elim (fun e => tL_build w (e ▸ List.mem_cons_self)) (fun h => (List.mem_append.mp h).elim (tL_actZ w) (tL_build w))
theorem goodIn_up {big ws : List Cond} {a b : Cond} (h : GoodIn big ws) : GoodIn (a :: b :: big) ws := fun w hw => ⟨List.mem_cons_of_mem _ (List.mem_cons_of_mem _ (h w hw).1), (h w hw).2⟩
/-- a callee with the word of a class more -/
theorem goodIn_Z {big pre ws : List Cond} {a c : Cond} {x : Cond} (h : GoodIn big (pre ++ (c :: ws))) (hx : goodWord x = true) : GoodIn (a :: x :: big) (pre ++ (c :: x :: (c :: ws))) := fun w hw => by
  rcases List.mem_append.mp hw with q | q
  · exact goodIn_up h w (List.mem_append_left _ q)
  · rcases List.mem_cons.mp q with q | q
    · exact goodIn_up h w (List.mem_append_right _ (q ▸ List.mem_cons_self))
    · rcases List.mem_cons.mp q with q | q
      · exact ⟨q ▸ List.mem_cons_of_mem _ List.mem_cons_self, q ▸ good_of_word hx⟩
      · exact goodIn_up h w (List.mem_append_right _ q)
theorem gL_actZ_X5_hut : GoodIn wsL_actZ (wsV RL 25 RX5 yX5_hut wsX5_hutZ) := goodIn_Z (pre := [.methodLink RL 25 yX5_hut, .instanceMethod yX5_hut, .selects RX5 yX5_hut yX5_hut, .initialized RX5]) gL_act_X5_hut rfl
theorem gL_actZ_X5_go : GoodIn wsL_actZ (wsV RL 58 RX5 yX5_go wsX5_goZ) := goodIn_Z (pre := [.methodLink RL 58 yX5_go, .instanceMethod yX5_go, .selects RX5 yX5_go yX5_go, .initialized RX5]) gL_act_X5_go rfl
theorem gL_actZ_L_below : GoodIn wsL_actZ (va_wsS RL 19 yL_below wsL_below) := goodIn_up gL_act_L_below
theorem gL_actZ_X4_hut : GoodIn wsL_actZ (wsV RL 29 RX4 yX4_hut wsX4_hut) := goodIn_up gL_act_X4_hut
theorem gL_actZ_X5_pass : GoodIn wsL_actZ (wsV RL 34 RX5 yX5_pass wsX5_pass) := goodIn_up gL_act_X5_pass
theorem gL_actZ_X4_pass : GoodIn wsL_actZ (wsV RL 38 RX4 yX4_pass wsX4_pass) := goodIn_up gL_act_X4_pass
theorem gL_actZ_X4_setLength : GoodIn wsL_actZ (wsV RL 41 RX4 yX4_setLength wsX4_setLength) := goodIn_up gL_act_X4_setLength
theorem gL_actZ_X4_setOpen : GoodIn wsL_actZ (wsV RL 44 RX4 yX4_setOpen wsX4_setOpen) := goodIn_up gL_act_X4_setOpen
theorem gL_actZ_X5_sheetsOf : GoodIn wsL_actZ (wsV RL 48 RX5 yX5_sheetsOf wsX5_sheetsOf) := goodIn_up gL_act_X5_sheetsOf
theorem gL_actZ_X4_burn : GoodIn wsL_actZ (wsV RL 55 RX4 yX4_burn wsX4_burn) := goodIn_up gL_act_X4_burn
theorem gL_actZ_X4_go : GoodIn wsL_actZ (wsV RL 62 RX4 yX4_go wsX4_go) := goodIn_up gL_act_X4_go
theorem goodIn_bz {ws : List Cond} (h : GoodIn wsL_build ws) : GoodIn wsL_buildZ ws := fun w hw => ⟨List.mem_cons_of_mem _ (List.mem_append_right _ (h w hw).1), (h w hw).2⟩
theorem goodIn_ba {ws : List Cond} (h : GoodIn wsL_actZ ws) : GoodIn wsL_buildZ ws := fun w hw => ⟨List.mem_cons_of_mem _ (List.mem_append_left _ (h w hw).1), (h w hw).2⟩
theorem gL_buildZ_L_act : GoodIn wsL_buildZ (va_wsS RL 70 yL_act wsL_actZ) := goodIn_app (goodIn_bz (goodIn_of _ (by decide +kernel))) (fun w hw => ⟨List.mem_cons_of_mem _ (List.mem_append_left _ hw), (tL_actZ w hw).2⟩)
theorem gL_buildZ_X5_hut : GoodIn wsL_buildZ (wsV RL 25 RX5 yX5_hut wsX5_hutZ) := goodIn_ba gL_actZ_X5_hut
theorem gL_buildZ_L_cell : GoodIn wsL_buildZ (va_wsS RL 65 yL_cell wsL_cell) := goodIn_bz gL_build_L_cell
theorem gL_buildZ_L_below : GoodIn wsL_buildZ (va_wsS RL 19 yL_below wsL_below) := goodIn_bz gL_build_L_below
theorem gL_buildZ_X4_hut : GoodIn wsL_buildZ (wsV RL 29 RX4 yX4_hut wsX4_hut) := goodIn_bz gL_build_X4_hut
theorem gL_buildZ_X5_init_n64 : GoodIn wsL_buildZ wsX5_init := goodIn_bz gL_build_X5_init_n64
theorem tgood {big ws : List Cond} (h : GoodIn big ws) (ht : GoodIn lw_tbl big) : GoodIn lw_tbl ws := fun w hw => ⟨(ht w (h w hw).1).1, (h w hw).2⟩
theorem t_X4_init : GoodIn lw_tbl (wsX4_init) := tgood gL_law_X4_init tL_law
theorem t_L_cell : GoodIn lw_tbl (va_wsS RL 65 yL_cell wsL_cell) := tgood gL_law_L_cell tL_law
theorem t_X4_go : GoodIn lw_tbl (wsV RL 62 RX4 yX4_go wsX4_go) := tgood gL_law_X4_go tL_law
theorem t_X4_digest : GoodIn lw_tbl (wsV RL 79 RX4 yX4_digest wsX4_digest) := tgood gL_law_X4_digest tL_law
theorem t_X4_count : GoodIn lw_tbl (wsV RL 83 RX4 yX4_count wsX4_count) := tgood gL_law_X4_count tL_law
theorem t_X4_told : GoodIn lw_tbl (wsV RL 86 RX4 yX4_told wsX4_told) := tgood gL_law_X4_told tL_law
theorem t_X4_sheet : GoodIn lw_tbl (wsV RL 89 RX4 yX4_sheet wsX4_sheet) := tgood gL_law_X4_sheet tL_law
theorem t_X4_way : GoodIn lw_tbl (wsV RL 92 RX4 yX4_way wsX4_way) := tgood gL_law_X4_way tL_law
theorem t_X4_post : GoodIn lw_tbl (wsV RL 95 RX4 yX4_post wsX4_post) := tgood gL_law_X4_post tL_law
theorem t_X4_truth : GoodIn lw_tbl (wsV RL 98 RX4 yX4_truth wsX4_truth) := tgood gL_law_X4_truth tL_law
theorem t_X4_settles : GoodIn lw_tbl (wsV RL 101 RX4 yX4_settles wsX4_settles) := tgood gL_law_X4_settles tL_law
theorem t_X4_foresee : GoodIn lw_tbl (wsV RL 104 RX4 yX4_foresee wsX4_foresee) := tgood gL_law_X4_foresee tL_law
theorem t_X4_advise : GoodIn lw_tbl (wsV RL 107 RX4 yX4_advise wsX4_advise) := tgood gL_law_X4_advise tL_law
theorem t_X4_about : GoodIn lw_tbl (wsV RL 110 RX4 yX4_about wsX4_about) := tgood gL_law_X4_about tL_law
theorem t_L_act : GoodIn lw_tbl (va_wsS RL 70 yL_act wsL_actZ) := goodIn_app (goodIn_r _ [614, 615, 19] (by decide +kernel) (by decide +kernel)) tL_actZ
theorem t_L_build : GoodIn lw_tbl (va_wsS RL 75 yL_build wsL_buildZ) := goodIn_app (goodIn_of _ (by decide +kernel)) tL_buildZ
theorem t_X5_go : GoodIn lw_tbl (wsV RL 58 RX5 yX5_go wsX5_goZ) := tgood gL_actZ_X5_go tL_actZ
theorem t_X5_isSame : GoodIn lw_tbl (wsV RL 113 RX5 yX5_isSame wsX5_isSame) := goodIn_app (goodIn_of _ (by decide +kernel)) tX5_isSame
