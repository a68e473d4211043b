set_option maxRecDepth 20000 in
theorem wT_1 : ∀ w ∈ wsL_law_r1, w ∈ lw_tbl := fun w h => (goodIn_r wsL_law_r1 [58, 59, 45, 620, 621, 49, 756, 894, 60, 61, 62, 63, 64, 65, 66, 130, 131, 68, 132, 133, 134, 135, 136, 137] (by decide +kernel) (by decide +kernel) w h).1
set_option maxRecDepth 20000 in
theorem wT_2 : ∀ w ∈ wsL_law_r2, w ∈ lw_tbl := fun w h => (goodIn_r wsL_law_r2 [138, 139, 140, 141, 70, 71, 46, 142, 143, 94, 95, 47, 144, 108, 109, 48, 145, 73, 74, 75, 93, 76, 77, 78] (by decide +kernel) (by decide +kernel) w h).1
set_option maxRecDepth 20000 in
theorem wT_3 : ∀ w ∈ wsL_law_r3, w ∈ lw_tbl := fun w h => (goodIn_r wsL_law_r3 [79, 80, 97, 98, 99, 100, 101, 111, 112, 113, 114, 116, 118, 120, 622, 623, 624, 625, 627, 631, 632, 242, 635, 636] (by decide +kernel) (by decide +kernel) w h).1
set_option maxRecDepth 20000 in
theorem wT_4 : ∀ w ∈ wsL_law_r4, w ∈ lw_tbl := fun w h => (goodIn_r wsL_law_r4 [637, 638, 639, 757, 640, 641, 642, 643, 644, 645, 647, 648, 649, 650, 651, 662, 665, 667, 668, 179, 180, 181, 182, 183] (by decide +kernel) (by decide +kernel) w h).1
set_option maxRecDepth 20000 in
theorem wT_5 : ∀ w ∈ wsL_law_r5, w ∈ lw_tbl := fun w h => (goodIn_r wsL_law_r5 [195, 50, 184, 185, 186, 187, 189, 0, 190, 202, 191, 193, 1, 194, 196, 197, 198, 199, 211, 213, 215, 216, 201, 209] (by decide +kernel) (by decide +kernel) w h).1
set_option maxRecDepth 20000 in
theorem wT_6 : ∀ w ∈ wsL_law_r6, w ∈ lw_tbl := fun w h => (goodIn_r wsL_law_r6 [203, 205, 207, 200, 217, 218, 243, 245, 2, 246, 762, 763, 764, 765, 626, 766, 770, 771, 634, 767, 768, 769, 772, 774] (by decide +kernel) (by decide +kernel) w h).1
set_option maxRecDepth 20000 in
theorem wT_7 : ∀ w ∈ wsL_law_r7, w ∈ lw_tbl := fun w h => (goodIn_r wsL_law_r7 [27, 775, 776, 778, 28, 779, 247, 248, 249, 250, 210, 208, 251, 252, 253, 254, 780, 781, 782, 783, 255, 256, 257, 258] (by decide +kernel) (by decide +kernel) w h).1
set_option maxRecDepth 20000 in
theorem wT_8 : ∀ w ∈ wsL_law_r8, w ∈ lw_tbl := fun w h => (goodIn_r wsL_law_r8 [263, 51, 259, 261, 3, 262, 269, 264, 265, 266, 267, 271, 273, 275, 268, 270, 784, 785, 786, 787, 788, 646, 288, 289] (by decide +kernel) (by decide +kernel) w h).1
set_option maxRecDepth 20000 in
theorem wT_9 : ∀ w ∈ wsL_law_r9, w ∈ lw_tbl := fun w h => (goodIn_r wsL_law_r9 [290, 291, 789, 790, 791, 792, 292, 293, 294, 295, 793, 794, 795, 796, 628, 296, 297, 298, 299, 214, 212, 797, 798, 799] (by decide +kernel) (by decide +kernel) w h).1
set_option maxRecDepth 20000 in
theorem wT_10 : ∀ w ∈ wsL_law_r10, w ∈ lw_tbl := fun w h => (goodIn_r wsL_law_r10 [800, 300, 301, 302, 303, 801, 802, 803, 804, 805, 633, 304, 305, 306, 307, 102, 308, 309, 310, 311, 312, 313, 52, 314] (by decide +kernel) (by decide +kernel) w h).1
set_option maxRecDepth 20000 in
theorem wT_11 : ∀ w ∈ wsL_law_r11, w ∈ lw_tbl := fun w h => (goodIn_r wsL_law_r11 [315, 316, 317, 318, 319, 321, 4, 322, 81, 323, 324, 325, 326, 327, 329, 5, 330, 331, 332, 333, 334, 335, 336, 337] (by decide +kernel) (by decide +kernel) w h).1
set_option maxRecDepth 20000 in
theorem wT_12 : ∀ w ∈ wsL_law_r12, w ∈ lw_tbl := fun w h => (goodIn_r wsL_law_r12 [338, 339, 341, 6, 342, 343, 344, 345, 346, 347, 348, 349, 350, 351, 352, 353, 354, 355, 357, 7, 358, 359, 360, 361] (by decide +kernel) (by decide +kernel) w h).1
set_option maxRecDepth 20000 in
theorem wT_13 : ∀ w ∈ wsL_law_r13, w ∈ lw_tbl := fun w h => (goodIn_r wsL_law_r13 [362, 363, 364, 365, 366, 367, 369, 8, 370, 371, 372, 373, 374, 375, 377, 9, 378, 379, 381, 10, 382, 383, 384, 385] (by decide +kernel) (by decide +kernel) w h).1
set_option maxRecDepth 20000 in
theorem wT_14 : ∀ w ∈ wsL_law_r14, w ∈ lw_tbl := fun w h => (goodIn_r wsL_law_r14 [386, 387, 389, 11, 390, 391, 393, 12, 394, 206, 395, 396, 397, 398, 399, 401, 13, 402, 204, 403, 405, 14, 406, 407] (by decide +kernel) (by decide +kernel) w h).1
set_option maxRecDepth 20000 in
theorem wT_15 : ∀ w ∈ wsL_law_r15, w ∈ lw_tbl := fun w h => (goodIn_r wsL_law_r15 [408, 409, 410, 411, 412, 413, 414, 415, 416, 418, 15, 419, 420, 422, 16, 423, 424, 425, 426, 427, 428, 430, 17, 431] (by decide +kernel) (by decide +kernel) w h).1
set_option maxRecDepth 20000 in
theorem wT_16 : ∀ w ∈ wsL_law_r16, w ∈ lw_tbl := fun w h => (goodIn_r wsL_law_r16 [432, 433, 434, 435, 436, 437, 438, 439, 440, 441, 442, 443, 444, 445, 447, 18, 448, 274, 449, 451, 19, 452, 272, 453] (by decide +kernel) (by decide +kernel) w h).1
set_option maxRecDepth 20000 in
theorem wT_17 : ∀ w ∈ wsL_law_r17, w ∈ lw_tbl := fun w h => (goodIn_r wsL_law_r17 [455, 20, 456, 457, 458, 459, 460, 461, 463, 21, 464, 276, 465, 467, 22, 468, 115, 469, 470, 471, 472, 473, 475, 23] (by decide +kernel) (by decide +kernel) w h).1
set_option maxRecDepth 20000 in
theorem wT_18 : ∀ w ∈ wsL_law_r18, w ∈ lw_tbl := fun w h => (goodIn_r wsL_law_r18 [476, 117, 477, 478, 479, 480, 481, 482, 483, 484, 485, 486, 487, 488, 490, 489, 491, 493, 24, 494, 119, 495, 497, 25] (by decide +kernel) (by decide +kernel) w h).1
set_option maxRecDepth 20000 in
theorem wT_19 : ∀ w ∈ wsL_law_r19, w ∈ lw_tbl := fun w h => (goodIn_r wsL_law_r19 [498, 499, 500, 501, 502, 503, 504, 505, 506, 507, 508, 509, 510, 818, 819, 820, 821, 659, 658, 660, 661, 663, 664, 822] (by decide +kernel) (by decide +kernel) w h).1
set_option maxRecDepth 20000 in
theorem wT_20 : ∀ w ∈ wsL_law_r20, w ∈ lw_tbl := fun w h => (goodIn_r wsL_law_r20 [824, 31, 825, 629, 630, 666, 826, 828, 32, 829, 652, 870, 653, 654, 655, 657, 830, 832, 33, 833, 834, 836, 34, 837] (by decide +kernel) (by decide +kernel) w h).1
set_option maxRecDepth 20000 in
theorem wT_21 : ∀ w ∈ wsL_law_r21, w ∈ lw_tbl := fun w h => (goodIn_r wsL_law_r21 [838, 840, 35, 841, 842, 844, 36, 845, 846, 848, 37, 849, 814, 816, 30, 817, 850, 852, 38, 853, 854, 856, 39, 857] (by decide +kernel) (by decide +kernel) w h).1
set_option maxRecDepth 20000 in
theorem wT_22 : ∀ w ∈ wsL_law_r22, w ∈ lw_tbl := fun w h => (goodIn_r wsL_law_r22 [858, 860, 40, 861, 862, 864, 41, 865, 810, 812, 29, 813, 866, 868, 42, 869, 871, 873, 43, 874, 656, 875, 533, 534] (by decide +kernel) (by decide +kernel) w h).1
set_option maxRecDepth 20000 in
theorem wT_23 : ∀ w ∈ wsL_law_r23, w ∈ lw_tbl := fun w h => (goodIn_r wsL_law_r23 [44, 535, 537, 538, 539, 540, 545, 546, 57, 541, 542, 543, 544, 615, 616, 617, 618, 619, 876, 877, 878, 879, 758, 759] (by decide +kernel) (by decide +kernel) w h).1
set_option maxRecDepth 20000 in
theorem wT_24 : ∀ w ∈ wsL_law_r24, w ∈ lw_tbl := fun w h => (goodIn_r wsL_law_r24 [760, 761, 511, 512, 513, 514, 880, 881, 882, 883, 515, 516, 517, 518, 884, 885, 886, 887, 519, 520, 521, 522, 523, 528] (by decide +kernel) (by decide +kernel) w h).1
set_option maxRecDepth 20000 in
theorem wT_25 : ∀ w ∈ wsL_law_r25, w ∈ lw_tbl := fun w h => (goodIn_r wsL_law_r25 [524, 525, 526, 527, 888, 889, 890, 891, 892, 893, 529, 530, 531, 532, 806, 807, 808, 809] (by decide +kernel) (by decide +kernel) w h).1
set_option maxRecDepth 20000 in
theorem wT_X5 : ∀ w ∈ wsX50, w ∈ lw_tbl := fun w h => (goodIn_r wsX50 [146, 148, 150, 152, 154, 156, 158, 160, 162, 164, 166, 168, 170, 172, 174, 176] (by decide +kernel) (by decide +kernel) w h).1
set_option maxRecDepth 20000 in
theorem wT_X6 : ∀ w ∈ wsX60, w ∈ lw_tbl := fun w h => (goodIn_r wsX60 [669, 671, 673, 675, 677, 679, 681, 683, 685, 687, 689, 691, 693, 695, 697, 699, 701, 703, 705, 707, 709, 711, 713, 715, 717, 719, 721, 723, 725, 727, 729, 731, 733, 735, 737, 739, 741, 743, 745, 747, 749, 751, 753] (by decide +kernel) (by decide +kernel) w h).1
set_option maxRecDepth 20000 in
theorem wT_X2 : ∀ w ∈ wsX20, w ∈ lw_tbl := fun w h => (goodIn_r wsX20 [82, 84, 86, 88, 90] (by decide +kernel) (by decide +kernel) w h).1
set_option maxRecDepth 20000 in
theorem wT_X0 : ∀ w ∈ wsX00, w ∈ lw_tbl := fun w h => (goodIn_r wsX00 [103, 105] (by decide +kernel) (by decide +kernel) w h).1
set_option maxRecDepth 20000 in
theorem wT_X4 : ∀ w ∈ wsX40, w ∈ lw_tbl := fun w h => (goodIn_r wsX40 [121, 123, 125, 127] (by decide +kernel) (by decide +kernel) w h).1
set_option maxRecDepth 20000 in
theorem wT_X1 : ∀ w ∈ wsX10, w ∈ lw_tbl := fun w h => (goodIn_r wsX10 [219, 221, 223, 225, 227, 229, 231, 233, 235, 237, 239] (by decide +kernel) (by decide +kernel) w h).1
set_option maxRecDepth 20000 in
theorem wT_X3 : ∀ w ∈ wsX30, w ∈ lw_tbl := fun w h => (goodIn_r wsX30 [277, 279, 281, 283, 285] (by decide +kernel) (by decide +kernel) w h).1
set_option maxRecDepth 20000 in
theorem wT_Jx00060 : ∀ w ∈ wsJx000600, w ∈ lw_tbl := fun w h => (goodIn_r wsJx000600 [558, 560, 562, 564, 566, 611] (by decide +kernel) (by decide +kernel) w h).1
theorem z_ap {big a b : List Cond} (ha : ∀ w ∈ a, w ∈ big) (hb : ∀ w ∈ b, w ∈ big) : ∀ w ∈ a ++ b, w ∈ big := fun w h => (List.mem_append.mp h).elim (ha w) (hb w)
theorem wsL_law_in : ∀ w ∈ wsL_law, w ∈ lw_tbl := (z_ap (z_ap (z_ap (z_ap (z_ap (z_ap (z_ap (z_ap (z_ap (z_ap wT_1 (z_ap wT_2 (z_ap wT_3 (z_ap wT_4 (z_ap wT_5 (z_ap wT_6 (z_ap wT_7 (z_ap wT_8 (z_ap wT_9 (z_ap wT_10 (z_ap wT_11 (z_ap wT_12 (z_ap wT_13 (z_ap wT_14 (z_ap wT_15 (z_ap wT_16 (z_ap wT_17 (z_ap wT_18 (z_ap wT_19 (z_ap wT_20 (z_ap wT_21 (z_ap wT_22 (z_ap wT_23 (z_ap wT_24 wT_25)))))))))))))))))))))))) wT_X5) wT_X6) wT_X2) wT_X0) wT_X4) wT_X1) wT_X3) wT_Jx00060) (fun _ h => absurd h List.not_mem_nil))
