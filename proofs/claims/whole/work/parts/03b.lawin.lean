set_option maxRecDepth 20000 in
theorem wsL_law_in0_r1 : ∀ w ∈ wsL_law0_r1, w ∈ lw_tbl := fun w h => (goodIn_r (big := lw_tbl) wsL_law0_r1 [43, 44, 32, 511, 512, 34, 761, 45, 46, 47, 48, 49, 50, 75, 76, 77, 78, 51, 52, 33, 79, 122, 80, 81] (by decide +kernel) (by decide +kernel) w h).1
set_option maxRecDepth 20000 in
theorem wsL_law_in0_r2 : ∀ w ∈ wsL_law0_r2, w ∈ lw_tbl := fun w h => (goodIn_r (big := lw_tbl) wsL_law0_r2 [82, 83, 84, 85, 86, 87, 88, 89, 90, 54, 55, 56, 59, 57, 60, 61, 62, 63, 513, 514, 515, 516, 519, 520] (by decide +kernel) (by decide +kernel) w h).1
set_option maxRecDepth 20000 in
theorem wsL_law_in0_r3 : ∀ w ∈ wsL_law0_r3, w ∈ lw_tbl := fun w h => (goodIn_r (big := lw_tbl) wsL_law0_r3 [523, 524, 525, 526, 527, 528, 529, 530, 139, 140, 31, 141, 142, 143, 144, 145, 146, 147, 148, 38, 216, 217, 218, 220] (by decide +kernel) (by decide +kernel) w h).1
set_option maxRecDepth 20000 in
theorem wsL_law_in0_r4 : ∀ w ∈ wsL_law0_r4, w ∈ lw_tbl := fun w h => (goodIn_r (big := lw_tbl) wsL_law0_r4 [39, 219, 570, 571, 572, 573, 574, 575, 576, 577, 578, 579, 580, 581, 583, 12, 584, 532, 566, 567, 568, 569, 236, 237] (by decide +kernel) (by decide +kernel) w h).1
set_option maxRecDepth 20000 in
theorem wsL_law_in0_r5 : ∀ w ∈ wsL_law0_r5, w ∈ lw_tbl := fun w h => (goodIn_r (big := lw_tbl) wsL_law0_r5 [238, 239, 240, 241, 242, 243, 244, 40, 585, 586, 587, 588, 517, 260, 261, 262, 263, 264, 265, 266, 589, 590, 591, 592] (by decide +kernel) (by decide +kernel) w h).1
set_option maxRecDepth 20000 in
theorem wsL_law_in0_r6 : ∀ w ∈ wsL_law0_r6, w ∈ lw_tbl := fun w h => (goodIn_r (big := lw_tbl) wsL_law0_r6 [518, 268, 269, 270, 271, 272, 273, 274, 593, 594, 595, 596, 277, 278, 279, 280, 281, 282, 283, 597, 598, 599, 600, 521] (by decide +kernel) (by decide +kernel) w h).1
set_option maxRecDepth 20000 in
theorem wsL_law_in0_r7 : ∀ w ∈ wsL_law0_r7, w ∈ lw_tbl := fun w h => (goodIn_r (big := lw_tbl) wsL_law0_r7 [285, 286, 287, 288, 289, 290, 291, 292, 294, 1, 295, 297, 299, 2, 300, 302, 303, 304, 305, 307, 308, 309, 310, 601] (by decide +kernel) (by decide +kernel) w h).1
set_option maxRecDepth 20000 in
theorem wsL_law_in0_r8 : ∀ w ∈ wsL_law0_r8, w ∈ lw_tbl := fun w h => (goodIn_r (big := lw_tbl) wsL_law0_r8 [602, 603, 604, 605, 607, 13, 608, 609, 611, 14, 612, 613, 615, 15, 616, 617, 619, 16, 620, 621, 623, 17, 624, 311] (by decide +kernel) (by decide +kernel) w h).1
set_option maxRecDepth 20000 in
theorem wsL_law_in0_r9 : ∀ w ∈ wsL_law0_r9, w ∈ lw_tbl := fun w h => (goodIn_r (big := lw_tbl) wsL_law0_r9 [312, 313, 314, 315, 316, 317, 319, 321, 3, 322, 323, 325, 4, 326, 327, 329, 5, 330, 331, 332, 333, 334, 335, 336] (by decide +kernel) (by decide +kernel) w h).1
set_option maxRecDepth 20000 in
theorem wsL_law_in0_r10 : ∀ w ∈ wsL_law0_r10, w ∈ lw_tbl := fun w h => (goodIn_r (big := lw_tbl) wsL_law0_r10 [337, 338, 339, 340, 341, 342, 343, 41, 344, 345, 346, 347, 625, 626, 627, 628, 629, 631, 18, 632, 633, 635, 19, 636] (by decide +kernel) (by decide +kernel) w h).1
set_option maxRecDepth 20000 in
theorem wsL_law_in0_r11 : ∀ w ∈ wsL_law0_r11, w ∈ lw_tbl := fun w h => (goodIn_r (big := lw_tbl) wsL_law0_r11 [637, 639, 20, 640, 641, 643, 21, 644, 645, 647, 22, 648, 649, 651, 23, 652, 348, 349, 350, 351, 352, 353, 354, 355] (by decide +kernel) (by decide +kernel) w h).1
set_option maxRecDepth 20000 in
theorem wsL_law_in0_r12 : ∀ w ∈ wsL_law0_r12, w ∈ lw_tbl := fun w h => (goodIn_r (big := lw_tbl) wsL_law0_r12 [357, 6, 358, 360, 362, 7, 363, 364, 366, 8, 367, 653, 654, 655, 656, 657, 659, 24, 660, 661, 663, 25, 664, 665] (by decide +kernel) (by decide +kernel) w h).1
set_option maxRecDepth 20000 in
theorem wsL_law_in0_r13 : ∀ w ∈ wsL_law0_r13, w ∈ lw_tbl := fun w h => (goodIn_r (big := lw_tbl) wsL_law0_r13 [667, 26, 668, 531, 669, 671, 27, 672, 368, 369, 370, 371, 372, 373, 374, 376, 378, 9, 379, 673, 674, 675, 676, 677] (by decide +kernel) (by decide +kernel) w h).1
set_option maxRecDepth 20000 in
theorem wsL_law_in0_r14 : ∀ w ∈ wsL_law0_r14, w ∈ lw_tbl := fun w h => (goodIn_r (big := lw_tbl) wsL_law0_r14 [679, 28, 680, 380, 381, 382, 383, 384, 385, 386, 681, 682, 683, 684, 522, 388, 389, 390, 391, 392, 393, 394, 395, 397] (by decide +kernel) (by decide +kernel) w h).1
set_option maxRecDepth 20000 in
theorem wsL_law_in0_r15 : ∀ w ∈ wsL_law0_r15, w ∈ lw_tbl := fun w h => (goodIn_r (big := lw_tbl) wsL_law0_r15 [10, 398, 685, 686, 687, 688, 123, 124, 125, 126, 689, 690, 691, 692, 693, 695, 29, 696, 127, 128, 129, 130, 697, 698] (by decide +kernel) (by decide +kernel) w h).1
set_option maxRecDepth 20000 in
theorem wsL_law_in0_r16 : ∀ w ∈ wsL_law0_r16, w ∈ lw_tbl := fun w h => (goodIn_r (big := lw_tbl) wsL_law0_r16 [699, 700, 131, 132, 133, 134, 701, 702, 703, 704, 135, 136, 137, 138, 705, 706, 707, 708, 401, 402, 403, 404, 405, 406] (by decide +kernel) (by decide +kernel) w h).1
set_option maxRecDepth 20000 in
theorem wsL_law_in0_r17 : ∀ w ∈ wsL_law0_r17, w ∈ lw_tbl := fun w h => (goodIn_r (big := lw_tbl) wsL_law0_r17 [407, 709, 710, 711, 712, 408, 409, 410, 411, 412, 413, 414, 713, 714, 715, 716, 415, 416, 417, 418, 419, 420, 421, 422] (by decide +kernel) (by decide +kernel) w h).1
set_option maxRecDepth 20000 in
theorem wsL_law_in0_r18 : ∀ w ∈ wsL_law0_r18, w ∈ lw_tbl := fun w h => (goodIn_r (big := lw_tbl) wsL_law0_r18 [423, 424, 425, 717, 718, 719, 720, 426, 427, 428, 429, 430, 431, 432, 721, 722, 723, 724, 433, 434, 435, 436, 437, 438] (by decide +kernel) (by decide +kernel) w h).1
set_option maxRecDepth 20000 in
theorem wsL_law_in0_r19 : ∀ w ∈ wsL_law0_r19, w ∈ lw_tbl := fun w h => (goodIn_r (big := lw_tbl) wsL_law0_r19 [439, 440, 441, 442, 443, 725, 726, 727, 728, 444, 445, 446, 447, 448, 449, 450, 451, 453, 11, 454, 455, 456, 42, 457] (by decide +kernel) (by decide +kernel) w h).1
set_option maxRecDepth 20000 in
theorem wsL_law_in0_r20 : ∀ w ∈ wsL_law0_r20, w ∈ lw_tbl := fun w h => (goodIn_r (big := lw_tbl) wsL_law0_r20 [729, 730, 731, 732, 733, 735, 30, 736, 458, 459, 460, 461, 462, 463, 464, 737, 738, 739, 740, 465, 466, 467, 468, 469] (by decide +kernel) (by decide +kernel) w h).1
set_option maxRecDepth 20000 in
theorem wsL_law_in0_r21 : ∀ w ∈ wsL_law0_r21, w ∈ lw_tbl := fun w h => (goodIn_r (big := lw_tbl) wsL_law0_r21 [470, 471, 741, 742, 743, 744, 472, 473, 474, 475, 476, 477, 478, 479, 480, 481, 482, 745, 746, 747, 748, 483, 484, 485] (by decide +kernel) (by decide +kernel) w h).1
set_option maxRecDepth 20000 in
theorem wsL_law_in0_r22 : ∀ w ∈ wsL_law0_r22, w ∈ lw_tbl := fun w h => (goodIn_r (big := lw_tbl) wsL_law0_r22 [486, 487, 488, 489, 749, 750, 751, 752, 490, 491, 492, 493, 494, 495, 496, 753, 754, 755, 756, 497, 498, 499, 500, 501] (by decide +kernel) (by decide +kernel) w h).1
set_option maxRecDepth 20000 in
theorem wsL_law_in0_r23 : ∀ w ∈ wsL_law0_r23, w ∈ lw_tbl := fun w h => (goodIn_r (big := lw_tbl) wsL_law0_r23 [502, 503, 504, 505, 506, 507, 508, 509, 510, 757, 758, 759, 760] (by decide +kernel) (by decide +kernel) w h).1
set_option maxRecDepth 20000 in
theorem wsL_law_in0_X1 : ∀ w ∈ wsX10, w ∈ lw_tbl := fun w h => (goodIn_r (big := lw_tbl) wsX10 [91, 93, 95, 97, 99, 101, 103, 105, 107, 109, 111, 113, 115, 117, 119] (by decide +kernel) (by decide +kernel) w h).1
set_option maxRecDepth 20000 in
theorem wsL_law_in0_X2 : ∀ w ∈ wsX20, w ∈ lw_tbl := fun w h => (goodIn_r (big := lw_tbl) wsX20 [533, 535, 537, 539, 541, 543, 545, 547, 549, 551, 553, 555, 557, 559, 561, 563] (by decide +kernel) (by decide +kernel) w h).1
set_option maxRecDepth 20000 in
theorem wsL_law_in0_X0 : ∀ w ∈ wsX00, w ∈ lw_tbl := fun w h => (goodIn_r (big := lw_tbl) wsX00 [64, 66, 68, 70, 72] (by decide +kernel) (by decide +kernel) w h).1
theorem wsL_law_in0 : ∀ w ∈ wsL_law0, w ∈ lw_tbl := fun w h => (List.mem_append.mp h).elim (fun h => (List.mem_append.mp h).elim (fun h => (List.mem_append.mp h).elim (fun h => (List.mem_append.mp h).elim (fun h => (fun w h => (List.mem_append.mp h).elim (wsL_law_in0_r1 w) ((fun w h => (List.mem_append.mp h).elim (wsL_law_in0_r2 w) ((fun w h => (List.mem_append.mp h).elim (wsL_law_in0_r3 w) ((fun w h => (List.mem_append.mp h).elim (wsL_law_in0_r4 w) ((fun w h => (List.mem_append.mp h).elim (wsL_law_in0_r5 w) ((fun w h => (List.mem_append.mp h).elim (wsL_law_in0_r6 w) ((fun w h => (List.mem_append.mp h).elim (wsL_law_in0_r7 w) ((fun w h => (List.mem_append.mp h).elim (wsL_law_in0_r8 w) ((fun w h => (List.mem_append.mp h).elim (wsL_law_in0_r9 w) ((fun w h => (List.mem_append.mp h).elim (wsL_law_in0_r10 w) ((fun w h => (List.mem_append.mp h).elim (wsL_law_in0_r11 w) ((fun w h => (List.mem_append.mp h).elim (wsL_law_in0_r12 w) ((fun w h => (List.mem_append.mp h).elim (wsL_law_in0_r13 w) ((fun w h => (List.mem_append.mp h).elim (wsL_law_in0_r14 w) ((fun w h => (List.mem_append.mp h).elim (wsL_law_in0_r15 w) ((fun w h => (List.mem_append.mp h).elim (wsL_law_in0_r16 w) ((fun w h => (List.mem_append.mp h).elim (wsL_law_in0_r17 w) ((fun w h => (List.mem_append.mp h).elim (wsL_law_in0_r18 w) ((fun w h => (List.mem_append.mp h).elim (wsL_law_in0_r19 w) ((fun w h => (List.mem_append.mp h).elim (wsL_law_in0_r20 w) ((fun w h => (List.mem_append.mp h).elim (wsL_law_in0_r21 w) ((fun w h => (List.mem_append.mp h).elim (wsL_law_in0_r22 w) ((fun w h => wsL_law_in0_r23 w h) w)) w)) w)) w)) w)) w)) w)) w)) w)) w)) w)) w)) w)) w)) w)) w)) w)) w)) w)) w)) w)) w)) w h) (fun h => wsL_law_in0_X1 w h)) (fun h => wsL_law_in0_X2 w h)) (fun h => wsL_law_in0_X0 w h)) (fun h => absurd h List.not_mem_nil)
theorem wsL_law_x0 : ∀ w ∈ (vx_atS RX1 65 "java/lang/IndexOutOfBoundsException" ["java/lang/RuntimeException", "java/lang/Exception"]).filter goodWord, w ∈ lw_tbl := by decide +kernel
theorem wsL_law_x1 : ∀ w ∈ (vx_atS RX1 83 "java/lang/IllegalArgumentException" ["java/lang/RuntimeException", "java/lang/Exception"]).filter goodWord, w ∈ lw_tbl := by decide +kernel
theorem wsL_law_x2 : ∀ w ∈ (vx_atS RX1 76 "java/lang/IllegalStateException" ["java/lang/RuntimeException", "java/lang/Exception"]).filter goodWord, w ∈ lw_tbl := by decide +kernel
theorem wsL_law_in : ∀ w ∈ wsL_law, w ∈ lw_tbl := fun w h => (List.mem_append.mp h).elim (fun h => (List.mem_append.mp h).elim (fun h => (List.mem_append.mp h).elim (fun h => wsL_law_in0 w h) (fun h => wsL_law_x0 w h)) (fun h => wsL_law_x1 w h)) (fun h => wsL_law_x2 w h)
theorem inlX0 : ∀ w ∈ wsX00, w ∈ wsL_law := fun _ h => List.mem_append_left _ (List.mem_append_left _ (List.mem_append_left _ (List.mem_append_left _ (List.mem_append_right _ h))))
theorem inX0 : ∀ w ∈ wsX00, w ∈ lw_tbl := fun w h => wsL_law_in w (inlX0 w h)
theorem inlX1 : ∀ w ∈ wsX10, w ∈ wsL_law := fun _ h => List.mem_append_left _ (List.mem_append_left _ (List.mem_append_left _ (List.mem_append_left _ (List.mem_append_left _ (List.mem_append_left _ (List.mem_append_right _ h))))))
theorem inX1 : ∀ w ∈ wsX10, w ∈ lw_tbl := fun w h => wsL_law_in w (inlX1 w h)
theorem inlX2 : ∀ w ∈ wsX20, w ∈ wsL_law := fun _ h => List.mem_append_left _ (List.mem_append_left _ (List.mem_append_left _ (List.mem_append_left _ (List.mem_append_left _ (List.mem_append_right _ h)))))
theorem inX2 : ∀ w ∈ wsX20, w ∈ lw_tbl := fun w h => wsL_law_in w (inlX2 w h)
theorem inJ13 : ∀ w ∈ wsJ130, w ∈ lw_tbl := by decide +kernel
theorem inJ9 : ∀ w ∈ wsJ90, w ∈ lw_tbl := by decide +kernel
theorem inJ0 : ∀ w ∈ wsJ00, w ∈ lw_tbl := by decide +kernel
