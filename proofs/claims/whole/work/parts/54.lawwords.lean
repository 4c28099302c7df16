/-! the words of the law, by their places in the tables -/
theorem z_pl {big ws : List Cond} (ps : List Nat) (hp : ws = ps.filterMap (fun i => big[i]?)) : ∀ w ∈ ws, w ∈ big := fun w hw => by
  rw [hp] at hw
  obtain ⟨i, -, hi⟩ := List.mem_filterMap.mp hw
  exact List.mem_of_getElem? hi
set_option maxRecDepth 100000 in
theorem zLi_r1 : ∀ w ∈ wsL_law_r1, w ∈ lw_tbl := z_pl [64, 65, 54, 528, 529, 62, 66, 67, 68, 69, 70, 71, 72, 73, 55, 246, 112, 113, 56, 247, 129, 130, 57, 248] (by decide +kernel)
set_option maxRecDepth 100000 in
theorem zLi_r2 : ∀ w ∈ wsL_law_r2, w ∈ lw_tbl := z_pl [144, 145, 58, 249, 158, 159, 59, 250, 110, 251, 252, 75, 76, 77, 78, 81, 83, 85, 87, 111, 90, 93, 115, 116] (by decide +kernel)
set_option maxRecDepth 100000 in
theorem zLi_r3 : ∀ w ∈ wsL_law_r3, w ∈ lw_tbl := z_pl [117, 118, 121, 122, 132, 133, 134, 135, 137, 147, 148, 149, 157, 153, 151, 152, 161, 162, 163, 164, 166, 168, 170, 172] (by decide +kernel)
set_option maxRecDepth 100000 in
theorem zLi_r4 : ∀ w ∈ wsL_law_r4, w ∈ lw_tbl := z_pl [174, 175, 176, 194, 196, 0, 197, 200, 1, 201, 211, 212, 61, 213, 203, 204, 205, 206, 60, 207, 208, 209, 210, 216] (by decide +kernel)
set_option maxRecDepth 100000 in
theorem zLi_r5 : ∀ w ∈ wsL_law_r5, w ∈ lw_tbl := z_pl [2, 217, 219, 220, 221, 222, 224, 3, 225, 228, 4, 229, 230, 232, 5, 233, 237, 6, 238, 239, 240, 241, 242, 244] (by decide +kernel)
set_option maxRecDepth 100000 in
theorem zLi_r6 : ∀ w ∈ wsL_law_r6, w ∈ lw_tbl := z_pl [7, 245, 530, 531, 532, 533, 545, 546, 548, 550, 534, 597, 551, 552, 553, 554, 556, 557, 558, 559, 535, 536, 537, 538] (by decide +kernel)
set_option maxRecDepth 100000 in
theorem zLi_r7 : ∀ w ∈ wsL_law_r7, w ∈ lw_tbl := z_pl [540, 35, 541, 555, 542, 543, 544, 268, 269, 270, 271, 274, 8, 275, 276, 278, 9, 279, 282, 10, 283, 286, 11, 287] (by decide +kernel)
set_option maxRecDepth 100000 in
theorem zLi_r8 : ∀ w ∈ wsL_law_r8, w ∈ lw_tbl := z_pl [598, 599, 600, 601, 602, 603, 604, 605, 607, 36, 608, 547, 609, 611, 37, 612, 288, 289, 290, 291, 613, 614, 615, 616] (by decide +kernel)
set_option maxRecDepth 100000 in
theorem zLi_r9 : ∀ w ∈ wsL_law_r9, w ∈ lw_tbl := z_pl [549, 292, 293, 294, 295, 617, 618, 619, 620, 296, 297, 298, 299, 300, 301, 302, 303, 621, 622, 623, 624, 625, 627, 38] (by decide +kernel)
set_option maxRecDepth 100000 in
theorem zLi_r10 : ∀ w ∈ wsL_law_r10, w ∈ lw_tbl := z_pl [628, 304, 305, 306, 307, 310, 12, 311, 629, 630, 631, 632, 312, 313, 314, 315, 318, 13, 319, 320, 322, 14, 323, 324] (by decide +kernel)
set_option maxRecDepth 100000 in
theorem zLi_r11 : ∀ w ∈ wsL_law_r11, w ∈ lw_tbl := z_pl [326, 15, 327, 328, 330, 16, 331, 334, 17, 335, 336, 337, 338, 339, 633, 634, 635, 636, 637, 639, 39, 640, 641, 643] (by decide +kernel)
set_option maxRecDepth 100000 in
theorem zLi_r12 : ∀ w ∈ wsL_law_r12, w ∈ lw_tbl := z_pl [40, 644, 645, 647, 41, 648, 340, 341, 342, 343, 344, 345, 346, 649, 650, 651, 652, 347, 348, 349, 350, 351, 653, 654] (by decide +kernel)
set_option maxRecDepth 100000 in
theorem zLi_r13 : ∀ w ∈ wsL_law_r13, w ∈ lw_tbl := z_pl [655, 656, 352, 353, 354, 355, 356, 358, 18, 359, 362, 19, 363, 364, 366, 20, 367, 657, 658, 659, 660, 661, 663, 42] (by decide +kernel)
set_option maxRecDepth 100000 in
theorem zLi_r14 : ∀ w ∈ wsL_law_r14, w ∈ lw_tbl := z_pl [664, 665, 667, 43, 668, 669, 671, 44, 672, 368, 369, 370, 371, 673, 674, 675, 676, 372, 373, 374, 375, 378, 21, 379] (by decide +kernel)
set_option maxRecDepth 100000 in
theorem zLi_r15 : ∀ w ∈ wsL_law_r15, w ∈ lw_tbl := z_pl [677, 678, 679, 680, 380, 381, 382, 383, 681, 682, 683, 684, 384, 385, 386, 387, 388, 390, 22, 391, 392, 393, 685, 686] (by decide +kernel)
set_option maxRecDepth 100000 in
theorem zLi_r16 : ∀ w ∈ wsL_law_r16, w ∈ lw_tbl := z_pl [687, 688, 394, 395, 396, 397, 398, 400, 23, 401, 402, 404, 24, 405, 408, 25, 409, 411, 412, 413, 414, 63, 415, 416] (by decide +kernel)
set_option maxRecDepth 100000 in
theorem zLi_r17 : ∀ w ∈ wsL_law_r17, w ∈ lw_tbl := z_pl [417, 418, 421, 26, 422, 423, 426, 27, 427, 428, 689, 690, 691, 692, 693, 694, 695, 696, 560, 697, 699, 45, 700, 561] (by decide +kernel)
set_option maxRecDepth 100000 in
theorem zLi_r18 : ∀ w ∈ wsL_law_r18, w ∈ lw_tbl := z_pl [701, 703, 46, 704, 705, 707, 47, 708, 709, 711, 48, 712, 713, 715, 49, 716, 717, 719, 50, 720, 429, 430, 431, 432] (by decide +kernel)
set_option maxRecDepth 100000 in
theorem zLi_r19 : ∀ w ∈ wsL_law_r19, w ∈ lw_tbl := z_pl [721, 722, 723, 724, 433, 434, 435, 436, 725, 726, 727, 728, 437, 438, 439, 440, 441, 443, 28, 444, 729, 730, 731, 732] (by decide +kernel)
set_option maxRecDepth 100000 in
theorem zLi_r20 : ∀ w ∈ wsL_law_r20, w ∈ lw_tbl := z_pl [733, 735, 51, 736, 445, 446, 447, 448, 737, 738, 739, 740, 449, 450, 451, 452, 455, 29, 456, 457, 741, 742, 743, 744] (by decide +kernel)
set_option maxRecDepth 100000 in
theorem zLi_r21 : ∀ w ∈ wsL_law_r21, w ∈ lw_tbl := z_pl [458, 459, 460, 461, 464, 30, 465, 466, 467, 469, 31, 470, 745, 746, 747, 748, 471, 472, 473, 474, 749, 750, 751, 752] (by decide +kernel)
set_option maxRecDepth 100000 in
theorem zLi_r22 : ∀ w ∈ wsL_law_r22, w ∈ lw_tbl := z_pl [475, 476, 477, 478, 753, 754, 755, 756, 479, 480, 481, 482, 757, 483, 484, 485, 486, 758, 759, 760, 761, 487, 488, 489] (by decide +kernel)
set_option maxRecDepth 100000 in
theorem zLi_r23 : ∀ w ∈ wsL_law_r23, w ∈ lw_tbl := z_pl [490, 762, 763, 764, 765, 491, 492, 493, 494, 766, 767, 768, 769, 495, 496, 497, 498, 770, 771, 772, 773, 499, 500, 501] (by decide +kernel)
set_option maxRecDepth 100000 in
theorem zLi_r24 : ∀ w ∈ wsL_law_r24, w ∈ lw_tbl := z_pl [502, 503, 505, 32, 506, 507, 509, 33, 510, 774, 775, 776, 777, 778, 780, 52, 781, 514, 515, 516, 517, 782, 783, 784] (by decide +kernel)
set_option maxRecDepth 100000 in
theorem zLi_r25 : ∀ w ∈ wsL_law_r25, w ∈ lw_tbl := z_pl [785, 518, 519, 520, 521, 522, 524, 34, 525, 786, 787, 788, 789] (by decide +kernel)
set_option maxRecDepth 100000 in
theorem zLi_X0 : ∀ w ∈ wsX00, w ∈ lw_tbl := z_pl [124, 126] (by decide +kernel)
set_option maxRecDepth 100000 in
theorem zLi_X1 : ∀ w ∈ wsX10, w ∈ lw_tbl := z_pl [139, 141] (by decide +kernel)
set_option maxRecDepth 100000 in
theorem zLi_X2 : ∀ w ∈ wsX20, w ∈ lw_tbl := z_pl [154] (by decide +kernel)
set_option maxRecDepth 100000 in
theorem zLi_X3 : ∀ w ∈ wsX30, w ∈ lw_tbl := z_pl [177, 179, 181, 183, 185, 187, 189, 191] (by decide +kernel)
set_option maxRecDepth 100000 in
theorem zLi_X4 : ∀ w ∈ wsX40, w ∈ lw_tbl := z_pl [95, 97, 99, 101, 103, 105, 107] (by decide +kernel)
set_option maxRecDepth 100000 in
theorem zLi_X5 : ∀ w ∈ wsX50, w ∈ lw_tbl := z_pl [253, 255, 257, 259, 261, 263, 265] (by decide +kernel)
set_option maxRecDepth 100000 in
theorem zLi_X6 : ∀ w ∈ wsX60, w ∈ lw_tbl := z_pl [562, 564, 566, 568, 570, 572, 574, 576, 578, 580, 582, 584, 586, 588, 590, 592, 594] (by decide +kernel)
theorem wsL_law_in : ∀ w ∈ wsL_law, w ∈ lw_tbl := List.forall_mem_append.mpr ⟨List.forall_mem_append.mpr ⟨List.forall_mem_append.mpr ⟨List.forall_mem_append.mpr ⟨List.forall_mem_append.mpr ⟨List.forall_mem_append.mpr ⟨List.forall_mem_append.mpr ⟨List.forall_mem_append.mpr ⟨List.forall_mem_append.mpr ⟨zLi_r1, List.forall_mem_append.mpr ⟨zLi_r2, List.forall_mem_append.mpr ⟨zLi_r3, List.forall_mem_append.mpr ⟨zLi_r4, List.forall_mem_append.mpr ⟨zLi_r5, List.forall_mem_append.mpr ⟨zLi_r6, List.forall_mem_append.mpr ⟨zLi_r7, List.forall_mem_append.mpr ⟨zLi_r8, List.forall_mem_append.mpr ⟨zLi_r9, List.forall_mem_append.mpr ⟨zLi_r10, List.forall_mem_append.mpr ⟨zLi_r11, List.forall_mem_append.mpr ⟨zLi_r12, List.forall_mem_append.mpr ⟨zLi_r13, List.forall_mem_append.mpr ⟨zLi_r14, List.forall_mem_append.mpr ⟨zLi_r15, List.forall_mem_append.mpr ⟨zLi_r16, List.forall_mem_append.mpr ⟨zLi_r17, List.forall_mem_append.mpr ⟨zLi_r18, List.forall_mem_append.mpr ⟨zLi_r19, List.forall_mem_append.mpr ⟨zLi_r20, List.forall_mem_append.mpr ⟨zLi_r21, List.forall_mem_append.mpr ⟨zLi_r22, List.forall_mem_append.mpr ⟨zLi_r23, List.forall_mem_append.mpr ⟨zLi_r24, zLi_r25⟩⟩⟩⟩⟩⟩⟩⟩⟩⟩⟩⟩⟩⟩⟩⟩⟩⟩⟩⟩⟩⟩⟩⟩, zLi_X5⟩, zLi_X6⟩, zLi_X4⟩, zLi_X0⟩, zLi_X1⟩, zLi_X2⟩, zLi_X3⟩, (fun _ h => absurd h List.not_mem_nil)⟩
