theorem x_in {big : List Cond} (ws : List Cond) (ps : List Nat) (hp : ws = ps.filterMap (fun i => big[i]?)) : ∀ w ∈ ws, w ∈ big := by
  intro w hw
  rw [hp] at hw
  obtain ⟨i, -, hi⟩ := List.mem_filterMap.mp hw
  exact List.mem_of_getElem? hi
set_option maxRecDepth 20000 in
theorem wsL_law_r1_in : ∀ w ∈ wsL_law_r1, w ∈ lw_tbl := x_in _ [60, 61, 49, 540, 541, 51, 62, 63, 64, 65, 66, 67, 92, 93, 68, 94, 70, 95, 72, 96, 74, 97, 76, 98] (by decide +kernel)
set_option maxRecDepth 20000 in
theorem wsL_law_r2_in : ∀ w ∈ wsL_law_r2, w ∈ lw_tbl := x_in _ [99, 100, 101, 102, 103, 104, 105, 106, 107, 108, 78, 79, 50, 109, 110, 81, 82, 83, 84, 85, 542, 543, 544, 545] (by decide +kernel)
set_option maxRecDepth 20000 in
theorem wsL_law_r3_in : ∀ w ∈ wsL_law_r3, w ∈ lw_tbl := x_in _ [546, 548, 549, 550, 552, 553, 554, 555, 561, 562, 565, 567, 568, 572, 569, 148, 149, 150, 151, 152, 52, 154, 155, 156] (by decide +kernel)
set_option maxRecDepth 20000 in
theorem wsL_law_r4_in : ∀ w ∈ wsL_law_r4, w ∈ lw_tbl := x_in _ [157, 159, 160, 628, 629, 630, 631, 547, 167, 168, 169, 170, 171, 172, 173, 174, 175, 176, 632, 633, 634, 635, 643, 644] (by decide +kernel)
set_option maxRecDepth 20000 in
theorem wsL_law_r5_in : ∀ w ∈ wsL_law_r5, w ∈ lw_tbl := x_in _ [636, 637, 638, 639, 640, 641, 642, 177, 178, 179, 180, 192, 193, 53, 181, 183, 0, 184, 185, 186, 187, 190, 1, 191] (by decide +kernel)
set_option maxRecDepth 20000 in
theorem wsL_law_r6_in : ∀ w ∈ wsL_law_r6, w ∈ lw_tbl := x_in _ [195, 196, 197, 209, 207, 198, 199, 200, 201, 202, 203, 204, 205, 54, 206, 220, 2, 221, 645, 646, 647, 648, 649, 651] (by decide +kernel)
set_option maxRecDepth 20000 in
theorem wsL_law_r7_in : ∀ w ∈ wsL_law_r7, w ∈ lw_tbl := x_in _ [33, 652, 653, 654, 655, 656, 657, 658, 659, 222, 223, 224, 225, 228, 3, 229, 660, 661, 662, 663, 664, 666, 34, 667] (by decide +kernel)
set_option maxRecDepth 20000 in
theorem wsL_law_r8_in : ∀ w ∈ wsL_law_r8, w ∈ lw_tbl := x_in _ [230, 231, 232, 233, 234, 55, 236, 237, 238, 239, 241, 668, 669, 670, 671, 551, 248, 249, 250, 251, 252, 254, 4, 255] (by decide +kernel)
set_option maxRecDepth 20000 in
theorem wsL_law_r9_in : ∀ w ∈ wsL_law_r9, w ∈ lw_tbl := x_in _ [672, 673, 674, 675, 680, 676, 678, 35, 679, 256, 257, 258, 259, 262, 5, 263, 681, 682, 683, 684, 685, 687, 36, 688] (by decide +kernel)
set_option maxRecDepth 20000 in
theorem wsL_law_r10_in : ∀ w ∈ wsL_law_r10, w ∈ lw_tbl := x_in _ [264, 265, 266, 267, 268, 269, 270, 273, 6, 274, 291, 292, 54, 293, 275, 277, 7, 278, 280, 281, 282, 283, 285, 8] (by decide +kernel)
set_option maxRecDepth 20000 in
theorem wsL_law_r11_in : ∀ w ∈ wsL_law_r11, w ∈ lw_tbl := x_in _ [286, 287, 289, 9, 290, 294, 296, 10, 297, 689, 690, 691, 692, 693, 694, 695, 696, 697, 699, 37, 700, 298, 299, 300] (by decide +kernel)
set_option maxRecDepth 20000 in
theorem wsL_law_r12_in : ∀ w ∈ wsL_law_r12, w ∈ lw_tbl := x_in _ [301, 304, 11, 305, 306, 308, 12, 309, 310, 312, 13, 313, 314, 316, 14, 317, 318, 320, 15, 321, 324, 16, 325, 326] (by decide +kernel)
set_option maxRecDepth 20000 in
theorem wsL_law_r13_in : ∀ w ∈ wsL_law_r13, w ∈ lw_tbl := x_in _ [329, 17, 330, 333, 18, 334, 701, 702, 703, 704, 705, 556, 557, 558, 559, 706, 708, 38, 709, 710, 712, 39, 713, 714] (by decide +kernel)
set_option maxRecDepth 20000 in
theorem wsL_law_r14_in : ∀ w ∈ wsL_law_r14, w ∈ lw_tbl := x_in _ [716, 40, 717, 335, 336, 337, 338, 339, 341, 19, 342, 718, 719, 720, 721, 343, 344, 345, 346, 722, 723, 724, 725, 560] (by decide +kernel)
set_option maxRecDepth 20000 in
theorem wsL_law_r15_in : ∀ w ∈ wsL_law_r15, w ∈ lw_tbl := x_in _ [347, 348, 349, 350, 726, 727, 728, 729, 351, 352, 353, 354, 355, 357, 20, 358, 359, 361, 21, 362, 363, 365, 22, 366] (by decide +kernel)
set_option maxRecDepth 20000 in
theorem wsL_law_r16_in : ∀ w ∈ wsL_law_r16, w ∈ lw_tbl := x_in _ [730, 731, 732, 733, 734, 736, 41, 737, 563, 738, 740, 42, 741, 367, 368, 369, 370, 371, 372, 56, 373, 374, 375, 376] (by decide +kernel)
set_option maxRecDepth 20000 in
theorem wsL_law_r17_in : ∀ w ∈ wsL_law_r17, w ∈ lw_tbl := x_in _ [742, 743, 744, 745, 746, 747, 748, 377, 378, 379, 380, 381, 57, 383, 384, 385, 386, 749, 750, 751, 752, 564, 391, 392] (by decide +kernel)
set_option maxRecDepth 20000 in
theorem wsL_law_r18_in : ∀ w ∈ wsL_law_r18, w ∈ lw_tbl := x_in _ [393, 394, 395, 397, 23, 398, 399, 400, 401, 753, 754, 755, 756, 757, 759, 43, 760, 761, 762, 763, 764, 765, 402, 403] (by decide +kernel)
set_option maxRecDepth 20000 in
theorem wsL_law_r19_in : ∀ w ∈ wsL_law_r19, w ∈ lw_tbl := x_in _ [404, 405, 408, 24, 409, 410, 412, 25, 413, 416, 26, 417, 766, 767, 768, 769, 770, 771, 772, 774, 44, 775, 776, 778] (by decide +kernel)
set_option maxRecDepth 20000 in
theorem wsL_law_r20_in : ∀ w ∈ wsL_law_r20, w ∈ lw_tbl := x_in _ [45, 779, 418, 419, 420, 421, 780, 781, 782, 783, 422, 423, 424, 425, 784, 785, 786, 787, 426, 427, 428, 429, 430, 58] (by decide +kernel)
set_option maxRecDepth 20000 in
theorem wsL_law_r21_in : ∀ w ∈ wsL_law_r21, w ∈ lw_tbl := x_in _ [432, 433, 434, 437, 435, 788, 789, 790, 791, 792, 566, 444, 445, 446, 447, 448, 451, 27, 452, 453, 454, 456, 28, 457] (by decide +kernel)
set_option maxRecDepth 20000 in
theorem wsL_law_r22_in : ∀ w ∈ wsL_law_r22, w ∈ lw_tbl := x_in _ [458, 793, 794, 795, 796, 797, 798, 570, 460, 461, 462, 463, 799, 800, 801, 802, 464, 465, 466, 467, 468, 59, 470, 471] (by decide +kernel)
set_option maxRecDepth 20000 in
theorem wsL_law_r23_in : ∀ w ∈ wsL_law_r23, w ∈ lw_tbl := x_in _ [472, 473, 474, 476, 478, 480, 803, 804, 805, 806, 571, 493, 494, 495, 496, 497, 499, 29, 500, 501, 503, 30, 504, 505] (by decide +kernel)
set_option maxRecDepth 20000 in
theorem wsL_law_r24_in : ∀ w ∈ wsL_law_r24, w ∈ lw_tbl := x_in _ [506, 507, 508, 807, 808, 809, 810, 811, 813, 46, 814, 815, 817, 47, 818, 509, 510, 511, 512, 819, 820, 821, 822, 513] (by decide +kernel)
set_option maxRecDepth 20000 in
theorem wsL_law_r25_in : ∀ w ∈ wsL_law_r25, w ∈ lw_tbl := x_in _ [514, 515, 516, 823, 824, 825, 826, 517, 518, 519, 520, 521, 524, 31, 525, 527, 528, 529, 531, 532, 533, 534, 537, 32] (by decide +kernel)
set_option maxRecDepth 20000 in
theorem wsL_law_r26_in : ∀ w ∈ wsL_law_r26, w ∈ lw_tbl := x_in _ [538, 827, 828, 829, 830, 831, 832] (by decide +kernel)
set_option maxRecDepth 20000 in
theorem inX0 : ∀ w ∈ wsX00, w ∈ lw_tbl := x_in _ [439, 441] (by decide +kernel)
set_option maxRecDepth 20000 in
theorem inX1 : ∀ w ∈ wsX10, w ∈ lw_tbl := x_in _ [388] (by decide +kernel)
set_option maxRecDepth 20000 in
theorem inX2 : ∀ w ∈ wsX20, w ∈ lw_tbl := x_in _ [162, 164] (by decide +kernel)
set_option maxRecDepth 20000 in
theorem inX3 : ∀ w ∈ wsX30, w ∈ lw_tbl := x_in _ [213, 215] (by decide +kernel)
set_option maxRecDepth 20000 in
theorem inX4 : ∀ w ∈ wsX40, w ∈ lw_tbl := x_in _ [482, 484, 486, 488, 490] (by decide +kernel)
set_option maxRecDepth 20000 in
theorem inX5 : ∀ w ∈ wsX50, w ∈ lw_tbl := x_in _ [87, 89] (by decide +kernel)
set_option maxRecDepth 20000 in
theorem inX6 : ∀ w ∈ wsX60, w ∈ lw_tbl := x_in _ [243, 245] (by decide +kernel)
set_option maxRecDepth 20000 in
theorem inX7 : ∀ w ∈ wsX70, w ∈ lw_tbl := x_in _ [111, 113, 115, 117, 119, 121, 123, 125, 127, 129, 131, 133, 135, 137, 139, 141, 143, 145] (by decide +kernel)
set_option maxRecDepth 20000 in
theorem inX8 : ∀ w ∈ wsX80, w ∈ lw_tbl := x_in _ [573, 575, 577, 579, 581, 583, 585, 587, 589, 591, 593, 595, 597, 599, 601, 603, 605, 607, 609, 611, 613, 615, 617, 619, 621, 623, 625] (by decide +kernel)
theorem wsL_law_in : ∀ w ∈ wsL_law, w ∈ lw_tbl := List.forall_mem_append.mpr ⟨List.forall_mem_append.mpr ⟨List.forall_mem_append.mpr ⟨List.forall_mem_append.mpr ⟨List.forall_mem_append.mpr ⟨List.forall_mem_append.mpr ⟨List.forall_mem_append.mpr ⟨List.forall_mem_append.mpr ⟨List.forall_mem_append.mpr ⟨List.forall_mem_append.mpr ⟨List.forall_mem_append.mpr ⟨wsL_law_r1_in, List.forall_mem_append.mpr ⟨wsL_law_r2_in, List.forall_mem_append.mpr ⟨wsL_law_r3_in, List.forall_mem_append.mpr ⟨wsL_law_r4_in, List.forall_mem_append.mpr ⟨wsL_law_r5_in, List.forall_mem_append.mpr ⟨wsL_law_r6_in, List.forall_mem_append.mpr ⟨wsL_law_r7_in, List.forall_mem_append.mpr ⟨wsL_law_r8_in, List.forall_mem_append.mpr ⟨wsL_law_r9_in, List.forall_mem_append.mpr ⟨wsL_law_r10_in, List.forall_mem_append.mpr ⟨wsL_law_r11_in, List.forall_mem_append.mpr ⟨wsL_law_r12_in, List.forall_mem_append.mpr ⟨wsL_law_r13_in, List.forall_mem_append.mpr ⟨wsL_law_r14_in, List.forall_mem_append.mpr ⟨wsL_law_r15_in, List.forall_mem_append.mpr ⟨wsL_law_r16_in, List.forall_mem_append.mpr ⟨wsL_law_r17_in, List.forall_mem_append.mpr ⟨wsL_law_r18_in, List.forall_mem_append.mpr ⟨wsL_law_r19_in, List.forall_mem_append.mpr ⟨wsL_law_r20_in, List.forall_mem_append.mpr ⟨wsL_law_r21_in, List.forall_mem_append.mpr ⟨wsL_law_r22_in, List.forall_mem_append.mpr ⟨wsL_law_r23_in, List.forall_mem_append.mpr ⟨wsL_law_r24_in, List.forall_mem_append.mpr ⟨wsL_law_r25_in, wsL_law_r26_in⟩⟩⟩⟩⟩⟩⟩⟩⟩⟩⟩⟩⟩⟩⟩⟩⟩⟩⟩⟩⟩⟩⟩⟩⟩, inX7⟩, inX8⟩, inX5⟩, inX2⟩, inX3⟩, inX6⟩, inX1⟩, inX0⟩, inX4⟩, fun _ h => absurd h List.not_mem_nil⟩
