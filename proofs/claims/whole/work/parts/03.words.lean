/-- words of a list by their places in another -/
theorem memr {big : List Cond} (ws : List Cond) (ps : List Nat) (hp : ws = ps.filterMap (fun i => big[i]?)) : ∀ w ∈ ws, w ∈ big := by
  intro w hw
  rw [hp] at hw
  obtain ⟨i, -, hi⟩ := List.mem_filterMap.mp hw
  exact List.mem_of_getElem? hi
set_option maxRecDepth 20000 in
theorem wsL_law_r1_in : ∀ w ∈ wsL_law_r1, w ∈ lw_tbl := memr _ [46, 47, 40, 549, 550, 45, 48, 49, 50, 51, 52, 53, 54, 55, 41, 205, 206, 136, 137, 43, 207, 174, 175, 44] (by decide +kernel)
set_option maxRecDepth 20000 in
theorem wsL_law_r2_in : ∀ w ∈ wsL_law_r2, w ∈ lw_tbl := memr _ [208, 203, 61, 42, 209, 70, 210, 211, 56, 57, 58, 59, 90, 92, 94, 96, 98, 100, 102, 104, 60, 106, 108, 63] (by decide +kernel)
set_option maxRecDepth 20000 in
theorem wsL_law_r3_in : ∀ w ∈ wsL_law_r3, w ∈ lw_tbl := memr _ [64, 65, 66, 71, 72, 73, 74, 76, 77, 78, 79, 80, 81, 84, 85, 86, 87, 88, 89, 139, 140, 141, 142, 145] (by decide +kernel)
set_option maxRecDepth 20000 in
theorem wsL_law_r4_in : ∀ w ∈ wsL_law_r4, w ∈ lw_tbl := memr _ [147, 149, 151, 177, 178, 179, 180, 181, 182, 551, 552, 553, 554, 555, 556, 557, 558, 559, 560, 561, 562, 564, 566, 567] (by decide +kernel)
set_option maxRecDepth 20000 in
theorem wsL_law_r5_in : ∀ w ∈ wsL_law_r5, w ∈ lw_tbl := memr _ [570, 575, 622, 576, 227, 228, 229, 230, 231, 232, 233, 234, 235, 236, 237, 238, 239, 240, 241, 242, 243, 623, 624, 625] (by decide +kernel)
set_option maxRecDepth 20000 in
theorem wsL_law_r6_in : ∀ w ∈ wsL_law_r6, w ∈ lw_tbl := memr _ [626, 627, 628, 629, 630, 631, 632, 244, 245, 246, 247, 99, 248, 633, 634, 635, 636, 249, 250, 251, 252, 101, 107, 253] (by decide +kernel)
set_option maxRecDepth 20000 in
theorem wsL_law_r7_in : ∀ w ∈ wsL_law_r7, w ∈ lw_tbl := memr _ [637, 638, 639, 640, 254, 255, 256, 257, 109, 641, 642, 643, 644, 258, 259, 260, 261, 144, 262, 263, 264, 265, 143, 645] (by decide +kernel)
set_option maxRecDepth 20000 in
theorem wsL_law_r8_in : ∀ w ∈ wsL_law_r8, w ∈ lw_tbl := memr _ [646, 647, 648, 565, 267, 268, 269, 270, 271, 272, 273, 274, 649, 650, 651, 652, 275, 276, 277, 278, 279, 280, 281, 282] (by decide +kernel)
set_option maxRecDepth 20000 in
theorem wsL_law_r9_in : ∀ w ∈ wsL_law_r9, w ∈ lw_tbl := memr _ [153, 155, 284, 286, 0, 287, 288, 290, 1, 291, 292, 294, 2, 295, 297, 299, 3, 300, 301, 303, 4, 304, 305, 307] (by decide +kernel)
set_option maxRecDepth 20000 in
theorem wsL_law_r10_in : ∀ w ∈ wsL_law_r10, w ∈ lw_tbl := memr _ [5, 308, 653, 654, 655, 656, 657, 659, 22, 660, 310, 311, 312, 313, 154, 314, 316, 6, 317, 156, 318, 319, 320, 321] (by decide +kernel)
set_option maxRecDepth 20000 in
theorem wsL_law_r11_in : ∀ w ∈ wsL_law_r11, w ∈ lw_tbl := memr _ [323, 324, 325, 327, 7, 328, 146, 148, 150, 152, 329, 330, 331, 332, 333, 334, 335, 336, 337, 338, 339, 340, 342, 343] (by decide +kernel)
set_option maxRecDepth 20000 in
theorem wsL_law_r12_in : ∀ w ∈ wsL_law_r12, w ∈ lw_tbl := memr _ [344, 345, 347, 348, 349, 350, 351, 352, 661, 662, 663, 664, 569, 665, 667, 23, 668, 669, 671, 24, 672, 673, 675, 25] (by decide +kernel)
set_option maxRecDepth 20000 in
theorem wsL_law_r13_in : ∀ w ∈ wsL_law_r13, w ∈ lw_tbl := memr _ [676, 568, 677, 679, 26, 680, 681, 683, 27, 684, 685, 687, 28, 688, 689, 690, 691, 692, 694, 29, 695, 353, 354, 355] (by decide +kernel)
set_option maxRecDepth 20000 in
theorem wsL_law_r14_in : ∀ w ∈ wsL_law_r14, w ∈ lw_tbl := memr _ [356, 357, 359, 8, 360, 696, 697, 698, 699, 361, 362, 363, 364, 365, 366, 367, 368, 369, 370, 371, 372, 373, 374, 375] (by decide +kernel)
set_option maxRecDepth 20000 in
theorem wsL_law_r15_in : ∀ w ∈ wsL_law_r15, w ∈ lw_tbl := memr _ [376, 700, 701, 702, 703, 704, 706, 30, 707, 708, 710, 31, 711, 377, 378, 379, 380, 712, 713, 714, 715, 381, 382, 383] (by decide +kernel)
set_option maxRecDepth 20000 in
theorem wsL_law_r16_in : ∀ w ∈ wsL_law_r16, w ∈ lw_tbl := memr _ [384, 385, 386, 387, 388, 389, 390, 391, 393, 9, 394, 395, 396, 397, 398, 716, 717, 718, 719, 720, 721, 722, 723, 725] (by decide +kernel)
set_option maxRecDepth 20000 in
theorem wsL_law_r17_in : ∀ w ∈ wsL_law_r17, w ∈ lw_tbl := memr _ [32, 726, 400, 401, 402, 403, 187, 404, 406, 10, 407, 408, 410, 11, 411, 412, 413, 415, 12, 416, 417, 418, 419, 420] (by decide +kernel)
set_option maxRecDepth 20000 in
theorem wsL_law_r18_in : ∀ w ∈ wsL_law_r18, w ∈ lw_tbl := memr _ [422, 423, 424, 425, 183, 426, 428, 13, 429, 184, 185, 186, 430, 432, 14, 433, 434, 436, 15, 437, 438, 439, 440, 441] (by decide +kernel)
set_option maxRecDepth 20000 in
theorem wsL_law_r19_in : ∀ w ∈ wsL_law_r19, w ∈ lw_tbl := memr _ [443, 445, 16, 446, 449, 447, 450, 451, 452, 453, 454, 727, 728, 729, 730, 573, 571, 572, 731, 733, 33, 734, 739, 735] (by decide +kernel)
set_option maxRecDepth 20000 in
theorem wsL_law_r20_in : ∀ w ∈ wsL_law_r20, w ∈ lw_tbl := memr _ [737, 34, 738, 740, 742, 35, 743, 744, 746, 36, 747, 455, 456, 457, 458, 459, 461, 17, 462, 748, 749, 750, 751, 463] (by decide +kernel)
set_option maxRecDepth 20000 in
theorem wsL_law_r21_in : ∀ w ∈ wsL_law_r21, w ∈ lw_tbl := memr _ [464, 465, 466, 467, 469, 18, 470, 752, 753, 754, 755, 471, 472, 473, 474, 756, 757, 758, 759, 475, 476, 477, 478, 760] (by decide +kernel)
set_option maxRecDepth 20000 in
theorem wsL_law_r22_in : ∀ w ∈ wsL_law_r22, w ∈ lw_tbl := memr _ [761, 762, 763, 764, 766, 37, 767, 479, 480, 481, 482, 97, 768, 769, 770, 771, 483, 484, 485, 486, 487, 489, 19, 490] (by decide +kernel)
set_option maxRecDepth 20000 in
theorem wsL_law_r23_in : ∀ w ∈ wsL_law_r23, w ∈ lw_tbl := memr _ [491, 492, 493, 494, 495, 772, 773, 774, 775, 776, 778, 38, 779, 574, 496, 497, 498, 499, 500, 501, 502, 503, 504, 505] (by decide +kernel)
set_option maxRecDepth 20000 in
theorem wsL_law_r24_in : ∀ w ∈ wsL_law_r24, w ∈ lw_tbl := memr _ [780, 781, 782, 783, 784, 785, 506, 507, 508, 509, 111, 103, 105, 786, 787, 788, 789, 563, 510, 511, 512, 513, 790, 791] (by decide +kernel)
set_option maxRecDepth 20000 in
theorem wsL_law_r25_in : ∀ w ∈ wsL_law_r25, w ∈ lw_tbl := memr _ [792, 793, 514, 515, 516, 517, 518, 520, 20, 521, 522, 524, 21, 525, 794, 795, 796, 797, 526, 527, 528, 529, 530, 798] (by decide +kernel)
set_option maxRecDepth 20000 in
theorem wsL_law_r26_in : ∀ w ∈ wsL_law_r26, w ∈ lw_tbl := memr _ [799, 800, 801, 802, 531, 532, 533, 534, 535, 536, 537, 538, 110, 540, 803, 804, 805, 806, 541, 542, 543, 544, 807, 808] (by decide +kernel)
set_option maxRecDepth 20000 in
theorem wsL_law_r27_in : ∀ w ∈ wsL_law_r27, w ∈ lw_tbl := memr _ [809, 810, 545, 546, 547, 548, 95, 91, 93, 811, 812, 813, 814] (by decide +kernel)
set_option maxRecDepth 20000 in
theorem inX0 : ∀ w ∈ wsX00, w ∈ lw_tbl := memr _ [67] (by decide +kernel)
set_option maxRecDepth 20000 in
theorem inX1 : ∀ w ∈ wsX10, w ∈ lw_tbl := memr _ [112, 114, 116, 118, 120, 122, 124, 126, 128, 130, 132] (by decide +kernel)
set_option maxRecDepth 20000 in
theorem inX2 : ∀ w ∈ wsX20, w ∈ lw_tbl := memr _ [157, 159, 161, 163, 165, 167, 169, 171] (by decide +kernel)
set_option maxRecDepth 20000 in
theorem inX3 : ∀ w ∈ wsX30, w ∈ lw_tbl := memr _ [188, 190, 192, 194, 196, 198, 200] (by decide +kernel)
set_option maxRecDepth 20000 in
theorem inX4 : ∀ w ∈ wsX40, w ∈ lw_tbl := memr _ [212, 214, 216, 218, 220, 222, 224] (by decide +kernel)
set_option maxRecDepth 20000 in
theorem inX5 : ∀ w ∈ wsX50, w ∈ lw_tbl := memr _ [577, 579, 581, 583, 585, 587, 589, 591, 593, 595, 597, 599, 601, 603, 605, 607, 609, 611, 613, 615, 617, 619] (by decide +kernel)
theorem wsL_law_in : ∀ w ∈ wsL_law, w ∈ lw_tbl := List.forall_mem_append.mpr ⟨List.forall_mem_append.mpr ⟨List.forall_mem_append.mpr ⟨List.forall_mem_append.mpr ⟨List.forall_mem_append.mpr ⟨List.forall_mem_append.mpr ⟨List.forall_mem_append.mpr ⟨List.forall_mem_append.mpr ⟨wsL_law_r1_in, List.forall_mem_append.mpr ⟨wsL_law_r2_in, List.forall_mem_append.mpr ⟨wsL_law_r3_in, List.forall_mem_append.mpr ⟨wsL_law_r4_in, List.forall_mem_append.mpr ⟨wsL_law_r5_in, List.forall_mem_append.mpr ⟨wsL_law_r6_in, List.forall_mem_append.mpr ⟨wsL_law_r7_in, List.forall_mem_append.mpr ⟨wsL_law_r8_in, List.forall_mem_append.mpr ⟨wsL_law_r9_in, List.forall_mem_append.mpr ⟨wsL_law_r10_in, List.forall_mem_append.mpr ⟨wsL_law_r11_in, List.forall_mem_append.mpr ⟨wsL_law_r12_in, List.forall_mem_append.mpr ⟨wsL_law_r13_in, List.forall_mem_append.mpr ⟨wsL_law_r14_in, List.forall_mem_append.mpr ⟨wsL_law_r15_in, List.forall_mem_append.mpr ⟨wsL_law_r16_in, List.forall_mem_append.mpr ⟨wsL_law_r17_in, List.forall_mem_append.mpr ⟨wsL_law_r18_in, List.forall_mem_append.mpr ⟨wsL_law_r19_in, List.forall_mem_append.mpr ⟨wsL_law_r20_in, List.forall_mem_append.mpr ⟨wsL_law_r21_in, List.forall_mem_append.mpr ⟨wsL_law_r22_in, List.forall_mem_append.mpr ⟨wsL_law_r23_in, List.forall_mem_append.mpr ⟨wsL_law_r24_in, List.forall_mem_append.mpr ⟨wsL_law_r25_in, List.forall_mem_append.mpr ⟨wsL_law_r26_in, wsL_law_r27_in⟩⟩⟩⟩⟩⟩⟩⟩⟩⟩⟩⟩⟩⟩⟩⟩⟩⟩⟩⟩⟩⟩⟩⟩⟩⟩, inX4⟩, inX5⟩, inX1⟩, inX2⟩, inX3⟩, inX0⟩, fun _ h => absurd h List.not_mem_nil⟩
theorem inlX0 : ∀ w ∈ wsX00, w ∈ wsL_law := fun _ h => List.mem_append_left _ (List.mem_append_right _ h)
theorem inlX1 : ∀ w ∈ wsX10, w ∈ wsL_law := fun _ h => List.mem_append_left _ (List.mem_append_left _ (List.mem_append_left _ (List.mem_append_left _ (List.mem_append_right _ h))))
theorem inlX2 : ∀ w ∈ wsX20, w ∈ wsL_law := fun _ h => List.mem_append_left _ (List.mem_append_left _ (List.mem_append_left _ (List.mem_append_right _ h)))
theorem inlX3 : ∀ w ∈ wsX30, w ∈ wsL_law := fun _ h => List.mem_append_left _ (List.mem_append_left _ (List.mem_append_right _ h))
theorem inlX4 : ∀ w ∈ wsX40, w ∈ wsL_law := fun _ h => List.mem_append_left _ (List.mem_append_left _ (List.mem_append_left _ (List.mem_append_left _ (List.mem_append_left _ (List.mem_append_left _ (List.mem_append_right _ h))))))
theorem inlX5 : ∀ w ∈ wsX50, w ∈ wsL_law := fun _ h => List.mem_append_left _ (List.mem_append_left _ (List.mem_append_left _ (List.mem_append_left _ (List.mem_append_left _ (List.mem_append_right _ h)))))
