set_option maxRecDepth 20000 in
theorem in_wsL_law_r1 : ∀ w ∈ wsL_law_r1, w ∈ lw_tbl := fun w h => (goodIn_r wsL_law_r1 [60, 61, 46, 688, 689, 52, 62, 63, 64, 65, 66, 67, 68, 69, 47, 177, 178, 179, 132, 133, 49, 180, 152, 153] (by decide +kernel) (by decide +kernel) w h).1
set_option maxRecDepth 20000 in
theorem in_wsL_law_r2 : ∀ w ∈ wsL_law_r2, w ∈ lw_tbl := fun w h => (goodIn_r wsL_law_r2 [50, 181, 167, 168, 51, 182, 70, 71, 72, 73, 74, 75, 48, 91, 93, 95, 90, 97, 99, 101, 76, 77, 78, 79] (by decide +kernel) (by decide +kernel) w h).1
set_option maxRecDepth 20000 in
theorem in_wsL_law_r3 : ∀ w ∈ wsL_law_r3, w ∈ lw_tbl := fun w h => (goodIn_r wsL_law_r3 [80, 81, 82, 134, 135, 136, 137, 138, 141, 140, 154, 155, 156, 157, 166, 158, 169, 170, 171, 172, 173, 690, 691, 692] (by decide +kernel) (by decide +kernel) w h).1
set_option maxRecDepth 20000 in
theorem in_wsL_law_r4 : ∀ w ∈ wsL_law_r4, w ∈ lw_tbl := fun w h => (goodIn_r wsL_law_r4 [693, 694, 695, 697, 699, 701, 702, 196, 197, 198, 199, 200, 202, 0, 203, 204, 205, 206, 207, 208, 209, 210, 211, 212] (by decide +kernel) (by decide +kernel) w h).1
set_option maxRecDepth 20000 in
theorem in_wsL_law_r5 : ∀ w ∈ wsL_law_r5, w ∈ lw_tbl := fun w h => (goodIn_r wsL_law_r5 [213, 214, 215, 216, 217, 219, 1, 220, 222, 223, 224, 225, 226, 227, 228, 229, 230, 231, 232, 233, 235, 2, 236, 237] (by decide +kernel) (by decide +kernel) w h).1
set_option maxRecDepth 20000 in
theorem in_wsL_law_r6 : ∀ w ∈ wsL_law_r6, w ∈ lw_tbl := fun w h => (goodIn_r wsL_law_r6 [238, 239, 240, 242, 3, 243, 244, 245, 246, 247, 142, 143, 248, 249, 250, 251, 256, 258, 257, 53, 103, 105, 107, 109] (by decide +kernel) (by decide +kernel) w h).1
set_option maxRecDepth 20000 in
theorem in_wsL_law_r7 : ∀ w ∈ wsL_law_r7, w ∈ lw_tbl := fun w h => (goodIn_r wsL_law_r7 [252, 253, 254, 255, 259, 260, 261, 262, 263, 264, 265, 266, 267, 268, 269, 270, 271, 272, 273, 274, 276, 277, 747, 748] (by decide +kernel) (by decide +kernel) w h).1
set_option maxRecDepth 20000 in
theorem in_wsL_law_r8 : ∀ w ∈ wsL_law_r8, w ∈ lw_tbl := fun w h => (goodIn_r wsL_law_r8 [749, 750, 751, 753, 19, 754, 755, 756, 757, 758, 759, 760, 761, 763, 20, 764, 765, 767, 21, 768, 769, 771, 22, 772] (by decide +kernel) (by decide +kernel) w h).1
set_option maxRecDepth 20000 in
theorem in_wsL_law_r9 : ∀ w ∈ wsL_law_r9, w ∈ lw_tbl := fun w h => (goodIn_r wsL_law_r9 [773, 774, 775, 776, 777, 778, 779, 780, 781, 743, 745, 18, 746, 696, 782, 784, 23, 785, 786, 788, 24, 789, 278, 279] (by decide +kernel) (by decide +kernel) w h).1
set_option maxRecDepth 20000 in
theorem in_wsL_law_r10 : ∀ w ∈ wsL_law_r10, w ∈ lw_tbl := fun w h => (goodIn_r wsL_law_r10 [280, 281, 282, 283, 284, 285, 790, 791, 792, 793, 794, 795, 796, 286, 287, 288, 289, 290, 291, 292, 293, 294, 296, 4] (by decide +kernel) (by decide +kernel) w h).1
set_option maxRecDepth 20000 in
theorem in_wsL_law_r11 : ∀ w ∈ wsL_law_r11, w ∈ lw_tbl := fun w h => (goodIn_r wsL_law_r11 [297, 298, 299, 300, 301, 302, 303, 304, 305, 306, 307, 54, 308, 797, 798, 799, 800, 801, 802, 803, 804, 805, 806, 309] (by decide +kernel) (by decide +kernel) w h).1
set_option maxRecDepth 20000 in
theorem in_wsL_law_r12 : ∀ w ∈ wsL_law_r12, w ∈ lw_tbl := fun w h => (goodIn_r wsL_law_r12 [310, 311, 312, 313, 314, 315, 316, 807, 808, 809, 810, 317, 318, 319, 320, 321, 322, 323, 324, 811, 812, 813, 814, 325] (by decide +kernel) (by decide +kernel) w h).1
set_option maxRecDepth 20000 in
theorem in_wsL_law_r13 : ∀ w ∈ wsL_law_r13, w ∈ lw_tbl := fun w h => (goodIn_r wsL_law_r13 [326, 327, 328, 329, 330, 331, 332, 815, 816, 817, 818, 333, 334, 335, 336, 337, 338, 339, 340, 819, 820, 821, 822, 341] (by decide +kernel) (by decide +kernel) w h).1
set_option maxRecDepth 20000 in
theorem in_wsL_law_r14 : ∀ w ∈ wsL_law_r14, w ∈ lw_tbl := fun w h => (goodIn_r wsL_law_r14 [342, 343, 344, 345, 346, 347, 348, 349, 351, 5, 352, 353, 355, 6, 356, 357, 359, 7, 360, 361, 362, 363, 364, 365] (by decide +kernel) (by decide +kernel) w h).1
set_option maxRecDepth 20000 in
theorem in_wsL_law_r15 : ∀ w ∈ wsL_law_r15, w ∈ lw_tbl := fun w h => (goodIn_r wsL_law_r15 [823, 824, 825, 826, 827, 829, 25, 830, 831, 833, 26, 834, 835, 837, 27, 838, 839, 841, 28, 842, 366, 367, 368, 369] (by decide +kernel) (by decide +kernel) w h).1
set_option maxRecDepth 20000 in
theorem in_wsL_law_r16 : ∀ w ∈ wsL_law_r16, w ∈ lw_tbl := fun w h => (goodIn_r wsL_law_r16 [370, 372, 8, 373, 374, 375, 376, 377, 378, 379, 380, 381, 383, 9, 384, 385, 386, 387, 388, 390, 10, 391, 392, 393] (by decide +kernel) (by decide +kernel) w h).1
set_option maxRecDepth 20000 in
theorem in_wsL_law_r17 : ∀ w ∈ wsL_law_r17, w ∈ lw_tbl := fun w h => (goodIn_r wsL_law_r17 [394, 395, 396, 398, 11, 399, 843, 844, 845, 846, 847, 849, 29, 850, 851, 853, 30, 854, 855, 856, 857, 858, 860, 31] (by decide +kernel) (by decide +kernel) w h).1
set_option maxRecDepth 20000 in
theorem in_wsL_law_r18 : ∀ w ∈ wsL_law_r18, w ∈ lw_tbl := fun w h => (goodIn_r wsL_law_r18 [861, 400, 401, 402, 403, 404, 405, 406, 407, 409, 410, 411, 412, 862, 863, 864, 865, 866, 868, 32, 869, 413, 414, 415] (by decide +kernel) (by decide +kernel) w h).1
set_option maxRecDepth 20000 in
theorem in_wsL_law_r19 : ∀ w ∈ wsL_law_r19, w ∈ lw_tbl := fun w h => (goodIn_r wsL_law_r19 [416, 417, 418, 419, 420, 870, 871, 872, 873, 421, 422, 423, 424, 425, 426, 427, 428, 429, 430, 874, 875, 876, 877, 878] (by decide +kernel) (by decide +kernel) w h).1
set_option maxRecDepth 20000 in
theorem in_wsL_law_r20 : ∀ w ∈ wsL_law_r20, w ∈ lw_tbl := fun w h => (goodIn_r wsL_law_r20 [880, 33, 881, 431, 432, 433, 434, 435, 436, 437, 438, 439, 440, 441, 442, 443, 444, 882, 883, 884, 885, 886, 888, 34] (by decide +kernel) (by decide +kernel) w h).1
set_option maxRecDepth 20000 in
theorem in_wsL_law_r21 : ∀ w ∈ wsL_law_r21, w ∈ lw_tbl := fun w h => (goodIn_r wsL_law_r21 [889, 890, 892, 35, 893, 894, 896, 36, 897, 445, 446, 447, 448, 898, 899, 900, 901, 449, 450, 451, 452, 453, 454, 455] (by decide +kernel) (by decide +kernel) w h).1
set_option maxRecDepth 20000 in
theorem in_wsL_law_r22 : ∀ w ∈ wsL_law_r22, w ∈ lw_tbl := fun w h => (goodIn_r wsL_law_r22 [456, 902, 903, 904, 905, 457, 458, 459, 460, 461, 462, 463, 464, 465, 467, 12, 468, 469, 470, 471, 472, 906, 907, 908] (by decide +kernel) (by decide +kernel) w h).1
set_option maxRecDepth 20000 in
theorem in_wsL_law_r23 : ∀ w ∈ wsL_law_r23, w ∈ lw_tbl := fun w h => (goodIn_r wsL_law_r23 [909, 910, 912, 37, 913, 473, 474, 475, 476, 477, 478, 479, 480, 495, 481, 483, 13, 484, 485, 486, 488, 14, 489, 490] (by decide +kernel) (by decide +kernel) w h).1
set_option maxRecDepth 20000 in
theorem in_wsL_law_r24 : ∀ w ∈ wsL_law_r24, w ∈ lw_tbl := fun w h => (goodIn_r wsL_law_r24 [492, 15, 493, 494, 914, 915, 916, 917, 496, 497, 498, 499, 500, 501, 502, 503, 159, 918, 919, 920, 921, 700, 504, 505] (by decide +kernel) (by decide +kernel) w h).1
set_option maxRecDepth 20000 in
theorem in_wsL_law_r25 : ∀ w ∈ wsL_law_r25, w ∈ lw_tbl := fun w h => (goodIn_r wsL_law_r25 [506, 507, 508, 509, 510, 511, 922, 923, 924, 925, 512, 513, 514, 515, 516, 517, 518, 519, 521, 522, 523, 524, 526, 527] (by decide +kernel) (by decide +kernel) w h).1
set_option maxRecDepth 20000 in
theorem in_wsL_law_r26 : ∀ w ∈ wsL_law_r26, w ∈ lw_tbl := fun w h => (goodIn_r wsL_law_r26 [528, 55, 529, 963, 530, 531, 532, 533, 534, 964, 536, 537, 538, 545, 546, 547, 548, 549, 550, 551, 552, 553, 554, 555] (by decide +kernel) (by decide +kernel) w h).1
set_option maxRecDepth 20000 in
theorem in_wsL_law_r27 : ∀ w ∈ wsL_law_r27, w ∈ lw_tbl := fun w h => (goodIn_r wsL_law_r27 [556, 557, 558, 559, 560, 561, 56, 562, 563, 564, 565, 566, 568, 569, 57, 570, 571, 572, 58, 573, 574, 575, 576, 577] (by decide +kernel) (by decide +kernel) w h).1
set_option maxRecDepth 20000 in
theorem in_wsL_law_r28 : ∀ w ∈ wsL_law_r28, w ∈ lw_tbl := fun w h => (goodIn_r wsL_law_r28 [578, 579, 580, 581, 582, 583, 584, 586, 588, 590, 591, 592, 594, 595, 596, 597, 598, 599, 600, 601, 602, 603, 604, 605] (by decide +kernel) (by decide +kernel) w h).1
set_option maxRecDepth 20000 in
theorem in_wsL_law_r29 : ∀ w ∈ wsL_law_r29, w ∈ lw_tbl := fun w h => (goodIn_r wsL_law_r29 [609, 610, 606, 607, 608, 611, 612, 613, 614, 615, 616, 617, 618, 619, 620, 621, 622, 623, 624, 625, 626, 627, 628, 629] (by decide +kernel) (by decide +kernel) w h).1
set_option maxRecDepth 20000 in
theorem in_wsL_law_r30 : ∀ w ∈ wsL_law_r30, w ∈ lw_tbl := fun w h => (goodIn_r wsL_law_r30 [630, 631, 632, 633, 634, 635, 636, 637, 638, 639, 59, 640, 641, 642, 643, 644, 645, 646, 647, 648, 926, 927, 928, 929] (by decide +kernel) (by decide +kernel) w h).1
set_option maxRecDepth 20000 in
theorem in_wsL_law_r31 : ∀ w ∈ wsL_law_r31, w ∈ lw_tbl := fun w h => (goodIn_r wsL_law_r31 [703, 704, 705, 930, 932, 38, 933, 934, 936, 39, 937, 938, 940, 40, 941, 942, 944, 41, 945, 946, 948, 42, 949, 950] (by decide +kernel) (by decide +kernel) w h).1
set_option maxRecDepth 20000 in
theorem in_wsL_law_r32 : ∀ w ∈ wsL_law_r32, w ∈ lw_tbl := fun w h => (goodIn_r wsL_law_r32 [952, 43, 953, 650, 651, 652, 653, 654, 656, 16, 657, 658, 659, 660, 661, 662, 663, 665, 17, 666, 667, 668, 669, 670] (by decide +kernel) (by decide +kernel) w h).1
set_option maxRecDepth 20000 in
theorem in_wsL_law_r33 : ∀ w ∈ wsL_law_r33, w ∈ lw_tbl := fun w h => (goodIn_r wsL_law_r33 [954, 955, 956, 957, 958, 959, 961, 44, 962, 671, 672, 673, 674, 675, 676, 677, 678, 731, 732, 733, 734, 679, 680, 681] (by decide +kernel) (by decide +kernel) w h).1
set_option maxRecDepth 20000 in
theorem in_wsL_law_r34 : ∀ w ∈ wsL_law_r34, w ∈ lw_tbl := fun w h => (goodIn_r wsL_law_r34 [682, 683, 735, 736, 737, 738, 698, 684, 685, 686, 687, 739, 740, 741, 742] (by decide +kernel) (by decide +kernel) w h).1
set_option maxRecDepth 20000 in
theorem in_wsX50 : ∀ w ∈ wsX50, w ∈ lw_tbl := fun w h => (goodIn_r wsX50 [183, 185, 187, 189, 191, 193] (by decide +kernel) (by decide +kernel) w h).1
set_option maxRecDepth 20000 in
theorem in_wsX60 : ∀ w ∈ wsX60, w ∈ lw_tbl := fun w h => (goodIn_r wsX60 [706, 708, 710, 712, 714, 716, 718, 720, 722, 724, 726, 728] (by decide +kernel) (by decide +kernel) w h).1
set_option maxRecDepth 20000 in
theorem in_wsX30 : ∀ w ∈ wsX30, w ∈ lw_tbl := fun w h => (goodIn_r wsX30 [111, 113, 115, 117, 119, 121, 123, 125, 127, 129] (by decide +kernel) (by decide +kernel) w h).1
set_option maxRecDepth 20000 in
theorem in_wsX10 : ∀ w ∈ wsX10, w ∈ lw_tbl := fun w h => (goodIn_r wsX10 [145, 147, 149] (by decide +kernel) (by decide +kernel) w h).1
set_option maxRecDepth 20000 in
theorem in_wsX20 : ∀ w ∈ wsX20, w ∈ lw_tbl := fun w h => (goodIn_r wsX20 [161, 163] (by decide +kernel) (by decide +kernel) w h).1
set_option maxRecDepth 20000 in
theorem in_wsX00 : ∀ w ∈ wsX00, w ∈ lw_tbl := fun w h => (goodIn_r wsX00 [174] (by decide +kernel) (by decide +kernel) w h).1
set_option maxRecDepth 20000 in
theorem in_wsX40 : ∀ w ∈ wsX40, w ∈ lw_tbl := fun w h => (goodIn_r wsX40 [83, 85, 87] (by decide +kernel) (by decide +kernel) w h).1
theorem wsL_law_in : ∀ w ∈ wsL_law, w ∈ lw_tbl := by
  unfold wsL_law
  exact List.forall_mem_append.mpr ⟨List.forall_mem_append.mpr ⟨List.forall_mem_append.mpr ⟨List.forall_mem_append.mpr ⟨List.forall_mem_append.mpr ⟨List.forall_mem_append.mpr ⟨List.forall_mem_append.mpr ⟨List.forall_mem_append.mpr ⟨List.forall_mem_append.mpr ⟨in_wsL_law_r1, List.forall_mem_append.mpr ⟨in_wsL_law_r2, List.forall_mem_append.mpr ⟨in_wsL_law_r3, List.forall_mem_append.mpr ⟨in_wsL_law_r4, List.forall_mem_append.mpr ⟨in_wsL_law_r5, List.forall_mem_append.mpr ⟨in_wsL_law_r6, List.forall_mem_append.mpr ⟨in_wsL_law_r7, List.forall_mem_append.mpr ⟨in_wsL_law_r8, List.forall_mem_append.mpr ⟨in_wsL_law_r9, List.forall_mem_append.mpr ⟨in_wsL_law_r10, List.forall_mem_append.mpr ⟨in_wsL_law_r11, List.forall_mem_append.mpr ⟨in_wsL_law_r12, List.forall_mem_append.mpr ⟨in_wsL_law_r13, List.forall_mem_append.mpr ⟨in_wsL_law_r14, List.forall_mem_append.mpr ⟨in_wsL_law_r15, List.forall_mem_append.mpr ⟨in_wsL_law_r16, List.forall_mem_append.mpr ⟨in_wsL_law_r17, List.forall_mem_append.mpr ⟨in_wsL_law_r18, List.forall_mem_append.mpr ⟨in_wsL_law_r19, List.forall_mem_append.mpr ⟨in_wsL_law_r20, List.forall_mem_append.mpr ⟨in_wsL_law_r21, List.forall_mem_append.mpr ⟨in_wsL_law_r22, List.forall_mem_append.mpr ⟨in_wsL_law_r23, List.forall_mem_append.mpr ⟨in_wsL_law_r24, List.forall_mem_append.mpr ⟨in_wsL_law_r25, List.forall_mem_append.mpr ⟨in_wsL_law_r26, List.forall_mem_append.mpr ⟨in_wsL_law_r27, List.forall_mem_append.mpr ⟨in_wsL_law_r28, List.forall_mem_append.mpr ⟨in_wsL_law_r29, List.forall_mem_append.mpr ⟨in_wsL_law_r30, List.forall_mem_append.mpr ⟨in_wsL_law_r31, List.forall_mem_append.mpr ⟨in_wsL_law_r32, List.forall_mem_append.mpr ⟨in_wsL_law_r33, in_wsL_law_r34⟩⟩⟩⟩⟩⟩⟩⟩⟩⟩⟩⟩⟩⟩⟩⟩⟩⟩⟩⟩⟩⟩⟩⟩⟩⟩⟩⟩⟩⟩⟩⟩⟩, in_wsX50⟩, in_wsX60⟩, in_wsX30⟩, in_wsX10⟩, in_wsX20⟩, in_wsX00⟩, in_wsX40⟩, fun _ h => absurd h List.not_mem_nil⟩
theorem inlX0 : ∀ w ∈ wsX00, w ∈ wsL_law := fun _ h => List.mem_append_left _ (List.mem_append_left _ (List.mem_append_right _ h))
theorem inX0 : ∀ w ∈ wsX00, w ∈ lw_tbl := fun w h => wsL_law_in w (inlX0 w h)
theorem inlX1 : ∀ w ∈ wsX10, w ∈ wsL_law := fun _ h => List.mem_append_left _ (List.mem_append_left _ (List.mem_append_left _ (List.mem_append_left _ (List.mem_append_right _ h))))
theorem inX1 : ∀ w ∈ wsX10, w ∈ lw_tbl := fun w h => wsL_law_in w (inlX1 w h)
theorem inlX2 : ∀ w ∈ wsX20, w ∈ wsL_law := fun _ h => List.mem_append_left _ (List.mem_append_left _ (List.mem_append_left _ (List.mem_append_right _ h)))
theorem inX2 : ∀ w ∈ wsX20, w ∈ lw_tbl := fun w h => wsL_law_in w (inlX2 w h)
theorem inlX3 : ∀ w ∈ wsX30, w ∈ wsL_law := fun _ h => List.mem_append_left _ (List.mem_append_left _ (List.mem_append_left _ (List.mem_append_left _ (List.mem_append_left _ (List.mem_append_right _ h)))))
theorem inX3 : ∀ w ∈ wsX30, w ∈ lw_tbl := fun w h => wsL_law_in w (inlX3 w h)
theorem inlX4 : ∀ w ∈ wsX40, w ∈ wsL_law := fun _ h => List.mem_append_left _ (List.mem_append_right _ h)
theorem inX4 : ∀ w ∈ wsX40, w ∈ lw_tbl := fun w h => wsL_law_in w (inlX4 w h)
theorem inlX5 : ∀ w ∈ wsX50, w ∈ wsL_law := fun _ h => List.mem_append_left _ (List.mem_append_left _ (List.mem_append_left _ (List.mem_append_left _ (List.mem_append_left _ (List.mem_append_left _ (List.mem_append_left _ (List.mem_append_right _ h)))))))
theorem inX5 : ∀ w ∈ wsX50, w ∈ lw_tbl := fun w h => wsL_law_in w (inlX5 w h)
theorem inlX6 : ∀ w ∈ wsX60, w ∈ wsL_law := fun _ h => List.mem_append_left _ (List.mem_append_left _ (List.mem_append_left _ (List.mem_append_left _ (List.mem_append_left _ (List.mem_append_left _ (List.mem_append_right _ h))))))
theorem inX6 : ∀ w ∈ wsX60, w ∈ lw_tbl := fun w h => wsL_law_in w (inlX6 w h)
theorem inJ11 : ∀ w ∈ wsJ110, w ∈ lw_tbl := by decide +kernel
theorem inJ9 : ∀ w ∈ wsJ90, w ∈ lw_tbl := by decide +kernel
theorem inJ0 : ∀ w ∈ wsJ00, w ∈ lw_tbl := by decide +kernel
theorem inJ1 : ∀ w ∈ wsJ10, w ∈ lw_tbl := by decide +kernel
theorem inJ2 : ∀ w ∈ wsJ20, w ∈ lw_tbl := by decide +kernel
theorem inJ10 : ∀ w ∈ wsJ100, w ∈ lw_tbl := by decide +kernel
theorem inJ3 : ∀ w ∈ wsJ30, w ∈ lw_tbl := by decide +kernel
theorem dX0_init_0 : decode cX0_init 0 = .ok (.aload_n 0, 1) := by decide +kernel
theorem dX0_init_1 : decode cX0_init 1 = .ok (.invokespecial 3, 3) := by decide +kernel
theorem dX0_init_4 : decode cX0_init 4 = .ok (.aload_n 0, 1) := by decide +kernel
theorem dX0_init_5 : decode cX0_init 5 = .ok (.iconst 3, 1) := by decide +kernel
theorem dX0_init_6 : decode cX0_init 6 = .ok (.newarray .int, 2) := by decide +kernel
theorem dX0_init_8 : decode cX0_init 8 = .ok (.putfield 9, 3) := by decide +kernel
theorem dX0_init_11 : decode cX0_init 11 = .ok (.return_, 1) := by decide +kernel
set_option maxRecDepth 20000 in
theorem ggX0_driveAlong_X0_enterMile : GoodIn wsX0_driveAlong wsX0_enterMile := goodIn_r _ [10, 1, 11, 12, 13, 14, 15, 16, 17, 18, 19, 20, 21, 22, 23, 24, 25, 26, 46, 47, 48, 49, 50, 51, 52, 53, 54, 55, 56, 57, 58, 59] (by decide +kernel) (by decide +kernel)
set_option maxRecDepth 20000 in
theorem gX0_driveAlong_X0_enterMile : GoodIn wsX0_driveAlong (wsV RX0 15 RX0 yX0_enterMile wsX0_enterMile) := goodIn_app (goodIn_of _ (by decide +kernel)) ggX0_driveAlong_X0_enterMile
set_option maxRecDepth 20000 in
theorem ggX0_driveAlong_X0_changeLanes : GoodIn wsX0_driveAlong wsX0_changeLanes := goodIn_r _ [30, 31, 32, 33, 9, 34, 1, 2, 3, 4, 5, 35, 36, 37, 14, 38, 39, 40, 41, 42, 43, 44, 17, 18, 19, 20, 21, 22, 23, 45, 12, 13, 15, 16, 24, 25, 26, 46, 47, 48, 49, 50, 51, 52, 53, 54, 55, 56, 57, 58, 59] (by decide +kernel) (by decide +kernel)
set_option maxRecDepth 20000 in
theorem gX0_driveAlong_X0_changeLanes : GoodIn wsX0_driveAlong (wsV RX0 19 RX0 yX0_changeLanes wsX0_changeLanes) := goodIn_app (goodIn_of _ (by decide +kernel)) ggX0_driveAlong_X0_changeLanes
theorem dX0_driveAlong_0 : decode cX0_driveAlong 0 = .ok (.iconst 0, 1) := by decide +kernel
theorem dX0_driveAlong_1 : decode cX0_driveAlong 1 = .ok (.istore 4, 2) := by decide +kernel
theorem dX0_driveAlong_3 : decode cX0_driveAlong 3 = .ok (.iload 4, 2) := by decide +kernel
theorem dX0_driveAlong_5 : decode cX0_driveAlong 5 = .ok (.iconst 3, 1) := by decide +kernel
theorem dX0_driveAlong_6 : decode cX0_driveAlong 6 = .ok (.if_icmp .ge 29, 3) := by decide +kernel
theorem dX0_driveAlong_9 : decode cX0_driveAlong 9 = .ok (.aload_n 0, 1) := by decide +kernel
theorem dX0_driveAlong_10 : decode cX0_driveAlong 10 = .ok (.getfield 9, 3) := by decide +kernel
theorem dX0_driveAlong_13 : decode cX0_driveAlong 13 = .ok (.iload 4, 2) := by decide +kernel
theorem dX0_driveAlong_15 : decode cX0_driveAlong 15 = .ok (.iload 4, 2) := by decide +kernel
theorem dX0_driveAlong_17 : decode cX0_driveAlong 17 = .ok (.iload_n 3, 1) := by decide +kernel
theorem dX0_driveAlong_18 : decode cX0_driveAlong 18 = .ok (.if_icmp .ne 7, 3) := by decide +kernel
theorem dX0_driveAlong_21 : decode cX0_driveAlong 21 = .ok (.iconst 0, 1) := by decide +kernel
theorem dX0_driveAlong_22 : decode cX0_driveAlong 22 = .ok (.goto 6, 3) := by decide +kernel
theorem dX0_driveAlong_25 : decode cX0_driveAlong 25 = .ok (.sipush 1000, 3) := by decide +kernel
theorem dX0_driveAlong_28 : decode cX0_driveAlong 28 = .ok (.iastore, 1) := by decide +kernel
theorem dX0_driveAlong_29 : decode cX0_driveAlong 29 = .ok (.iinc 4 1, 3) := by decide +kernel
theorem dX0_driveAlong_32 : decode cX0_driveAlong 32 = .ok (.goto (-29), 3) := by decide +kernel
theorem dX0_driveAlong_35 : decode cX0_driveAlong 35 = .ok (.iconst 0, 1) := by decide +kernel
theorem dX0_driveAlong_36 : decode cX0_driveAlong 36 = .ok (.istore 4, 2) := by decide +kernel
