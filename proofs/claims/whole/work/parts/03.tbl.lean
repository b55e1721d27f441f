theorem z_mem {big ws : List Cond} (ps : List Nat) (h : ws = ps.filterMap (fun i => big[i]?)) : ∀ w ∈ ws, w ∈ big := by
  intro w hw
  rw [h] at hw
  obtain ⟨i, -, hi⟩ := List.mem_filterMap.mp hw
  exact List.mem_of_getElem? hi
theorem z_app {big a b : List Cond} (ha : ∀ w ∈ a, w ∈ big) (hb : ∀ w ∈ b, w ∈ big) : ∀ w ∈ a ++ b, w ∈ big := fun w h => (List.mem_append.mp h).elim (ha w) (hb w)
theorem wsL_in_r1 : ∀ w ∈ wsL_law_r1, w ∈ lw_tbl := z_mem [67, 68, 51, 737, 738, 59, 69, 70, 71, 72, 73, 74, 75, 76, 52, 263, 264, 213, 214, 57, 265, 232, 233, 58] (by decide +kernel)
theorem wsL_in_r2 : ∀ w ∈ wsL_law_r2, w ∈ lw_tbl := z_mem [266, 77, 78, 79, 80, 81, 176, 83, 84, 53, 178, 106, 180, 182, 184, 186, 107, 108, 55, 188, 123, 56, 85, 86] (by decide +kernel)
theorem wsL_in_r3 : ∀ w ∈ wsL_law_r3, w ∈ lw_tbl := z_mem [87, 88, 93, 97, 92, 89, 90, 54, 91, 110, 111, 112, 113, 125, 126, 127, 128, 131, 142, 215, 216, 217, 218, 219] (by decide +kernel)
theorem wsL_in_r4 : ∀ w ∈ wsL_law_r4, w ∈ lw_tbl := z_mem [222, 221, 235, 236, 237, 262, 240, 238, 244, 239, 739, 740, 741, 742, 746, 747, 748, 750, 743, 744, 745, 276, 277, 278] (by decide +kernel)
theorem wsL_in_r5 : ∀ w ∈ wsL_law_r5, w ∈ lw_tbl := z_mem [279, 286, 421, 422, 423, 280, 281, 282, 283, 284, 285, 287, 288, 289, 290, 243, 247, 241, 386, 291, 293, 0, 294, 296] (by decide +kernel)
theorem wsL_in_r6 : ∀ w ∈ wsL_law_r6, w ∈ lw_tbl := z_mem [297, 298, 60, 299, 300, 301, 302, 303, 1041, 304, 305, 306, 307, 308, 1040, 310, 311, 312, 313, 314, 315, 316, 317, 318] (by decide +kernel)
theorem wsL_in_r7 : ∀ w ∈ wsL_law_r7, w ∈ lw_tbl := z_mem [319, 61, 320, 324, 325, 62, 326, 327, 328, 329, 321, 322, 323, 330, 331, 332, 333, 334, 63, 335, 336, 337, 338, 339] (by decide +kernel)
theorem wsL_in_r8 : ∀ w ∈ wsL_law_r8, w ∈ lw_tbl := z_mem [340, 341, 342, 343, 344, 345, 346, 347, 348, 349, 350, 351, 353, 354, 64, 355, 356, 357, 358, 359, 360, 361, 362, 364] (by decide +kernel)
theorem wsL_in_r9 : ∀ w ∈ wsL_law_r9, w ∈ lw_tbl := z_mem [366, 368, 369, 370, 371, 372, 65, 373, 374, 375, 376, 377, 378, 379, 380, 381, 382, 384, 1, 385, 248, 387, 389, 2] (by decide +kernel)
theorem wsL_in_r10 : ∀ w ∈ wsL_law_r10, w ∈ lw_tbl := z_mem [390, 391, 393, 3, 394, 395, 397, 4, 398, 400, 402, 5, 403, 404, 406, 6, 407, 408, 410, 7, 411, 412, 414, 8] (by decide +kernel)
theorem wsL_in_r11 : ∀ w ∈ wsL_law_r11, w ∈ lw_tbl := z_mem [415, 416, 418, 9, 419, 420, 424, 425, 426, 427, 223, 224, 450, 428, 429, 430, 431, 444, 438, 437, 66, 190, 192, 432] (by decide +kernel)
theorem wsL_in_r12 : ∀ w ∈ wsL_law_r12, w ∈ lw_tbl := z_mem [433, 434, 435, 436, 134, 137, 139, 141, 144, 147, 150, 151, 439, 440, 441, 442, 443, 445, 446, 447, 448, 449, 114, 115] (by decide +kernel)
theorem wsL_in_r13 : ∀ w ∈ wsL_law_r13, w ∈ lw_tbl := z_mem [451, 780, 781, 782, 783, 790, 822, 751, 823, 752, 754, 755, 756, 784, 785, 786, 787, 788, 789, 791, 793, 24, 794, 753] (by decide +kernel)
theorem wsL_in_r14 : ∀ w ∈ wsL_law_r14, w ∈ lw_tbl := z_mem [795, 797, 25, 798, 799, 801, 26, 802, 803, 804, 805, 806, 808, 27, 809, 810, 812, 28, 813, 814, 816, 29, 817, 818] (by decide +kernel)
theorem wsL_in_r15 : ∀ w ∈ wsL_law_r15, w ∈ lw_tbl := z_mem [820, 30, 821, 824, 826, 31, 827, 749, 453, 454, 455, 456, 457, 458, 459, 460, 461, 462, 463, 464, 828, 829, 830, 831] (by decide +kernel)
theorem wsL_in_r16 : ∀ w ∈ wsL_law_r16, w ∈ lw_tbl := z_mem [832, 833, 834, 465, 466, 467, 468, 469, 470, 471, 472, 835, 836, 837, 838, 473, 474, 475, 476, 483, 477, 478, 479, 480] (by decide +kernel)
theorem wsL_in_r17 : ∀ w ∈ wsL_law_r17, w ∈ lw_tbl := z_mem [481, 482, 484, 485, 486, 839, 840, 841, 842, 846, 843, 844, 845, 847, 849, 32, 850, 851, 853, 33, 854, 487, 488, 489] (by decide +kernel)
theorem wsL_in_r18 : ∀ w ∈ wsL_law_r18, w ∈ lw_tbl := z_mem [490, 491, 492, 493, 855, 856, 857, 858, 494, 495, 496, 497, 498, 499, 500, 859, 860, 861, 862, 501, 502, 503, 504, 505] (by decide +kernel)
theorem wsL_in_r19 : ∀ w ∈ wsL_law_r19, w ∈ lw_tbl := z_mem [506, 507, 863, 864, 865, 866, 508, 509, 510, 511, 512, 513, 514, 515, 867, 868, 869, 870, 516, 517, 518, 519, 520, 521] (by decide +kernel)
theorem wsL_in_r20 : ∀ w ∈ wsL_law_r20, w ∈ lw_tbl := z_mem [522, 523, 524, 526, 10, 527, 528, 530, 11, 531, 532, 533, 534, 535, 558, 536, 538, 12, 539, 540, 542, 13, 543, 544] (by decide +kernel)
theorem wsL_in_r21 : ∀ w ∈ wsL_law_r21, w ∈ lw_tbl := z_mem [545, 546, 547, 548, 550, 14, 551, 552, 553, 554, 555, 556, 557, 559, 561, 15, 562, 565, 567, 16, 568, 569, 571, 17] (by decide +kernel)
theorem wsL_in_r22 : ∀ w ∈ wsL_law_r22, w ∈ lw_tbl := z_mem [572, 573, 575, 18, 576, 577, 579, 19, 580, 581, 582, 583, 584, 585, 586, 588, 20, 589, 590, 591, 592, 593, 594, 595] (by decide +kernel)
theorem wsL_in_r23 : ∀ w ∈ wsL_law_r23, w ∈ lw_tbl := z_mem [597, 21, 598, 599, 600, 601, 602, 604, 22, 605, 606, 607, 608, 609, 610, 611, 612, 871, 872, 873, 874, 875, 877, 34] (by decide +kernel)
theorem wsL_in_r24 : ∀ w ∈ wsL_law_r24, w ∈ lw_tbl := z_mem [878, 879, 881, 35, 882, 883, 885, 36, 886, 887, 889, 37, 890, 891, 893, 38, 894, 895, 897, 39, 898, 899, 901, 40] (by decide +kernel)
theorem wsL_in_r25 : ∀ w ∈ wsL_law_r25, w ∈ lw_tbl := z_mem [902, 903, 905, 41, 906, 907, 909, 42, 910, 911, 913, 43, 914, 915, 917, 44, 918, 919, 921, 45, 922, 923, 925, 46] (by decide +kernel)
theorem wsL_in_r26 : ∀ w ∈ wsL_law_r26, w ∈ lw_tbl := z_mem [926, 613, 614, 615, 616, 617, 618, 619, 620, 927, 928, 929, 930, 621, 622, 623, 624, 931, 932, 933, 934, 625, 626, 627] (by decide +kernel)
theorem wsL_in_r27 : ∀ w ∈ wsL_law_r27, w ∈ lw_tbl := z_mem [628, 935, 936, 937, 938, 939, 629, 630, 631, 632, 633, 634, 635, 636, 637, 940, 941, 942, 943, 638, 639, 640, 641, 944] (by decide +kernel)
theorem wsL_in_r28 : ∀ w ∈ wsL_law_r28, w ∈ lw_tbl := z_mem [945, 946, 947, 948, 950, 47, 951, 642, 643, 644, 645, 952, 953, 954, 955, 646, 647, 648, 649, 956, 957, 958, 959, 650] (by decide +kernel)
theorem wsL_in_r29 : ∀ w ∈ wsL_law_r29, w ∈ lw_tbl := z_mem [651, 652, 653, 960, 961, 962, 963, 654, 655, 656, 657, 964, 965, 966, 967, 658, 659, 660, 661, 968, 969, 970, 971, 662] (by decide +kernel)
theorem wsL_in_r30 : ∀ w ∈ wsL_law_r30, w ∈ lw_tbl := z_mem [663, 664, 665, 972, 973, 974, 975, 666, 667, 668, 669, 976, 977, 978, 979, 670, 671, 672, 673, 980, 981, 982, 983, 674] (by decide +kernel)
theorem wsL_in_r31 : ∀ w ∈ wsL_law_r31, w ∈ lw_tbl := z_mem [675, 676, 677, 984, 985, 986, 987, 678, 679, 680, 681, 988, 989, 990, 991, 682, 683, 684, 685, 992, 993, 994, 995, 686] (by decide +kernel)
theorem wsL_in_r32 : ∀ w ∈ wsL_law_r32, w ∈ lw_tbl := z_mem [687, 688, 689, 996, 997, 998, 999, 690, 691, 692, 693, 1000, 1001, 1002, 1003, 694, 695, 696, 697, 698, 699, 700, 701, 702] (by decide +kernel)
theorem wsL_in_r33 : ∀ w ∈ wsL_law_r33, w ∈ lw_tbl := z_mem [1004, 1005, 1006, 1007, 703, 704, 705, 706, 1008, 1009, 1010, 1011, 707, 708, 709, 710, 711, 1012, 1013, 1014, 1015, 712, 713, 714] (by decide +kernel)
theorem wsL_in_r34 : ∀ w ∈ wsL_law_r34, w ∈ lw_tbl := z_mem [715, 716, 718, 23, 719, 720, 721, 722, 723, 724, 1016, 1017, 1018, 1019, 1020, 1022, 48, 1023, 1024, 1026, 49, 1027, 725, 726] (by decide +kernel)
theorem wsL_in_r35 : ∀ w ∈ wsL_law_r35, w ∈ lw_tbl := z_mem [727, 728, 1028, 1029, 1030, 1031, 729, 730, 731, 732, 1032, 1033, 1034, 1035, 733, 734, 735, 736, 1036, 1037, 1038, 1039] (by decide +kernel)
theorem wsX60_in_tbl : ∀ w ∈ wsX60, w ∈ lw_tbl := by decide +kernel
theorem wsX70_in_tbl : ∀ w ∈ wsX70, w ∈ lw_tbl := by decide +kernel
theorem wsX30_in_tbl : ∀ w ∈ wsX30, w ∈ lw_tbl := by decide +kernel
theorem wsX10_in_tbl : ∀ w ∈ wsX10, w ∈ lw_tbl := by decide +kernel
theorem wsX40_in_tbl : ∀ w ∈ wsX40, w ∈ lw_tbl := by decide +kernel
theorem wsX20_in_tbl : ∀ w ∈ wsX20, w ∈ lw_tbl := by decide +kernel
theorem wsX50_in_tbl : ∀ w ∈ wsX50, w ∈ lw_tbl := by decide +kernel
theorem wsX00_in_tbl : ∀ w ∈ wsX00, w ∈ lw_tbl := by decide +kernel
theorem wsL_law_in : ∀ w ∈ wsL_law, w ∈ lw_tbl := (z_app (z_app (z_app (z_app (z_app (z_app (z_app (z_app (z_app (z_app wsL_in_r1 (z_app wsL_in_r2 (z_app wsL_in_r3 (z_app wsL_in_r4 (z_app wsL_in_r5 (z_app wsL_in_r6 (z_app wsL_in_r7 (z_app wsL_in_r8 (z_app wsL_in_r9 (z_app wsL_in_r10 (z_app wsL_in_r11 (z_app wsL_in_r12 (z_app wsL_in_r13 (z_app wsL_in_r14 (z_app wsL_in_r15 (z_app wsL_in_r16 (z_app wsL_in_r17 (z_app wsL_in_r18 (z_app wsL_in_r19 (z_app wsL_in_r20 (z_app wsL_in_r21 (z_app wsL_in_r22 (z_app wsL_in_r23 (z_app wsL_in_r24 (z_app wsL_in_r25 (z_app wsL_in_r26 (z_app wsL_in_r27 (z_app wsL_in_r28 (z_app wsL_in_r29 (z_app wsL_in_r30 (z_app wsL_in_r31 (z_app wsL_in_r32 (z_app wsL_in_r33 (z_app wsL_in_r34 wsL_in_r35)))))))))))))))))))))))))))))))))) wsX60_in_tbl) wsX70_in_tbl) wsX30_in_tbl) wsX10_in_tbl) wsX40_in_tbl) wsX20_in_tbl) wsX50_in_tbl) wsX00_in_tbl) (fun _ h => absurd h List.not_mem_nil))
theorem inlX0 : ∀ w ∈ wsX00, w ∈ wsL_law := fun _ h => List.mem_append_left _ (List.mem_append_right _ h)
theorem inX0 : ∀ w ∈ wsX00, w ∈ lw_tbl := fun w h => wsL_law_in w (inlX0 w h)
theorem inlX1 : ∀ w ∈ wsX10, w ∈ wsL_law := fun _ h => List.mem_append_left _ (List.mem_append_left _ (List.mem_append_left _ (List.mem_append_left _ (List.mem_append_left _ (List.mem_append_right _ h)))))
theorem inX1 : ∀ w ∈ wsX10, w ∈ lw_tbl := fun w h => wsL_law_in w (inlX1 w h)
theorem inlX2 : ∀ w ∈ wsX20, w ∈ wsL_law := fun _ h => List.mem_append_left _ (List.mem_append_left _ (List.mem_append_left _ (List.mem_append_right _ h)))
theorem inX2 : ∀ w ∈ wsX20, w ∈ lw_tbl := fun w h => wsL_law_in w (inlX2 w h)
theorem inlX3 : ∀ w ∈ wsX30, w ∈ wsL_law := fun _ h => List.mem_append_left _ (List.mem_append_left _ (List.mem_append_left _ (List.mem_append_left _ (List.mem_append_left _ (List.mem_append_left _ (List.mem_append_right _ h))))))
theorem inX3 : ∀ w ∈ wsX30, w ∈ lw_tbl := fun w h => wsL_law_in w (inlX3 w h)
theorem inlX4 : ∀ w ∈ wsX40, w ∈ wsL_law := fun _ h => List.mem_append_left _ (List.mem_append_left _ (List.mem_append_left _ (List.mem_append_left _ (List.mem_append_right _ h))))
theorem inX4 : ∀ w ∈ wsX40, w ∈ lw_tbl := fun w h => wsL_law_in w (inlX4 w h)
theorem inlX5 : ∀ w ∈ wsX50, w ∈ wsL_law := fun _ h => List.mem_append_left _ (List.mem_append_left _ (List.mem_append_right _ h))
theorem inX5 : ∀ w ∈ wsX50, w ∈ lw_tbl := fun w h => wsL_law_in w (inlX5 w h)
theorem inlX6 : ∀ w ∈ wsX60, w ∈ wsL_law := fun _ h => List.mem_append_left _ (List.mem_append_left _ (List.mem_append_left _ (List.mem_append_left _ (List.mem_append_left _ (List.mem_append_left _ (List.mem_append_left _ (List.mem_append_left _ (List.mem_append_right _ h))))))))
theorem inX6 : ∀ w ∈ wsX60, w ∈ lw_tbl := fun w h => wsL_law_in w (inlX6 w h)
theorem inlX7 : ∀ w ∈ wsX70, w ∈ wsL_law := fun _ h => List.mem_append_left _ (List.mem_append_left _ (List.mem_append_left _ (List.mem_append_left _ (List.mem_append_left _ (List.mem_append_left _ (List.mem_append_left _ (List.mem_append_right _ h)))))))
theorem inX7 : ∀ w ∈ wsX70, w ∈ lw_tbl := fun w h => wsL_law_in w (inlX7 w h)
theorem inJx145de : ∀ w ∈ wsJx145de0, w ∈ lw_tbl := by decide +kernel
theorem inJx9f9b0 : ∀ w ∈ wsJx9f9b00, w ∈ lw_tbl := by decide +kernel
theorem inJ11 : ∀ w ∈ wsJ110, w ∈ lw_tbl := by decide +kernel
theorem inJxb160c : ∀ w ∈ wsJxb160c0, w ∈ lw_tbl := by decide +kernel
theorem inJ9 : ∀ w ∈ wsJ90, w ∈ lw_tbl := by decide +kernel
theorem inJ0 : ∀ w ∈ wsJ00, w ∈ lw_tbl := by decide +kernel
theorem inJ1 : ∀ w ∈ wsJ10, w ∈ lw_tbl := by decide +kernel
theorem inJ2 : ∀ w ∈ wsJ20, w ∈ lw_tbl := by decide +kernel
theorem inJ10 : ∀ w ∈ wsJ100, w ∈ lw_tbl := by decide +kernel
theorem inJxfd54e : ∀ w ∈ wsJxfd54e0, w ∈ lw_tbl := by decide +kernel
theorem inJx3cf43 : ∀ w ∈ wsJx3cf430, w ∈ lw_tbl := by decide +kernel
theorem inJ7 : ∀ w ∈ wsJ70, w ∈ lw_tbl := by decide +kernel
theorem inJ3 : ∀ w ∈ wsJ30, w ∈ lw_tbl := by decide +kernel
