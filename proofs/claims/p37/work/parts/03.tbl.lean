theorem z_mem {big ws : List Cond} (ps : List Nat) (h : ws = ps.filterMap (fun i => big[i]?)) : ∀ w ∈ ws, w ∈ big := by
  intro w hw
  rw [h] at hw
  obtain ⟨i, -, hi⟩ := List.mem_filterMap.mp hw
  exact List.mem_of_getElem? hi
theorem z_app {big a b : List Cond} (ha : ∀ w ∈ a, w ∈ big) (hb : ∀ w ∈ b, w ∈ big) : ∀ w ∈ a ++ b, w ∈ big := fun w h => (List.mem_append.mp h).elim (ha w) (hb w)
theorem wsL_in_r1 : ∀ w ∈ wsL_law_r1, w ∈ lw_tbl := z_mem [40, 41, 25, 685, 741, 42, 43, 44, 45, 46, 47, 48, 49, 26, 236, 237, 186, 187, 31, 238, 205, 206, 32, 239] (by decide +kernel)
theorem wsL_in_r2 : ∀ w ∈ wsL_law_r2, w ∈ lw_tbl := z_mem [50, 51, 52, 53, 54, 149, 56, 57, 27, 151, 79, 153, 155, 157, 159, 80, 81, 29, 161, 96, 30, 58, 59, 60] (by decide +kernel)
theorem wsL_in_r3 : ∀ w ∈ wsL_law_r3, w ∈ lw_tbl := z_mem [61, 66, 70, 65, 62, 63, 28, 64, 83, 84, 85, 86, 98, 99, 100, 101, 104, 115, 188, 189, 190, 191, 192, 195] (by decide +kernel)
theorem wsL_in_r4 : ∀ w ∈ wsL_law_r4, w ∈ lw_tbl := z_mem [194, 208, 209, 210, 235, 213, 211, 217, 212, 530, 531, 532, 533, 534, 535, 536, 537, 197, 538, 196, 264, 265, 266, 267] (by decide +kernel)
theorem wsL_in_r5 : ∀ w ∈ wsL_law_r5, w ∈ lw_tbl := z_mem [280, 274, 273, 33, 163, 165, 268, 269, 270, 271, 272, 107, 110, 112, 114, 117, 120, 123, 124, 275, 276, 277, 278, 279] (by decide +kernel)
theorem wsL_in_r6 : ∀ w ∈ wsL_law_r6, w ∈ lw_tbl := z_mem [281, 282, 283, 284, 285, 87, 88, 395, 396, 397, 398, 399, 400, 401, 402, 216, 220, 214, 494, 403, 405, 13, 406, 408] (by decide +kernel)
theorem wsL_in_r7 : ∀ w ∈ wsL_law_r7, w ∈ lw_tbl := z_mem [409, 410, 34, 411, 412, 413, 414, 415, 743, 416, 417, 418, 419, 420, 742, 422, 423, 424, 425, 426, 427, 428, 429, 430] (by decide +kernel)
theorem wsL_in_r8 : ∀ w ∈ wsL_law_r8, w ∈ lw_tbl := z_mem [431, 35, 432, 436, 366, 36, 367, 437, 287, 288, 433, 434, 435, 438, 439, 440, 441, 442, 37, 443, 444, 445, 446, 447] (by decide +kernel)
theorem wsL_in_r9 : ∀ w ∈ wsL_law_r9, w ∈ lw_tbl := z_mem [448, 449, 450, 451, 452, 453, 454, 455, 456, 457, 458, 459, 461, 462, 38, 463, 464, 465, 466, 467, 468, 469, 470, 472] (by decide +kernel)
theorem wsL_in_r10 : ∀ w ∈ wsL_law_r10, w ∈ lw_tbl := z_mem [474, 476, 477, 478, 479, 480, 39, 481, 482, 483, 484, 485, 486, 487, 488, 489, 490, 492, 14, 493, 221, 495, 497, 15] (by decide +kernel)
theorem wsL_in_r11 : ∀ w ∈ wsL_law_r11, w ∈ lw_tbl := z_mem [498, 499, 501, 16, 502, 503, 505, 17, 506, 257, 258, 508, 510, 18, 511, 512, 514, 19, 515, 516, 518, 20, 519, 520] (by decide +kernel)
theorem wsL_in_r12 : ∀ w ∈ wsL_law_r12, w ∈ lw_tbl := z_mem [522, 21, 523, 524, 526, 22, 527, 528, 543, 544, 545, 546, 259, 547, 548, 549, 256, 293, 294, 295, 296, 297, 260, 261] (by decide +kernel)
theorem wsL_in_r13 : ∀ w ∈ wsL_law_r13, w ∈ lw_tbl := z_mem [262, 263, 286, 298, 299, 300, 301, 302, 304, 0, 305, 306, 308, 1, 309, 310, 311, 312, 313, 336, 314, 316, 2, 317] (by decide +kernel)
theorem wsL_in_r14 : ∀ w ∈ wsL_law_r14, w ∈ lw_tbl := z_mem [318, 320, 3, 321, 322, 323, 324, 325, 326, 328, 4, 329, 330, 331, 332, 333, 334, 335, 337, 339, 5, 340, 342, 343] (by decide +kernel)
theorem wsL_in_r15 : ∀ w ∈ wsL_law_r15, w ∈ lw_tbl := z_mem [254, 255, 345, 347, 6, 348, 349, 351, 7, 352, 353, 355, 8, 356, 357, 359, 9, 360, 361, 362, 363, 364, 365, 368] (by decide +kernel)
theorem wsL_in_r16 : ∀ w ∈ wsL_law_r16, w ∈ lw_tbl := z_mem [370, 10, 371, 372, 373, 374, 375, 376, 377, 379, 11, 380, 381, 382, 383, 384, 386, 12, 387, 388, 389, 390, 391, 392] (by decide +kernel)
theorem wsL_in_r17 : ∀ w ∈ wsL_law_r17, w ∈ lw_tbl := z_mem [393, 394, 539, 540, 541, 542, 253, 640, 641, 24, 642, 675, 643, 644, 645, 646, 647, 648, 649, 650, 651, 652, 653, 654] (by decide +kernel)
theorem wsL_in_r18 : ∀ w ∈ wsL_law_r18, w ∈ lw_tbl := z_mem [562, 655, 656, 657, 658, 659, 660, 661, 662, 663, 664, 665, 666, 667, 668, 669, 670, 671, 672, 673, 674, 582, 583, 584] (by decide +kernel)
theorem wsL_in_r19 : ∀ w ∈ wsL_law_r19, w ∈ lw_tbl := z_mem [676, 677, 678, 679, 680, 681, 682, 683, 684, 686, 687, 688, 689, 690, 691, 692, 693, 694, 695, 697, 23, 698, 699, 700] (by decide +kernel)
theorem wsL_in_r20 : ∀ w ∈ wsL_law_r20, w ∈ lw_tbl := z_mem [701, 702, 703, 704, 705, 706, 707, 708, 709, 710, 711, 602, 603, 604, 712, 713, 714, 715, 716, 717, 718, 719, 550, 551] (by decide +kernel)
theorem wsL_in_r21 : ∀ w ∈ wsL_law_r21, w ∈ lw_tbl := z_mem [552, 553, 554, 555, 556, 557, 576, 577, 558, 559, 560, 561, 563, 564, 565, 566, 567, 568, 569, 570, 571, 572, 573, 574] (by decide +kernel)
theorem wsL_in_r22 : ∀ w ∈ wsL_law_r22, w ∈ lw_tbl := z_mem [575, 578, 579, 580, 581, 585, 586, 587, 588, 589, 590, 591, 592, 593, 594, 595, 596, 597, 598, 599, 600, 601, 605, 606] (by decide +kernel)
theorem wsL_in_r23 : ∀ w ∈ wsL_law_r23, w ∈ lw_tbl := z_mem [607, 608, 249, 250, 251, 252, 289, 290, 291, 292, 609, 610, 611, 612, 613, 614, 615, 616, 617, 618, 619, 620, 621, 622] (by decide +kernel)
theorem wsL_in_r24 : ∀ w ∈ wsL_law_r24, w ∈ lw_tbl := z_mem [623, 624, 625, 626, 627, 628, 629, 630, 631, 632, 633, 634, 635, 636, 637, 638, 639, 727, 728, 729, 730, 731, 732, 723] (by decide +kernel)
theorem wsL_in_r25 : ∀ w ∈ wsL_law_r25, w ∈ lw_tbl := z_mem [724, 725, 726, 733, 734, 735, 736, 737, 738, 739, 740, 720, 721, 722] (by decide +kernel)
theorem wsX60_in_tbl : ∀ w ∈ wsX60, w ∈ lw_tbl := by decide +kernel
theorem wsX30_in_tbl : ∀ w ∈ wsX30, w ∈ lw_tbl := by decide +kernel
theorem wsX10_in_tbl : ∀ w ∈ wsX10, w ∈ lw_tbl := by decide +kernel
theorem wsX40_in_tbl : ∀ w ∈ wsX40, w ∈ lw_tbl := by decide +kernel
theorem wsX20_in_tbl : ∀ w ∈ wsX20, w ∈ lw_tbl := by decide +kernel
theorem wsX50_in_tbl : ∀ w ∈ wsX50, w ∈ lw_tbl := by decide +kernel
theorem wsX00_in_tbl : ∀ w ∈ wsX00, w ∈ lw_tbl := by decide +kernel
theorem wsL_law_in : ∀ w ∈ wsL_law, w ∈ lw_tbl := (z_app (z_app (z_app (z_app (z_app (z_app (z_app (z_app (z_app wsL_in_r1 (z_app wsL_in_r2 (z_app wsL_in_r3 (z_app wsL_in_r4 (z_app wsL_in_r5 (z_app wsL_in_r6 (z_app wsL_in_r7 (z_app wsL_in_r8 (z_app wsL_in_r9 (z_app wsL_in_r10 (z_app wsL_in_r11 (z_app wsL_in_r12 (z_app wsL_in_r13 (z_app wsL_in_r14 (z_app wsL_in_r15 (z_app wsL_in_r16 (z_app wsL_in_r17 (z_app wsL_in_r18 (z_app wsL_in_r19 (z_app wsL_in_r20 (z_app wsL_in_r21 (z_app wsL_in_r22 (z_app wsL_in_r23 (z_app wsL_in_r24 wsL_in_r25)))))))))))))))))))))))) wsX60_in_tbl) wsX30_in_tbl) wsX10_in_tbl) wsX40_in_tbl) wsX20_in_tbl) wsX50_in_tbl) wsX00_in_tbl) (fun _ h => absurd h List.not_mem_nil))
theorem inlX0 : ∀ w ∈ wsX00, w ∈ wsL_law := fun _ h => List.mem_append_left _ (List.mem_append_right _ h)
theorem inX0 : ∀ w ∈ wsX00, w ∈ lw_tbl := fun w h => wsL_law_in w (inlX0 w h)
theorem inlX1 : ∀ w ∈ wsX10, w ∈ wsL_law := fun _ h => List.mem_append_left _ (List.mem_append_left _ (List.mem_append_left _ (List.mem_append_left _ (List.mem_append_left _ (List.mem_append_right _ h)))))
theorem inX1 : ∀ w ∈ wsX10, w ∈ lw_tbl := fun w h => wsL_law_in w (inlX1 w h)
theorem inlX2 : ∀ w ∈ wsX20, w ∈ wsL_law := fun _ h => List.mem_append_left _ (List.mem_append_left _ (List.mem_append_left _ (List.mem_append_right _ h)))
theorem inX2 : ∀ w ∈ wsX20, w ∈ lw_tbl := fun w h => wsL_law_in w (inlX2 w h)
theorem inlX3 : ∀ w ∈ wsX30, w ∈ wsL_law := fun _ h => List.mem_append_left _ (List.mem_append_left _ (List.mem_append_left _ (List.mem_append_left _ (List.mem_append_left _ (List.mem_append_left _ (List.mem_append_right _ h))))))
theorem inX3 : ∀ w ∈ wsX30, w ∈ lw_tbl := fun w h => wsL_law_in w (inlX3 w h)
theorem inlX4 : ∀ w ∈ wsX40, w ∈ wsL_law := fun _ h => List.mem_append_left _ (List.mem_append_left _ (List.mem_append_left _ (List.mem_append_left _ (List.mem_append_right _ h))))
theorem inX4 : ∀ w ∈ wsX40, w ∈ lw_tbl := fun w h => wsL_law_in w (inlX4 w h)
theorem inlX5 : ∀ w ∈ wsX50, w ∈ wsL_law := fun _ h => List.mem_append_left _ (List.mem_append_left _ (List.mem_append_right _ h))
theorem inX5 : ∀ w ∈ wsX50, w ∈ lw_tbl := fun w h => wsL_law_in w (inlX5 w h)
theorem inlX6 : ∀ w ∈ wsX60, w ∈ wsL_law := fun _ h => List.mem_append_left _ (List.mem_append_left _ (List.mem_append_left _ (List.mem_append_left _ (List.mem_append_left _ (List.mem_append_left _ (List.mem_append_left _ (List.mem_append_right _ h)))))))
theorem inX6 : ∀ w ∈ wsX60, w ∈ lw_tbl := fun w h => wsL_law_in w (inlX6 w h)
theorem inX7 : ∀ w ∈ wsX70, w ∈ lw_tbl := by decide +kernel
theorem inJx145de : ∀ w ∈ wsJx145de0, w ∈ lw_tbl := by decide +kernel
theorem inJx9f9b0 : ∀ w ∈ wsJx9f9b00, w ∈ lw_tbl := by decide +kernel
theorem inJ11 : ∀ w ∈ wsJ110, w ∈ lw_tbl := by decide +kernel
theorem inJxb160c : ∀ w ∈ wsJxb160c0, w ∈ lw_tbl := by decide +kernel
theorem inJ9 : ∀ w ∈ wsJ90, w ∈ lw_tbl := by decide +kernel
theorem inJ0 : ∀ w ∈ wsJ00, w ∈ lw_tbl := by decide +kernel
theorem inJ1 : ∀ w ∈ wsJ10, w ∈ lw_tbl := by decide +kernel
theorem inJ2 : ∀ w ∈ wsJ20, w ∈ lw_tbl := by decide +kernel
theorem inJ10 : ∀ w ∈ wsJ100, w ∈ lw_tbl := by decide +kernel
theorem inJxfd54e : ∀ w ∈ wsJxfd54e0, w ∈ lw_tbl := by decide +kernel
theorem inJx3cf43 : ∀ w ∈ wsJx3cf430, w ∈ lw_tbl := by decide +kernel
theorem inJ7 : ∀ w ∈ wsJ70, w ∈ lw_tbl := by decide +kernel
theorem inJ3 : ∀ w ∈ wsJ30, w ∈ lw_tbl := by decide +kernel
