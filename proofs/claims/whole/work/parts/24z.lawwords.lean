theorem zl_of {big ws : List Cond} (ps : List Nat) (h : ws = ps.filterMap (fun i => big[i]?)) : ∀ w ∈ ws, w ∈ big := by
  intro w hw
  rw [h] at hw
  obtain ⟨i, -, hi⟩ := List.mem_filterMap.mp hw
  exact List.mem_of_getElem? hi
theorem zl_1 : ∀ w ∈ wsL_law0_r1, w ∈ lw_tbl := zl_of [47, 48, 30, 618, 619, 34, 877, 49, 50, 51, 52, 53, 54, 74, 157, 75, 159, 55, 56, 31, 161, 162, 76, 163] (by decide +kernel)
theorem zl_2 : ∀ w ∈ wsL_law0_r2, w ∈ lw_tbl := zl_of [78, 32, 119, 165, 121, 33, 57, 58, 59, 60, 61, 62, 63, 79, 80, 81, 82, 98, 96, 122, 123, 124, 125, 620] (by decide +kernel)
theorem zl_3 : ∀ w ∈ wsL_law0_r3, w ∈ lw_tbl := zl_of [621, 622, 623, 626, 629, 624, 630, 631, 633, 634, 635, 636, 637, 707, 638, 639, 640, 641, 643, 644, 645, 646, 647, 648] (by decide +kernel)
theorem zl_4 : ∀ w ∈ wsL_law0_r4, w ∈ lw_tbl := zl_of [649, 650, 191, 192, 29, 193, 194, 195, 196, 197, 198, 199, 200, 38, 268, 39, 158, 712, 713, 714, 715, 627, 716, 717] (by decide +kernel)
theorem zl_5 : ∀ w ∈ wsL_law0_r5, w ∈ lw_tbl := zl_of [718, 719, 721, 13, 722, 651, 723, 725, 14, 726, 708, 709, 710, 711, 284, 285, 286, 287, 288, 289, 290, 291, 160, 292] (by decide +kernel)
theorem zl_6 : ∀ w ∈ wsL_law0_r6, w ∈ lw_tbl := zl_of [293, 294, 295, 40, 727, 728, 729, 730, 628, 731, 733, 15, 734, 312, 313, 314, 315, 316, 317, 318, 167, 320, 321, 322] (by decide +kernel)
theorem zl_7 : ∀ w ∈ wsL_law0_r7, w ∈ lw_tbl := zl_of [323, 64, 324, 325, 326, 327, 735, 736, 737, 738, 625, 328, 329, 330, 331, 332, 333, 334, 335, 336, 337, 339, 341, 1] (by decide +kernel)
theorem zl_8 : ∀ w ∈ wsL_law0_r8, w ∈ lw_tbl := zl_of [342, 739, 740, 741, 742, 743, 745, 16, 746, 343, 344, 345, 346, 347, 348, 349, 747, 748, 749, 750, 751, 752, 753, 350] (by decide +kernel)
theorem zl_9 : ∀ w ∈ wsL_law0_r9, w ∈ lw_tbl := zl_of [351, 352, 353, 354, 355, 356, 164, 358, 360, 2, 361, 362, 363, 364, 369, 371, 3, 372, 373, 374, 375, 41, 376, 879] (by decide +kernel)
theorem zl_10 : ∀ w ∈ wsL_law0_r10, w ∈ lw_tbl := zl_of [377, 378, 379, 380, 381, 880, 383, 384, 385, 386, 387, 388, 389, 390, 391, 392, 42, 393, 394, 395, 396, 397, 399, 400] (by decide +kernel)
theorem zl_11 : ∀ w ∈ wsL_law0_r11, w ∈ lw_tbl := zl_of [43, 401, 402, 403, 44, 404, 405, 406, 407, 408, 409, 410, 411, 412, 413, 414, 415, 417, 419, 421, 422, 423, 424, 83] (by decide +kernel)
theorem zl_12 : ∀ w ∈ wsL_law0_r12, w ∈ lw_tbl := zl_of [85, 87, 89, 91, 754, 755, 756, 757, 632, 758, 760, 17, 761, 425, 426, 427, 428, 429, 430, 431, 93, 762, 763, 764] (by decide +kernel)
theorem zl_13 : ∀ w ∈ wsL_law0_r13, w ∈ lw_tbl := zl_of [765, 766, 768, 18, 769, 432, 433, 434, 435, 436, 437, 438, 95, 770, 771, 772, 773, 439, 440, 441, 442, 443, 444, 445] (by decide +kernel)
theorem zl_14 : ∀ w ∈ wsL_law0_r14, w ∈ lw_tbl := zl_of [99, 774, 775, 776, 777, 778, 780, 19, 781, 447, 448, 449, 450, 451, 452, 453, 454, 455, 456, 457, 92, 94, 782, 783] (by decide +kernel)
theorem zl_15 : ∀ w ∈ wsL_law0_r15, w ∈ lw_tbl := zl_of [784, 785, 786, 788, 20, 789, 458, 459, 460, 461, 462, 463, 464, 466, 468, 4, 469, 166, 127, 129, 470, 472, 5, 473] (by decide +kernel)
theorem zl_16 : ∀ w ∈ wsL_law0_r16, w ∈ lw_tbl := zl_of [475, 476, 477, 478, 126, 128, 130, 134, 138, 479, 480, 481, 482, 132, 790, 791, 792, 793, 642, 794, 796, 21, 797, 483] (by decide +kernel)
theorem zl_17 : ∀ w ∈ wsL_law0_r17, w ∈ lw_tbl := zl_of [484, 485, 486, 487, 488, 489, 135, 136, 84, 798, 799, 800, 801, 802, 804, 22, 805, 491, 492, 493, 494, 495, 496, 497] (by decide +kernel)
theorem zl_18 : ∀ w ∈ wsL_law0_r18, w ∈ lw_tbl := zl_of [806, 807, 808, 809, 810, 812, 23, 813, 499, 500, 501, 502, 503, 504, 505, 137, 814, 815, 816, 817, 507, 508, 509, 510] (by decide +kernel)
theorem zl_19 : ∀ w ∈ wsL_law0_r19, w ∈ lw_tbl := zl_of [511, 512, 513, 139, 515, 517, 6, 518, 519, 521, 7, 522, 90, 86, 88, 523, 525, 8, 526, 527, 529, 9, 530, 531] (by decide +kernel)
theorem zl_20 : ∀ w ∈ wsL_law0_r20, w ∈ lw_tbl := zl_of [533, 10, 534, 535, 537, 11, 538, 818, 819, 820, 821, 822, 824, 24, 825, 826, 828, 25, 829, 830, 832, 26, 833, 834] (by decide +kernel)
theorem zl_21 : ∀ w ∈ wsL_law0_r21, w ∈ lw_tbl := zl_of [836, 27, 837, 838, 840, 28, 841, 539, 540, 541, 542, 543, 544, 545, 547, 548, 549, 550, 842, 843, 844, 845, 551, 552] (by decide +kernel)
theorem zl_22 : ∀ w ∈ wsL_law0_r22, w ∈ lw_tbl := zl_of [553, 554, 555, 556, 557, 559, 560, 561, 562, 563, 564, 45, 565, 846, 847, 848, 849, 566, 567, 568, 569, 570, 571, 572] (by decide +kernel)
theorem zl_23 : ∀ w ∈ wsL_law0_r23, w ∈ lw_tbl := zl_of [131, 133, 573, 574, 46, 575, 576, 577, 578, 850, 851, 852, 853, 854, 855, 856, 579, 580, 581, 582, 583, 584, 585, 586] (by decide +kernel)
theorem zl_24 : ∀ w ∈ wsL_law0_r24, w ∈ lw_tbl := zl_of [588, 12, 589, 857, 858, 859, 860, 590, 591, 592, 593, 594, 595, 596, 861, 862, 863, 864, 597, 598, 599, 600, 601, 602] (by decide +kernel)
theorem zl_25 : ∀ w ∈ wsL_law0_r25, w ∈ lw_tbl := zl_of [603, 865, 866, 867, 868, 604, 605, 606, 607, 608, 609, 610, 97, 869, 870, 871, 872, 611, 612, 613, 614, 615, 616, 617] (by decide +kernel)
theorem zl_26 : ∀ w ∈ wsL_law0_r26, w ∈ lw_tbl := zl_of [873, 874, 875, 876] (by decide +kernel)
theorem zl_wsX30 : ∀ w ∈ wsX30, w ∈ lw_tbl := by decide +kernel
theorem zl_wsX40 : ∀ w ∈ wsX40, w ∈ lw_tbl := by decide +kernel
theorem zl_wsX10 : ∀ w ∈ wsX10, w ∈ lw_tbl := by decide +kernel
theorem zl_wsX00 : ∀ w ∈ wsX00, w ∈ lw_tbl := by decide +kernel
theorem zl_wsX20 : ∀ w ∈ wsX20, w ∈ lw_tbl := by decide +kernel
theorem wsL_law_in0 : ∀ w ∈ wsL_law0, w ∈ lw_tbl := fun w h => (List.mem_append.mp h).elim (fun h => (List.mem_append.mp h).elim (fun h => (List.mem_append.mp h).elim (fun h => (List.mem_append.mp h).elim (fun h => (List.mem_append.mp h).elim (fun h => (List.mem_append.mp h).elim (fun h => (List.mem_append.mp h).elim (fun h => zl_1 w h) (fun h => (List.mem_append.mp h).elim (fun h => zl_2 w h) (fun h => (List.mem_append.mp h).elim (fun h => zl_3 w h) (fun h => (List.mem_append.mp h).elim (fun h => zl_4 w h) (fun h => (List.mem_append.mp h).elim (fun h => zl_5 w h) (fun h => (List.mem_append.mp h).elim (fun h => zl_6 w h) (fun h => (List.mem_append.mp h).elim (fun h => zl_7 w h) (fun h => (List.mem_append.mp h).elim (fun h => zl_8 w h) (fun h => (List.mem_append.mp h).elim (fun h => zl_9 w h) (fun h => (List.mem_append.mp h).elim (fun h => zl_10 w h) (fun h => (List.mem_append.mp h).elim (fun h => zl_11 w h) (fun h => (List.mem_append.mp h).elim (fun h => zl_12 w h) (fun h => (List.mem_append.mp h).elim (fun h => zl_13 w h) (fun h => (List.mem_append.mp h).elim (fun h => zl_14 w h) (fun h => (List.mem_append.mp h).elim (fun h => zl_15 w h) (fun h => (List.mem_append.mp h).elim (fun h => zl_16 w h) (fun h => (List.mem_append.mp h).elim (fun h => zl_17 w h) (fun h => (List.mem_append.mp h).elim (fun h => zl_18 w h) (fun h => (List.mem_append.mp h).elim (fun h => zl_19 w h) (fun h => (List.mem_append.mp h).elim (fun h => zl_20 w h) (fun h => (List.mem_append.mp h).elim (fun h => zl_21 w h) (fun h => (List.mem_append.mp h).elim (fun h => zl_22 w h) (fun h => (List.mem_append.mp h).elim (fun h => zl_23 w h) (fun h => (List.mem_append.mp h).elim (fun h => zl_24 w h) (fun h => (List.mem_append.mp h).elim (fun h => zl_25 w h) (fun h => zl_26 w h)))))))))))))))))))))))))) (fun h => zl_wsX30 w h)) (fun h => zl_wsX40 w h)) (fun h => zl_wsX10 w h)) (fun h => zl_wsX00 w h)) (fun h => zl_wsX20 w h)) (fun h => absurd h List.not_mem_nil)
theorem wsL_law_x0 : ∀ w ∈ (vx_atS RX3 45 "java/lang/IllegalArgumentException" ["java/lang/RuntimeException", "java/lang/Exception"]).filter goodWord, w ∈ lw_tbl := by decide +kernel
theorem wsL_law_x1 : ∀ w ∈ (vx_atS RX3 56 "java/lang/IllegalStateException" ["java/lang/RuntimeException", "java/lang/Exception"]).filter goodWord, w ∈ lw_tbl := by decide +kernel
theorem wsL_law_x2 : ∀ w ∈ (vx_atS RX3 210 "java/lang/IndexOutOfBoundsException" ["java/lang/RuntimeException", "java/lang/Exception"]).filter goodWord, w ∈ lw_tbl := by decide +kernel
theorem wsL_law_in : ∀ w ∈ wsL_law, w ∈ lw_tbl := fun w h => (List.mem_append.mp h).elim (fun h => (List.mem_append.mp h).elim (fun h => (List.mem_append.mp h).elim (fun h => wsL_law_in0 w h) (fun h => wsL_law_x0 w h)) (fun h => wsL_law_x1 w h)) (fun h => wsL_law_x2 w h)
theorem inlX0 : ∀ w ∈ wsX00, w ∈ wsL_law := fun _ h => List.mem_append_left _ (List.mem_append_left _ (List.mem_append_left _ (List.mem_append_left _ (List.mem_append_left _ (List.mem_append_right _ h)))))
theorem inX0 : ∀ w ∈ wsX00, w ∈ lw_tbl := fun w h => wsL_law_in w (inlX0 w h)
theorem inlX1 : ∀ w ∈ wsX10, w ∈ wsL_law := fun _ h => List.mem_append_left _ (List.mem_append_left _ (List.mem_append_left _ (List.mem_append_left _ (List.mem_append_left _ (List.mem_append_left _ (List.mem_append_right _ h))))))
theorem inX1 : ∀ w ∈ wsX10, w ∈ lw_tbl := fun w h => wsL_law_in w (inlX1 w h)
theorem inlX2 : ∀ w ∈ wsX20, w ∈ wsL_law := fun _ h => List.mem_append_left _ (List.mem_append_left _ (List.mem_append_left _ (List.mem_append_left _ (List.mem_append_right _ h))))
theorem inX2 : ∀ w ∈ wsX20, w ∈ lw_tbl := fun w h => wsL_law_in w (inlX2 w h)
theorem inlX3 : ∀ w ∈ wsX30, w ∈ wsL_law := fun _ h => List.mem_append_left _ (List.mem_append_left _ (List.mem_append_left _ (List.mem_append_left _ (List.mem_append_left _ (List.mem_append_left _ (List.mem_append_left _ (List.mem_append_left _ (List.mem_append_right _ h))))))))
theorem inX3 : ∀ w ∈ wsX30, w ∈ lw_tbl := fun w h => wsL_law_in w (inlX3 w h)
theorem inlX4 : ∀ w ∈ wsX40, w ∈ wsL_law := fun _ h => List.mem_append_left _ (List.mem_append_left _ (List.mem_append_left _ (List.mem_append_left _ (List.mem_append_left _ (List.mem_append_left _ (List.mem_append_left _ (List.mem_append_right _ h)))))))
theorem inX4 : ∀ w ∈ wsX40, w ∈ lw_tbl := fun w h => wsL_law_in w (inlX4 w h)
theorem inJ6 : ∀ w ∈ wsJ60, w ∈ lw_tbl := by decide +kernel
theorem inJ9 : ∀ w ∈ wsJ90, w ∈ lw_tbl := by decide +kernel
theorem inJ0 : ∀ w ∈ wsJ00, w ∈ lw_tbl := by decide +kernel
theorem inJ1 : ∀ w ∈ wsJ10, w ∈ lw_tbl := by decide +kernel
theorem inJ2 : ∀ w ∈ wsJ20, w ∈ lw_tbl := by decide +kernel
theorem inJ3 : ∀ w ∈ wsJ30, w ∈ lw_tbl := by decide +kernel
