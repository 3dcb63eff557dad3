theorem zl_of {big ws : List Cond} (ps : List Nat) (h : ws = ps.filterMap (fun i => big[i]?)) : ∀ w ∈ ws, w ∈ big := by
  intro w hw
  rw [h] at hw
  obtain ⟨i, -, hi⟩ := List.mem_filterMap.mp hw
  exact List.mem_of_getElem? hi
theorem zl_1 : ∀ w ∈ wsL_law0_r1, w ∈ lw_tbl := zl_of [30, 31, 14, 58, 32, 33, 34, 35, 36, 37, 57, 140, 142, 38, 39, 15, 144, 145, 59, 146, 61, 16, 102, 148] (by decide +kernel)
theorem zl_2 : ∀ w ∈ wsL_law0_r2, w ∈ lw_tbl := zl_of [104, 17, 40, 41, 42, 43, 44, 45, 46, 62, 63, 64, 65, 81, 79, 105, 106, 107, 108, 585, 586, 13, 587, 561] (by decide +kernel)
theorem zl_3 : ∀ w ∈ wsL_law0_r3, w ∈ lw_tbl := zl_of [560, 182, 183, 184, 185, 186, 321, 326, 335, 187, 188, 189, 190, 143, 150, 191, 192, 193, 194, 21, 262, 263, 264, 265] (by decide +kernel)
theorem zl_4 : ∀ w ∈ wsL_law0_r4, w ∈ lw_tbl := zl_of [22, 281, 283, 1, 284, 285, 286, 287, 288, 47, 289, 290, 291, 292, 147, 293, 295, 2, 296, 297, 299, 3, 300, 73] (by decide +kernel)
theorem zl_5 : ∀ w ∈ wsL_law0_r5, w ∈ lw_tbl := zl_of [69, 71, 301, 303, 4, 304, 305, 307, 5, 308, 309, 311, 6, 312, 67, 313, 315, 7, 316, 317, 318, 319, 320, 322] (by decide +kernel)
theorem zl_6 : ∀ w ∈ wsL_law0_r6, w ∈ lw_tbl := zl_of [323, 324, 325, 80, 327, 328, 329, 330, 331, 332, 333, 334, 75, 70, 77, 336, 337, 338, 339, 149, 112, 110, 114, 116] (by decide +kernel)
theorem zl_7 : ∀ w ∈ wsL_law0_r7, w ∈ lw_tbl := zl_of [118, 122, 340, 341, 23, 342, 343, 344, 345, 346, 347, 348, 349, 119, 350, 352, 8, 353, 354, 355, 356, 357, 364, 365] (by decide +kernel)
theorem zl_8 : ∀ w ∈ wsL_law0_r8, w ∈ lw_tbl := zl_of [366, 367, 368, 369, 562, 370, 371, 372, 373, 374, 375, 376, 378, 24, 141, 394, 395, 396, 397, 399, 400, 401, 402, 404] (by decide +kernel)
theorem zl_9 : ∀ w ∈ wsL_law0_r9, w ∈ lw_tbl := zl_of [405, 406, 407, 408, 409, 410, 411, 412, 413, 414, 415, 417, 419, 9, 420, 421, 422, 423, 428, 430, 10, 431, 432, 433] (by decide +kernel)
theorem zl_10 : ∀ w ∈ wsL_law0_r10, w ∈ lw_tbl := zl_of [434, 25, 435, 589, 436, 437, 438, 439, 440, 590, 442, 443, 444, 445, 446, 447, 448, 449, 450, 451, 26, 452, 453, 454] (by decide +kernel)
theorem zl_11 : ∀ w ∈ wsL_law0_r11, w ∈ lw_tbl := zl_of [455, 456, 458, 459, 27, 460, 461, 462, 28, 463, 464, 465, 466, 467, 468, 469, 470, 471, 472, 473, 474, 476, 478, 480] (by decide +kernel)
theorem zl_12 : ∀ w ∈ wsL_law0_r12, w ∈ lw_tbl := zl_of [481, 482, 483, 66, 68, 72, 74, 484, 485, 486, 487, 76, 488, 489, 490, 491, 78, 492, 493, 494, 495, 82, 497, 498] (by decide +kernel)
theorem zl_13 : ∀ w ∈ wsL_law0_r13, w ∈ lw_tbl := zl_of [499, 500, 502, 504, 11, 505, 506, 508, 12, 509, 511, 512, 513, 514, 109, 111, 113, 117, 121, 515, 516, 517, 518, 115] (by decide +kernel)
theorem zl_14 : ∀ w ∈ wsL_law0_r14, w ∈ lw_tbl := zl_of [519, 520, 521, 522, 524, 525, 526, 527, 529, 530, 531, 532, 120, 534, 535, 536, 537, 539, 540, 541, 542, 544, 545, 546] (by decide +kernel)
theorem zl_15 : ∀ w ∈ wsL_law0_r15, w ∈ lw_tbl := zl_of [547, 548, 549, 550, 551, 553, 554, 555, 556, 557, 558, 29, 559, 174, 175, 176, 177, 178, 179, 180, 181, 358, 359, 360] (by decide +kernel)
theorem zl_16 : ∀ w ∈ wsL_law0_r16, w ∈ lw_tbl := zl_of [361, 362, 363, 563, 564, 565, 566, 567, 568, 569, 570, 571, 572, 573, 574, 575, 576, 577, 578, 579, 580, 581, 582, 583] (by decide +kernel)
theorem zl_17 : ∀ w ∈ wsL_law0_r17, w ∈ lw_tbl := zl_of [584] (by decide +kernel)
theorem zl_wsX30 : ∀ w ∈ wsX30, w ∈ lw_tbl := by decide +kernel
theorem zl_wsX10 : ∀ w ∈ wsX10, w ∈ lw_tbl := by decide +kernel
theorem zl_wsX00 : ∀ w ∈ wsX00, w ∈ lw_tbl := by decide +kernel
theorem zl_wsX20 : ∀ w ∈ wsX20, w ∈ lw_tbl := by decide +kernel
theorem wsL_law_in0 : ∀ w ∈ wsL_law0, w ∈ lw_tbl := fun w h => (List.mem_append.mp h).elim (fun h => (List.mem_append.mp h).elim (fun h => (List.mem_append.mp h).elim (fun h => (List.mem_append.mp h).elim (fun h => (List.mem_append.mp h).elim (fun h => (List.mem_append.mp h).elim (fun h => zl_1 w h) (fun h => (List.mem_append.mp h).elim (fun h => zl_2 w h) (fun h => (List.mem_append.mp h).elim (fun h => zl_3 w h) (fun h => (List.mem_append.mp h).elim (fun h => zl_4 w h) (fun h => (List.mem_append.mp h).elim (fun h => zl_5 w h) (fun h => (List.mem_append.mp h).elim (fun h => zl_6 w h) (fun h => (List.mem_append.mp h).elim (fun h => zl_7 w h) (fun h => (List.mem_append.mp h).elim (fun h => zl_8 w h) (fun h => (List.mem_append.mp h).elim (fun h => zl_9 w h) (fun h => (List.mem_append.mp h).elim (fun h => zl_10 w h) (fun h => (List.mem_append.mp h).elim (fun h => zl_11 w h) (fun h => (List.mem_append.mp h).elim (fun h => zl_12 w h) (fun h => (List.mem_append.mp h).elim (fun h => zl_13 w h) (fun h => (List.mem_append.mp h).elim (fun h => zl_14 w h) (fun h => (List.mem_append.mp h).elim (fun h => zl_15 w h) (fun h => (List.mem_append.mp h).elim (fun h => zl_16 w h) (fun h => zl_17 w h))))))))))))))))) (fun h => zl_wsX30 w h)) (fun h => zl_wsX10 w h)) (fun h => zl_wsX00 w h)) (fun h => zl_wsX20 w h)) (fun h => absurd h List.not_mem_nil)
theorem wsL_law_x0 : ∀ w ∈ (vx_atS RX3 210 "java/lang/IndexOutOfBoundsException" ["java/lang/RuntimeException", "java/lang/Exception"]).filter goodWord, w ∈ lw_tbl := by decide +kernel
theorem wsL_law_x1 : ∀ w ∈ (vx_atS RX3 45 "java/lang/IllegalArgumentException" ["java/lang/RuntimeException", "java/lang/Exception"]).filter goodWord, w ∈ lw_tbl := by decide +kernel
theorem wsL_law_x2 : ∀ w ∈ (vx_atS RX3 56 "java/lang/IllegalStateException" ["java/lang/RuntimeException", "java/lang/Exception"]).filter goodWord, w ∈ lw_tbl := by decide +kernel
theorem wsL_law_in : ∀ w ∈ wsL_law, w ∈ lw_tbl := fun w h => (List.mem_append.mp h).elim (fun h => (List.mem_append.mp h).elim (fun h => (List.mem_append.mp h).elim (fun h => wsL_law_in0 w h) (fun h => wsL_law_x0 w h)) (fun h => wsL_law_x1 w h)) (fun h => wsL_law_x2 w h)
theorem inlX0 : ∀ w ∈ wsX00, w ∈ wsL_law := fun _ h => List.mem_append_left _ (List.mem_append_left _ (List.mem_append_left _ (List.mem_append_left _ (List.mem_append_left _ (List.mem_append_right _ h)))))
theorem inX0 : ∀ w ∈ wsX00, w ∈ lw_tbl := fun w h => wsL_law_in w (inlX0 w h)
theorem inlX1 : ∀ w ∈ wsX10, w ∈ wsL_law := fun _ h => List.mem_append_left _ (List.mem_append_left _ (List.mem_append_left _ (List.mem_append_left _ (List.mem_append_left _ (List.mem_append_left _ (List.mem_append_right _ h))))))
theorem inX1 : ∀ w ∈ wsX10, w ∈ lw_tbl := fun w h => wsL_law_in w (inlX1 w h)
theorem inlX2 : ∀ w ∈ wsX20, w ∈ wsL_law := fun _ h => List.mem_append_left _ (List.mem_append_left _ (List.mem_append_left _ (List.mem_append_left _ (List.mem_append_right _ h))))
theorem inX2 : ∀ w ∈ wsX20, w ∈ lw_tbl := fun w h => wsL_law_in w (inlX2 w h)
theorem inlX3 : ∀ w ∈ wsX30, w ∈ wsL_law := fun _ h => List.mem_append_left _ (List.mem_append_left _ (List.mem_append_left _ (List.mem_append_left _ (List.mem_append_left _ (List.mem_append_left _ (List.mem_append_left _ (List.mem_append_right _ h)))))))
theorem inX3 : ∀ w ∈ wsX30, w ∈ lw_tbl := fun w h => wsL_law_in w (inlX3 w h)
theorem inX4 : ∀ w ∈ wsX40, w ∈ lw_tbl := by decide +kernel
theorem inJ6 : ∀ w ∈ wsJ60, w ∈ lw_tbl := by decide +kernel
theorem inJ9 : ∀ w ∈ wsJ90, w ∈ lw_tbl := by decide +kernel
theorem inJ0 : ∀ w ∈ wsJ00, w ∈ lw_tbl := by decide +kernel
theorem inJ1 : ∀ w ∈ wsJ10, w ∈ lw_tbl := by decide +kernel
theorem inJ2 : ∀ w ∈ wsJ20, w ∈ lw_tbl := by decide +kernel
theorem inJ3 : ∀ w ∈ wsJ30, w ∈ lw_tbl := by decide +kernel
