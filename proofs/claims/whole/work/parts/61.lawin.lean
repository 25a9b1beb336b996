/-! The law's words: each stands in the tables. -/
theorem in_of {big ws : List Cond} (ps : List Nat) (hp : ws = ps.filterMap (fun i => big[i]?)) : ∀ w ∈ ws, w ∈ big := by
  intro w hw
  rw [hp] at hw
  obtain ⟨i, -, hi⟩ := List.mem_filterMap.mp hw
  exact List.mem_of_getElem? hi
theorem in_ap {big p q : List Cond} (hp : ∀ w ∈ p, w ∈ big) (hq : ∀ w ∈ q, w ∈ big) : ∀ w ∈ p ++ q, w ∈ big := fun w h => (List.mem_append.mp h).elim (hp w) (hq w)
set_option maxHeartbeats 4000000 in
set_option maxRecDepth 100000 in
theorem wsL_law_r1_in : ∀ w ∈ wsL_law_r1, w ∈ lw_tbl := in_of [39, 40, 26, 465, 466, 32, 41, 42, 43, 44, 45, 46, 47, 48, 27, 154, 155, 156, 84, 85, 29, 157, 103, 104] (by decide +kernel)
set_option maxHeartbeats 4000000 in
set_option maxRecDepth 100000 in
theorem wsL_law_r2_in : ∀ w ∈ wsL_law_r2, w ∈ lw_tbl := in_of [30, 158, 159, 49, 50, 51, 52, 83, 74, 75, 53, 54, 55, 56, 57, 58, 28, 59, 60, 61, 62, 64, 65, 66] (by decide +kernel)
set_option maxHeartbeats 4000000 in
set_option maxRecDepth 100000 in
theorem wsL_law_r3_in : ∀ w ∈ wsL_law_r3, w ∈ lw_tbl := in_of [67, 68, 69, 73, 72, 71, 87, 88, 89, 90, 91, 105, 106, 107, 108, 141, 109, 142, 111, 31, 112, 113, 114, 115] (by decide +kernel)
set_option maxHeartbeats 4000000 in
set_option maxRecDepth 100000 in
theorem wsL_law_r4_in : ∀ w ∈ wsL_law_r4, w ∈ lw_tbl := in_of [116, 467, 468, 469, 470, 471, 472, 473, 474, 475, 476, 480, 481, 482, 483, 485, 486, 487, 488, 492, 493, 494, 553, 495] (by decide +kernel)
set_option maxHeartbeats 4000000 in
set_option maxRecDepth 100000 in
theorem wsL_law_r5_in : ∀ w ∈ wsL_law_r5, w ∈ lw_tbl := in_of [182, 183, 184, 185, 186, 187, 188, 189, 190, 191, 192, 193, 194, 195, 196, 33, 197, 198, 199, 200, 201, 203, 0, 204] (by decide +kernel)
set_option maxHeartbeats 4000000 in
set_option maxRecDepth 100000 in
theorem wsL_law_r6_in : ∀ w ∈ wsL_law_r6, w ∈ lw_tbl := in_of [205, 206, 207, 208, 209, 210, 211, 212, 92, 93, 213, 214, 215, 216, 217, 34, 218, 219, 554, 555, 556, 557, 558, 559] (by decide +kernel)
set_option maxHeartbeats 4000000 in
set_option maxRecDepth 100000 in
theorem wsL_law_r7_in : ∀ w ∈ wsL_law_r7, w ∈ lw_tbl := in_of [560, 561, 562, 564, 3, 565, 566, 568, 4, 569, 570, 572, 5, 573, 477, 220, 221, 222, 223, 574, 575, 576, 577, 224] (by decide +kernel)
set_option maxHeartbeats 4000000 in
set_option maxRecDepth 100000 in
theorem wsL_law_r8_in : ∀ w ∈ wsL_law_r8, w ∈ lw_tbl := in_of [225, 226, 227, 161, 228, 229, 230, 231, 232, 233, 234, 235, 236, 237, 238, 239, 240, 241, 242, 243, 578, 579, 580, 581] (by decide +kernel)
set_option maxHeartbeats 4000000 in
set_option maxRecDepth 100000 in
theorem wsL_law_r9_in : ∀ w ∈ wsL_law_r9, w ∈ lw_tbl := in_of [478, 244, 245, 246, 247, 248, 249, 250, 251, 252, 253, 254, 255, 582, 583, 584, 585, 256, 257, 258, 259, 260, 261, 262] (by decide +kernel)
set_option maxHeartbeats 4000000 in
set_option maxRecDepth 100000 in
theorem wsL_law_r10_in : ∀ w ∈ wsL_law_r10, w ∈ lw_tbl := in_of [263, 264, 265, 267, 586, 587, 588, 589, 590, 592, 6, 593, 268, 269, 270, 271, 272, 273, 274, 275, 276, 277, 278, 279] (by decide +kernel)
set_option maxHeartbeats 4000000 in
set_option maxRecDepth 100000 in
theorem wsL_law_r11_in : ∀ w ∈ wsL_law_r11, w ∈ lw_tbl := in_of [280, 281, 282, 283, 284, 285, 286, 287, 288, 289, 290, 291, 292, 293, 594, 595, 596, 597, 598, 600, 7, 601, 602, 604] (by decide +kernel)
set_option maxHeartbeats 4000000 in
set_option maxRecDepth 100000 in
theorem wsL_law_r12_in : ∀ w ∈ wsL_law_r12, w ∈ lw_tbl := in_of [8, 605, 606, 608, 9, 609, 610, 612, 10, 613, 614, 616, 11, 617, 618, 620, 12, 621, 294, 295, 296, 297, 298, 299] (by decide +kernel)
set_option maxHeartbeats 4000000 in
set_option maxRecDepth 100000 in
theorem wsL_law_r13_in : ∀ w ∈ wsL_law_r13, w ∈ lw_tbl := in_of [300, 301, 302, 303, 304, 305, 306, 307, 308, 309, 34, 310, 311, 312, 313, 143, 144, 314, 315, 35, 316, 317, 318, 319] (by decide +kernel)
set_option maxHeartbeats 4000000 in
set_option maxRecDepth 100000 in
theorem wsL_law_r14_in : ∀ w ∈ wsL_law_r14, w ∈ lw_tbl := in_of [320, 321, 322, 323, 324, 325, 124, 129, 326, 327, 36, 328, 329, 330, 331, 332, 333, 334, 335, 336, 337, 338, 339, 340] (by decide +kernel)
set_option maxHeartbeats 4000000 in
set_option maxRecDepth 100000 in
theorem wsL_law_r15_in : ∀ w ∈ wsL_law_r15, w ∈ lw_tbl := in_of [341, 121, 128, 342, 622, 623, 624, 625, 626, 627, 628, 629, 630, 631, 633, 13, 634, 484, 490, 491, 635, 636, 637, 638] (by decide +kernel)
set_option maxHeartbeats 4000000 in
set_option maxRecDepth 100000 in
theorem wsL_law_r16_in : ∀ w ∈ wsL_law_r16, w ∈ lw_tbl := in_of [640, 14, 641, 642, 644, 15, 645, 646, 648, 16, 649, 343, 344, 345, 346, 650, 651, 652, 653, 654, 655, 657, 17, 658] (by decide +kernel)
set_option maxHeartbeats 4000000 in
set_option maxRecDepth 100000 in
theorem wsL_law_r17_in : ∀ w ∈ wsL_law_r17, w ∈ lw_tbl := in_of [489, 659, 661, 18, 662, 663, 665, 19, 666, 667, 669, 20, 670, 347, 348, 349, 350, 351, 352, 353, 354, 355, 356, 357] (by decide +kernel)
set_option maxHeartbeats 4000000 in
set_option maxRecDepth 100000 in
theorem wsL_law_r18_in : ∀ w ∈ wsL_law_r18, w ∈ lw_tbl := in_of [358, 359, 671, 672, 673, 674, 360, 361, 362, 363, 162, 364, 365, 366, 675, 676, 677, 678, 479, 679, 680, 681, 682, 367] (by decide +kernel)
set_option maxHeartbeats 4000000 in
set_option maxRecDepth 100000 in
theorem wsL_law_r19_in : ∀ w ∈ wsL_law_r19, w ∈ lw_tbl := in_of [368, 369, 370, 371, 372, 373, 374, 376, 377, 378, 379, 683, 684, 685, 686, 380, 381, 382, 383, 384, 385, 386, 387, 388] (by decide +kernel)
set_option maxHeartbeats 4000000 in
set_option maxRecDepth 100000 in
theorem wsL_law_r20_in : ∀ w ∈ wsL_law_r20, w ∈ lw_tbl := in_of [389, 390, 391, 392, 687, 688, 689, 690, 691, 693, 21, 694, 695, 696, 697, 393, 394, 395, 396, 397, 698, 699, 700, 701] (by decide +kernel)
set_option maxHeartbeats 4000000 in
set_option maxRecDepth 100000 in
theorem wsL_law_r21_in : ∀ w ∈ wsL_law_r21, w ∈ lw_tbl := in_of [398, 399, 400, 401, 402, 403, 404, 405, 702, 703, 704, 705, 406, 407, 408, 409, 416, 410, 412, 1, 413, 414, 415, 706] (by decide +kernel)
set_option maxHeartbeats 4000000 in
set_option maxRecDepth 100000 in
theorem wsL_law_r22_in : ∀ w ∈ wsL_law_r22, w ∈ lw_tbl := in_of [707, 708, 709, 710, 712, 22, 713, 417, 418, 419, 420, 714, 715, 716, 717, 718, 421, 422, 423, 424, 160, 425, 426, 427] (by decide +kernel)
set_option maxHeartbeats 4000000 in
set_option maxRecDepth 100000 in
theorem wsL_law_r23_in : ∀ w ∈ wsL_law_r23, w ∈ lw_tbl := in_of [428, 430, 2, 431, 432, 433, 434, 435, 436, 438, 437, 37, 719, 720, 721, 722, 496, 497, 723, 725, 23, 726, 727, 729] (by decide +kernel)
set_option maxHeartbeats 4000000 in
set_option maxRecDepth 100000 in
theorem wsL_law_r24_in : ∀ w ∈ wsL_law_r24, w ∈ lw_tbl := in_of [24, 730, 439, 440, 441, 442, 731, 732, 733, 734, 443, 444, 445, 446, 447, 448, 449, 450, 451, 452, 38, 453, 454, 455] (by decide +kernel)
set_option maxHeartbeats 4000000 in
set_option maxRecDepth 100000 in
theorem wsL_law_r25_in : ∀ w ∈ wsL_law_r25, w ∈ lw_tbl := in_of [456, 457, 458, 459, 460, 461, 462, 463, 464, 735, 736, 737, 738, 739, 740, 741, 742] (by decide +kernel)
set_option maxHeartbeats 4000000 in
set_option maxRecDepth 100000 in
theorem inX7 : ∀ w ∈ wsX70, w ∈ lw_tbl := in_of [163, 165, 167, 169, 171, 173, 175, 177, 179] (by decide +kernel)
set_option maxHeartbeats 4000000 in
set_option maxRecDepth 100000 in
theorem inX8 : ∀ w ∈ wsX80, w ∈ lw_tbl := in_of [498, 500, 502, 504, 506, 508, 510, 512, 514, 516, 518, 520, 522, 524, 526, 528, 530, 532, 534, 536, 538, 540, 542, 544, 546, 548, 550] (by decide +kernel)
set_option maxHeartbeats 4000000 in
set_option maxRecDepth 100000 in
theorem inX1 : ∀ w ∈ wsX10, w ∈ lw_tbl := in_of [76, 78, 80] (by decide +kernel)
set_option maxHeartbeats 4000000 in
set_option maxRecDepth 100000 in
theorem inX4 : ∀ w ∈ wsX40, w ∈ lw_tbl := in_of [94, 96, 98, 100] (by decide +kernel)
set_option maxHeartbeats 4000000 in
set_option maxRecDepth 100000 in
theorem inX6 : ∀ w ∈ wsX60, w ∈ lw_tbl := in_of [145, 147, 149, 151] (by decide +kernel)
set_option maxHeartbeats 4000000 in
set_option maxRecDepth 100000 in
theorem inX2 : ∀ w ∈ wsX20, w ∈ lw_tbl := in_of [130, 132, 134, 136, 138] (by decide +kernel)
theorem wsL_law_in : ∀ w ∈ wsL_law, w ∈ lw_tbl := in_ap (in_ap (in_ap (in_ap (in_ap (in_ap (in_ap (in_ap wsL_law_r1_in (in_ap wsL_law_r2_in (in_ap wsL_law_r3_in (in_ap wsL_law_r4_in (in_ap wsL_law_r5_in (in_ap wsL_law_r6_in (in_ap wsL_law_r7_in (in_ap wsL_law_r8_in (in_ap wsL_law_r9_in (in_ap wsL_law_r10_in (in_ap wsL_law_r11_in (in_ap wsL_law_r12_in (in_ap wsL_law_r13_in (in_ap wsL_law_r14_in (in_ap wsL_law_r15_in (in_ap wsL_law_r16_in (in_ap wsL_law_r17_in (in_ap wsL_law_r18_in (in_ap wsL_law_r19_in (in_ap wsL_law_r20_in (in_ap wsL_law_r21_in (in_ap wsL_law_r22_in (in_ap wsL_law_r23_in (in_ap wsL_law_r24_in (wsL_law_r25_in))))))))))))))))))))))))) inX7) inX8) inX1) inX4) inX6) inX2) (fun _ h => absurd h List.not_mem_nil)
theorem inlX1 : ∀ w ∈ wsX10, w ∈ wsL_law := fun _ h => List.mem_append_left _ (List.mem_append_left _ (List.mem_append_left _ (List.mem_append_left _ (List.mem_append_right _ h))))
theorem inlX2 : ∀ w ∈ wsX20, w ∈ wsL_law := fun _ h => List.mem_append_left _ (List.mem_append_right _ h)
theorem inlX4 : ∀ w ∈ wsX40, w ∈ wsL_law := fun _ h => List.mem_append_left _ (List.mem_append_left _ (List.mem_append_left _ (List.mem_append_right _ h)))
theorem inlX6 : ∀ w ∈ wsX60, w ∈ wsL_law := fun _ h => List.mem_append_left _ (List.mem_append_left _ (List.mem_append_right _ h))
theorem inlX7 : ∀ w ∈ wsX70, w ∈ wsL_law := fun _ h => List.mem_append_left _ (List.mem_append_left _ (List.mem_append_left _ (List.mem_append_left _ (List.mem_append_left _ (List.mem_append_left _ (List.mem_append_right _ h))))))
theorem inlX8 : ∀ w ∈ wsX80, w ∈ wsL_law := fun _ h => List.mem_append_left _ (List.mem_append_left _ (List.mem_append_left _ (List.mem_append_left _ (List.mem_append_left _ (List.mem_append_right _ h)))))
set_option maxHeartbeats 4000000 in
set_option maxRecDepth 100000 in
theorem ku_w : ∀ w ∈ Cond.arrayClass .int :: Cond.arrayClass .boolean :: Cond.arrayOver (.object RX2) :: nwW, w ∈ lw_tbl := in_of [83, 553, 110, 63, 266, 70, 375, 86, 122, 120, 126, 118, 123, 119, 127, 117, 125] (by decide +kernel)
