theorem cu_inr {big : List Cond} (ws : List Cond) (ps : List Nat) (hp : ws = ps.filterMap (fun i => big[i]?)) : ∀ w ∈ ws, w ∈ big := by
  intro w hw
  rw [hp] at hw
  obtain ⟨i, -, hi⟩ := List.mem_filterMap.mp hw
  first | exact List.mem_of_getElem? hi | exact List.getElem?_mem hi
theorem cu_inapp {big a b : List Cond} (ha : ∀ w ∈ a, w ∈ big) (hb : ∀ w ∈ b, w ∈ big) : ∀ w ∈ a ++ b, w ∈ big := fun w h => (List.mem_append.mp h).elim (ha w) (hb w)
set_option maxRecDepth 20000 in
theorem cu_in_r1 : ∀ w ∈ wsL_law0_r1, w ∈ lw_tbl := cu_inr _ [56, 57, 45, 492, 493, 47, 673, 58, 59, 60, 61, 62, 63, 64, 117, 118, 66, 46, 119, 120, 68, 69, 70, 71] (by decide +kernel)
set_option maxRecDepth 20000 in
theorem cu_in_r2 : ∀ w ∈ wsL_law0_r2, w ∈ lw_tbl := cu_inr _ [72, 73, 74, 75, 76, 77, 79, 81, 82, 83, 84, 85, 86, 494, 495, 496, 497, 511, 500, 501, 191, 192, 44, 193] (by decide +kernel)
set_option maxRecDepth 20000 in
theorem cu_in_r3 : ∀ w ∈ wsL_law0_r3, w ∈ lw_tbl := cu_inr _ [194, 195, 196, 197, 198, 199, 274, 52, 200, 201, 202, 206, 51, 203, 204, 205, 292, 10, 293, 516, 517, 518, 519, 498] (by decide +kernel)
set_option maxRecDepth 20000 in
theorem cu_in_r4 : ∀ w ∈ wsL_law0_r4, w ∈ lw_tbl := cu_inr _ [499, 527, 529, 528, 53, 520, 521, 522, 523, 525, 27, 526, 512, 513, 514, 515, 294, 295, 296, 297, 298, 299, 300, 301] (by decide +kernel)
set_option maxRecDepth 20000 in
theorem cu_in_r5 : ∀ w ∈ wsL_law0_r5, w ∈ lw_tbl := cu_inr _ [302, 304, 11, 305, 306, 54, 326, 12, 327, 136, 0, 137, 138, 140, 1, 141, 530, 531, 532, 533, 534, 536, 28, 537] (by decide +kernel)
set_option maxRecDepth 20000 in
theorem cu_in_r6 : ∀ w ∈ wsL_law0_r6, w ∈ lw_tbl := cu_inr _ [538, 540, 29, 541, 542, 544, 30, 545, 546, 548, 31, 549, 550, 552, 32, 553, 328, 329, 330, 331, 332, 333, 334, 175] (by decide +kernel)
set_option maxRecDepth 20000 in
theorem cu_in_r7 : ∀ w ∈ wsL_law0_r7, w ∈ lw_tbl := cu_inr _ [176, 177, 152, 153, 154, 155, 156, 55, 157, 554, 555, 556, 557, 558, 560, 33, 561, 335, 336, 337, 338, 339, 340, 341] (by decide +kernel)
set_option maxRecDepth 20000 in
theorem cu_in_r8 : ∀ w ∈ wsL_law0_r8, w ∈ lw_tbl := cu_inr _ [344, 13, 345, 562, 563, 564, 565, 346, 347, 348, 349, 350, 351, 352, 355, 14, 356, 359, 15, 360, 363, 16, 364, 566] (by decide +kernel)
set_option maxRecDepth 20000 in
theorem cu_in_r9 : ∀ w ∈ wsL_law0_r9, w ∈ lw_tbl := cu_inr _ [567, 568, 569, 366, 367, 368, 369, 370, 371, 372, 376, 17, 377, 570, 571, 572, 573, 378, 379, 380, 381, 382, 383, 384] (by decide +kernel)
set_option maxRecDepth 20000 in
theorem cu_in_r10 : ∀ w ∈ wsL_law0_r10, w ∈ lw_tbl := cu_inr _ [164, 4, 165, 166, 167, 169, 5, 170, 574, 575, 576, 577, 578, 580, 34, 581, 582, 584, 35, 585, 386, 387, 388, 389] (by decide +kernel)
set_option maxRecDepth 20000 in
theorem cu_in_r11 : ∀ w ∈ wsL_law0_r11, w ∈ lw_tbl := cu_inr _ [390, 391, 392, 586, 587, 588, 589, 393, 394, 395, 396, 397, 398, 399, 148, 150, 2, 151, 158, 160, 3, 161, 171, 173] (by decide +kernel)
set_option maxRecDepth 20000 in
theorem cu_in_r12 : ∀ w ∈ wsL_law0_r12, w ∈ lw_tbl := cu_inr _ [6, 174, 178, 180, 7, 181, 182, 183, 55, 184, 590, 591, 592, 593, 594, 596, 36, 597, 602, 598, 600, 37, 601, 401] (by decide +kernel)
set_option maxRecDepth 20000 in
theorem cu_in_r13 : ∀ w ∈ wsL_law0_r13, w ∈ lw_tbl := cu_inr _ [402, 403, 404, 405, 406, 407, 408, 409, 410, 412, 414, 18, 415, 418, 19, 419, 420, 422, 20, 423, 424, 425, 426, 427] (by decide +kernel)
set_option maxRecDepth 20000 in
theorem cu_in_r14 : ∀ w ∈ wsL_law0_r14, w ∈ lw_tbl := cu_inr _ [429, 21, 430, 431, 432, 433, 434, 436, 22, 437, 603, 604, 605, 606, 607, 609, 38, 610, 611, 613, 39, 614, 624, 625] (by decide +kernel)
set_option maxRecDepth 20000 in
theorem cu_in_r15 : ∀ w ∈ wsL_law0_r15, w ∈ lw_tbl := cu_inr _ [626, 615, 617, 40, 618, 619, 621, 41, 622, 623, 438, 439, 440, 441, 442, 443, 444, 447, 23, 448, 627, 628, 629, 630] (by decide +kernel)
set_option maxRecDepth 20000 in
theorem cu_in_r16 : ∀ w ∈ wsL_law0_r16, w ∈ lw_tbl := cu_inr _ [631, 633, 42, 634, 635, 637, 638, 639, 640, 641, 643, 645, 43, 646, 449, 450, 451, 452, 453, 454, 455, 458, 24, 459] (by decide +kernel)
set_option maxRecDepth 20000 in
theorem cu_in_r17 : ∀ w ∈ wsL_law0_r17, w ∈ lw_tbl := cu_inr _ [647, 648, 649, 650, 460, 461, 462, 463, 464, 465, 466, 467, 469, 25, 470, 651, 652, 653, 654, 471, 472, 473, 474, 475] (by decide +kernel)
set_option maxRecDepth 20000 in
theorem cu_in_r18 : ∀ w ∈ wsL_law0_r18, w ∈ lw_tbl := cu_inr _ [476, 477, 655, 656, 657, 658, 479, 480, 481, 482, 483, 484, 485, 488, 26, 489, 490, 491, 659, 660, 661, 662, 130, 131] (by decide +kernel)
set_option maxRecDepth 20000 in
theorem cu_in_r19 : ∀ w ∈ wsL_law0_r19, w ∈ lw_tbl := cu_inr _ [132, 133, 663, 664, 665, 666, 142, 143, 144, 145, 146, 147, 187, 8, 188, 189, 190, 667, 668, 669, 670, 671, 672] (by decide +kernel)
set_option maxRecDepth 20000 in
theorem cu_in_TX1 : ∀ w ∈ wsX10, w ∈ lw_tbl := cu_inr _ [121, 123, 125, 127] (by decide +kernel)
set_option maxRecDepth 20000 in
theorem cu_in_TX2 : ∀ w ∈ wsX20, w ∈ lw_tbl := cu_inr _ [502, 504, 506, 508] (by decide +kernel)
set_option maxRecDepth 20000 in
theorem cu_in_TX0 : ∀ w ∈ wsX00, w ∈ lw_tbl := cu_inr _ [88, 90, 92, 94, 96, 98, 100, 102, 104, 106, 108, 110, 112, 114] (by decide +kernel)
theorem wsL_law_in0 : ∀ w ∈ wsL_law0, w ∈ lw_tbl := cu_inapp (cu_inapp (cu_inapp (cu_inapp (cu_inapp cu_in_r1 (cu_inapp cu_in_r2 (cu_inapp cu_in_r3 (cu_inapp cu_in_r4 (cu_inapp cu_in_r5 (cu_inapp cu_in_r6 (cu_inapp cu_in_r7 (cu_inapp cu_in_r8 (cu_inapp cu_in_r9 (cu_inapp cu_in_r10 (cu_inapp cu_in_r11 (cu_inapp cu_in_r12 (cu_inapp cu_in_r13 (cu_inapp cu_in_r14 (cu_inapp cu_in_r15 (cu_inapp cu_in_r16 (cu_inapp cu_in_r17 (cu_inapp cu_in_r18 (cu_in_r19))))))))))))))))))) cu_in_TX1) cu_in_TX2) cu_in_TX0) (fun _ h => absurd h List.not_mem_nil)
theorem wsL_law_x0 : ∀ w ∈ (vx_atS RX1 34 "java/lang/IllegalStateException" ["java/lang/RuntimeException", "java/lang/Exception"]).filter goodWord, w ∈ lw_tbl := by decide +kernel
theorem wsL_law_x1 : ∀ w ∈ (vx_atS RX1 51 "java/lang/IllegalArgumentException" ["java/lang/RuntimeException", "java/lang/Exception"]).filter goodWord, w ∈ lw_tbl := by decide +kernel
theorem wsL_law_x2 : ∀ w ∈ (vx_atS RX1 90 "java/lang/IndexOutOfBoundsException" ["java/lang/RuntimeException", "java/lang/Exception"]).filter goodWord, w ∈ lw_tbl := by decide +kernel
theorem wsL_law_in : ∀ w ∈ wsL_law, w ∈ lw_tbl := fun w h => (List.mem_append.mp h).elim (fun h => (List.mem_append.mp h).elim (fun h => (List.mem_append.mp h).elim (fun h => wsL_law_in0 w h) (fun h => wsL_law_x0 w h)) (fun h => wsL_law_x1 w h)) (fun h => wsL_law_x2 w h)
theorem inlX0 : ∀ w ∈ wsX00, w ∈ wsL_law := fun _ h => List.mem_append_left _ (List.mem_append_left _ (List.mem_append_left _ (List.mem_append_left _ (List.mem_append_right _ h))))
theorem inX0 : ∀ w ∈ wsX00, w ∈ lw_tbl := fun w h => wsL_law_in w (inlX0 w h)
theorem inlX1 : ∀ w ∈ wsX10, w ∈ wsL_law := fun _ h => List.mem_append_left _ (List.mem_append_left _ (List.mem_append_left _ (List.mem_append_left _ (List.mem_append_left _ (List.mem_append_left _ (List.mem_append_right _ h))))))
theorem inX1 : ∀ w ∈ wsX10, w ∈ lw_tbl := fun w h => wsL_law_in w (inlX1 w h)
theorem inlX2 : ∀ w ∈ wsX20, w ∈ wsL_law := fun _ h => List.mem_append_left _ (List.mem_append_left _ (List.mem_append_left _ (List.mem_append_left _ (List.mem_append_left _ (List.mem_append_right _ h)))))
theorem inX2 : ∀ w ∈ wsX20, w ∈ lw_tbl := fun w h => wsL_law_in w (inlX2 w h)
theorem inJx8e188 : ∀ w ∈ wsJx8e1880, w ∈ lw_tbl := by decide +kernel
theorem inJ9 : ∀ w ∈ wsJ90, w ∈ lw_tbl := by decide +kernel
theorem inJ0 : ∀ w ∈ wsJ00, w ∈ lw_tbl := by decide +kernel
theorem inJ10 : ∀ w ∈ wsJ100, w ∈ lw_tbl := by decide +kernel
