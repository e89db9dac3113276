theorem cu_inapp {big a b : List Cond} (ha : ∀ w ∈ a, w ∈ big) (hb : ∀ w ∈ b, w ∈ big) : ∀ w ∈ a ++ b, w ∈ big := fun w h => (List.mem_append.mp h).elim (ha w) (hb w)
theorem cu_inr {big : List Cond} (ws : List Cond) (ps : List Nat) (hp : ws = ps.filterMap (fun i => big[i]?)) : ∀ w ∈ ws, w ∈ big := by
  intro w hw
  rw [hp] at hw
  obtain ⟨i, -, hi⟩ := List.mem_filterMap.mp hw
  first | exact List.mem_of_getElem? hi | exact List.getElem?_mem hi
set_option maxRecDepth 20000 in
theorem cu_in_r1 : ∀ w ∈ wsL_law0_r1, w ∈ lw_tbl := cu_inr _ [37, 38, 26, 550, 363, 547, 548, 36, 549, 539, 39, 40, 41, 42, 43, 44, 45, 98, 99, 47, 27, 100, 101, 49] (by decide +kernel)
set_option maxRecDepth 20000 in
theorem cu_in_r2 : ∀ w ∈ wsL_law0_r2, w ∈ lw_tbl := cu_inr _ [50, 51, 52, 53, 54, 55, 56, 57, 58, 60, 62, 63, 64, 65, 66, 67, 529, 530, 25, 531, 532, 533, 28, 535] (by decide +kernel)
set_option maxRecDepth 20000 in
theorem cu_in_r3 : ∀ w ∈ wsL_law0_r3, w ∈ lw_tbl := cu_inr _ [536, 537, 379, 538, 368, 369, 370, 371, 372, 373, 374, 387, 390, 393, 541, 395, 397, 401, 410, 404, 407, 419, 421, 364] (by decide +kernel)
set_option maxRecDepth 20000 in
theorem cu_in_r4 : ∀ w ∈ wsL_law0_r4, w ∈ lw_tbl := cu_inr _ [365, 366, 367, 375, 376, 377, 378, 381, 29, 394, 383, 384, 385, 386, 389, 400, 403, 406, 409, 418, 451, 452, 453, 454] (by decide +kernel)
set_option maxRecDepth 20000 in
theorem cu_in_r5 : ∀ w ∈ wsL_law0_r5, w ∈ lw_tbl := cu_inr _ [459, 34, 455, 456, 457, 247, 33, 187, 188, 189, 477, 18, 478, 479, 480, 481, 482, 115, 117, 0, 118, 119, 35, 487] (by decide +kernel)
set_option maxRecDepth 20000 in
theorem cu_in_r6 : ∀ w ∈ wsL_law0_r6, w ∈ lw_tbl := cu_inr _ [19, 488, 197, 3, 198, 199, 201, 4, 202, 489, 332, 333, 334, 392, 490, 348, 349, 350, 396, 491, 492, 493, 494, 230] (by decide +kernel)
set_option maxRecDepth 20000 in
theorem cu_in_r7 : ∀ w ∈ wsL_law0_r7, w ∈ lw_tbl := cu_inr _ [231, 232, 216, 217, 218, 219, 220, 36, 221, 495, 496, 497, 498, 501, 20, 502, 503, 504, 505, 506, 509, 21, 510, 513] (by decide +kernel)
set_option maxRecDepth 20000 in
theorem cu_in_r8 : ∀ w ∈ wsL_law0_r8, w ∈ lw_tbl := cu_inr _ [22, 514, 517, 23, 518, 520, 521, 522, 523, 527, 24, 528, 240, 241, 242, 243, 244, 245, 246, 263, 265, 10, 266, 269] (by decide +kernel)
set_option maxRecDepth 20000 in
theorem cu_in_r9 : ∀ w ∈ wsL_law0_r9, w ∈ lw_tbl := cu_inr _ [11, 270, 271, 273, 12, 274, 195, 203, 205, 5, 206, 275, 276, 277, 278, 280, 13, 281, 282, 283, 284, 285, 287, 14] (by decide +kernel)
set_option maxRecDepth 20000 in
theorem cu_in_r10 : ∀ w ∈ wsL_law0_r10, w ∈ lw_tbl := cu_inr _ [288, 323, 324, 325, 326, 540, 416, 327, 328, 329, 330, 417, 398, 412, 414, 331, 335, 320, 321, 322, 420, 207, 208, 209] (by decide +kernel)
set_option maxRecDepth 20000 in
theorem cu_in_r11 : ∀ w ∈ wsL_law0_r11, w ∈ lw_tbl := cu_inr _ [210, 212, 214, 6, 215, 222, 224, 7, 225, 193, 2, 194, 226, 228, 8, 229, 233, 235, 9, 236, 237, 238, 239, 111] (by decide +kernel)
set_option maxRecDepth 20000 in
theorem cu_in_r12 : ∀ w ∈ wsL_law0_r12, w ∈ lw_tbl := cu_inr _ [112, 113, 114, 289, 290, 291, 292, 295, 15, 296, 297, 298, 299, 300, 303, 16, 304, 305, 306, 307, 308, 310, 312, 17] (by decide +kernel)
set_option maxRecDepth 20000 in
theorem cu_in_r13 : ∀ w ∈ wsL_law0_r13, w ∈ lw_tbl := cu_inr _ [313, 319, 314, 315, 316, 317, 336, 337, 338, 339, 399, 402, 405, 408, 411, 388, 391, 413, 415, 340, 341, 342, 343, 344] (by decide +kernel)
set_option maxRecDepth 20000 in
theorem cu_in_r14 : ∀ w ∈ wsL_law0_r14, w ∈ lw_tbl := cu_inr _ [345, 346, 347, 351, 352, 353, 354, 355, 356, 357, 358, 359, 360, 361, 362] (by decide +kernel)
set_option maxRecDepth 20000 in
theorem cu_in_wsX10 : ∀ w ∈ wsX10, w ∈ lw_tbl := by decide +kernel
set_option maxRecDepth 20000 in
theorem cu_in_wsX30 : ∀ w ∈ wsX30, w ∈ lw_tbl := by decide +kernel
set_option maxRecDepth 20000 in
theorem cu_in_wsX00 : ∀ w ∈ wsX00, w ∈ lw_tbl := by decide +kernel
set_option maxRecDepth 20000 in
theorem cu_in_wsX20 : ∀ w ∈ wsX20, w ∈ lw_tbl := by decide +kernel
theorem wsL_law_in0 : ∀ w ∈ wsL_law0, w ∈ lw_tbl := (cu_inapp (cu_inapp (cu_inapp (cu_inapp (cu_inapp (cu_inapp cu_in_r1 (cu_inapp cu_in_r2 (cu_inapp cu_in_r3 (cu_inapp cu_in_r4 (cu_inapp cu_in_r5 (cu_inapp cu_in_r6 (cu_inapp cu_in_r7 (cu_inapp cu_in_r8 (cu_inapp cu_in_r9 (cu_inapp cu_in_r10 (cu_inapp cu_in_r11 (cu_inapp cu_in_r12 (cu_inapp cu_in_r13 cu_in_r14))))))))))))) cu_in_wsX10) cu_in_wsX30) cu_in_wsX00) cu_in_wsX20) (fun w h => absurd h List.not_mem_nil))
theorem wsL_law_x0 : ∀ w ∈ (vx_atS RX1 34 "java/lang/IllegalStateException" ["java/lang/RuntimeException", "java/lang/Exception"]).filter goodWord, w ∈ lw_tbl := by decide +kernel
theorem wsL_law_x1 : ∀ w ∈ (vx_atS RX1 51 "java/lang/IllegalArgumentException" ["java/lang/RuntimeException", "java/lang/Exception"]).filter goodWord, w ∈ lw_tbl := by decide +kernel
theorem wsL_law_x2 : ∀ w ∈ (vx_atS RX1 90 "java/lang/IndexOutOfBoundsException" ["java/lang/RuntimeException", "java/lang/Exception"]).filter goodWord, w ∈ lw_tbl := by decide +kernel
theorem wsL_law_in : ∀ w ∈ wsL_law, w ∈ lw_tbl := fun w h => (List.mem_append.mp h).elim (fun h => (List.mem_append.mp h).elim (fun h => (List.mem_append.mp h).elim (fun h => wsL_law_in0 w h) (fun h => wsL_law_x0 w h)) (fun h => wsL_law_x1 w h)) (fun h => wsL_law_x2 w h)
theorem inlX0 : ∀ w ∈ wsX00, w ∈ wsL_law := fun _ h => List.mem_append_left _ (List.mem_append_left _ (List.mem_append_left _ (List.mem_append_left _ (List.mem_append_left _ (List.mem_append_right _ h)))))
theorem inX0 : ∀ w ∈ wsX00, w ∈ lw_tbl := fun w h => wsL_law_in w (inlX0 w h)
theorem inlX1 : ∀ w ∈ wsX10, w ∈ wsL_law := fun _ h => List.mem_append_left _ (List.mem_append_left _ (List.mem_append_left _ (List.mem_append_left _ (List.mem_append_left _ (List.mem_append_left _ (List.mem_append_left _ (List.mem_append_right _ h)))))))
theorem inX1 : ∀ w ∈ wsX10, w ∈ lw_tbl := fun w h => wsL_law_in w (inlX1 w h)
theorem inlX2 : ∀ w ∈ wsX20, w ∈ wsL_law := fun _ h => List.mem_append_left _ (List.mem_append_left _ (List.mem_append_left _ (List.mem_append_left _ (List.mem_append_right _ h))))
theorem inX2 : ∀ w ∈ wsX20, w ∈ lw_tbl := fun w h => wsL_law_in w (inlX2 w h)
theorem inlX3 : ∀ w ∈ wsX30, w ∈ wsL_law := fun _ h => List.mem_append_left _ (List.mem_append_left _ (List.mem_append_left _ (List.mem_append_left _ (List.mem_append_left _ (List.mem_append_left _ (List.mem_append_right _ h))))))
theorem inX3 : ∀ w ∈ wsX30, w ∈ lw_tbl := fun w h => wsL_law_in w (inlX3 w h)
theorem inX4 : ∀ w ∈ wsX40, w ∈ lw_tbl := by decide +kernel
theorem inJ9 : ∀ w ∈ wsJ90, w ∈ lw_tbl := by decide +kernel
theorem inJ0 : ∀ w ∈ wsJ00, w ∈ lw_tbl := by decide +kernel
