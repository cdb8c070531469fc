/-- words by their places -/
theorem mem_pl {big : List Cond} (ws : List Cond) (ps : List Nat) (hp : ws = ps.filterMap (fun i => big[i]?)) : ∀ w ∈ ws, w ∈ big := by
  intro w hw
  rw [hp] at hw
  obtain ⟨i, -, hi⟩ := List.mem_filterMap.mp hw
  first | exact List.mem_of_getElem? hi | exact List.getElem?_mem hi
theorem mem_ap {big a b : List Cond} (ha : ∀ w ∈ a, w ∈ big) (hb : ∀ w ∈ b, w ∈ big) : ∀ w ∈ a ++ b, w ∈ big := fun w h => (List.mem_append.mp h).elim (ha w) (hb w)
set_option maxRecDepth 20000 in
theorem wsL_law0_r1_pl : ∀ w ∈ wsL_law0_r1, w ∈ lw_tbl := mem_pl _ [39, 40, 23, 504, 505, 27, 667, 41, 42, 43, 44, 45, 46, 76, 141, 142, 47, 48, 24, 143, 77, 78, 25, 144] (by decide +kernel)
set_option maxRecDepth 20000 in
theorem wsL_law0_r2_pl : ∀ w ∈ wsL_law0_r2, w ∈ lw_tbl := mem_pl _ [49, 50, 51, 52, 53, 55, 58, 61, 63, 80, 81, 82, 83, 84, 26, 85, 110, 116, 86, 87, 88, 89, 90, 506] (by decide +kernel)
set_option maxRecDepth 20000 in
theorem wsL_law0_r3_pl : ∀ w ∈ wsL_law0_r3, w ∈ lw_tbl := mem_pl _ [507, 508, 509, 512, 514, 517, 518, 519, 520, 154, 155, 156, 157, 548, 549, 550, 551, 510, 511, 158, 159, 160, 161, 162] (by decide +kernel)
set_option maxRecDepth 20000 in
theorem wsL_law0_r4_pl : ∀ w ∈ wsL_law0_r4, w ∈ lw_tbl := mem_pl _ [163, 164, 165, 167, 0, 168, 169, 171, 1, 172, 173, 175, 2, 176, 552, 553, 554, 555, 556, 558, 10, 559, 177, 178] (by decide +kernel)
set_option maxRecDepth 20000 in
theorem wsL_law0_r5_pl : ∀ w ∈ wsL_law0_r5, w ∈ lw_tbl := mem_pl _ [179, 180, 187, 181, 182, 183, 184, 185, 186, 188, 189, 190, 560, 561, 562, 563, 564, 565, 566, 567, 568, 569, 570, 191] (by decide +kernel)
set_option maxRecDepth 20000 in
theorem wsL_law0_r6_pl : ∀ w ∈ wsL_law0_r6, w ∈ lw_tbl := mem_pl _ [192, 193, 194, 195, 196, 197, 198, 199, 200, 201, 202, 203, 571, 572, 573, 574, 204, 205, 206, 207, 575, 576, 577, 578] (by decide +kernel)
set_option maxRecDepth 20000 in
theorem wsL_law0_r7_pl : ∀ w ∈ wsL_law0_r7, w ∈ lw_tbl := mem_pl _ [208, 209, 210, 211, 579, 580, 581, 582, 216, 217, 22, 218, 219, 220, 221, 222, 223, 225, 31, 224, 292, 293, 33, 294] (by decide +kernel)
set_option maxRecDepth 20000 in
theorem wsL_law0_r8_pl : ∀ w ∈ wsL_law0_r8, w ∈ lw_tbl := mem_pl _ [295, 296, 301, 302, 298, 32, 299, 300, 308, 310, 4, 311, 312, 313, 314, 315, 316, 318, 5, 319, 123, 126, 129, 115] (by decide +kernel)
set_option maxRecDepth 20000 in
theorem wsL_law0_r9_pl : ∀ w ∈ wsL_law0_r9, w ∈ lw_tbl := mem_pl _ [121, 320, 321, 322, 323, 91, 95, 324, 325, 326, 327, 93, 97, 328, 330, 331, 332, 333, 124, 111, 119, 335, 336, 337] (by decide +kernel)
set_option maxRecDepth 20000 in
theorem wsL_law0_r10_pl : ∀ w ∈ wsL_law0_r10, w ∈ lw_tbl := mem_pl _ [338, 340, 342, 6, 343, 344, 345, 346, 347, 35, 348, 433, 434, 435, 117, 114, 349, 350, 351, 352, 127, 353, 355, 356] (by decide +kernel)
set_option maxRecDepth 20000 in
theorem wsL_law0_r11_pl : ∀ w ∈ wsL_law0_r11, w ∈ lw_tbl := mem_pl _ [357, 36, 358, 437, 438, 442, 443, 359, 360, 361, 362, 364, 365, 34, 366, 367, 368, 37, 369, 439, 440, 444, 445, 370] (by decide +kernel)
set_option maxRecDepth 20000 in
theorem wsL_law0_r12_pl : ∀ w ∈ wsL_law0_r12, w ∈ lw_tbl := mem_pl _ [371, 372, 373, 374, 375, 376, 38, 377, 491, 493, 113, 494, 56, 120, 59, 54, 128, 492, 378, 379, 380, 381, 382, 112] (by decide +kernel)
set_option maxRecDepth 20000 in
theorem wsL_law0_r13_pl : ∀ w ∈ wsL_law0_r13, w ∈ lw_tbl := mem_pl _ [118, 383, 384, 385, 386, 387, 388, 389, 390, 391, 392, 394, 7, 395, 396, 397, 398, 399, 122, 92, 94, 400, 402, 8] (by decide +kernel)
set_option maxRecDepth 20000 in
theorem wsL_law0_r14_pl : ∀ w ∈ wsL_law0_r14, w ∈ lw_tbl := mem_pl _ [403, 98, 125, 404, 405, 406, 407, 409, 9, 410, 96, 583, 584, 585, 586, 587, 588, 589, 591, 11, 592, 513, 515, 593] (by decide +kernel)
set_option maxRecDepth 20000 in
theorem wsL_law0_r15_pl : ∀ w ∈ wsL_law0_r15, w ∈ lw_tbl := mem_pl _ [595, 12, 596, 597, 598, 599, 600, 602, 13, 603, 604, 606, 14, 607, 608, 610, 15, 611, 612, 614, 16, 615, 616, 618] (by decide +kernel)
set_option maxRecDepth 20000 in
theorem wsL_law0_r16_pl : ∀ w ∈ wsL_law0_r16, w ∈ lw_tbl := mem_pl _ [17, 619, 620, 622, 18, 623, 544, 545, 546, 547, 411, 412, 413, 414, 415, 416, 417, 424, 425, 418, 419, 420, 426, 427] (by decide +kernel)
set_option maxRecDepth 20000 in
theorem wsL_law0_r17_pl : ∀ w ∈ wsL_law0_r17, w ∈ lw_tbl := mem_pl _ [428, 429, 430, 431, 436, 441, 624, 625, 626, 627, 628, 629, 630, 631, 632, 633, 634, 636, 19, 637, 638, 640, 20, 641] (by decide +kernel)
set_option maxRecDepth 20000 in
theorem wsL_law0_r18_pl : ∀ w ∈ wsL_law0_r18, w ∈ lw_tbl := mem_pl _ [642, 643, 644, 645, 646, 647, 648, 649, 650, 457, 458, 459, 460, 461, 462, 463, 464, 465, 466, 467, 468, 469, 651, 652] (by decide +kernel)
set_option maxRecDepth 20000 in
theorem wsL_law0_r19_pl : ∀ w ∈ wsL_law0_r19, w ∈ lw_tbl := mem_pl _ [653, 654, 212, 213, 214, 215, 655, 656, 657, 658, 516, 476, 477, 478, 479, 480, 481, 482, 62, 57, 64, 60, 485, 486] (by decide +kernel)
set_option maxRecDepth 20000 in
theorem wsL_law0_r20_pl : ∀ w ∈ wsL_law0_r20, w ∈ lw_tbl := mem_pl _ [487, 488, 489, 659, 660, 661, 662, 663, 665, 21, 666] (by decide +kernel)
