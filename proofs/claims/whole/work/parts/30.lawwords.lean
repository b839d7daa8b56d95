theorem mem_r {big : List Cond} (ws : List Cond) (ps : List Nat) (hp : ws = ps.filterMap (fun i => big[i]?)) : ∀ w ∈ ws, w ∈ big := by
  intro w hw
  rw [hp] at hw
  obtain ⟨i, -, hi⟩ := List.mem_filterMap.mp hw
  exact List.mem_of_getElem? hi
set_option maxRecDepth 100000 in
theorem in_wsL_law_r1 : ∀ w ∈ wsL_law_r1, w ∈ lw_tbl := mem_r _ [35, 36, 26, 453, 454, 32, 37, 38, 39, 40, 41, 42, 43, 44, 27, 138, 139, 140, 57, 58, 28, 141, 79, 80] (by decide +kernel)
set_option maxRecDepth 100000 in
theorem in_wsL_law_r2 : ∀ w ∈ wsL_law_r2, w ∈ lw_tbl := mem_r _ [29, 142, 115, 116, 30, 143, 125, 126, 31, 144, 145, 45, 46, 47, 48, 56, 49, 59, 60, 61, 62, 63, 64, 65] (by decide +kernel)
set_option maxRecDepth 100000 in
theorem in_wsL_law_r3 : ∀ w ∈ wsL_law_r3, w ∈ lw_tbl := mem_r _ [66, 67, 81, 82, 83, 84, 85, 87, 88, 89, 90, 91, 92, 93, 86, 118, 119, 120, 128, 129, 130, 455, 456, 457] (by decide +kernel)
set_option maxRecDepth 100000 in
theorem in_wsL_law_r4 : ∀ w ∈ wsL_law_r4, w ∈ lw_tbl := mem_r _ [458, 487, 488, 490, 492, 562, 494, 496, 498, 499, 500, 504, 505, 506, 507, 563, 508, 509, 459, 461, 8, 462, 503, 486] (by decide +kernel)
set_option maxRecDepth 100000 in
theorem in_wsL_law_r5 : ∀ w ∈ wsL_law_r5, w ∈ lw_tbl := mem_r _ [497, 463, 465, 9, 466, 501, 502, 467, 469, 10, 470, 471, 473, 11, 474, 475, 477, 12, 478, 479, 481, 13, 482, 483] (by decide +kernel)
set_option maxRecDepth 100000 in
theorem in_wsL_law_r6 : ∀ w ∈ wsL_law_r6, w ∈ lw_tbl := mem_r _ [484, 485, 172, 173, 174, 175, 147, 146, 176, 177, 178, 179, 180, 181, 182, 183, 50, 184, 185, 186, 187, 188, 189, 190] (by decide +kernel)
set_option maxRecDepth 100000 in
theorem in_wsL_law_r7 : ∀ w ∈ wsL_law_r7, w ∈ lw_tbl := mem_r _ [191, 192, 194, 0, 195, 196, 198, 1, 199, 148, 200, 201, 202, 203, 204, 205, 206, 207, 208, 209, 210, 211, 212, 213] (by decide +kernel)
set_option maxRecDepth 100000 in
theorem in_wsL_law_r8 : ∀ w ∈ wsL_law_r8, w ∈ lw_tbl := mem_r _ [214, 215, 216, 121, 217, 218, 219, 220, 221, 222, 223, 224, 225, 226, 227, 228, 94, 95, 229, 230, 231, 232, 233, 234] (by decide +kernel)
set_option maxRecDepth 100000 in
theorem in_wsL_law_r9 : ∀ w ∈ wsL_law_r9, w ∈ lw_tbl := mem_r _ [236, 237, 33, 238, 235, 239, 240, 242, 2, 243, 244, 246, 3, 247, 248, 250, 4, 251, 252, 253, 254, 255, 256, 257] (by decide +kernel)
set_option maxRecDepth 100000 in
theorem in_wsL_law_r10 : ∀ w ∈ wsL_law_r10, w ∈ lw_tbl := mem_r _ [258, 259, 260, 261, 262, 263, 264, 265, 266, 267, 268, 269, 270, 271, 272, 273, 274, 275, 277, 5, 278, 279, 280, 281] (by decide +kernel)
set_option maxRecDepth 100000 in
theorem in_wsL_law_r11 : ∀ w ∈ wsL_law_r11, w ∈ lw_tbl := mem_r _ [282, 283, 284, 285, 286, 287, 289, 6, 290, 291, 292, 293, 294, 295, 296, 564, 565, 566, 567, 495, 491, 489, 568, 569] (by decide +kernel)
set_option maxRecDepth 100000 in
theorem in_wsL_law_r12 : ∀ w ∈ wsL_law_r12, w ∈ lw_tbl := mem_r _ [570, 571, 572, 573, 574, 575, 577, 14, 578, 579, 581, 15, 582, 583, 584, 585, 586, 588, 16, 589, 590, 592, 17, 593] (by decide +kernel)
set_option maxRecDepth 100000 in
theorem in_wsL_law_r13 : ∀ w ∈ wsL_law_r13, w ∈ lw_tbl := mem_r _ [493, 594, 596, 18, 597, 297, 298, 299, 300, 301, 302, 303, 304, 598, 599, 600, 601, 305, 306, 307, 308, 602, 603, 604] (by decide +kernel)
set_option maxRecDepth 100000 in
theorem in_wsL_law_r14 : ∀ w ∈ wsL_law_r14, w ∈ lw_tbl := mem_r _ [605, 309, 310, 311, 312, 606, 607, 608, 609, 313, 314, 315, 316, 317, 610, 611, 612, 613, 318, 319, 320, 321, 614, 615] (by decide +kernel)
set_option maxRecDepth 100000 in
theorem in_wsL_law_r15 : ∀ w ∈ wsL_law_r15, w ∈ lw_tbl := mem_r _ [616, 617, 322, 323, 324, 325, 326, 327, 328, 329, 330, 331, 332, 618, 619, 620, 621, 622, 623, 624, 333, 334, 335, 336] (by decide +kernel)
set_option maxRecDepth 100000 in
theorem in_wsL_law_r16 : ∀ w ∈ wsL_law_r16, w ∈ lw_tbl := mem_r _ [337, 338, 339, 340, 341, 625, 626, 627, 628, 629, 342, 343, 344, 345, 346, 630, 631, 632, 633, 634, 636, 19, 637, 347] (by decide +kernel)
set_option maxRecDepth 100000 in
theorem in_wsL_law_r17 : ∀ w ∈ wsL_law_r17, w ∈ lw_tbl := mem_r _ [348, 349, 350, 351, 638, 639, 640, 641, 352, 353, 354, 355, 356, 357, 358, 359, 642, 643, 644, 645, 360, 361, 362, 363] (by decide +kernel)
set_option maxRecDepth 100000 in
theorem in_wsL_law_r18 : ∀ w ∈ wsL_law_r18, w ∈ lw_tbl := mem_r _ [364, 365, 366, 367, 368, 369, 370, 371, 375, 376, 377, 378, 372, 373, 33, 374, 646, 647, 648, 649, 650, 652, 20, 653] (by decide +kernel)
set_option maxRecDepth 100000 in
theorem in_wsL_law_r19 : ∀ w ∈ wsL_law_r19, w ∈ lw_tbl := mem_r _ [654, 656, 21, 657, 379, 380, 381, 382, 383, 384, 385, 386, 131, 132, 387, 388, 389, 390, 391, 392, 393, 394, 395, 396] (by decide +kernel)
set_option maxRecDepth 100000 in
theorem in_wsL_law_r20 : ∀ w ∈ wsL_law_r20, w ∈ lw_tbl := mem_r _ [397, 398, 399, 400, 401, 402, 403, 404, 405, 658, 659, 660, 661, 662, 664, 22, 665, 510, 406, 407, 408, 409, 410, 411] (by decide +kernel)
set_option maxRecDepth 100000 in
theorem in_wsL_law_r21 : ∀ w ∈ wsL_law_r21, w ∈ lw_tbl := mem_r _ [412, 413, 666, 667, 668, 669, 414, 415, 416, 417, 418, 419, 420, 421, 670, 671, 672, 673, 674, 676, 23, 677, 422, 423] (by decide +kernel)
set_option maxRecDepth 100000 in
theorem in_wsL_law_r22 : ∀ w ∈ wsL_law_r22, w ∈ lw_tbl := mem_r _ [424, 425, 678, 679, 680, 681, 426, 427, 428, 429, 430, 432, 7, 433, 434, 435, 436, 437, 438, 682, 683, 684, 685, 686] (by decide +kernel)
set_option maxRecDepth 100000 in
theorem in_wsL_law_r23 : ∀ w ∈ wsL_law_r23, w ∈ lw_tbl := mem_r _ [688, 24, 689, 439, 440, 441, 442, 443, 444, 445, 446, 447, 448, 34, 449, 450, 451, 452, 690, 691, 692, 693] (by decide +kernel)
