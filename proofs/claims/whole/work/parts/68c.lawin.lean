theorem mem_r {big : List Cond} (ws : List Cond) (ps : List Nat) (hp : ws = ps.filterMap (fun i => big[i]?)) : ∀ w ∈ ws, w ∈ big := by
  intro w hw
  rw [hp] at hw
  obtain ⟨i, -, hi⟩ := List.mem_filterMap.mp hw
  exact List.mem_of_getElem? hi
theorem mem_a {big a b : List Cond} (ha : ∀ w ∈ a, w ∈ big) (hb : ∀ w ∈ b, w ∈ big) : ∀ w ∈ a ++ b, w ∈ big := fun w h => (List.mem_append.mp h).elim (ha w) (hb w)
theorem in_wsL_law_r1 : ∀ w ∈ wsL_law_r1, w ∈ lw_tbl := mem_r _ [20, 21, 14, 439, 440, 16, 720, 22, 23, 24, 25, 26, 27, 28, 29, 15, 92, 93, 94, 95, 96, 97, 90, 98] (by decide +kernel)
theorem in_wsL_law_r2 : ∀ w ∈ wsL_law_r2, w ∈ lw_tbl := mem_r _ [99, 100, 101, 102, 103, 104, 31, 32, 33, 34, 36, 38, 40, 42, 44, 46, 48, 50, 52, 54, 56, 58, 59, 441] (by decide +kernel)
theorem in_wsL_law_r3 : ∀ w ∈ wsL_law_r3, w ∈ lw_tbl := mem_r _ [442, 443, 444, 448, 450, 451, 452, 455, 494, 456, 457, 458, 461, 462, 445, 446, 447, 132, 133, 134, 135, 495, 496, 497] (by decide +kernel)
theorem in_wsL_law_r4 : ∀ w ∈ wsL_law_r4, w ∈ lw_tbl := mem_r _ [498, 499, 449, 500, 501, 502, 136, 137, 138, 139, 503, 504, 505, 506, 140, 141, 142, 143, 144, 146, 0, 147, 148, 150] (by decide +kernel)
theorem in_wsL_law_r5 : ∀ w ∈ wsL_law_r5, w ∈ lw_tbl := mem_r _ [1, 151, 35, 37, 39, 43, 152, 153, 154, 155, 156, 157, 158, 159, 160, 161, 162, 163, 164, 165, 166, 168, 169, 170] (by decide +kernel)
theorem in_wsL_law_r6 : ∀ w ∈ wsL_law_r6, w ∈ lw_tbl := mem_r _ [171, 172, 173, 174, 175, 176, 177, 178, 183, 184, 17, 185, 179, 180, 181, 182, 186, 187, 188, 189, 190, 191, 192, 193] (by decide +kernel)
theorem in_wsL_law_r7 : ∀ w ∈ wsL_law_r7, w ∈ lw_tbl := mem_r _ [194, 195, 18, 196, 197, 198, 199, 200, 201, 202, 203, 204, 205, 206, 207, 208, 209, 210, 211, 212, 213, 214, 215, 216] (by decide +kernel)
theorem in_wsL_law_r8 : ∀ w ∈ wsL_law_r8, w ∈ lw_tbl := mem_r _ [217, 218, 219, 220, 221, 222, 223, 224, 225, 226, 227, 228, 229, 230, 231, 232, 233, 234, 235, 236, 237, 238, 239, 240] (by decide +kernel)
theorem in_wsL_law_r9 : ∀ w ∈ wsL_law_r9, w ∈ lw_tbl := mem_r _ [242, 2, 243, 244, 245, 246, 247, 507, 508, 509, 510, 511, 513, 8, 514, 515, 516, 517, 518, 519, 520, 521, 522, 523] (by decide +kernel)
theorem in_wsL_law_r10 : ∀ w ∈ wsL_law_r10, w ∈ lw_tbl := mem_r _ [524, 525, 526, 527, 528, 529, 530, 531, 532, 533, 534, 535, 536, 537, 538, 539, 540, 541, 542, 543, 544, 545, 546, 547] (by decide +kernel)
theorem in_wsL_law_r11 : ∀ w ∈ wsL_law_r11, w ∈ lw_tbl := mem_r _ [548, 549, 550, 551, 552, 553, 554, 555, 556, 557, 558, 559, 560, 561, 562, 563, 564, 565, 566, 567, 568, 569, 570, 571] (by decide +kernel)
theorem in_wsL_law_r12 : ∀ w ∈ wsL_law_r12, w ∈ lw_tbl := mem_r _ [572, 573, 574, 248, 249, 250, 251, 41, 252, 253, 254, 255, 256, 258, 257, 19, 575, 576, 577, 578, 453, 579, 580, 581] (by decide +kernel)
theorem in_wsL_law_r13 : ∀ w ∈ wsL_law_r13, w ∈ lw_tbl := mem_r _ [259, 260, 261, 262, 45, 47, 263, 265, 3, 266, 267, 268, 269, 270, 271, 582, 583, 584, 585, 459, 586, 588, 9, 589] (by decide +kernel)
theorem in_wsL_law_r14 : ∀ w ∈ wsL_law_r14, w ∈ lw_tbl := mem_r _ [272, 273, 274, 275, 49, 51, 53, 55, 57, 276, 277, 278, 279, 280, 590, 591, 592, 593, 281, 282, 283, 284, 60, 285] (by decide +kernel)
theorem in_wsL_law_r15 : ∀ w ∈ wsL_law_r15, w ∈ lw_tbl := mem_r _ [594, 595, 596, 597, 286, 287, 288, 289, 290, 598, 599, 600, 601, 291, 292, 293, 294, 295, 297, 4, 298, 602, 603, 604] (by decide +kernel)
theorem in_wsL_law_r16 : ∀ w ∈ wsL_law_r16, w ∈ lw_tbl := mem_r _ [605, 606, 608, 10, 609, 454, 299, 300, 301, 302, 610, 611, 612, 613, 303, 304, 305, 306, 614, 615, 616, 617, 618, 307] (by decide +kernel)
theorem in_wsL_law_r17 : ∀ w ∈ wsL_law_r17, w ∈ lw_tbl := mem_r _ [308, 309, 310, 311, 312, 313, 314, 619, 620, 621, 622, 315, 316, 317, 318, 319, 320, 321, 322, 623, 624, 625, 626, 627] (by decide +kernel)
theorem in_wsL_law_r18 : ∀ w ∈ wsL_law_r18, w ∈ lw_tbl := mem_r _ [323, 324, 325, 326, 628, 629, 630, 631, 327, 328, 329, 330, 632, 633, 634, 635, 636, 637, 331, 332, 333, 334, 335, 638] (by decide +kernel)
theorem in_wsL_law_r19 : ∀ w ∈ wsL_law_r19, w ∈ lw_tbl := mem_r _ [639, 640, 641, 336, 337, 338, 339, 347, 348, 349, 340, 341, 342, 343, 344, 345, 346, 642, 643, 644, 645, 646, 647, 648] (by decide +kernel)
theorem in_wsL_law_r20 : ∀ w ∈ wsL_law_r20, w ∈ lw_tbl := mem_r _ [649, 650, 350, 351, 352, 353, 354, 355, 356, 651, 652, 653, 654, 655, 357, 358, 359, 360, 361, 363, 5, 364, 656, 657] (by decide +kernel)
theorem in_wsL_law_r21 : ∀ w ∈ wsL_law_r21, w ∈ lw_tbl := mem_r _ [658, 659, 660, 661, 662, 664, 11, 665, 365, 366, 367, 368, 666, 667, 668, 669, 670, 369, 370, 371, 372, 671, 672, 673] (by decide +kernel)
theorem in_wsL_law_r22 : ∀ w ∈ wsL_law_r22, w ∈ lw_tbl := mem_r _ [674, 373, 374, 375, 376, 377, 379, 6, 380, 675, 676, 677, 678, 381, 382, 383, 384, 397, 385, 387, 7, 388, 389, 390] (by decide +kernel)
theorem in_wsL_law_r23 : ∀ w ∈ wsL_law_r23, w ∈ lw_tbl := mem_r _ [391, 392, 393, 394, 395, 396, 399, 400, 401, 402, 403, 404, 405, 679, 680, 681, 682, 683, 685, 12, 686, 687, 688, 689] (by decide +kernel)
theorem in_wsL_law_r24 : ∀ w ∈ wsL_law_r24, w ∈ lw_tbl := mem_r _ [690, 691, 692, 406, 407, 408, 409, 413, 410, 411, 412, 693, 694, 695, 696, 697, 698, 699, 700, 414, 415, 416, 417, 701] (by decide +kernel)
theorem in_wsL_law_r25 : ∀ w ∈ wsL_law_r25, w ∈ lw_tbl := mem_r _ [702, 703, 704, 460, 418, 419, 420, 421, 423, 424, 422, 425, 426, 427, 428, 429, 430, 705, 706, 707, 708, 709, 710, 711] (by decide +kernel)
theorem in_wsL_law_r26 : ∀ w ∈ wsL_law_r26, w ∈ lw_tbl := mem_r _ [431, 432, 433, 434, 712, 713, 714, 715, 435, 436, 437, 438, 716, 717, 718, 719] (by decide +kernel)
theorem in_uX1 : ∀ w ∈ wsX10, w ∈ lw_tbl := by decide +kernel
theorem in_uX2 : ∀ w ∈ wsX20, w ∈ lw_tbl := by decide +kernel
theorem in_uX0 : ∀ w ∈ wsX00, w ∈ lw_tbl := by decide +kernel
theorem wsL_in : ∀ w ∈ wsL_law, w ∈ lw_tbl := mem_a (mem_a (mem_a (mem_a (mem_a in_wsL_law_r1 (mem_a in_wsL_law_r2 (mem_a in_wsL_law_r3 (mem_a in_wsL_law_r4 (mem_a in_wsL_law_r5 (mem_a in_wsL_law_r6 (mem_a in_wsL_law_r7 (mem_a in_wsL_law_r8 (mem_a in_wsL_law_r9 (mem_a in_wsL_law_r10 (mem_a in_wsL_law_r11 (mem_a in_wsL_law_r12 (mem_a in_wsL_law_r13 (mem_a in_wsL_law_r14 (mem_a in_wsL_law_r15 (mem_a in_wsL_law_r16 (mem_a in_wsL_law_r17 (mem_a in_wsL_law_r18 (mem_a in_wsL_law_r19 (mem_a in_wsL_law_r20 (mem_a in_wsL_law_r21 (mem_a in_wsL_law_r22 (mem_a in_wsL_law_r23 (mem_a in_wsL_law_r24 (mem_a in_wsL_law_r25 in_wsL_law_r26))))))))))))))))))))))))) in_uX1) in_uX2) in_uX0) (fun w h => absurd h List.not_mem_nil)
