set_option maxRecDepth 20000 in
theorem tin_wsL_law_r1 : GoodIn lw_tbl wsL_law_r1 := goodIn_r _ [43, 44, 32, 523, 524, 36, 45, 46, 47, 48, 49, 50, 51, 52, 33, 108, 67, 68, 34, 109, 106, 111, 83, 110] (by decide +kernel) (by decide +kernel)
set_option maxRecDepth 20000 in
theorem tin_wsL_law_r2 : GoodIn lw_tbl wsL_law_r2 := goodIn_r _ [85, 35, 53, 54, 55, 56, 57, 59, 69, 70, 71, 72, 73, 75, 86, 87, 88, 89, 107, 90, 91, 525, 526, 527] (by decide +kernel) (by decide +kernel)
set_option maxRecDepth 20000 in
theorem tin_wsL_law_r3 : GoodIn lw_tbl wsL_law_r3 := goodIn_r _ [528, 530, 531, 532, 533, 534, 535, 536, 537, 538, 540, 541, 542, 596, 543, 544, 545, 546, 547, 550, 121, 122, 123, 124] (by decide +kernel) (by decide +kernel)
set_option maxRecDepth 20000 in
theorem tin_wsL_law_r4 : GoodIn lw_tbl wsL_law_r4 := goodIn_r _ [131, 125, 126, 127, 128, 129, 130, 132, 133, 134, 135, 60, 136, 37, 137, 138, 139, 140, 158, 161, 163, 165, 167, 173] (by decide +kernel) (by decide +kernel)
set_option maxRecDepth 20000 in
theorem tin_wsL_law_r5 : GoodIn lw_tbl wsL_law_r5 := goodIn_r _ [141, 142, 38, 170, 143, 144, 145, 146, 147, 149, 597, 598, 599, 600, 604, 529, 601, 602, 603, 191, 192, 193, 194, 174] (by decide +kernel) (by decide +kernel)
set_option maxRecDepth 20000 in
theorem tin_wsL_law_r6 : GoodIn lw_tbl wsL_law_r6 := goodIn_r _ [195, 196, 197, 198, 605, 606, 607, 608, 609, 611, 15, 612, 199, 200, 201, 202, 234, 236, 238, 240, 203, 204, 205, 206] (by decide +kernel) (by decide +kernel)
set_option maxRecDepth 20000 in
theorem tin_wsL_law_r7 : GoodIn lw_tbl wsL_law_r7 := goodIn_r _ [227, 228, 39, 175, 169, 160, 207, 209, 0, 210, 211, 212, 213, 214, 215, 217, 1, 218, 219, 221, 2, 222, 223, 224] (by decide +kernel) (by decide +kernel)
set_option maxRecDepth 20000 in
theorem tin_wsL_law_r8 : GoodIn lw_tbl wsL_law_r8 := goodIn_r _ [225, 226, 229, 230, 231, 232, 233, 235, 237, 239, 613, 614, 615, 616, 548, 549, 617, 619, 16, 620, 621, 623, 17, 624] (by decide +kernel) (by decide +kernel)
set_option maxRecDepth 20000 in
theorem tin_wsL_law_r9 : GoodIn lw_tbl wsL_law_r9 := goodIn_r _ [625, 627, 18, 628, 629, 631, 19, 632, 250, 251, 252, 253, 164, 166, 159, 168, 254, 255, 256, 257, 633, 634, 635, 636] (by decide +kernel) (by decide +kernel)
set_option maxRecDepth 20000 in
theorem tin_wsL_law_r10 : GoodIn lw_tbl wsL_law_r10 := goodIn_r _ [258, 259, 260, 261, 262, 263, 264, 265, 76, 287, 266, 267, 268, 269, 270, 271, 272, 273, 274, 275, 276, 277, 278, 40] (by decide +kernel) (by decide +kernel)
set_option maxRecDepth 20000 in
theorem tin_wsL_law_r11 : GoodIn lw_tbl wsL_law_r11 := goodIn_r _ [279, 280, 281, 282, 286, 283, 289, 285, 637, 638, 639, 640, 539, 641, 642, 643, 644, 295, 296, 297, 298, 172, 299, 300] (by decide +kernel) (by decide +kernel)
set_option maxRecDepth 20000 in
theorem tin_wsL_law_r12 : GoodIn lw_tbl wsL_law_r12 := goodIn_r _ [301, 302, 303, 304, 305, 150, 306, 307, 308, 309, 318, 310, 41, 311, 312, 313, 314, 315, 317, 320, 322, 645, 646, 647] (by decide +kernel) (by decide +kernel)
set_option maxRecDepth 20000 in
theorem tin_wsL_law_r13 : GoodIn lw_tbl wsL_law_r13 := goodIn_r _ [648, 649, 650, 651, 652, 654, 20, 655, 335, 336, 337, 338, 339, 341, 3, 342, 343, 344, 345, 346, 347, 348, 349, 656] (by decide +kernel) (by decide +kernel)
set_option maxRecDepth 20000 in
theorem tin_wsL_law_r14 : GoodIn lw_tbl wsL_law_r14 := goodIn_r _ [657, 658, 659, 660, 662, 21, 663, 350, 351, 352, 353, 354, 355, 356, 357, 316, 664, 665, 666, 667, 358, 359, 360, 361] (by decide +kernel) (by decide +kernel)
set_option maxRecDepth 20000 in
theorem tin_wsL_law_r15 : GoodIn lw_tbl wsL_law_r15 := goodIn_r _ [362, 363, 364, 365, 323, 366, 367, 368, 369, 321, 370, 371, 372, 373, 374, 376, 4, 377, 288, 378, 379, 380, 381, 382] (by decide +kernel) (by decide +kernel)
set_option maxRecDepth 20000 in
theorem tin_wsL_law_r16 : GoodIn lw_tbl wsL_law_r16 := goodIn_r _ [383, 384, 385, 386, 387, 388, 389, 390, 324, 391, 392, 394, 5, 395, 325, 319, 396, 397, 398, 399, 668, 669, 670, 671] (by decide +kernel) (by decide +kernel)
set_option maxRecDepth 20000 in
theorem tin_wsL_law_r17 : GoodIn lw_tbl wsL_law_r17 := goodIn_r _ [672, 674, 22, 675, 676, 678, 23, 679, 680, 682, 24, 683, 684, 686, 25, 687, 696, 688, 690, 26, 691, 692, 694, 27] (by decide +kernel) (by decide +kernel)
set_option maxRecDepth 20000 in
theorem tin_wsL_law_r18 : GoodIn lw_tbl wsL_law_r18 := goodIn_r _ [695, 697, 699, 28, 700, 701, 702, 703, 400, 401, 402, 403, 404, 405, 407, 6, 408, 409, 410, 411, 412, 414, 415, 416] (by decide +kernel) (by decide +kernel)
set_option maxRecDepth 20000 in
theorem tin_wsL_law_r19 : GoodIn lw_tbl wsL_law_r19 := goodIn_r _ [417, 418, 419, 704, 705, 706, 707, 715, 708, 709, 710, 711, 713, 29, 714, 421, 422, 423, 424, 425, 426, 427, 428, 716] (by decide +kernel) (by decide +kernel)
set_option maxRecDepth 20000 in
theorem tin_wsL_law_r20 : GoodIn lw_tbl wsL_law_r20 := goodIn_r _ [717, 718, 719, 720, 429, 430, 431, 432, 433, 434, 436, 7, 437, 438, 440, 8, 441, 442, 444, 9, 445, 721, 722, 723] (by decide +kernel) (by decide +kernel)
set_option maxRecDepth 20000 in
theorem tin_wsL_law_r21 : GoodIn lw_tbl wsL_law_r21 := goodIn_r _ [724, 725, 726, 728, 30, 729, 446, 447, 448, 449, 92, 93, 94, 450, 452, 10, 453, 454, 455, 456, 457, 730, 731, 732] (by decide +kernel) (by decide +kernel)
set_option maxRecDepth 20000 in
theorem tin_wsL_law_r22 : GoodIn lw_tbl wsL_law_r22 := goodIn_r _ [733, 458, 459, 460, 461, 462, 463, 464, 465, 466, 467, 468, 469, 470, 734, 735, 736, 737, 738, 471, 472, 473, 474, 475] (by decide +kernel) (by decide +kernel)
set_option maxRecDepth 20000 in
theorem tin_wsL_law_r23 : GoodIn lw_tbl wsL_law_r23 := goodIn_r _ [476, 477, 478, 739, 740, 741, 742, 479, 480, 481, 482, 487, 488, 42, 489, 483, 485, 11, 486, 743, 744, 745, 746, 490] (by decide +kernel) (by decide +kernel)
set_option maxRecDepth 20000 in
theorem tin_wsL_law_r24 : GoodIn lw_tbl wsL_law_r24 := goodIn_r _ [491, 492, 493, 494, 496, 12, 497, 498, 499, 500, 501, 162, 502, 503, 505, 13, 506, 747, 748, 749, 750, 507, 508, 509] (by decide +kernel) (by decide +kernel)
set_option maxRecDepth 20000 in
theorem tin_wsL_law_r25 : GoodIn lw_tbl wsL_law_r25 := goodIn_r _ [510, 511, 512, 513, 514, 171, 515, 517, 14, 518, 519, 520, 521, 522, 751, 752, 753, 754] (by decide +kernel) (by decide +kernel)
set_option maxRecDepth 20000 in
theorem tin_wsX80 : GoodIn lw_tbl wsX80 := goodIn_r _ [112, 114, 116, 118] (by decide +kernel) (by decide +kernel)
set_option maxRecDepth 20000 in
theorem tin_wsX90 : GoodIn lw_tbl wsX90 := goodIn_r _ [551, 553, 555, 557, 559, 561, 563, 565, 567, 569, 571, 573, 575, 577, 579, 581, 583, 585, 587, 589, 591, 593] (by decide +kernel) (by decide +kernel)
set_option maxRecDepth 20000 in
theorem tin_wsX50 : GoodIn lw_tbl wsX50 := goodIn_r _ [62, 64] (by decide +kernel) (by decide +kernel)
set_option maxRecDepth 20000 in
theorem tin_wsX30 : GoodIn lw_tbl wsX30 := goodIn_r _ [78, 80] (by decide +kernel) (by decide +kernel)
set_option maxRecDepth 20000 in
theorem tin_wsX70 : GoodIn lw_tbl wsX70 := goodIn_r _ [95, 97, 99, 101, 103] (by decide +kernel) (by decide +kernel)
set_option maxRecDepth 20000 in
theorem tin_wsX20 : GoodIn lw_tbl wsX20 := goodIn_r _ [176, 178, 180, 182, 184, 186, 188] (by decide +kernel) (by decide +kernel)
set_option maxRecDepth 20000 in
theorem tin_wsX10 : GoodIn lw_tbl wsX10 := goodIn_r _ [153, 155] (by decide +kernel) (by decide +kernel)
set_option maxRecDepth 20000 in
theorem tin_wsX60 : GoodIn lw_tbl wsX60 := goodIn_r _ [241, 243, 245, 247] (by decide +kernel) (by decide +kernel)
set_option maxRecDepth 20000 in
theorem tin_wsX40 : GoodIn lw_tbl wsX40 := goodIn_r _ [290, 292] (by decide +kernel) (by decide +kernel)
set_option maxRecDepth 20000 in
theorem tin_wsX00 : GoodIn lw_tbl wsX00 := goodIn_r _ [326, 328, 330, 332] (by decide +kernel) (by decide +kernel)
theorem wsL_law_in : ∀ w ∈ wsL_law, w ∈ lw_tbl := fun w h => (show GoodIn lw_tbl wsL_law from (goodIn_app (goodIn_app (goodIn_app (goodIn_app (goodIn_app (goodIn_app (goodIn_app (goodIn_app (goodIn_app (goodIn_app (goodIn_app (goodIn_app tin_wsL_law_r1 (goodIn_app tin_wsL_law_r2 (goodIn_app tin_wsL_law_r3 (goodIn_app tin_wsL_law_r4 (goodIn_app tin_wsL_law_r5 (goodIn_app tin_wsL_law_r6 (goodIn_app tin_wsL_law_r7 (goodIn_app tin_wsL_law_r8 (goodIn_app tin_wsL_law_r9 (goodIn_app tin_wsL_law_r10 (goodIn_app tin_wsL_law_r11 (goodIn_app tin_wsL_law_r12 (goodIn_app tin_wsL_law_r13 (goodIn_app tin_wsL_law_r14 (goodIn_app tin_wsL_law_r15 (goodIn_app tin_wsL_law_r16 (goodIn_app tin_wsL_law_r17 (goodIn_app tin_wsL_law_r18 (goodIn_app tin_wsL_law_r19 (goodIn_app tin_wsL_law_r20 (goodIn_app tin_wsL_law_r21 (goodIn_app tin_wsL_law_r22 (goodIn_app tin_wsL_law_r23 (goodIn_app tin_wsL_law_r24 tin_wsL_law_r25)))))))))))))))))))))))) tin_wsX80) tin_wsX90) tin_wsX50) tin_wsX30) tin_wsX70) tin_wsX20) tin_wsX10) tin_wsX60) tin_wsX40) tin_wsX00) (fun w h => absurd h List.not_mem_nil))) w h |>.1
theorem inlX0 : ∀ w ∈ wsX00, w ∈ wsL_law := fun _ h => List.mem_append_left _ (List.mem_append_right _ h)
theorem inX0 : ∀ w ∈ wsX00, w ∈ lw_tbl := fun w h => wsL_law_in w (inlX0 w h)
theorem inlX1 : ∀ w ∈ wsX10, w ∈ wsL_law := fun _ h => List.mem_append_left _ (List.mem_append_left _ (List.mem_append_left _ (List.mem_append_left _ (List.mem_append_right _ h))))
theorem inX1 : ∀ w ∈ wsX10, w ∈ lw_tbl := fun w h => wsL_law_in w (inlX1 w h)
theorem inlX2 : ∀ w ∈ wsX20, w ∈ wsL_law := fun _ h => List.mem_append_left _ (List.mem_append_left _ (List.mem_append_left _ (List.mem_append_left _ (List.mem_append_left _ (List.mem_append_right _ h)))))
theorem inX2 : ∀ w ∈ wsX20, w ∈ lw_tbl := fun w h => wsL_law_in w (inlX2 w h)
theorem inlX3 : ∀ w ∈ wsX30, w ∈ wsL_law := fun _ h => List.mem_append_left _ (List.mem_append_left _ (List.mem_append_left _ (List.mem_append_left _ (List.mem_append_left _ (List.mem_append_left _ (List.mem_append_left _ (List.mem_append_right _ h)))))))
theorem inX3 : ∀ w ∈ wsX30, w ∈ lw_tbl := fun w h => wsL_law_in w (inlX3 w h)
theorem inlX4 : ∀ w ∈ wsX40, w ∈ wsL_law := fun _ h => List.mem_append_left _ (List.mem_append_left _ (List.mem_append_right _ h))
theorem inX4 : ∀ w ∈ wsX40, w ∈ lw_tbl := fun w h => wsL_law_in w (inlX4 w h)
theorem inlX5 : ∀ w ∈ wsX50, w ∈ wsL_law := fun _ h => List.mem_append_left _ (List.mem_append_left _ (List.mem_append_left _ (List.mem_append_left _ (List.mem_append_left _ (List.mem_append_left _ (List.mem_append_left _ (List.mem_append_left _ (List.mem_append_right _ h))))))))
theorem inX5 : ∀ w ∈ wsX50, w ∈ lw_tbl := fun w h => wsL_law_in w (inlX5 w h)
theorem inlX6 : ∀ w ∈ wsX60, w ∈ wsL_law := fun _ h => List.mem_append_left _ (List.mem_append_left _ (List.mem_append_left _ (List.mem_append_right _ h)))
theorem inX6 : ∀ w ∈ wsX60, w ∈ lw_tbl := fun w h => wsL_law_in w (inlX6 w h)
theorem inlX7 : ∀ w ∈ wsX70, w ∈ wsL_law := fun _ h => List.mem_append_left _ (List.mem_append_left _ (List.mem_append_left _ (List.mem_append_left _ (List.mem_append_left _ (List.mem_append_left _ (List.mem_append_right _ h))))))
theorem inX7 : ∀ w ∈ wsX70, w ∈ lw_tbl := fun w h => wsL_law_in w (inlX7 w h)
theorem inlX8 : ∀ w ∈ wsX80, w ∈ wsL_law := fun _ h => List.mem_append_left _ (List.mem_append_left _ (List.mem_append_left _ (List.mem_append_left _ (List.mem_append_left _ (List.mem_append_left _ (List.mem_append_left _ (List.mem_append_left _ (List.mem_append_left _ (List.mem_append_left _ (List.mem_append_right _ h))))))))))
theorem inX8 : ∀ w ∈ wsX80, w ∈ lw_tbl := fun w h => wsL_law_in w (inlX8 w h)
theorem inlX9 : ∀ w ∈ wsX90, w ∈ wsL_law := fun _ h => List.mem_append_left _ (List.mem_append_left _ (List.mem_append_left _ (List.mem_append_left _ (List.mem_append_left _ (List.mem_append_left _ (List.mem_append_left _ (List.mem_append_left _ (List.mem_append_left _ (List.mem_append_right _ h)))))))))
theorem inX9 : ∀ w ∈ wsX90, w ∈ lw_tbl := fun w h => wsL_law_in w (inlX9 w h)
theorem inJ9 : ∀ w ∈ wsJ90, w ∈ lw_tbl := by decide +kernel
