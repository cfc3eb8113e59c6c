set_option maxRecDepth 20000 in
theorem wl_r1 : GoodIn lw_tbl wsL_law_r1 := goodIn_r _ [35, 36, 23, 616, 617, 29, 37, 38, 39, 40, 41, 42, 43, 156, 157, 45, 158, 47, 24, 63, 64, 25, 159, 81] (by decide +kernel) (by decide +kernel)
set_option maxRecDepth 20000 in
theorem wl_r2 : GoodIn lw_tbl wsL_law_r2 := goodIn_r _ [160, 82, 83, 26, 161, 129, 162, 163, 106, 107, 27, 164, 130, 165, 132, 28, 166, 49, 50, 51, 52, 53, 55, 66] (by decide +kernel) (by decide +kernel)
set_option maxRecDepth 20000 in
theorem wl_r3 : GoodIn lw_tbl wsL_law_r3 := goodIn_r _ [67, 68, 69, 70, 72, 85, 86, 87, 88, 90, 91, 93, 95, 109, 110, 111, 134, 135, 136, 137, 140, 142, 144, 618] (by decide +kernel) (by decide +kernel)
set_option maxRecDepth 20000 in
theorem wl_r4 : GoodIn lw_tbl wsL_law_r4 := goodIn_r _ [619, 620, 621, 622, 624, 625, 626, 627, 628, 629, 630, 631, 632, 636, 640, 643, 644, 645, 646, 647, 648, 190, 191, 192] (by decide +kernel) (by decide +kernel)
set_option maxRecDepth 20000 in
theorem wl_r5 : GoodIn lw_tbl wsL_law_r5 := goodIn_r _ [193, 197, 30, 194, 195, 196, 198, 199, 200, 201, 202, 205, 208, 211, 707, 708, 709, 710, 711, 715, 716, 623, 712, 713] (by decide +kernel) (by decide +kernel)
set_option maxRecDepth 20000 in
theorem wl_r6 : GoodIn lw_tbl wsL_law_r6 := goodIn_r _ [714, 223, 224, 225, 226, 212, 227, 229, 0, 230, 231, 232, 233, 234, 717, 718, 719, 720, 725, 721, 723, 10, 724, 236] (by decide +kernel) (by decide +kernel)
set_option maxRecDepth 20000 in
theorem wl_r7 : GoodIn lw_tbl wsL_law_r7 := goodIn_r _ [237, 238, 239, 204, 206, 210, 726, 727, 728, 729, 730, 240, 241, 242, 243, 57, 244, 246, 1, 247, 248, 249, 250, 251] (by decide +kernel) (by decide +kernel)
set_option maxRecDepth 20000 in
theorem wl_r8 : GoodIn lw_tbl wsL_law_r8 := goodIn_r _ [731, 732, 733, 734, 735, 736, 737, 738, 252, 253, 254, 255, 739, 740, 741, 742, 256, 257, 258, 259, 71, 743, 744, 745] (by decide +kernel) (by decide +kernel)
set_option maxRecDepth 20000 in
theorem wl_r9 : GoodIn lw_tbl wsL_law_r9 := goodIn_r _ [746, 747, 260, 261, 262, 263, 73, 748, 749, 750, 751, 752, 264, 265, 266, 267, 268, 269, 270, 271, 56, 54, 203, 753] (by decide +kernel) (by decide +kernel)
set_option maxRecDepth 20000 in
theorem wl_r10 : GoodIn lw_tbl wsL_law_r10 := goodIn_r _ [754, 755, 756, 757, 759, 11, 760, 272, 273, 274, 275, 276, 277, 278, 279, 280, 281, 283, 2, 284, 761, 762, 763, 764] (by decide +kernel) (by decide +kernel)
set_option maxRecDepth 20000 in
theorem wl_r11 : GoodIn lw_tbl wsL_law_r11 := goodIn_r _ [765, 767, 12, 768, 285, 286, 287, 288, 289, 290, 291, 292, 213, 293, 294, 31, 295, 296, 297, 298, 299, 300, 301, 302] (by decide +kernel) (by decide +kernel)
set_option maxRecDepth 20000 in
theorem wl_r12 : GoodIn lw_tbl wsL_law_r12 := goodIn_r _ [303, 304, 305, 306, 769, 770, 771, 772, 773, 775, 13, 776, 777, 779, 14, 780, 781, 782, 783, 307, 308, 309, 310, 311] (by decide +kernel) (by decide +kernel)
set_option maxRecDepth 20000 in
theorem wl_r13 : GoodIn lw_tbl wsL_law_r13 := goodIn_r _ [313, 3, 314, 141, 315, 316, 317, 318, 320, 4, 321, 322, 324, 5, 325, 326, 327, 328, 329, 330, 331, 332, 333, 145] (by decide +kernel) (by decide +kernel)
set_option maxRecDepth 20000 in
theorem wl_r14 : GoodIn lw_tbl wsL_law_r14 := goodIn_r _ [334, 335, 32, 336, 138, 338, 784, 785, 786, 787, 634, 788, 790, 15, 791, 792, 793, 794, 795, 797, 16, 798, 649, 799] (by decide +kernel) (by decide +kernel)
set_option maxRecDepth 20000 in
theorem wl_r15 : GoodIn lw_tbl wsL_law_r15 := goodIn_r _ [801, 17, 802, 633, 635, 803, 805, 18, 806, 339, 340, 341, 342, 343, 344, 345, 346, 807, 808, 809, 810, 347, 348, 349] (by decide +kernel) (by decide +kernel)
set_option maxRecDepth 20000 in
theorem wl_r16 : GoodIn lw_tbl wsL_law_r16 := goodIn_r _ [350, 811, 812, 813, 814, 351, 352, 353, 354, 355, 356, 357, 358, 359, 360, 361, 362, 363, 364, 365, 366, 209, 815, 816] (by decide +kernel) (by decide +kernel)
set_option maxRecDepth 20000 in
theorem wl_r17 : GoodIn lw_tbl wsL_law_r17 := goodIn_r _ [817, 818, 819, 821, 19, 822, 637, 638, 367, 368, 369, 370, 371, 372, 373, 374, 379, 380, 381, 375, 376, 377, 378, 207] (by decide +kernel) (by decide +kernel)
set_option maxRecDepth 20000 in
theorem wl_r18 : GoodIn lw_tbl wsL_law_r18 := goodIn_r _ [823, 824, 825, 826, 382, 383, 384, 385, 386, 387, 388, 389, 827, 828, 829, 830, 390, 391, 392, 393, 394, 396, 831, 832] (by decide +kernel) (by decide +kernel)
set_option maxRecDepth 20000 in
theorem wl_r19 : GoodIn lw_tbl wsL_law_r19 := goodIn_r _ [833, 834, 835, 836, 837, 398, 399, 400, 401, 414, 415, 33, 94, 402, 403, 404, 405, 425, 406, 407, 408, 409, 410, 412] (by decide +kernel) (by decide +kernel)
set_option maxRecDepth 20000 in
theorem wl_r20 : GoodIn lw_tbl wsL_law_r20 := goodIn_r _ [6, 413, 416, 417, 418, 419, 420, 422, 424, 427, 429, 432, 448, 449, 450, 451, 430, 433, 452, 838, 839, 840, 841, 639] (by decide +kernel) (by decide +kernel)
set_option maxRecDepth 20000 in
theorem wl_r21 : GoodIn lw_tbl wsL_law_r21 := goodIn_r _ [842, 641, 642, 453, 454, 455, 456, 421, 423, 426, 428, 431, 434, 457, 458, 459, 460, 843, 844, 845, 846, 462, 463, 464] (by decide +kernel) (by decide +kernel)
set_option maxRecDepth 20000 in
theorem wl_r22 : GoodIn lw_tbl wsL_law_r22 := goodIn_r _ [465, 466, 467, 468, 469, 470, 471, 472, 473, 847, 848, 849, 850, 474, 475, 476, 477, 478, 479, 480, 481, 482, 483, 484] (by decide +kernel) (by decide +kernel)
set_option maxRecDepth 20000 in
theorem wl_r23 : GoodIn lw_tbl wsL_law_r23 := goodIn_r _ [485, 486, 487, 488, 851, 852, 853, 854, 855, 490, 491, 492, 493, 506, 507, 494, 495, 496, 497, 498, 499, 500, 501, 502] (by decide +kernel) (by decide +kernel)
set_option maxRecDepth 20000 in
theorem wl_r24 : GoodIn lw_tbl wsL_law_r24 := goodIn_r _ [503, 504, 856, 857, 858, 859, 860, 861, 862, 863, 864, 866, 20, 867, 868, 508, 509, 510, 511, 869, 870, 871, 872, 512] (by decide +kernel) (by decide +kernel)
set_option maxRecDepth 20000 in
theorem wl_r25 : GoodIn lw_tbl wsL_law_r25 := goodIn_r _ [513, 514, 515, 873, 874, 875, 876, 877, 516, 517, 518, 519, 520, 113, 115, 117, 119, 521, 522, 523, 524, 112, 114, 116] (by decide +kernel) (by decide +kernel)
set_option maxRecDepth 20000 in
theorem wl_r26 : GoodIn lw_tbl wsL_law_r26 := goodIn_r _ [118, 525, 526, 527, 528, 529, 530, 531, 532, 533, 534, 535, 536, 537, 538, 539, 540, 541, 878, 879, 880, 881, 882, 883] (by decide +kernel) (by decide +kernel)
set_option maxRecDepth 20000 in
theorem wl_r27 : GoodIn lw_tbl wsL_law_r27 := goodIn_r _ [542, 543, 544, 545, 546, 547, 548, 884, 885, 886, 887, 549, 550, 551, 552, 553, 554, 555, 556, 557, 558, 559, 560, 888] (by decide +kernel) (by decide +kernel)
set_option maxRecDepth 20000 in
theorem wl_r28 : GoodIn lw_tbl wsL_law_r28 := goodIn_r _ [889, 890, 891, 892, 561, 562, 563, 564, 146, 893, 894, 895, 896, 565, 566, 567, 568, 569, 571, 7, 572, 143, 573, 574] (by decide +kernel) (by decide +kernel)
set_option maxRecDepth 20000 in
theorem wl_r29 : GoodIn lw_tbl wsL_law_r29 := goodIn_r _ [575, 576, 577, 897, 898, 899, 900, 901, 903, 21, 904, 578, 579, 580, 581, 582, 139, 905, 906, 907, 908, 909, 583, 584] (by decide +kernel) (by decide +kernel)
set_option maxRecDepth 20000 in
theorem wl_r30 : GoodIn lw_tbl wsL_law_r30 := goodIn_r _ [585, 586, 591, 593, 592, 34, 587, 588, 589, 590, 910, 911, 912, 913, 594, 595, 596, 597, 92, 96, 598, 600, 8, 601] (by decide +kernel) (by decide +kernel)
set_option maxRecDepth 20000 in
theorem wl_r31 : GoodIn lw_tbl wsL_law_r31 := goodIn_r _ [602, 604, 9, 605, 914, 915, 916, 917, 606, 607, 608, 609, 610, 611, 612, 613, 614, 615, 918, 919, 920, 921, 922, 923] (by decide +kernel) (by decide +kernel)
set_option maxRecDepth 20000 in
theorem wl_X0 : GoodIn lw_tbl wsX00 := goodIn_r _ [214, 216, 218, 220] (by decide +kernel) (by decide +kernel)
set_option maxRecDepth 20000 in
theorem wl_X1 : GoodIn lw_tbl wsX10 := goodIn_r _ [435, 437, 439, 441, 443, 445] (by decide +kernel) (by decide +kernel)
set_option maxRecDepth 20000 in
theorem wl_X2 : GoodIn lw_tbl wsX20 := goodIn_r _ [97, 99, 101, 103] (by decide +kernel) (by decide +kernel)
set_option maxRecDepth 20000 in
theorem wl_X3 : GoodIn lw_tbl wsX30 := goodIn_r _ [74, 76, 78] (by decide +kernel) (by decide +kernel)
set_option maxRecDepth 20000 in
theorem wl_X4 : GoodIn lw_tbl wsX40 := goodIn_r _ [147, 149, 151, 153] (by decide +kernel) (by decide +kernel)
set_option maxRecDepth 20000 in
theorem wl_X5 : GoodIn lw_tbl wsX50 := goodIn_r _ [120, 122, 124, 126] (by decide +kernel) (by decide +kernel)
set_option maxRecDepth 20000 in
theorem wl_X6 : GoodIn lw_tbl wsX60 := goodIn_r _ [58, 60] (by decide +kernel) (by decide +kernel)
set_option maxRecDepth 20000 in
theorem wl_X7 : GoodIn lw_tbl wsX70 := goodIn_r _ [167, 169, 171, 173, 175, 177, 179, 181, 183, 185, 187] (by decide +kernel) (by decide +kernel)
set_option maxRecDepth 20000 in
theorem wl_X8 : GoodIn lw_tbl wsX80 := goodIn_r _ [650, 652, 654, 656, 658, 660, 662, 664, 666, 668, 670, 672, 674, 676, 678, 680, 682, 684, 686, 688, 690, 692, 694, 696, 698, 700, 702, 704] (by decide +kernel) (by decide +kernel)
theorem wl_all : GoodIn lw_tbl wsL_law := goodIn_app (goodIn_app (goodIn_app (goodIn_app (goodIn_app (goodIn_app (goodIn_app (goodIn_app (goodIn_app (goodIn_app (goodIn_app wl_r1 (goodIn_app wl_r2 (goodIn_app wl_r3 (goodIn_app wl_r4 (goodIn_app wl_r5 (goodIn_app wl_r6 (goodIn_app wl_r7 (goodIn_app wl_r8 (goodIn_app wl_r9 (goodIn_app wl_r10 (goodIn_app wl_r11 (goodIn_app wl_r12 (goodIn_app wl_r13 (goodIn_app wl_r14 (goodIn_app wl_r15 (goodIn_app wl_r16 (goodIn_app wl_r17 (goodIn_app wl_r18 (goodIn_app wl_r19 (goodIn_app wl_r20 (goodIn_app wl_r21 (goodIn_app wl_r22 (goodIn_app wl_r23 (goodIn_app wl_r24 (goodIn_app wl_r25 (goodIn_app wl_r26 (goodIn_app wl_r27 (goodIn_app wl_r28 (goodIn_app wl_r29 (goodIn_app wl_r30 wl_r31)))))))))))))))))))))))))))))) wl_X7) wl_X8) wl_X6) wl_X3) wl_X2) wl_X5) wl_X4) wl_X0) wl_X1) (fun _ h => absurd h List.not_mem_nil)
theorem wsL_law_in : ∀ w ∈ wsL_law, w ∈ lw_tbl := fun w h => (wl_all w h).1
theorem st_int {s : State} {args : Array Value} (h : (Cond.arrayClass .int).before args s = true) : ∃ cA : ClassId, ArrOfT s cA .int ∧ va_RA s cA .int := by
  obtain ⟨cA, kA, comp, h1, h2, h3⟩ := Cond.arrayClass_spec h
  exact ⟨cA, fun n z => ⟨fun k h => (by cases h), kA, h2, comp, h3⟩, h1⟩
theorem st_bool {s : State} {args : Array Value} (h : (Cond.arrayClass .boolean).before args s = true) : ∃ cA : ClassId, ArrOfT s cA .boolean ∧ va_RA s cA .boolean := by
  obtain ⟨cA, kA, comp, h1, h2, h3⟩ := Cond.arrayClass_spec h
  exact ⟨cA, fun n z => ⟨fun k h => (by cases h), kA, h2, comp, h3⟩, h1⟩
theorem st_obj {s : State} {args : Array Value} {C : String} (h : (Cond.arrayOver (.object C)).before args s = true) : ∃ cA : ClassId, ArrOfT s cA (.object C) ∧ va_RA s cA (.object C) := by
  obtain ⟨comp, cA, kA, h1, h2, h3, h4, h5⟩ := Cond.arrayOver_spec h
  exact ⟨cA, fun n z => ⟨fun k h => (by cases h), kA, h3, comp, h4⟩, kA, comp, h3, h4, h1, h5⟩
set_option maxRecDepth 20000 in
theorem st_K {s : State} {args : Array Value} (hts : ∀ w ∈ lw_tbl, w.before args s = true) : ∃ (D : va_G) (cy : Nat → ClassId), zK D cy s := by
  obtain ⟨a9, h9⟩ := st_int (hts (.arrayClass .int) (List.mem_of_getElem? (i := 81) (by decide +kernel)))
  obtain ⟨a10, h10⟩ := st_bool (hts (.arrayClass .boolean) (List.mem_of_getElem? (i := 129) (by decide +kernel)))
  have o11 := hts (.arrayOver (.object RX0)) (List.mem_of_getElem? (i := 44) (by decide +kernel))
  obtain ⟨a11, h11⟩ := st_obj o11
  have o12 := hts (.arrayOver (.object RX1)) (List.mem_of_getElem? (i := 89) (by decide +kernel))
  obtain ⟨a12, h12⟩ := st_obj o12
  have o13 := hts (.arrayOver (.object RX4)) (List.mem_of_getElem? (i := 131) (by decide +kernel))
  obtain ⟨a13, h13⟩ := st_obj o13
  have o14 := hts (.arrayOver (.object RX6)) (List.mem_of_getElem? (i := 46) (by decide +kernel))
  obtain ⟨a14, h14⟩ := st_obj o14
  obtain ⟨c0, i0, k0⟩ := u_known (C := RX0) (T := TX0) (N := 4) (n := 4) hts (fun w h => (wl_X0 w h).1) (hts (.instantiable RX0 4) (List.mem_of_getElem? (i := 197) (by decide +kernel)))
  obtain ⟨c1, i1, k1⟩ := u_known (C := RX1) (T := TX1) (N := 6) (n := 6) hts (fun w h => (wl_X1 w h).1) (hts (.instantiable RX1 6) (List.mem_of_getElem? (i := 415) (by decide +kernel)))
  obtain ⟨c2, i2, k2⟩ := u_known (C := RX2) (T := TX2) (N := 4) (n := 4) hts (fun w h => (wl_X2 w h).1) (hts (.instantiable RX2 4) (List.mem_of_getElem? (i := 83) (by decide +kernel)))
  obtain ⟨c3, i3, k3⟩ := u_known (C := RX3) (T := TX3) (N := 3) (n := 3) hts (fun w h => (wl_X3 w h).1) (hts (.instantiable RX3 3) (List.mem_of_getElem? (i := 64) (by decide +kernel)))
  obtain ⟨c4, i4, k4⟩ := u_known (C := RX4) (T := TX4) (N := 4) (n := 4) hts (fun w h => (wl_X4 w h).1) (hts (.instantiable RX4 4) (List.mem_of_getElem? (i := 132) (by decide +kernel)))
  obtain ⟨c5, i5, k5⟩ := u_known (C := RX5) (T := TX5) (N := 4) (n := 4) hts (fun w h => (wl_X5 w h).1) (hts (.instantiable RX5 4) (List.mem_of_getElem? (i := 107) (by decide +kernel)))
  obtain ⟨c6, i6, k6⟩ := u_known (C := RX6) (T := TX6) (N := 2) (n := 2) hts (fun w h => (wl_X6 w h).1) (hts (.instantiable RX6 2) (List.mem_of_getElem? (i := 47) (by decide +kernel)))
  obtain ⟨c7, i7, k7⟩ := u_known (C := RX7) (T := TX7) (N := 11) (n := 11) hts (fun w h => (wl_X7 w h).1) (hts (.instantiable RX7 11) (List.mem_of_getElem? (i := 36) (by decide +kernel)))
  obtain ⟨c8, i8, k8⟩ := u_known (C := RX8) (T := TX8) (N := 28) (n := 28) hts (fun w h => (wl_X8 w h).1) (hts (.instantiable RX8 28) (List.mem_of_getElem? (i := 617) (by decide +kernel)))
  refine ⟨(fun k => ([c0, c1, c2, c3, c4, c5, c6, c7, c8] : List ClassId).getD k c0, fun k => ([i0, i1, i2, i3, i4, i5, i6, i7, i8] : List (Nat → Nat)).getD k i0), fun k => ([a9, a10, a11, a12, a13, a14] : List ClassId).getD (k - 9) a9, ⟨⟨?_, ?_⟩, ⟨?_, ?_⟩⟩⟩
  · intro k q hq
    match k, hq with
    | 0, hq => cases hq; exact k0
    | 1, hq => cases hq; exact k1
    | 2, hq => cases hq; exact k2
    | 3, hq => cases hq; exact k3
    | 4, hq => cases hq; exact k4
    | 5, hq => cases hq; exact k5
    | 6, hq => cases hq; exact k6
    | 7, hq => cases hq; exact k7
    | 8, hq => cases hq; exact k8
    | k + 9, hq => simp [vwCl] at hq
  · intro k q hq
    match k, hq with
    | 0, hq => cases hq; exact h9
    | 1, hq => cases hq; exact h10
    | 2, hq => cases hq; exact h11
    | 3, hq => cases hq; exact h12
    | 4, hq => cases hq; exact h13
    | 5, hq => cases hq; exact h14
    | k + 6, hq => simp [zT] at hq
  · exact ⟨va_Nw.of rfl (hts (.methodLinkNest RX7 25 yX6_init RX7) (List.mem_of_getElem? (i := 48) (by decide +kernel))), va_Nw.of rfl (hts (.methodLinkNest RX7 28 yX3_init RX7) (List.mem_of_getElem? (i := 65) (by decide +kernel))), va_Nw.of rfl (hts (.methodLinkNest RX7 39 yX2_init RX7) (List.mem_of_getElem? (i := 84) (by decide +kernel))), va_Nw.of rfl (hts (.methodLinkNest RX7 53 yX5_init RX7) (List.mem_of_getElem? (i := 108) (by decide +kernel))), va_Nw.of rfl (hts (.methodLinkNest RX7 64 yX4_init RX7) (List.mem_of_getElem? (i := 133) (by decide +kernel))), va_Nw.of rfl (hts (.methodLinkNest RX0 25 yX7_within RX7) (List.mem_of_getElem? (i := 235) (by decide +kernel))), va_Nw.of rfl (hts (.methodLinkNest RX3 69 yX7_within RX7) (List.mem_of_getElem? (i := 337) (by decide +kernel))), va_Nw.of rfl (hts (.methodLinkNest RX2 35 yX7_within RX7) (List.mem_of_getElem? (i := 461) (by decide +kernel))), va_Nw.of rfl (hts (.methodLinkNest RX1 30 yX7_within RX7) (List.mem_of_getElem? (i := 489) (by decide +kernel))), va_Nw.of rfl (hts (.methodLinkNest RX4 32 yX7_within RX7) (List.mem_of_getElem? (i := 505) (by decide +kernel)))⟩
  · exact ⟨va_AO.of o11, va_AO.of o12, va_AO.of o13, va_AO.of o14⟩
set_option maxRecDepth 20000 in
theorem st_St {s : State} {args : Array Value} (hts : ∀ w ∈ lw_tbl, w.before args s = true) (hgv : (Jvm.Cond.and given_1 narrow_1).before args s = true) : zSt (fun q : Nat => s.heap.size ≤ q) s s.heap := by
  have hs := flat_of_before _ hgv
  have hA : ∀ a : Nat, a < s.heap.size → ¬ (fun q : Nat => s.heap.size ≤ q) a := fun a h => Nat.not_le.mpr h
  refine ⟨?_, ?_⟩
  · obtain ⟨t, ht, hT⟩ := va_Tof (args := args) (s := s) (tm := (.static "LetteredRock" "LEAST_SETTING" "[I")) (ty := .int) (N := 4) (f := fun j => .int (([10, 0, 1, 0] : List Int32).getD j 0)) (A := fun q : Nat => s.heap.size ≤ q) (by decide) (hs _ (by decide +kernel)) (va_eqt (hs (.eq (.length (.static "LetteredRock" "LEAST_SETTING" "[I")) (.int 4)) (by decide +kernel))) (fun j hj => by
      rcases (show j = 0 ∨ j = 1 ∨ j = 2 ∨ j = 3 by omega) with rfl | rfl | rfl | rfl
      · exact va_eqt (hs (.eq (.elem (.static "LetteredRock" "LEAST_SETTING" "[I") (.int 0)) (.int 10)) (by decide +kernel))
      · exact va_eqt (hs (.eq (.elem (.static "LetteredRock" "LEAST_SETTING" "[I") (.int 1)) (.int 0)) (by decide +kernel))
      · exact va_eqt (hs (.eq (.elem (.static "LetteredRock" "LEAST_SETTING" "[I") (.int 2)) (.int 1)) (by decide +kernel))
      · exact va_eqt (hs (.eq (.elem (.static "LetteredRock" "LEAST_SETTING" "[I") (.int 3)) (.int 0)) (by decide +kernel))) hA
    exact ⟨t, va_Zof (hts (.laysStatic "LetteredRock" "LEAST_SETTING" "[I") (List.mem_of_getElem? (i := 395) (by decide +kernel))) (hts (.initialized "LetteredRock") (List.mem_of_getElem? (i := 23) (by decide +kernel))) ht hA, hT⟩
  · obtain ⟨t, ht, hT⟩ := va_Tof (args := args) (s := s) (tm := (.static "LetteredRock" "MOST_SETTING" "[I")) (ty := .int) (N := 4) (f := fun j => .int (([200, 1000, 1000, 100] : List Int32).getD j 0)) (A := fun q : Nat => s.heap.size ≤ q) (by decide) (hs _ (by decide +kernel)) (va_eqt (hs (.eq (.length (.static "LetteredRock" "MOST_SETTING" "[I")) (.int 4)) (by decide +kernel))) (fun j hj => by
      rcases (show j = 0 ∨ j = 1 ∨ j = 2 ∨ j = 3 by omega) with rfl | rfl | rfl | rfl
      · exact va_eqt (hs (.eq (.elem (.static "LetteredRock" "MOST_SETTING" "[I") (.int 0)) (.int 200)) (by decide +kernel))
      · exact va_eqt (hs (.eq (.elem (.static "LetteredRock" "MOST_SETTING" "[I") (.int 1)) (.int 1000)) (by decide +kernel))
      · exact va_eqt (hs (.eq (.elem (.static "LetteredRock" "MOST_SETTING" "[I") (.int 2)) (.int 1000)) (by decide +kernel))
      · exact va_eqt (hs (.eq (.elem (.static "LetteredRock" "MOST_SETTING" "[I") (.int 3)) (.int 100)) (by decide +kernel))) hA
    exact ⟨t, va_Zof (hts (.laysStatic "LetteredRock" "MOST_SETTING" "[I") (List.mem_of_getElem? (i := 397) (by decide +kernel))) (hts (.initialized "LetteredRock") (List.mem_of_getElem? (i := 23) (by decide +kernel))) ht hA, hT⟩
section ZLAW
variable {p : Program} {l : Launch} {e : Env} {R : Room} {s : State} {m : MethodId} {args : Array Value} {below : List Frame} {meth : Method} {co : Code}
variable {D : va_G} {cy : Nat → ClassId} {A : Nat → Prop} {cc : ByteArray} {nL : Nat} {ret : Option FieldType} {Ts : List Cond} {own : String}
variable {a : Nat → Nat} {L : List Nat} {c : Nat → Nat → Int32} {g : Nat → Nat → Int64} {r : Nat → Nat → Option Nat} {Q : State → Prop} {cells slots pc : Nat} {lv : List (Nat × Value)} {st : List Value}
/-- the law's script -/
def zScr (b n : Nat) (xs : Nat → Int32) (s : State) (A : Nat → Prop) : Prop := va_X b n xs s s.heap ∧ b < s.heap.size ∧ ¬ A b ∧ n ≤ 3072
theorem z_sld (C : zC p s m args meth co D cy A cc nL ret Ts own) {b n : Nat} {xs : Nat → Int32} (hX : zScr b n xs s A) {j : Nat} (hj : j < n) (hd : decode cc pc = .ok (.iaload, 1)) (kk : zG p l e R s m args below meth co D cy A nL Q cells slots a L c g r lv (pc + 1) (.int (xs j) :: st)) : zG p l e R s m args below meth co D cy A nL Q cells slots a L c g r lv pc (.int (nI j) :: .ref b :: st) := fun H locs ls hW hS hl => va_sld C.1 C.2.1 hX.1 hX.2.1 hX.2.2.1 hS (vp_in_nI hj (by have := hX.2.2.2; omega)) hd (by rw [nI_clamp (by have := hX.2.2.2; omega)]; exact kk H locs ls hW hS hl)
theorem z_slen (C : zC p s m args meth co D cy A cc nL ret Ts own) {b n : Nat} {xs : Nat → Int32} (hX : zScr b n xs s A) (hd : decode cc pc = .ok (.arraylength, 1)) (kk : zG p l e R s m args below meth co D cy A nL Q cells slots a L c g r lv (pc + 1) (.int (nI n) :: st)) : zG p l e R s m args below meth co D cy A nL Q cells slots a L c g r lv pc (.ref b :: st) := fun H locs ls hW hS hl => va_slen C.1 C.2.1 hX.1 hX.2.1 hX.2.2.1 hS hd (kk H locs ls hW hS hl)
end ZLAW
