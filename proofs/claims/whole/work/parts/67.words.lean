theorem in_by {big ws : List Cond} (ps : List Nat) (hp : ps.map (fun i => big[i]?) = ws.map some) : ∀ w ∈ ws, w ∈ big := by
  intro w hw
  obtain ⟨k, hk⟩ := List.getElem?_of_mem hw
  have h1 : (ps.map (fun i => big[i]?))[k]? = some (some w) := by rw [hp, List.getElem?_map, hk]; rfl
  rw [List.getElem?_map] at h1
  cases hi : ps[k]? with
  | none => rw [hi] at h1; cases h1
  | some i => rw [hi] at h1; exact List.mem_of_getElem? (Option.some.inj h1)
set_option maxRecDepth 100000 in
theorem in_wsL_law0_r1 : ∀ w ∈ wsL_law0_r1, w ∈ lw_tbl := in_by [60, 61, 46, 567, 568, 51, 619, 785, 62, 63, 64, 65, 66, 67, 68, 69, 47, 143, 110, 144, 145, 146, 111, 112] rfl
set_option maxRecDepth 100000 in
theorem in_wsL_law0_r2 : ∀ w ∈ wsL_law0_r2, w ∈ lw_tbl := in_by [48, 147, 121, 122, 49, 148, 132, 133, 50, 149, 71, 72, 73, 76, 79, 82, 84, 86, 88, 90, 74, 92, 114, 115] rfl
set_option maxRecDepth 100000 in
theorem in_wsL_law0_r3 : ∀ w ∈ wsL_law0_r3, w ∈ lw_tbl := in_by [116, 117, 124, 125, 126, 127, 128, 135, 136, 137, 138, 139, 569, 570, 571, 572, 573, 574, 576, 577, 578, 579, 581, 583] rfl
set_option maxRecDepth 100000 in
theorem in_wsL_law0_r4 : ∀ w ∈ wsL_law0_r4, w ∈ lw_tbl := in_by [585, 586, 292, 293, 45, 294, 295, 296, 297, 298, 299, 300, 307, 55, 375, 56, 301, 302, 303, 304, 305, 306, 391, 392] rfl
set_option maxRecDepth 100000 in
theorem in_wsL_law0_r5 : ∀ w ∈ wsL_law0_r5, w ∈ lw_tbl := in_by [393, 396, 21, 397, 624, 625, 626, 627, 575, 628, 629, 630, 631, 632, 633, 634, 636, 30, 637, 587, 620, 621, 622, 623] rfl
set_option maxRecDepth 100000 in
theorem in_wsL_law0_r6 : ∀ w ∈ wsL_law0_r6, w ∈ lw_tbl := in_by [398, 399, 400, 401, 402, 403, 404, 405, 406, 57, 638, 639, 640, 641, 642, 644, 31, 645, 422, 423, 424, 425, 426, 427] rfl
set_option maxRecDepth 100000 in
theorem in_wsL_law0_r7 : ∀ w ∈ wsL_law0_r7, w ∈ lw_tbl := in_by [428, 429, 430, 431, 436, 22, 437, 438, 439, 440, 441, 442, 443, 646, 647, 648, 649, 580, 650, 651, 652, 445, 446, 447] rfl
set_option maxRecDepth 100000 in
theorem in_wsL_law0_r8 : ∀ w ∈ wsL_law0_r8, w ∈ lw_tbl := in_by [448, 449, 450, 451, 653, 654, 655, 656, 453, 454, 455, 456, 457, 458, 459, 657, 658, 659, 660, 582, 461, 462, 463, 464] rfl
set_option maxRecDepth 100000 in
theorem in_wsL_law0_r9 : ∀ w ∈ wsL_law0_r9, w ∈ lw_tbl := in_by [465, 466, 467, 661, 662, 663, 664, 665, 667, 32, 668, 165, 166, 167, 168, 669, 670, 671, 672, 169, 170, 171, 172, 673] rfl
set_option maxRecDepth 100000 in
theorem in_wsL_law0_r10 : ∀ w ∈ wsL_law0_r10, w ∈ lw_tbl := in_by [674, 675, 676, 469, 470, 471, 472, 473, 474, 475, 677, 678, 679, 680, 173, 174, 175, 176, 177, 179, 0, 180, 183, 1] rfl
set_option maxRecDepth 100000 in
theorem in_wsL_law0_r11 : ∀ w ∈ wsL_law0_r11, w ∈ lw_tbl := in_by [184, 185, 187, 2, 188, 190, 191, 192, 193, 58, 194, 197, 3, 198, 201, 4, 202, 203, 205, 5, 206, 209, 6, 210] rfl
set_option maxRecDepth 100000 in
theorem in_wsL_law0_r12 : ∀ w ∈ wsL_law0_r12, w ∈ lw_tbl := in_by [212, 213, 214, 215, 216, 217, 681, 682, 683, 684, 685, 687, 33, 688, 711, 712, 689, 691, 34, 692, 584, 693, 695, 35] rfl
set_option maxRecDepth 100000 in
theorem in_wsL_law0_r13 : ∀ w ∈ wsL_law0_r13, w ∈ lw_tbl := in_by [696, 697, 698, 699, 700, 702, 36, 703, 704, 706, 37, 707, 708, 709, 710, 218, 219, 220, 221, 224, 7, 225, 226, 228] rfl
set_option maxRecDepth 100000 in
theorem in_wsL_law0_r14 : ∀ w ∈ wsL_law0_r14, w ∈ lw_tbl := in_by [8, 229, 230, 713, 714, 715, 716, 717, 477, 478, 479, 480, 481, 482, 483, 484, 486, 23, 487, 718, 719, 720, 721, 722] rfl
set_option maxRecDepth 100000 in
theorem in_wsL_law0_r15 : ∀ w ∈ wsL_law0_r15, w ∈ lw_tbl := in_by [724, 38, 725, 489, 490, 491, 492, 493, 494, 495, 240, 9, 241, 242, 244, 10, 245, 246, 248, 11, 249, 251, 253, 12] rfl
set_option maxRecDepth 100000 in
theorem in_wsL_law0_r16 : ∀ w ∈ wsL_law0_r16, w ∈ lw_tbl := in_by [254, 255, 257, 13, 258, 259, 261, 14, 262, 265, 15, 266, 268, 269, 276, 17, 277, 498, 726, 727, 728, 729, 730, 732] rfl
set_option maxRecDepth 100000 in
theorem in_wsL_law0_r17 : ∀ w ∈ wsL_law0_r17, w ∈ lw_tbl := in_by [39, 733, 734, 736, 40, 737, 234, 235, 236, 237, 272, 16, 273, 274, 738, 739, 740, 741, 499, 500, 501, 502, 503, 504] rfl
set_option maxRecDepth 100000 in
theorem in_wsL_law0_r18 : ∀ w ∈ wsL_law0_r18, w ∈ lw_tbl := in_by [505, 506, 507, 508, 510, 512, 24, 513, 514, 516, 25, 517, 518, 520, 26, 521, 522, 524, 27, 525, 742, 743, 744, 745] rfl
set_option maxRecDepth 100000 in
theorem in_wsL_law0_r19 : ∀ w ∈ wsL_law0_r19, w ∈ lw_tbl := in_by [746, 747, 748, 749, 751, 41, 752, 753, 755, 42, 756, 757, 759, 43, 760, 761, 763, 44, 764, 526, 527, 528, 529, 530] rfl
set_option maxRecDepth 100000 in
theorem in_wsL_law0_r20 : ∀ w ∈ wsL_law0_r20, w ∈ lw_tbl := in_by [531, 532, 534, 536, 28, 537, 765, 766, 767, 768, 538, 539, 540, 541, 542, 543, 544, 769, 770, 771, 772, 545, 546, 547] rfl
set_option maxRecDepth 100000 in
theorem in_wsL_law0_r21 : ∀ w ∈ wsL_law0_r21, w ∈ lw_tbl := in_by [548, 549, 550, 551, 282, 284, 18, 285, 288, 19, 289, 552, 554, 29, 555, 556, 558, 557, 59, 773, 774, 775, 776, 278] rfl
set_option maxRecDepth 100000 in
theorem in_wsL_law0_r22 : ∀ w ∈ wsL_law0_r22, w ∈ lw_tbl := in_by [279, 280, 281, 777, 778, 779, 780, 559, 560, 561, 562, 563, 564, 565, 781, 782, 783, 784] rfl
theorem in_t_X4 : ∀ w ∈ wsX40, w ∈ lw_tbl := by decide +kernel
theorem in_t_X5 : ∀ w ∈ wsX50, w ∈ lw_tbl := by decide +kernel
theorem in_t_X1 : ∀ w ∈ wsX10, w ∈ lw_tbl := by decide +kernel
theorem in_t_X2 : ∀ w ∈ wsX20, w ∈ lw_tbl := by decide +kernel
theorem in_t_X0 : ∀ w ∈ wsX00, w ∈ lw_tbl := by decide +kernel
theorem in_t_X3 : ∀ w ∈ wsX30, w ∈ lw_tbl := by decide +kernel
theorem wsL_law_in0 : ∀ w ∈ wsL_law0, w ∈ lw_tbl := List.forall_mem_append.mpr ⟨List.forall_mem_append.mpr ⟨List.forall_mem_append.mpr ⟨List.forall_mem_append.mpr ⟨List.forall_mem_append.mpr ⟨List.forall_mem_append.mpr ⟨List.forall_mem_append.mpr ⟨List.forall_mem_append.mpr ⟨in_wsL_law0_r1, List.forall_mem_append.mpr ⟨in_wsL_law0_r2, List.forall_mem_append.mpr ⟨in_wsL_law0_r3, List.forall_mem_append.mpr ⟨in_wsL_law0_r4, List.forall_mem_append.mpr ⟨in_wsL_law0_r5, List.forall_mem_append.mpr ⟨in_wsL_law0_r6, List.forall_mem_append.mpr ⟨in_wsL_law0_r7, List.forall_mem_append.mpr ⟨in_wsL_law0_r8, List.forall_mem_append.mpr ⟨in_wsL_law0_r9, List.forall_mem_append.mpr ⟨in_wsL_law0_r10, List.forall_mem_append.mpr ⟨in_wsL_law0_r11, List.forall_mem_append.mpr ⟨in_wsL_law0_r12, List.forall_mem_append.mpr ⟨in_wsL_law0_r13, List.forall_mem_append.mpr ⟨in_wsL_law0_r14, List.forall_mem_append.mpr ⟨in_wsL_law0_r15, List.forall_mem_append.mpr ⟨in_wsL_law0_r16, List.forall_mem_append.mpr ⟨in_wsL_law0_r17, List.forall_mem_append.mpr ⟨in_wsL_law0_r18, List.forall_mem_append.mpr ⟨in_wsL_law0_r19, List.forall_mem_append.mpr ⟨in_wsL_law0_r20, List.forall_mem_append.mpr ⟨in_wsL_law0_r21, in_wsL_law0_r22⟩⟩⟩⟩⟩⟩⟩⟩⟩⟩⟩⟩⟩⟩⟩⟩⟩⟩⟩⟩⟩, in_t_X4⟩, in_t_X5⟩, in_t_X1⟩, in_t_X2⟩, in_t_X0⟩, in_t_X3⟩, fun _ h => nomatch h⟩
theorem wsL_law_x0 : ∀ w ∈ (vx_atS RX4 56 "java/lang/IllegalArgumentException" ["java/lang/RuntimeException", "java/lang/Exception"]).filter goodWord, w ∈ lw_tbl := by decide +kernel
theorem wsL_law_x1 : ∀ w ∈ (vx_atS RX4 66 "java/lang/IllegalStateException" ["java/lang/RuntimeException", "java/lang/Exception"]).filter goodWord, w ∈ lw_tbl := by decide +kernel
theorem wsL_law_x2 : ∀ w ∈ (vx_atS RX4 83 "java/lang/IndexOutOfBoundsException" ["java/lang/RuntimeException", "java/lang/Exception"]).filter goodWord, w ∈ lw_tbl := by decide +kernel
theorem wsL_law_in : ∀ w ∈ wsL_law, w ∈ lw_tbl := fun w h => (List.mem_append.mp h).elim (fun h => (List.mem_append.mp h).elim (fun h => (List.mem_append.mp h).elim (fun h => wsL_law_in0 w h) (fun h => wsL_law_x0 w h)) (fun h => wsL_law_x1 w h)) (fun h => wsL_law_x2 w h)
theorem inX0 : ∀ w ∈ wsX00, w ∈ lw_tbl := fun w h => wsL_law_in w (inlX0 w h)
theorem inX1 : ∀ w ∈ wsX10, w ∈ lw_tbl := fun w h => wsL_law_in w (inlX1 w h)
theorem inX2 : ∀ w ∈ wsX20, w ∈ lw_tbl := fun w h => wsL_law_in w (inlX2 w h)
theorem inX3 : ∀ w ∈ wsX30, w ∈ lw_tbl := fun w h => wsL_law_in w (inlX3 w h)
theorem inX4 : ∀ w ∈ wsX40, w ∈ lw_tbl := fun w h => wsL_law_in w (inlX4 w h)
theorem inX5 : ∀ w ∈ wsX50, w ∈ lw_tbl := fun w h => wsL_law_in w (inlX5 w h)
