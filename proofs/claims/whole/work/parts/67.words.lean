theorem in_by {big ws : List Cond} (ps : List Nat) (hp : ps.map (fun i => big[i]?) = ws.map some) : ∀ w ∈ ws, w ∈ big := by
  intro w hw
  obtain ⟨k, hk⟩ := List.getElem?_of_mem hw
  have h1 : (ps.map (fun i => big[i]?))[k]? = some (some w) := by rw [hp, List.getElem?_map, hk]; rfl
  rw [List.getElem?_map] at h1
  cases hi : ps[k]? with
  | none => rw [hi] at h1; cases h1
  | some i => rw [hi] at h1; exact List.mem_of_getElem? (Option.some.inj h1)
set_option maxRecDepth 100000 in
theorem in_wsL_law0_r1 : ∀ w ∈ wsL_law0_r1, w ∈ lw_tbl := in_by [59, 60, 45, 565, 566, 50, 617, 783, 61, 62, 63, 64, 65, 66, 67, 68, 46, 142, 109, 143, 144, 145, 110, 111] rfl
set_option maxRecDepth 100000 in
theorem in_wsL_law0_r2 : ∀ w ∈ wsL_law0_r2, w ∈ lw_tbl := in_by [47, 146, 120, 121, 48, 147, 131, 132, 49, 148, 70, 71, 72, 75, 78, 81, 83, 85, 87, 89, 73, 91, 113, 114] rfl
set_option maxRecDepth 100000 in
theorem in_wsL_law0_r3 : ∀ w ∈ wsL_law0_r3, w ∈ lw_tbl := in_by [115, 116, 123, 124, 125, 126, 127, 134, 135, 136, 137, 138, 567, 568, 569, 570, 571, 572, 574, 575, 576, 577, 579, 581] rfl
set_option maxRecDepth 100000 in
theorem in_wsL_law0_r4 : ∀ w ∈ wsL_law0_r4, w ∈ lw_tbl := in_by [583, 584, 290, 291, 44, 292, 293, 294, 295, 296, 297, 298, 305, 54, 373, 55, 299, 300, 301, 302, 303, 304, 389, 390] rfl
set_option maxRecDepth 100000 in
theorem in_wsL_law0_r5 : ∀ w ∈ wsL_law0_r5, w ∈ lw_tbl := in_by [391, 394, 20, 395, 622, 623, 624, 625, 573, 626, 627, 628, 629, 630, 631, 632, 634, 29, 635, 585, 618, 619, 620, 621] rfl
set_option maxRecDepth 100000 in
theorem in_wsL_law0_r6 : ∀ w ∈ wsL_law0_r6, w ∈ lw_tbl := in_by [396, 397, 398, 399, 400, 401, 402, 403, 404, 56, 636, 637, 638, 639, 640, 642, 30, 643, 420, 421, 422, 423, 424, 425] rfl
set_option maxRecDepth 100000 in
theorem in_wsL_law0_r7 : ∀ w ∈ wsL_law0_r7, w ∈ lw_tbl := in_by [426, 427, 428, 429, 434, 21, 435, 436, 437, 438, 439, 440, 441, 644, 645, 646, 647, 578, 648, 649, 650, 443, 444, 445] rfl
set_option maxRecDepth 100000 in
theorem in_wsL_law0_r8 : ∀ w ∈ wsL_law0_r8, w ∈ lw_tbl := in_by [446, 447, 448, 449, 651, 652, 653, 654, 451, 452, 453, 454, 455, 456, 457, 655, 656, 657, 658, 580, 459, 460, 461, 462] rfl
set_option maxRecDepth 100000 in
theorem in_wsL_law0_r9 : ∀ w ∈ wsL_law0_r9, w ∈ lw_tbl := in_by [463, 464, 465, 659, 660, 661, 662, 663, 665, 31, 666, 164, 165, 166, 167, 667, 668, 669, 670, 168, 169, 170, 171, 671] rfl
set_option maxRecDepth 100000 in
theorem in_wsL_law0_r10 : ∀ w ∈ wsL_law0_r10, w ∈ lw_tbl := in_by [672, 673, 674, 467, 468, 469, 470, 471, 472, 473, 675, 676, 677, 678, 172, 173, 174, 175, 176, 178, 0, 179, 182, 1] rfl
set_option maxRecDepth 100000 in
theorem in_wsL_law0_r11 : ∀ w ∈ wsL_law0_r11, w ∈ lw_tbl := in_by [183, 184, 186, 2, 187, 189, 190, 191, 192, 57, 193, 196, 3, 197, 200, 4, 201, 202, 204, 5, 205, 208, 6, 209] rfl
set_option maxRecDepth 100000 in
theorem in_wsL_law0_r12 : ∀ w ∈ wsL_law0_r12, w ∈ lw_tbl := in_by [211, 212, 213, 214, 215, 216, 679, 680, 681, 682, 683, 685, 32, 686, 709, 710, 687, 689, 33, 690, 582, 691, 693, 34] rfl
set_option maxRecDepth 100000 in
theorem in_wsL_law0_r13 : ∀ w ∈ wsL_law0_r13, w ∈ lw_tbl := in_by [694, 695, 696, 697, 698, 700, 35, 701, 702, 704, 36, 705, 706, 707, 708, 217, 218, 219, 220, 223, 7, 224, 225, 226] rfl
set_option maxRecDepth 100000 in
theorem in_wsL_law0_r14 : ∀ w ∈ wsL_law0_r14, w ∈ lw_tbl := in_by [227, 228, 711, 712, 713, 714, 715, 475, 476, 477, 478, 479, 480, 481, 482, 484, 22, 485, 716, 717, 718, 719, 720, 722] rfl
set_option maxRecDepth 100000 in
theorem in_wsL_law0_r15 : ∀ w ∈ wsL_law0_r15, w ∈ lw_tbl := in_by [37, 723, 487, 488, 489, 490, 491, 492, 493, 238, 8, 239, 240, 242, 9, 243, 244, 246, 10, 247, 249, 251, 11, 252] rfl
set_option maxRecDepth 100000 in
theorem in_wsL_law0_r16 : ∀ w ∈ wsL_law0_r16, w ∈ lw_tbl := in_by [253, 255, 12, 256, 257, 259, 13, 260, 263, 14, 264, 266, 267, 274, 16, 275, 496, 724, 725, 726, 727, 728, 730, 38] rfl
set_option maxRecDepth 100000 in
theorem in_wsL_law0_r17 : ∀ w ∈ wsL_law0_r17, w ∈ lw_tbl := in_by [731, 732, 734, 39, 735, 232, 233, 234, 235, 270, 15, 271, 272, 736, 737, 738, 739, 497, 498, 499, 500, 501, 502, 503] rfl
set_option maxRecDepth 100000 in
theorem in_wsL_law0_r18 : ∀ w ∈ wsL_law0_r18, w ∈ lw_tbl := in_by [504, 505, 506, 508, 510, 23, 511, 512, 514, 24, 515, 516, 518, 25, 519, 520, 522, 26, 523, 740, 741, 742, 743, 744] rfl
set_option maxRecDepth 100000 in
theorem in_wsL_law0_r19 : ∀ w ∈ wsL_law0_r19, w ∈ lw_tbl := in_by [745, 746, 747, 749, 40, 750, 751, 753, 41, 754, 755, 757, 42, 758, 759, 761, 43, 762, 524, 525, 526, 527, 528, 529] rfl
set_option maxRecDepth 100000 in
theorem in_wsL_law0_r20 : ∀ w ∈ wsL_law0_r20, w ∈ lw_tbl := in_by [530, 532, 534, 27, 535, 763, 764, 765, 766, 536, 537, 538, 539, 540, 541, 542, 767, 768, 769, 770, 543, 544, 545, 546] rfl
set_option maxRecDepth 100000 in
theorem in_wsL_law0_r21 : ∀ w ∈ wsL_law0_r21, w ∈ lw_tbl := in_by [547, 548, 549, 280, 282, 17, 283, 286, 18, 287, 550, 552, 28, 553, 554, 556, 555, 58, 771, 772, 773, 774, 276, 277] rfl
set_option maxRecDepth 100000 in
theorem in_wsL_law0_r22 : ∀ w ∈ wsL_law0_r22, w ∈ lw_tbl := in_by [278, 279, 775, 776, 777, 778, 557, 558, 559, 560, 561, 562, 563, 779, 780, 781, 782] rfl
theorem in_t_X4 : ∀ w ∈ wsX40, w ∈ lw_tbl := by decide +kernel
theorem in_t_X5 : ∀ w ∈ wsX50, w ∈ lw_tbl := by decide +kernel
theorem in_t_X1 : ∀ w ∈ wsX10, w ∈ lw_tbl := by decide +kernel
theorem in_t_X2 : ∀ w ∈ wsX20, w ∈ lw_tbl := by decide +kernel
theorem in_t_X0 : ∀ w ∈ wsX00, w ∈ lw_tbl := by decide +kernel
theorem in_t_X3 : ∀ w ∈ wsX30, w ∈ lw_tbl := by decide +kernel
theorem wsL_law_in0 : ∀ w ∈ wsL_law0, w ∈ lw_tbl := List.forall_mem_append.mpr ⟨List.forall_mem_append.mpr ⟨List.forall_mem_append.mpr ⟨List.forall_mem_append.mpr ⟨List.forall_mem_append.mpr ⟨List.forall_mem_append.mpr ⟨List.forall_mem_append.mpr ⟨List.forall_mem_append.mpr ⟨in_wsL_law0_r1, List.forall_mem_append.mpr ⟨in_wsL_law0_r2, List.forall_mem_append.mpr ⟨in_wsL_law0_r3, List.forall_mem_append.mpr ⟨in_wsL_law0_r4, List.forall_mem_append.mpr ⟨in_wsL_law0_r5, List.forall_mem_append.mpr ⟨in_wsL_law0_r6, List.forall_mem_append.mpr ⟨in_wsL_law0_r7, List.forall_mem_append.mpr ⟨in_wsL_law0_r8, List.forall_mem_append.mpr ⟨in_wsL_law0_r9, List.forall_mem_append.mpr ⟨in_wsL_law0_r10, List.forall_mem_append.mpr ⟨in_wsL_law0_r11, List.forall_mem_append.mpr ⟨in_wsL_law0_r12, List.forall_mem_append.mpr ⟨in_wsL_law0_r13, List.forall_mem_append.mpr ⟨in_wsL_law0_r14, List.forall_mem_append.mpr ⟨in_wsL_law0_r15, List.forall_mem_append.mpr ⟨in_wsL_law0_r16, List.forall_mem_append.mpr ⟨in_wsL_law0_r17, List.forall_mem_append.mpr ⟨in_wsL_law0_r18, List.forall_mem_append.mpr ⟨in_wsL_law0_r19, List.forall_mem_append.mpr ⟨in_wsL_law0_r20, List.forall_mem_append.mpr ⟨in_wsL_law0_r21, in_wsL_law0_r22⟩⟩⟩⟩⟩⟩⟩⟩⟩⟩⟩⟩⟩⟩⟩⟩⟩⟩⟩⟩⟩, in_t_X4⟩, in_t_X5⟩, in_t_X1⟩, in_t_X2⟩, in_t_X0⟩, in_t_X3⟩, fun _ h => nomatch h⟩
theorem wsL_law_x0 : ∀ w ∈ (vx_atS RX4 56 "java/lang/IllegalArgumentException" ["java/lang/RuntimeException", "java/lang/Exception"]).filter goodWord, w ∈ lw_tbl := by decide +kernel
theorem wsL_law_x1 : ∀ w ∈ (vx_atS RX4 66 "java/lang/IllegalStateException" ["java/lang/RuntimeException", "java/lang/Exception"]).filter goodWord, w ∈ lw_tbl := by decide +kernel
theorem wsL_law_x2 : ∀ w ∈ (vx_atS RX4 83 "java/lang/IndexOutOfBoundsException" ["java/lang/RuntimeException", "java/lang/Exception"]).filter goodWord, w ∈ lw_tbl := by decide +kernel
theorem wsL_law_in : ∀ w ∈ wsL_law, w ∈ lw_tbl := fun w h => (List.mem_append.mp h).elim (fun h => (List.mem_append.mp h).elim (fun h => (List.mem_append.mp h).elim (fun h => wsL_law_in0 w h) (fun h => wsL_law_x0 w h)) (fun h => wsL_law_x1 w h)) (fun h => wsL_law_x2 w h)
theorem inX0 : ∀ w ∈ wsX00, w ∈ lw_tbl := fun w h => wsL_law_in w (inlX0 w h)
theorem inX1 : ∀ w ∈ wsX10, w ∈ lw_tbl := fun w h => wsL_law_in w (inlX1 w h)
theorem inX2 : ∀ w ∈ wsX20, w ∈ lw_tbl := fun w h => wsL_law_in w (inlX2 w h)
theorem inX3 : ∀ w ∈ wsX30, w ∈ lw_tbl := fun w h => wsL_law_in w (inlX3 w h)
theorem inX4 : ∀ w ∈ wsX40, w ∈ lw_tbl := fun w h => wsL_law_in w (inlX4 w h)
theorem inX5 : ∀ w ∈ wsX50, w ∈ lw_tbl := fun w h => wsL_law_in w (inlX5 w h)
