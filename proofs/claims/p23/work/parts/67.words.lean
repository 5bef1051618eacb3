theorem in_by {big ws : List Cond} (ps : List Nat) (hp : ps.map (fun i => big[i]?) = ws.map some) : ∀ w ∈ ws, w ∈ big := by
  intro w hw
  obtain ⟨k, hk⟩ := List.getElem?_of_mem hw
  have h1 : (ps.map (fun i => big[i]?))[k]? = some (some w) := by rw [hp, List.getElem?_map, hk]; rfl
  rw [List.getElem?_map] at h1
  cases hi : ps[k]? with
  | none => rw [hi] at h1; cases h1
  | some i => rw [hi] at h1; exact List.mem_of_getElem? (Option.some.inj h1)
set_option maxRecDepth 100000 in
theorem in_wsL_law0_r1 : ∀ w ∈ wsL_law0_r1, w ∈ lw_tbl := in_by [43, 44, 30, 45, 46, 47, 48, 49, 50, 51, 52, 31, 126, 93, 127, 128, 129, 94, 95, 32, 130, 104, 105, 33] rfl
set_option maxRecDepth 100000 in
theorem in_wsL_law0_r2 : ∀ w ∈ wsL_law0_r2, w ∈ lw_tbl := in_by [131, 115, 116, 34, 132, 54, 55, 56, 59, 62, 65, 67, 69, 71, 73, 57, 75, 97, 98, 99, 100, 107, 108, 109] rfl
set_option maxRecDepth 100000 in
theorem in_wsL_law0_r3 : ∀ w ∈ wsL_law0_r3, w ∈ lw_tbl := in_by [110, 111, 118, 119, 120, 121, 122, 474, 475, 29, 476, 487, 152, 153, 154, 155, 156, 157, 158, 159, 160, 162, 0, 163] rfl
set_option maxRecDepth 100000 in
theorem in_wsL_law0_r4 : ∀ w ∈ wsL_law0_r4, w ∈ lw_tbl := in_by [166, 1, 167, 168, 170, 2, 171, 173, 174, 175, 176, 35, 177, 180, 3, 181, 184, 4, 185, 186, 188, 5, 189, 192] rfl
set_option maxRecDepth 100000 in
theorem in_wsL_law0_r5 : ∀ w ∈ wsL_law0_r5, w ∈ lw_tbl := in_by [6, 193, 195, 196, 197, 198, 199, 200, 477, 478, 479, 480, 483, 23, 484, 485, 416, 13, 417, 418, 420, 14, 421, 423] rfl
set_option maxRecDepth 100000 in
theorem in_wsL_law0_r6 : ∀ w ∈ wsL_law0_r6, w ∈ lw_tbl := in_by [425, 15, 426, 486, 429, 16, 430, 431, 433, 17, 434, 437, 18, 438, 440, 441, 444, 19, 445, 446, 448, 20, 449, 488] rfl
set_option maxRecDepth 100000 in
theorem in_wsL_law0_r7 : ∀ w ∈ wsL_law0_r7, w ∈ lw_tbl := in_by [489, 490, 491, 494, 24, 495, 496, 497, 498, 499, 503, 504, 505, 315, 506, 507, 508, 509, 320, 39, 510, 512, 25, 513] rfl
set_option maxRecDepth 100000 in
theorem in_wsL_law0_r8 : ∀ w ∈ wsL_law0_r8, w ∈ lw_tbl := in_by [218, 219, 220, 515, 516, 517, 209, 518, 519, 520, 521, 221, 40, 343, 344, 345, 305, 306, 307, 524, 201, 202, 203, 204] rfl
set_option maxRecDepth 100000 in
theorem in_wsL_law0_r9 : ∀ w ∈ wsL_law0_r9, w ∈ lw_tbl := in_by [205, 206, 207, 208, 210, 211, 212, 213, 214, 289, 41, 215, 216, 217, 310, 8, 311, 336, 337, 338, 339, 340, 341, 342] rfl
set_option maxRecDepth 100000 in
theorem in_wsL_law0_r10 : ∀ w ∈ wsL_law0_r10, w ∈ lw_tbl := in_by [350, 9, 351, 352, 353, 354, 355, 356, 357, 359, 360, 361, 362, 363, 364, 365, 312, 313, 314, 316, 317, 318, 319, 367] rfl
set_option maxRecDepth 100000 in
theorem in_wsL_law0_r11 : ∀ w ∈ wsL_law0_r11, w ∈ lw_tbl := in_by [368, 369, 370, 371, 372, 373, 383, 384, 385, 386, 387, 388, 389, 375, 376, 377, 378, 379, 380, 381, 148, 149, 150, 151] rfl
set_option maxRecDepth 100000 in
theorem in_wsL_law0_r12 : ∀ w ∈ wsL_law0_r12, w ∈ lw_tbl := in_by [391, 392, 393, 394, 395, 396, 397, 398, 399, 400, 402, 404, 10, 405, 406, 408, 11, 409, 410, 412, 12, 413, 450, 452] rfl
set_option maxRecDepth 100000 in
theorem in_wsL_law0_r13 : ∀ w ∈ wsL_law0_r13, w ∈ lw_tbl := in_by [21, 453, 454, 455, 456, 457, 458, 459, 460, 462, 464, 22, 465, 466, 467, 468, 473, 469, 470, 471, 472, 525, 526, 527] rfl
set_option maxRecDepth 100000 in
theorem in_wsL_law0_r14 : ∀ w ∈ wsL_law0_r14, w ∈ lw_tbl := in_by [528, 529, 530, 531, 532, 534, 26, 535, 538, 27, 539, 540, 541, 542, 543, 544, 545, 546, 548, 550, 28, 551, 552, 554] rfl
set_option maxRecDepth 100000 in
theorem in_wsL_law0_r15 : ∀ w ∈ wsL_law0_r15, w ∈ lw_tbl := in_by [553, 42, 555, 556, 557, 558, 559, 560, 561] rfl
theorem in_t_X4 : ∀ w ∈ wsX40, w ∈ lw_tbl := by decide +kernel
theorem in_t_X1 : ∀ w ∈ wsX10, w ∈ lw_tbl := by decide +kernel
theorem in_t_X2 : ∀ w ∈ wsX20, w ∈ lw_tbl := by decide +kernel
theorem in_t_X0 : ∀ w ∈ wsX00, w ∈ lw_tbl := by decide +kernel
theorem in_t_X3 : ∀ w ∈ wsX30, w ∈ lw_tbl := by decide +kernel
theorem wsL_law_in0 : ∀ w ∈ wsL_law0, w ∈ lw_tbl := List.forall_mem_append.mpr ⟨List.forall_mem_append.mpr ⟨List.forall_mem_append.mpr ⟨List.forall_mem_append.mpr ⟨List.forall_mem_append.mpr ⟨List.forall_mem_append.mpr ⟨List.forall_mem_append.mpr ⟨in_wsL_law0_r1, List.forall_mem_append.mpr ⟨in_wsL_law0_r2, List.forall_mem_append.mpr ⟨in_wsL_law0_r3, List.forall_mem_append.mpr ⟨in_wsL_law0_r4, List.forall_mem_append.mpr ⟨in_wsL_law0_r5, List.forall_mem_append.mpr ⟨in_wsL_law0_r6, List.forall_mem_append.mpr ⟨in_wsL_law0_r7, List.forall_mem_append.mpr ⟨in_wsL_law0_r8, List.forall_mem_append.mpr ⟨in_wsL_law0_r9, List.forall_mem_append.mpr ⟨in_wsL_law0_r10, List.forall_mem_append.mpr ⟨in_wsL_law0_r11, List.forall_mem_append.mpr ⟨in_wsL_law0_r12, List.forall_mem_append.mpr ⟨in_wsL_law0_r13, List.forall_mem_append.mpr ⟨in_wsL_law0_r14, in_wsL_law0_r15⟩⟩⟩⟩⟩⟩⟩⟩⟩⟩⟩⟩⟩⟩, in_t_X4⟩, in_t_X1⟩, in_t_X2⟩, in_t_X0⟩, in_t_X3⟩, fun _ h => nomatch h⟩
theorem wsL_law_x0 : ∀ w ∈ (vx_atS RX4 83 "java/lang/IndexOutOfBoundsException" ["java/lang/RuntimeException", "java/lang/Exception"]).filter goodWord, w ∈ lw_tbl := by decide +kernel
theorem wsL_law_x1 : ∀ w ∈ (vx_atS RX4 56 "java/lang/IllegalArgumentException" ["java/lang/RuntimeException", "java/lang/Exception"]).filter goodWord, w ∈ lw_tbl := by decide +kernel
theorem wsL_law_x2 : ∀ w ∈ (vx_atS RX4 66 "java/lang/IllegalStateException" ["java/lang/RuntimeException", "java/lang/Exception"]).filter goodWord, w ∈ lw_tbl := by decide +kernel
theorem wsL_law_in : ∀ w ∈ wsL_law, w ∈ lw_tbl := fun w h => (List.mem_append.mp h).elim (fun h => (List.mem_append.mp h).elim (fun h => (List.mem_append.mp h).elim (fun h => wsL_law_in0 w h) (fun h => wsL_law_x0 w h)) (fun h => wsL_law_x1 w h)) (fun h => wsL_law_x2 w h)
theorem inX0 : ∀ w ∈ wsX00, w ∈ lw_tbl := fun w h => wsL_law_in w (inlX0 w h)
theorem inX1 : ∀ w ∈ wsX10, w ∈ lw_tbl := fun w h => wsL_law_in w (inlX1 w h)
theorem inX2 : ∀ w ∈ wsX20, w ∈ lw_tbl := fun w h => wsL_law_in w (inlX2 w h)
theorem inX3 : ∀ w ∈ wsX30, w ∈ lw_tbl := fun w h => wsL_law_in w (inlX3 w h)
theorem inX4 : ∀ w ∈ wsX40, w ∈ lw_tbl := fun w h => wsL_law_in w (inlX4 w h)
