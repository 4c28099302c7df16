/-! the words of the law, by their places in the tables -/
theorem z_pl {big ws : List Cond} (ps : List Nat) (hp : ws = ps.filterMap (fun i => big[i]?)) : ∀ w ∈ ws, w ∈ big := fun w hw => by
  rw [hp] at hw
  obtain ⟨i, -, hi⟩ := List.mem_filterMap.mp hw
  exact List.mem_of_getElem? hi
set_option maxRecDepth 100000 in
theorem zLi_r1 : ∀ w ∈ wsL_law_r1, w ∈ lw_tbl := z_pl [44, 45, 35, 46, 47, 48, 49, 50, 51, 52, 53, 36, 224, 92, 93, 37, 225, 109, 110, 38, 226, 124, 125, 39] (by decide +kernel)
set_option maxRecDepth 100000 in
theorem zLi_r2 : ∀ w ∈ wsL_law_r2, w ∈ lw_tbl := z_pl [227, 138, 139, 40, 228, 90, 229, 230, 55, 56, 57, 58, 61, 63, 65, 67, 91, 70, 73, 95, 96, 97, 98, 101] (by decide +kernel)
set_option maxRecDepth 100000 in
theorem zLi_r3 : ∀ w ∈ wsL_law_r3, w ∈ lw_tbl := z_pl [102, 112, 113, 114, 115, 117, 127, 128, 129, 137, 133, 131, 132, 141, 142, 143, 144, 146, 148, 150, 151, 152, 153, 154] (by decide +kernel)
set_option maxRecDepth 100000 in
theorem zLi_r4 : ∀ w ∈ wsL_law_r4, w ∈ lw_tbl := z_pl [172, 174, 0, 175, 178, 1, 179, 189, 190, 42, 191, 181, 182, 183, 184, 41, 185, 186, 187, 188, 194, 2, 195, 197] (by decide +kernel)
set_option maxRecDepth 100000 in
theorem zLi_r5 : ∀ w ∈ wsL_law_r5, w ∈ lw_tbl := z_pl [198, 199, 200, 202, 3, 203, 206, 4, 207, 208, 210, 5, 211, 215, 6, 216, 217, 218, 219, 220, 222, 7, 223, 387] (by decide +kernel)
set_option maxRecDepth 100000 in
theorem zLi_r6 : ∀ w ∈ wsL_law_r6, w ∈ lw_tbl := z_pl [388, 34, 389, 390, 391, 246, 247, 248, 249, 252, 8, 253, 254, 256, 9, 257, 260, 10, 261, 264, 11, 265, 392, 393] (by decide +kernel)
set_option maxRecDepth 100000 in
theorem zLi_r7 : ∀ w ∈ wsL_law_r7, w ∈ lw_tbl := z_pl [394, 336, 337, 338, 339, 340, 342, 22, 343, 344, 346, 23, 347, 284, 13, 285, 316, 19, 317, 300, 17, 301, 350, 24] (by decide +kernel)
set_option maxRecDepth 100000 in
theorem zLi_r8 : ∀ w ∈ wsL_law_r8, w ∈ lw_tbl := z_pl [351, 353, 354, 355, 356, 43, 357, 358, 359, 360, 363, 25, 364, 365, 395, 396, 397, 398, 366, 367, 368, 369, 372, 26] (by decide +kernel)
set_option maxRecDepth 100000 in
theorem zLi_r9 : ∀ w ∈ wsL_law_r9, w ∈ lw_tbl := z_pl [373, 374, 375, 377, 27, 378, 278, 279, 280, 281, 286, 288, 14, 289, 290, 292, 15, 293, 294, 296, 16, 297, 302, 303] (by decide +kernel)
set_option maxRecDepth 100000 in
theorem zLi_r10 : ∀ w ∈ wsL_law_r10, w ∈ lw_tbl := z_pl [304, 305, 399, 400, 401, 402, 379, 380, 381, 382, 403, 404, 405, 406, 310, 312, 18, 313, 383, 384, 385, 386, 407, 408] (by decide +kernel)
set_option maxRecDepth 100000 in
theorem zLi_r11 : ∀ w ∈ wsL_law_r11, w ∈ lw_tbl := z_pl [409, 410, 411, 412, 413, 414, 415, 416, 417, 418, 419, 421, 28, 422, 306, 307, 308, 309, 318, 319, 320, 321, 322, 324] (by decide +kernel)
set_option maxRecDepth 100000 in
theorem zLi_r12 : ∀ w ∈ wsL_law_r12, w ∈ lw_tbl := z_pl [20, 325, 326, 327, 328, 329, 330, 332, 21, 333, 334, 335, 425, 426, 427, 428, 429, 430, 431, 432, 434, 29, 435, 436] (by decide +kernel)
set_option maxRecDepth 100000 in
theorem zLi_r13 : ∀ w ∈ wsL_law_r13, w ∈ lw_tbl := z_pl [438, 30, 439, 440, 442, 31, 443, 447, 448, 449, 450, 451, 452, 453, 454, 455, 456, 457, 458, 461, 32, 462, 270, 271] (by decide +kernel)
set_option maxRecDepth 100000 in
theorem zLi_r14 : ∀ w ∈ wsL_law_r14, w ∈ lw_tbl := z_pl [272, 273, 276, 12, 277, 463, 464, 465, 466, 467, 468, 469, 472, 33, 473, 474, 266, 267, 268, 269] (by decide +kernel)
set_option maxRecDepth 100000 in
theorem zLi_X0 : ∀ w ∈ wsX00, w ∈ lw_tbl := z_pl [104, 106] (by decide +kernel)
set_option maxRecDepth 100000 in
theorem zLi_X1 : ∀ w ∈ wsX10, w ∈ lw_tbl := z_pl [119, 121] (by decide +kernel)
set_option maxRecDepth 100000 in
theorem zLi_X2 : ∀ w ∈ wsX20, w ∈ lw_tbl := z_pl [134] (by decide +kernel)
set_option maxRecDepth 100000 in
theorem zLi_X3 : ∀ w ∈ wsX30, w ∈ lw_tbl := z_pl [155, 157, 159, 161, 163, 165, 167, 169] (by decide +kernel)
set_option maxRecDepth 100000 in
theorem zLi_X4 : ∀ w ∈ wsX40, w ∈ lw_tbl := z_pl [75, 77, 79, 81, 83, 85, 87] (by decide +kernel)
set_option maxRecDepth 100000 in
theorem zLi_X5 : ∀ w ∈ wsX50, w ∈ lw_tbl := z_pl [231, 233, 235, 237, 239, 241, 243] (by decide +kernel)
theorem wsL_law_in : ∀ w ∈ wsL_law, w ∈ lw_tbl := List.forall_mem_append.mpr ⟨List.forall_mem_append.mpr ⟨List.forall_mem_append.mpr ⟨List.forall_mem_append.mpr ⟨List.forall_mem_append.mpr ⟨List.forall_mem_append.mpr ⟨List.forall_mem_append.mpr ⟨List.forall_mem_append.mpr ⟨zLi_r1, List.forall_mem_append.mpr ⟨zLi_r2, List.forall_mem_append.mpr ⟨zLi_r3, List.forall_mem_append.mpr ⟨zLi_r4, List.forall_mem_append.mpr ⟨zLi_r5, List.forall_mem_append.mpr ⟨zLi_r6, List.forall_mem_append.mpr ⟨zLi_r7, List.forall_mem_append.mpr ⟨zLi_r8, List.forall_mem_append.mpr ⟨zLi_r9, List.forall_mem_append.mpr ⟨zLi_r10, List.forall_mem_append.mpr ⟨zLi_r11, List.forall_mem_append.mpr ⟨zLi_r12, List.forall_mem_append.mpr ⟨zLi_r13, zLi_r14⟩⟩⟩⟩⟩⟩⟩⟩⟩⟩⟩⟩⟩, zLi_X5⟩, zLi_X4⟩, zLi_X0⟩, zLi_X1⟩, zLi_X2⟩, zLi_X3⟩, (fun _ h => absurd h List.not_mem_nil)⟩
