/-! names, in pieces (by wip/p26/nacts.py) -/
/-- a list of words among the big one's, the codes by rfl (a long code is dear to decide), the others decided -/
theorem chunk_pn {big ws : List Cond} (pc pn : List Nat) (hc : ws.filter k2_isCode = pc.filterMap (fun i => big[i]?)) (hn : ws.filter (fun w => !k2_isCode w) = pn.filterMap (fun i => big[i]?)) : ∀ w ∈ ws, w ∈ big := by
  intro w hw
  by_cases hk : k2_isCode w = true
  · have h1 : w ∈ ws.filter k2_isCode := List.mem_filter.mpr ⟨hw, hk⟩
    rw [hc] at h1
    obtain ⟨i, -, hi⟩ := List.mem_filterMap.mp h1
    exact List.mem_of_getElem? hi
  · have h1 : w ∈ ws.filter (fun w => !k2_isCode w) := List.mem_filter.mpr ⟨hw, by simpa using hk⟩
    rw [hn] at h1
    obtain ⟨i, -, hi⟩ := List.mem_filterMap.mp h1
    exact List.mem_of_getElem? hi
/-- a list of words, piece by piece, among the big one's -/
theorem chunk_in {big ws : List Cond} (n : Nat) (hn : 0 < n) (N : Nat) (hl : ws.length ≤ n * N) (h : ∀ k : Nat, k < N → ∀ w ∈ (ws.drop (n * k)).take n, w ∈ big) (hg : ws.all goodWord = true) : GoodIn big ws := by
  refine goodIn_sub (fun w hw => ?_) hg
  obtain ⟨i, hi⟩ := List.getElem?_of_mem hw
  have hlt : i < ws.length := (List.getElem?_eq_some_iff.mp hi).1
  have hk : i / n < N := Nat.div_lt_of_lt_mul (Nat.lt_of_lt_of_le hlt hl)
  have h2 : ((ws.drop (n * (i / n))).take n)[i % n]? = some w := by
    rw [List.getElem?_take, if_pos (Nat.mod_lt _ hn), List.getElem?_drop, Nat.div_add_mod]
    exact hi
  exact h _ hk w (List.mem_of_getElem? h2)
set_option maxRecDepth 20000 in
theorem ggL_acts_L_tick_0 : ∀ w ∈ (wsL_tick.drop (40 * 0)).take 40, w ∈ wsL_acts := chunk_pn [393, 174, 184, 390, 398] [394, 171, 172, 173, 9, 11, 175, 176, 177, 178, 179, 180, 181, 182, 183, 387, 388, 389, 395, 396, 397, 399, 400, 401, 402, 403, 404, 405, 406, 407, 12, 408, 230, 231, 94] rfl (by decide +kernel)
set_option maxRecDepth 20000 in
theorem ggL_acts_L_tick_1 : ∀ w ∈ (wsL_tick.drop (40 * 1)).take 40, w ∈ wsL_acts := chunk_pn [232, 146, 33, 237, 241, 314, 81] [233, 144, 145, 24, 90, 32, 34, 234, 235, 236, 238, 239, 240, 99, 100, 101, 98, 242, 243, 311, 312, 313, 204, 315, 205, 79, 80, 16, 20, 82, 18, 83, 84] rfl (by decide +kernel)
set_option maxRecDepth 20000 in
theorem ggL_acts_L_tick_2 : ∀ w ∈ (wsL_tick.drop (40 * 2)).take 40, w ∈ wsL_acts := chunk_pn [89, 95, 108, 119, 126] [85, 86, 87, 88, 31, 26, 91, 92, 93, 96, 97, 102, 103, 104, 105, 106, 107, 109, 110, 111, 112, 113, 114, 115, 116, 117, 118, 120, 121, 122, 123, 124, 125, 127, 128] rfl (by decide +kernel)
set_option maxRecDepth 20000 in
theorem ggL_acts_L_tick_3 : ∀ w ∈ (wsL_tick.drop (40 * 3)).take 40, w ∈ wsL_acts := chunk_pn [319, 209, 214, 218, 25, 222, 226] [129, 130, 131, 132, 133, 134, 316, 317, 318, 320, 207, 208, 210, 211, 212, 213, 215, 216, 217, 21, 22, 23, 219, 220, 221, 223, 224, 225, 227, 19, 228, 229, 244] rfl (by decide +kernel)
set_option maxRecDepth 20000 in
theorem ggL_acts_L_tick_4 : ∀ w ∈ (wsL_tick.drop (40 * 4)).take 40, w ∈ wsL_acts := chunk_pn [247, 253, 257, 261, 30, 267, 272, 276, 17] [245, 246, 248, 249, 250, 251, 252, 254, 255, 256, 258, 259, 260, 262, 263, 28, 29, 264, 265, 266, 268, 269, 270, 271, 273, 274, 275, 277, 278, 14, 15] rfl (by decide +kernel)
set_option maxRecDepth 20000 in
theorem ggL_acts_L_tick_5 : ∀ w ∈ (wsL_tick.drop (40 * 5)).take 40, w ∈ wsL_acts := chunk_pn [282, 286, 290, 297, 159] [279, 280, 281, 283, 284, 285, 287, 288, 289, 291, 292, 293, 294, 295, 296, 298, 299, 300, 301, 302, 303, 304, 305, 306, 307, 60, 308, 309, 310, 156, 157, 158, 160, 6, 7] rfl (by decide +kernel)
set_option maxRecDepth 20000 in
theorem ggL_acts_L_tick_6 : ∀ w ∈ (wsL_tick.drop (40 * 6)).take 40, w ∈ wsL_acts := chunk_pn [10, 324, 71, 77, 412, 417] [8, 13, 27, 321, 322, 323, 325, 67, 68, 69, 70, 72, 73, 74, 75, 76, 78, 409, 410, 411, 413, 414, 415, 416, 418, 419, 420, 421, 422, 423, 424, 425, 426, 427] rfl (by decide +kernel)
set_option maxRecDepth 20000 in
theorem ggL_acts_L_tick_7 : ∀ w ∈ (wsL_tick.drop (40 * 7)).take 40, w ∈ wsL_acts := chunk_pn [] [428, 429, 430, 431, 432, 433, 434, 435, 441, 442, 443, 444, 445, 446, 447, 448, 436, 437, 438, 449, 450, 451, 452, 453, 454, 455, 456, 457, 458, 439, 440, 459, 460, 461, 462, 463] rfl (by decide +kernel)
set_option maxRecDepth 20000 in
theorem ggL_acts_L_tick : GoodIn wsL_acts wsL_tick := chunk_in 40 (by decide) 8 (by decide +kernel) (fun k hk => by
  rcases (show k = 0 ∨ k = 1 ∨ k = 2 ∨ k = 3 ∨ k = 4 ∨ k = 5 ∨ k = 6 ∨ k = 7 by omega) with rfl | rfl | rfl | rfl | rfl | rfl | rfl | rfl
  · exact ggL_acts_L_tick_0
  · exact ggL_acts_L_tick_1
  · exact ggL_acts_L_tick_2
  · exact ggL_acts_L_tick_3
  · exact ggL_acts_L_tick_4
  · exact ggL_acts_L_tick_5
  · exact ggL_acts_L_tick_6
  · exact ggL_acts_L_tick_7) (by decide +kernel)
set_option maxRecDepth 20000 in
theorem gL_acts_L_tick : GoodIn wsL_acts (va_wsS RL 115 yL_tick wsL_tick) := goodIn_app (goodIn_of _ (by decide +kernel)) ggL_acts_L_tick
