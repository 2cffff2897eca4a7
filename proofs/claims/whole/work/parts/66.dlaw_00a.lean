def sel3 : List Cond := [.selects RJ4 ⟨"java/lang/AbstractStringBuilder", "ensureCapacityInternal", "(I)V"⟩ ⟨"java/lang/AbstractStringBuilder", "ensureCapacityInternal", "(I)V"⟩, .selects RJ4 ⟨"java/lang/AbstractStringBuilder", "newCapacity", "(I)I"⟩ ⟨"java/lang/AbstractStringBuilder", "newCapacity", "(I)I"⟩, .selects RJ4 ⟨"java/lang/AbstractStringBuilder", "inflate", "()V"⟩ ⟨"java/lang/AbstractStringBuilder", "inflate", "()V"⟩]
def tchk : Nat → List Cond
  | 0 => sel3
  | 1 => k2_sels lw_privs
  | 2 => tables_1_1
  | 3 => tables_1_2
  | 4 => tables_1_3
  | 5 => tables_1_4
  | 6 => tables_1_5
  | _ => tables_1_6
def lw_tb2 : List Cond := sel3 ++ lw_tbl
theorem tchk_in : ∀ (k : Nat) (w : Cond), w ∈ tchk k → w ∈ lw_tb2 := by
  intro k w h
  unfold lw_tb2 lw_tbl
  have e : tables_1 = tables_1_1 ++ (tables_1_2 ++ (tables_1_3 ++ (tables_1_4 ++ (tables_1_5 ++ tables_1_6)))) := rfl
  rw [e]
  simp only [List.mem_append]
  unfold tchk at h
  split at h <;> simp [h]
theorem in_pos {ws : List Cond} {ps : List (Nat × Nat)} (h : ws.map some = ps.map (fun q => (tchk q.1)[q.2]?)) : ∀ w ∈ ws, w ∈ lw_tb2 := by
  intro w hw
  have h1 : some w ∈ ws.map some := List.mem_map.mpr ⟨w, hw, rfl⟩
  rw [h] at h1
  obtain ⟨i, _, hi⟩ := List.mem_map.mp h1
  exact tchk_in _ w (List.mem_of_getElem? hi)

theorem lin_1 : ∀ w ∈ wsL_law0_r1, w ∈ lw_tb2 := in_pos (ps := [(2, 27), (2, 28), (2, 1), (6, 27), (6, 28), (2, 13), (2, 64), (7, 47), (2, 29), (2, 30), (2, 31), (2, 32), (2, 33), (2, 34), (2, 35), (2, 36), (2, 2), (2, 205), (2, 65), (2, 66), (2, 3), (2, 206), (2, 90), (2, 91)]) (by decide +kernel)
theorem lin_2 : ∀ w ∈ wsL_law0_r2, w ∈ lw_tb2 := in_pos (ps := [(2, 4), (2, 207), (2, 106), (2, 107), (2, 5), (2, 208), (2, 140), (2, 141), (2, 7), (2, 209), (2, 156), (2, 157), (2, 8), (2, 210), (2, 172), (2, 173), (2, 10), (2, 211), (2, 212), (2, 213), (2, 38), (2, 39), (2, 40), (2, 63)]) (by decide +kernel)
theorem lin_3 : ∀ w ∈ wsL_law0_r3, w ∈ lw_tb2 := in_pos (ps := [(2, 41), (2, 42), (2, 43), (2, 44), (2, 45), (2, 46), (2, 47), (2, 68), (2, 69), (2, 70), (2, 71), (2, 72), (2, 73), (2, 74), (2, 75), (2, 76), (2, 93), (2, 94), (2, 95), (2, 96), (2, 97), (2, 98), (2, 108), (2, 109)]) (by decide +kernel)
theorem lin_4 : ∀ w ∈ wsL_law0_r4, w ∈ lw_tb2 := in_pos (ps := [(2, 110), (2, 111), (2, 115), (2, 116), (2, 117), (2, 118), (2, 119), (2, 120), (2, 121), (2, 122), (2, 112), (2, 113), (2, 6), (2, 114), (2, 142), (2, 143), (2, 144), (2, 145), (2, 146), (2, 147), (2, 148), (2, 159), (2, 160), (2, 161)]) (by decide +kernel)
theorem lin_5 : ∀ w ∈ wsL_law0_r5, w ∈ lw_tb2 := in_pos (ps := [(2, 162), (2, 163), (2, 164), (2, 174), (2, 175), (2, 176), (2, 177), (2, 178), (2, 9), (2, 179), (2, 180), (2, 181), (2, 204), (2, 190), (2, 191), (2, 183), (2, 184), (2, 12), (2, 185), (2, 186), (2, 187), (2, 188), (2, 189), (6, 29)]) (by decide +kernel)
theorem lin_6 : ∀ w ∈ wsL_law0_r6, w ∈ lw_tb2 := in_pos (ps := [(6, 30), (6, 31), (6, 32), (6, 36), (6, 37), (6, 39), (6, 40), (6, 41), (6, 43), (6, 44), (6, 45), (6, 46), (6, 47), (6, 49), (6, 137), (6, 50), (6, 51), (6, 52), (6, 53), (6, 54), (6, 56), (6, 57), (6, 58), (6, 60)]) (by decide +kernel)
theorem lin_7 : ∀ w ∈ wsL_law0_r7, w ∈ lw_tb2 := in_pos (ps := [(6, 62), (6, 63), (6, 64), (6, 33), (3, 14), (3, 15), (2, 0), (3, 16), (3, 17), (3, 18), (3, 19), (3, 20), (3, 21), (3, 22), (3, 23), (3, 24), (3, 25), (3, 26), (2, 17), (2, 237), (2, 238), (2, 239), (3, 0), (3, 1)]) (by decide +kernel)
theorem lin_8 : ∀ w ∈ wsL_law0_r8, w ∈ lw_tb2 := in_pos (ps := [(3, 2), (3, 4), (1, 0), (3, 5), (6, 142), (6, 143), (6, 144), (6, 145), (6, 146), (6, 34), (6, 147), (6, 148), (6, 149), (6, 150), (6, 152), (1, 21), (6, 153), (6, 35), (6, 138), (6, 139), (6, 140), (6, 141), (2, 233), (2, 234)]) (by decide +kernel)
theorem lin_9 : ∀ w ∈ wsL_law0_r9, w ∈ lw_tb2 := in_pos (ps := [(2, 235), (2, 236), (6, 154), (6, 155), (6, 156), (6, 157), (3, 94), (3, 95), (3, 96), (3, 97), (3, 98), (3, 99), (3, 100), (3, 101), (3, 125), (3, 102), (3, 103), (3, 104), (3, 105), (3, 106), (3, 107), (3, 108), (3, 109), (2, 18)]) (by decide +kernel)
theorem lin_10 : ∀ w ∈ wsL_law0_r10, w ∈ lw_tb2 := in_pos (ps := [(3, 126), (3, 127), (3, 128), (3, 129), (3, 130), (3, 131), (3, 132), (3, 133), (3, 134), (3, 136), (1, 2), (3, 137), (3, 138), (3, 140), (1, 3), (3, 141), (3, 143), (3, 144), (6, 158), (6, 159), (6, 160), (6, 161), (6, 166), (6, 38)]) (by decide +kernel)
theorem lin_11 : ∀ w ∈ wsL_law0_r11, w ∈ lw_tb2 := in_pos (ps := [(6, 162), (6, 164), (1, 22), (6, 165), (3, 145), (3, 146), (3, 147), (3, 148), (3, 149), (3, 150), (3, 151), (3, 152), (3, 154), (1, 4), (3, 155), (3, 156), (3, 157), (3, 158), (3, 159), (3, 160), (3, 161), (3, 162), (3, 163), (3, 164)]) (by decide +kernel)
theorem lin_12 : ∀ w ∈ wsL_law0_r12, w ∈ lw_tb2 := in_pos (ps := [(3, 165), (3, 166), (3, 183), (3, 167), (3, 168), (3, 169), (3, 170), (3, 172), (3, 173), (3, 174), (3, 176), (1, 5), (3, 177), (3, 178), (3, 180), (1, 6), (3, 181), (6, 167), (6, 168), (6, 169), (6, 170), (6, 42), (6, 175), (6, 171)]) (by decide +kernel)
