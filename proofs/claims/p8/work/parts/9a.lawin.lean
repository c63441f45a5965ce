/-! THE LAW's words are among the tables' -/
def tbp (j : Nat) : List Cond := match j with
  | 0 => k2_sels lw_privs
  | 1 => tables_1_1
  | 2 => tables_1_2
  | 3 => tables_1_3
  | 4 => tables_1_4
  | 5 => tables_1_5
  | 6 => tables_1_6
  | 7 => tables_1_7
  | 8 => tables_1_8
  | _ => []
theorem tbp_in (j : Nat) : ∀ w ∈ tbp j, w ∈ lw_tbl := by
  intro w hw
  unfold lw_tbl tables_1
  unfold tbp at hw
  split at hw
  · exact List.mem_append_left _ hw
  · exact List.mem_append_right _ (List.mem_append_left _ hw)
  · exact List.mem_append_right _ (List.mem_append_right _ (List.mem_append_left _ hw))
  · exact List.mem_append_right _ (List.mem_append_right _ (List.mem_append_right _ (List.mem_append_left _ hw)))
  · exact List.mem_append_right _ (List.mem_append_right _ (List.mem_append_right _ (List.mem_append_right _ (List.mem_append_left _ hw))))
  · exact List.mem_append_right _ (List.mem_append_right _ (List.mem_append_right _ (List.mem_append_right _ (List.mem_append_right _ (List.mem_append_left _ hw)))))
  · exact List.mem_append_right _ (List.mem_append_right _ (List.mem_append_right _ (List.mem_append_right _ (List.mem_append_right _ (List.mem_append_right _ (List.mem_append_left _ hw))))))
  · exact List.mem_append_right _ (List.mem_append_right _ (List.mem_append_right _ (List.mem_append_right _ (List.mem_append_right _ (List.mem_append_right _ (List.mem_append_right _ (List.mem_append_left _ hw)))))))
  · exact List.mem_append_right _ (List.mem_append_right _ (List.mem_append_right _ (List.mem_append_right _ (List.mem_append_right _ (List.mem_append_right _ (List.mem_append_right _ (List.mem_append_right _ (hw))))))))
  · exact absurd hw List.not_mem_nil
theorem li_of (ws : List Cond) (js : List (Nat × Nat)) (h : ws.map some = js.map (fun q => (tbp q.1)[q.2]?)) : ∀ w ∈ ws, w ∈ lw_tbl := by
  intro w hw
  have h2 : some w ∈ ws.map some := List.mem_map.mpr ⟨w, hw, rfl⟩
  rw [h] at h2
  obtain ⟨q, _, h3⟩ := List.mem_map.mp h2
  exact tbp_in _ w (List.mem_of_getElem? h3)
set_option maxRecDepth 100000 in
theorem wsL_law_r1_in : ∀ w ∈ wsL_law_r1, w ∈ lw_tbl := li_of _ [(1, 19), (1, 20), (1, 1), (5, 148), (5, 149), (1, 14), (8, 82), (1, 21), (1, 22), (1, 23), (1, 24), (1, 25), (1, 26), (1, 27), (2, 221), (1, 29), (1, 2), (2, 222), (1, 49), (1, 50), (1, 4), (2, 223), (1, 71), (1, 72)] rfl
set_option maxRecDepth 100000 in
theorem wsL_law_r2_in : ∀ w ∈ wsL_law_r2, w ∈ lw_tbl := li_of _ [(1, 5), (1, 73), (1, 74), (1, 6), (2, 224), (2, 45), (2, 46), (1, 11), (2, 225), (2, 179), (2, 226), (2, 227), (2, 228), (2, 181), (1, 13), (1, 30), (1, 31), (1, 32), (1, 33), (1, 38), (1, 34), (1, 35), (1, 3), (1, 36)] rfl
set_option maxRecDepth 100000 in
theorem wsL_law_r3_in : ∀ w ∈ wsL_law_r3, w ∈ lw_tbl := li_of _ [(1, 48), (1, 37), (1, 52), (1, 53), (1, 54), (1, 70), (1, 57), (1, 58), (1, 55), (1, 59), (1, 60), (1, 56), (1, 75), (1, 76), (1, 77), (1, 78), (1, 79), (1, 80), (1, 7), (1, 189), (1, 192), (1, 143), (1, 144), (1, 9)] rfl
set_option maxRecDepth 100000 in
theorem wsL_law_r4_in : ∀ w ∈ wsL_law_r4, w ∈ lw_tbl := li_of _ [(1, 193), (1, 170), (1, 86), (1, 8), (1, 194), (1, 195), (1, 196), (1, 197), (1, 198), (1, 199), (1, 120), (1, 177), (1, 178), (1, 179), (1, 180), (1, 124), (1, 181), (1, 182), (1, 183), (1, 184), (1, 128), (1, 130), (1, 82), (1, 83)] rfl
set_option maxRecDepth 100000 in
theorem wsL_law_r5_in : ∀ w ∈ wsL_law_r5, w ∈ lw_tbl := li_of _ [(1, 84), (1, 85), (1, 119), (1, 123), (1, 127), (1, 129), (1, 88), (1, 89), (1, 90), (1, 146), (1, 147), (1, 148), (1, 149), (1, 151), (1, 152), (1, 153), (1, 154), (1, 155), (1, 156), (1, 172), (1, 173), (1, 174), (1, 175), (1, 176)] rfl
set_option maxRecDepth 100000 in
theorem wsL_law_r6_in : ∀ w ∈ wsL_law_r6, w ∈ lw_tbl := li_of _ [(1, 91), (1, 92), (1, 93), (1, 94), (1, 95), (1, 96), (1, 97), (1, 98), (1, 99), (1, 185), (1, 186), (1, 187), (1, 188), (1, 219), (1, 220), (1, 221), (1, 222), (1, 223), (1, 224), (1, 10), (2, 2), (1, 234), (2, 4), (2, 7)] rfl
set_option maxRecDepth 100000 in
theorem wsL_law_r7_in : ∀ w ∈ wsL_law_r7, w ∈ lw_tbl := li_of _ [(2, 10), (2, 11), (2, 12), (2, 13), (1, 236), (2, 14), (2, 15), (1, 238), (2, 16), (2, 17), (2, 9), (2, 0), (1, 226), (1, 227), (1, 228), (1, 233), (1, 229), (1, 235), (2, 47), (2, 48), (2, 49), (2, 50), (2, 115), (2, 117)] rfl
set_option maxRecDepth 100000 in
theorem wsL_law_r8_in : ∀ w ∈ wsL_law_r8, w ∈ lw_tbl := li_of _ [(2, 51), (2, 119), (2, 53), (2, 124), (2, 125), (2, 126), (2, 127), (2, 128), (2, 55), (2, 129), (2, 130), (2, 131), (2, 132), (2, 133), (2, 57), (2, 134), (2, 135), (2, 136), (2, 137), (2, 121), (2, 122), (2, 1), (2, 123), (2, 59)] rfl
set_option maxRecDepth 100000 in
theorem wsL_law_r9_in : ∀ w ∈ wsL_law_r9, w ∈ lw_tbl := li_of _ [(1, 12), (2, 52), (2, 61), (2, 62), (2, 63), (2, 64), (2, 70), (2, 66), (2, 72), (2, 68), (2, 74), (2, 76), (2, 78), (2, 80), (2, 82), (2, 84), (2, 86), (2, 88), (2, 90), (2, 65), (2, 183), (2, 184), (2, 185), (2, 186)] rfl
set_option maxRecDepth 100000 in
theorem wsL_law_r10_in : ∀ w ∈ wsL_law_r10, w ∈ lw_tbl := li_of _ [(2, 192), (2, 194), (2, 196), (2, 188), (2, 198), (2, 200), (2, 190), (2, 202), (2, 204), (2, 187), (5, 150), (5, 151), (5, 152), (5, 153), (5, 154), (5, 155), (5, 156), (6, 10), (5, 157), (5, 158), (5, 159), (5, 160), (6, 11), (5, 161)] rfl
set_option maxRecDepth 100000 in
theorem wsL_law_r11_in : ∀ w ∈ wsL_law_r11, w ∈ lw_tbl := li_of _ [(6, 12), (5, 162), (5, 163), (5, 164), (5, 165), (6, 13), (5, 166), (6, 14), (5, 167), (5, 168), (6, 15), (5, 169), (5, 170), (5, 171), (5, 172), (5, 173), (5, 174), (5, 175), (5, 176), (6, 16), (5, 177), (5, 178), (5, 179), (5, 180)] rfl
set_option maxRecDepth 100000 in
theorem wsL_law_r12_in : ∀ w ∈ wsL_law_r12, w ∈ lw_tbl := li_of _ [(5, 181), (5, 182), (5, 183), (5, 184), (6, 17), (6, 18), (6, 19), (6, 21), (6, 22), (6, 23), (6, 24), (6, 25), (6, 27), (7, 14), (6, 28), (6, 29), (6, 30), (6, 31), (6, 32), (6, 33), (6, 35), (6, 36), (6, 37), (6, 38)] rfl
set_option maxRecDepth 100000 in
theorem wsL_law_r13_in : ∀ w ∈ wsL_law_r13, w ∈ lw_tbl := li_of _ [(6, 42), (6, 43), (6, 44), (6, 45), (6, 46), (6, 47), (6, 48), (6, 49), (6, 50), (6, 51), (6, 52), (6, 53), (6, 54), (6, 55), (6, 56), (6, 57), (5, 185), (6, 58), (6, 59), (6, 60), (6, 61), (5, 186), (5, 187), (5, 188)] rfl
set_option maxRecDepth 100000 in
theorem wsL_law_r14_in : ∀ w ∈ wsL_law_r14, w ∈ lw_tbl := li_of _ [(5, 189), (5, 190), (5, 191), (5, 192), (5, 193), (5, 194), (5, 195), (5, 196), (5, 197), (5, 198), (5, 199), (5, 200), (5, 201), (5, 202), (5, 203), (5, 204), (5, 205), (5, 206), (5, 207), (5, 208), (5, 209), (5, 210), (5, 211), (5, 212)] rfl
set_option maxRecDepth 100000 in
theorem wsL_law_r15_in : ∀ w ∈ wsL_law_r15, w ∈ lw_tbl := li_of _ [(5, 213), (5, 214), (5, 215), (5, 216), (5, 217), (5, 218), (5, 219), (5, 220), (5, 221), (5, 222), (5, 223), (5, 224), (5, 225), (5, 226), (5, 227), (5, 228), (5, 229), (5, 230), (5, 231), (5, 232), (5, 233), (5, 234), (5, 235), (5, 236)] rfl
set_option maxRecDepth 100000 in
theorem wsL_law_r16_in : ∀ w ∈ wsL_law_r16, w ∈ lw_tbl := li_of _ [(5, 237), (5, 238), (5, 239), (6, 0), (6, 1), (6, 2), (6, 3), (6, 4), (6, 5), (6, 6), (6, 7), (6, 8), (6, 9), (6, 62), (6, 63), (6, 64), (6, 65), (6, 66), (6, 68), (6, 69), (6, 70), (6, 71), (6, 72), (6, 73)] rfl
set_option maxRecDepth 100000 in
theorem wsL_law_r17_in : ∀ w ∈ wsL_law_r17, w ∈ lw_tbl := li_of _ [(6, 74), (6, 75), (6, 76), (6, 77), (6, 78), (6, 79), (6, 80), (6, 81), (6, 82), (6, 83), (6, 84), (6, 85), (6, 86), (6, 87), (6, 89), (6, 90), (3, 6), (3, 7), (3, 8), (3, 9), (1, 40), (3, 10), (3, 11), (3, 12)] rfl
set_option maxRecDepth 100000 in
theorem wsL_law_r18_in : ∀ w ∈ wsL_law_r18, w ∈ lw_tbl := li_of _ [(3, 13), (3, 14), (3, 15), (3, 16), (3, 17), (3, 18), (3, 19), (3, 20), (7, 15), (7, 16), (7, 17), (7, 18), (7, 26), (7, 27), (7, 19), (7, 20), (7, 21), (7, 22), (7, 23), (7, 24), (7, 25), (3, 21), (3, 22), (3, 23)] rfl
set_option maxRecDepth 100000 in
theorem wsL_law_r19_in : ∀ w ∈ wsL_law_r19, w ∈ lw_tbl := li_of _ [(3, 24), (3, 25), (3, 26), (3, 27), (3, 28), (7, 28), (7, 29), (7, 30), (7, 31), (3, 29), (3, 30), (3, 31), (3, 32), (3, 33), (3, 34), (3, 35), (3, 36), (7, 32), (7, 33), (7, 34), (7, 35), (3, 37), (3, 38), (3, 39)] rfl
set_option maxRecDepth 100000 in
theorem wsL_law_r20_in : ∀ w ∈ wsL_law_r20, w ∈ lw_tbl := li_of _ [(3, 40), (3, 41), (3, 42), (3, 43), (3, 44), (7, 36), (7, 37), (7, 38), (7, 39), (3, 45), (3, 46), (3, 47), (3, 48), (3, 49), (3, 50), (3, 51), (3, 52), (3, 53), (3, 54), (3, 55), (3, 56), (3, 57), (3, 58), (3, 59)] rfl
set_option maxRecDepth 100000 in
theorem wsL_law_r21_in : ∀ w ∈ wsL_law_r21, w ∈ lw_tbl := li_of _ [(3, 60), (3, 61), (3, 62), (3, 63), (3, 64), (3, 65), (3, 66), (3, 67), (3, 69), (0, 0), (3, 70), (7, 40), (7, 41), (7, 42), (7, 43), (7, 44), (3, 71), (3, 72), (3, 73), (3, 74), (3, 75), (3, 76), (3, 77), (3, 78)] rfl
set_option maxRecDepth 100000 in
theorem wsL_law_r22_in : ∀ w ∈ wsL_law_r22, w ∈ lw_tbl := li_of _ [(7, 45), (7, 46), (7, 47), (7, 48), (3, 79), (3, 80), (3, 81), (3, 82), (3, 83), (3, 84), (3, 85), (3, 86), (3, 87), (3, 89), (0, 1), (3, 90), (3, 91), (3, 93), (3, 94), (3, 95), (3, 105), (3, 106), (3, 107), (1, 15)] rfl
set_option maxRecDepth 100000 in
theorem wsL_law_r23_in : ∀ w ∈ wsL_law_r23, w ∈ lw_tbl := li_of _ [(3, 108), (8, 83), (3, 109), (3, 110), (3, 111), (3, 112), (3, 113), (8, 84), (3, 115), (3, 116), (3, 117), (3, 118), (3, 119), (3, 120), (3, 121), (3, 122), (3, 123), (3, 124), (1, 16), (3, 125), (3, 126), (3, 127), (3, 128), (3, 129)] rfl
set_option maxRecDepth 100000 in
theorem wsL_law_r24_in : ∀ w ∈ wsL_law_r24, w ∈ lw_tbl := li_of _ [(3, 131), (3, 132), (1, 17), (3, 133), (3, 134), (3, 135), (1, 18), (3, 136), (3, 137), (3, 138), (3, 139), (3, 140), (3, 141), (3, 142), (3, 143), (3, 144), (3, 145), (3, 146), (3, 147), (3, 149), (3, 151), (3, 153), (3, 154), (3, 155)] rfl
set_option maxRecDepth 100000 in
theorem wsL_law_r25_in : ∀ w ∈ wsL_law_r25, w ∈ lw_tbl := li_of _ [(3, 156), (3, 157), (3, 158), (3, 160), (0, 2), (3, 161), (3, 162), (3, 164), (3, 165), (3, 166), (3, 167), (3, 168), (3, 169), (3, 170), (3, 171), (3, 172), (3, 173), (3, 174), (3, 175), (1, 42), (3, 176), (3, 177), (3, 178), (7, 49)] rfl
set_option maxRecDepth 100000 in
theorem wsL_law_r26_in : ∀ w ∈ wsL_law_r26, w ∈ lw_tbl := li_of _ [(7, 50), (7, 51), (7, 52), (6, 67), (7, 53), (7, 55), (0, 17), (7, 56), (7, 57), (7, 59), (0, 18), (7, 60), (7, 61), (7, 62), (7, 63), (7, 64), (7, 65), (7, 66), (7, 67), (7, 68), (7, 69), (7, 71), (0, 19), (7, 72)] rfl
set_option maxRecDepth 100000 in
theorem wsL_law_r27_in : ∀ w ∈ wsL_law_r27, w ∈ lw_tbl := li_of _ [(7, 73), (7, 74), (7, 75), (7, 76), (7, 78), (0, 20), (7, 79), (7, 80), (7, 82), (0, 21), (7, 83), (7, 84), (7, 86), (0, 22), (7, 87), (7, 88), (7, 90), (0, 23), (7, 91), (3, 179), (3, 180), (3, 181), (3, 182), (2, 5)] rfl
set_option maxRecDepth 100000 in
theorem wsL_law_r28_in : ∀ w ∈ wsL_law_r28, w ∈ lw_tbl := li_of _ [(3, 183), (3, 184), (3, 185), (3, 186), (1, 39), (3, 187), (3, 188), (3, 189), (3, 190), (3, 191), (3, 192), (3, 193), (3, 194), (3, 195), (3, 197), (0, 3), (3, 198), (3, 199), (3, 201), (3, 202), (3, 203), (3, 204), (3, 205), (3, 207)] rfl
set_option maxRecDepth 100000 in
theorem wsL_law_r29_in : ∀ w ∈ wsL_law_r29, w ∈ lw_tbl := li_of _ [(0, 4), (3, 208), (3, 209), (3, 210), (3, 211), (3, 212), (1, 190), (3, 213), (3, 214), (3, 215), (3, 216), (3, 217), (3, 218), (3, 219), (3, 220), (3, 221), (3, 222), (3, 223), (3, 224), (3, 225), (3, 226), (3, 227), (3, 228), (3, 229)] rfl
set_option maxRecDepth 100000 in
theorem wsL_law_r30_in : ∀ w ∈ wsL_law_r30, w ∈ lw_tbl := li_of _ [(3, 230), (3, 231), (3, 232), (3, 233), (3, 234), (3, 235), (3, 236), (3, 237), (3, 239), (0, 5), (4, 0), (4, 1), (4, 2), (4, 3), (4, 4), (4, 5), (4, 7), (0, 6), (4, 8), (4, 13), (4, 9), (4, 11), (0, 7), (4, 12)] rfl
set_option maxRecDepth 100000 in
theorem wsL_law_r31_in : ∀ w ∈ wsL_law_r31, w ∈ lw_tbl := li_of _ [(4, 14), (4, 15), (4, 16), (4, 17), (4, 18), (4, 19), (4, 20), (4, 21), (4, 22), (4, 23), (4, 24), (4, 25), (4, 26), (4, 27), (4, 28), (4, 29), (4, 30), (4, 31), (4, 32), (4, 33), (4, 34), (4, 35), (4, 36), (4, 37)] rfl
set_option maxRecDepth 100000 in
theorem wsL_law_r32_in : ∀ w ∈ wsL_law_r32, w ∈ lw_tbl := li_of _ [(4, 38), (4, 39), (4, 40), (4, 41), (4, 42), (4, 43), (4, 44), (4, 45), (4, 46), (4, 47), (4, 48), (4, 49), (4, 50), (4, 51), (4, 52), (4, 53), (4, 54), (4, 55), (4, 56), (4, 57), (4, 58), (7, 92), (7, 93), (7, 94)] rfl
set_option maxRecDepth 100000 in
theorem wsL_law_r33_in : ∀ w ∈ wsL_law_r33, w ∈ lw_tbl := li_of _ [(7, 95), (6, 41), (7, 96), (7, 98), (0, 24), (7, 99), (7, 100), (7, 101), (7, 102), (7, 103), (7, 104), (7, 105), (7, 106), (7, 107), (7, 108), (7, 109), (7, 111), (0, 25), (7, 112), (7, 113), (7, 115), (0, 26), (7, 116), (7, 117)] rfl
set_option maxRecDepth 100000 in
theorem wsL_law_r34_in : ∀ w ∈ wsL_law_r34, w ∈ lw_tbl := li_of _ [(7, 118), (7, 119), (7, 120), (7, 122), (0, 27), (7, 123), (7, 124), (7, 125), (7, 126), (7, 127), (7, 129), (0, 28), (7, 130), (7, 131), (7, 133), (0, 29), (7, 134), (7, 135), (7, 137), (0, 30), (7, 138), (7, 139), (7, 140), (7, 141)] rfl
set_option maxRecDepth 100000 in
theorem wsL_law_r35_in : ∀ w ∈ wsL_law_r35, w ∈ lw_tbl := li_of _ [(7, 142), (7, 144), (0, 31), (7, 145), (7, 146), (7, 148), (0, 32), (7, 149), (7, 150), (7, 152), (0, 33), (7, 153), (7, 154), (7, 156), (0, 34), (7, 157), (7, 158), (7, 160), (0, 35), (7, 161), (7, 162), (7, 164), (0, 36), (7, 165)] rfl
set_option maxRecDepth 100000 in
theorem wsL_law_r36_in : ∀ w ∈ wsL_law_r36, w ∈ lw_tbl := li_of _ [(7, 166), (7, 167), (7, 168), (4, 59), (4, 60), (4, 61), (4, 62), (4, 63), (4, 64), (4, 65), (4, 66), (4, 67), (4, 68), (4, 69), (4, 70), (4, 71), (4, 73), (4, 72), (4, 74), (4, 75), (4, 76), (4, 77), (4, 78), (4, 79)] rfl
set_option maxRecDepth 100000 in
theorem wsL_law_r37_in : ∀ w ∈ wsL_law_r37, w ∈ lw_tbl := li_of _ [(4, 80), (4, 81), (4, 82), (4, 83), (4, 84), (4, 85), (4, 86), (4, 87), (4, 88), (4, 89), (4, 90), (4, 91), (4, 92), (4, 93), (4, 94), (4, 95), (4, 96), (4, 98), (0, 8), (4, 99), (4, 100), (4, 102), (4, 104), (0, 9)] rfl
set_option maxRecDepth 100000 in
theorem wsL_law_r38_in : ∀ w ∈ wsL_law_r38, w ∈ lw_tbl := li_of _ [(4, 105), (4, 106), (4, 107), (4, 108), (4, 109), (1, 125), (1, 121), (4, 110), (4, 111), (4, 112), (4, 113), (4, 114), (4, 115), (4, 116), (4, 117), (4, 118), (4, 119), (4, 120), (4, 121), (4, 122), (4, 123), (4, 124), (4, 125), (4, 126)] rfl
set_option maxRecDepth 100000 in
theorem wsL_law_r39_in : ∀ w ∈ wsL_law_r39, w ∈ lw_tbl := li_of _ [(4, 127), (7, 169), (7, 170), (7, 171), (7, 172), (7, 173), (7, 175), (0, 37), (7, 176), (7, 177), (7, 179), (0, 38), (7, 180), (7, 181), (7, 183), (0, 39), (7, 184), (7, 185), (7, 187), (0, 40), (7, 188), (4, 128), (4, 129), (4, 130)] rfl
set_option maxRecDepth 100000 in
theorem wsL_law_r40_in : ∀ w ∈ wsL_law_r40, w ∈ lw_tbl := li_of _ [(4, 131), (4, 132), (4, 133), (4, 134), (4, 135), (4, 136), (4, 137), (4, 138), (4, 139), (4, 140), (4, 141), (4, 142), (4, 143), (4, 144), (4, 145), (4, 146), (4, 147), (4, 148), (4, 149), (4, 150), (4, 151), (4, 152), (4, 153), (4, 154)] rfl
set_option maxRecDepth 100000 in
theorem wsL_law_r41_in : ∀ w ∈ wsL_law_r41, w ∈ lw_tbl := li_of _ [(4, 155), (4, 156), (4, 157), (4, 158), (4, 159), (4, 160), (4, 161), (4, 162), (4, 163), (1, 131), (4, 164), (4, 165), (7, 189), (7, 190), (7, 191), (7, 192), (7, 193), (7, 195), (0, 41), (7, 196), (7, 197), (7, 198), (7, 199), (7, 200)] rfl
set_option maxRecDepth 100000 in
theorem wsL_law_r42_in : ∀ w ∈ wsL_law_r42, w ∈ lw_tbl := li_of _ [(7, 202), (0, 42), (7, 203), (7, 204), (7, 206), (0, 43), (7, 207), (7, 208), (7, 210), (0, 44), (7, 211), (7, 212), (7, 214), (0, 45), (7, 215), (4, 166), (4, 167), (4, 168), (4, 169), (4, 170), (4, 171), (4, 172), (4, 173), (4, 174)] rfl
set_option maxRecDepth 100000 in
theorem wsL_law_r43_in : ∀ w ∈ wsL_law_r43, w ∈ lw_tbl := li_of _ [(4, 175), (4, 176), (7, 216), (7, 217), (7, 218), (7, 219), (6, 20), (7, 220), (4, 177), (4, 178), (4, 179), (4, 180), (4, 181), (4, 182), (4, 183), (4, 184), (2, 203), (2, 193), (2, 205), (2, 197), (2, 201), (4, 185), (4, 186), (4, 187)] rfl
set_option maxRecDepth 100000 in
theorem wsL_law_r44_in : ∀ w ∈ wsL_law_r44, w ∈ lw_tbl := li_of _ [(4, 188), (2, 199), (2, 195), (4, 189), (7, 221), (7, 222), (7, 223), (7, 224), (7, 225), (7, 227), (0, 46), (7, 228), (4, 190), (4, 191), (4, 192), (4, 193), (2, 116), (4, 194), (4, 195), (4, 196), (4, 197), (1, 41), (4, 198), (4, 199)] rfl
set_option maxRecDepth 100000 in
theorem wsL_law_r45_in : ∀ w ∈ wsL_law_r45, w ∈ lw_tbl := li_of _ [(4, 200), (4, 201), (4, 202), (4, 203), (4, 204), (4, 205), (4, 206), (4, 207), (4, 208), (4, 209), (4, 210), (4, 211), (2, 71), (2, 73), (4, 212), (4, 213), (4, 214), (4, 215), (4, 217), (0, 10), (4, 218), (2, 77), (2, 85), (7, 229)] rfl
set_option maxRecDepth 100000 in
theorem wsL_law_r46_in : ∀ w ∈ wsL_law_r46, w ∈ lw_tbl := li_of _ [(7, 230), (7, 231), (7, 232), (6, 26), (7, 233), (7, 235), (0, 47), (7, 236), (7, 237), (7, 239), (0, 48), (8, 0), (6, 34), (4, 219), (4, 220), (4, 221), (4, 222), (4, 223), (4, 224), (4, 225), (4, 226), (8, 1), (8, 2), (8, 3)] rfl
set_option maxRecDepth 100000 in
theorem wsL_law_r47_in : ∀ w ∈ wsL_law_r47, w ∈ lw_tbl := li_of _ [(8, 4), (4, 227), (4, 228), (4, 229), (4, 230), (2, 120), (4, 231), (4, 232), (4, 233), (4, 234), (1, 132), (2, 75), (1, 126), (1, 122), (4, 235), (4, 237), (0, 11), (4, 238), (4, 239), (5, 0), (5, 1), (5, 2), (5, 4), (0, 12)] rfl
set_option maxRecDepth 100000 in
theorem wsL_law_r48_in : ∀ w ∈ wsL_law_r48, w ∈ lw_tbl := li_of _ [(5, 5), (5, 6), (5, 7), (5, 9), (0, 13), (5, 10), (5, 11), (5, 12), (5, 13), (5, 14), (5, 15), (5, 16), (5, 17), (5, 18), (8, 5), (8, 6), (8, 7), (8, 8), (8, 9), (8, 11), (0, 49), (8, 12), (6, 88), (8, 13)] rfl
set_option maxRecDepth 100000 in
theorem wsL_law_r49_in : ∀ w ∈ wsL_law_r49, w ∈ lw_tbl := li_of _ [(8, 15), (0, 50), (8, 16), (8, 17), (8, 19), (0, 51), (8, 20), (5, 19), (5, 20), (5, 21), (5, 22), (5, 23), (5, 24), (5, 25), (5, 26), (5, 27), (5, 28), (5, 29), (5, 30), (2, 6), (5, 31), (5, 32), (5, 33), (5, 34)] rfl
set_option maxRecDepth 100000 in
theorem wsL_law_r50_in : ∀ w ∈ wsL_law_r50, w ∈ lw_tbl := li_of _ [(5, 35), (2, 79), (2, 81), (5, 36), (5, 37), (5, 39), (0, 14), (5, 40), (2, 8), (5, 41), (5, 42), (5, 43), (5, 44), (5, 45), (5, 46), (5, 47), (5, 48), (5, 49), (5, 50), (5, 51), (5, 52), (5, 53), (5, 54), (2, 83)] rfl
set_option maxRecDepth 100000 in
theorem wsL_law_r51_in : ∀ w ∈ wsL_law_r51, w ∈ lw_tbl := li_of _ [(1, 191), (5, 55), (8, 21), (8, 22), (8, 23), (8, 24), (8, 25), (8, 27), (0, 52), (8, 28), (8, 29), (8, 31), (0, 53), (8, 32), (8, 33), (8, 35), (0, 54), (8, 36), (5, 56), (5, 57), (5, 58), (5, 59), (5, 60), (5, 61)] rfl
set_option maxRecDepth 100000 in
theorem wsL_law_r52_in : ∀ w ∈ wsL_law_r52, w ∈ lw_tbl := li_of _ [(5, 62), (5, 63), (2, 89), (2, 91), (2, 87), (8, 37), (8, 38), (8, 39), (8, 40), (5, 64), (5, 65), (5, 66), (5, 67), (5, 68), (5, 69), (5, 70), (5, 71), (5, 72), (5, 73), (5, 74), (5, 75), (5, 76), (5, 78), (0, 15)] rfl
set_option maxRecDepth 100000 in
theorem wsL_law_r53_in : ∀ w ∈ wsL_law_r53, w ∈ lw_tbl := li_of _ [(5, 79), (5, 80), (8, 41), (8, 42), (8, 43), (8, 44), (6, 39), (6, 40), (8, 45), (8, 47), (0, 55), (8, 48), (8, 49), (8, 51), (0, 56), (8, 52), (5, 81), (5, 82), (5, 83), (5, 84), (2, 118), (5, 85), (5, 86), (5, 87)] rfl
set_option maxRecDepth 100000 in
theorem wsL_law_r54_in : ∀ w ∈ wsL_law_r54, w ∈ lw_tbl := li_of _ [(5, 88), (5, 89), (5, 90), (8, 53), (8, 54), (8, 55), (8, 56), (8, 57), (5, 91), (5, 92), (5, 93), (5, 94), (5, 95), (5, 96), (5, 97), (5, 98), (5, 99), (5, 100), (5, 101), (5, 102), (2, 3), (5, 103), (5, 104), (5, 105)] rfl
set_option maxRecDepth 100000 in
theorem wsL_law_r55_in : ∀ w ∈ wsL_law_r55, w ∈ lw_tbl := li_of _ [(5, 106), (5, 108), (0, 16), (5, 109), (8, 58), (8, 59), (8, 60), (8, 61), (8, 62), (8, 64), (0, 57), (8, 65), (8, 66), (8, 68), (0, 58), (8, 69), (5, 110), (5, 111), (5, 112), (5, 113), (5, 114), (5, 115), (5, 116), (5, 117)] rfl
set_option maxRecDepth 100000 in
theorem wsL_law_r56_in : ∀ w ∈ wsL_law_r56, w ∈ lw_tbl := li_of _ [(5, 118), (5, 119), (5, 120), (5, 121), (5, 122), (5, 123), (8, 70), (8, 71), (8, 72), (8, 73), (5, 124), (5, 125), (5, 126), (5, 127), (5, 128), (5, 129), (5, 130), (5, 131), (5, 132), (5, 133), (5, 134), (5, 135), (5, 136), (5, 137)] rfl
set_option maxRecDepth 100000 in
theorem wsL_law_r57_in : ∀ w ∈ wsL_law_r57, w ∈ lw_tbl := li_of _ [(5, 138), (5, 139), (8, 74), (8, 75), (8, 76), (8, 77), (5, 140), (5, 141), (5, 142), (5, 143), (5, 144), (5, 145), (5, 146), (5, 147), (8, 78), (8, 79), (8, 80), (8, 81)] rfl
set_option maxRecDepth 100000 in
theorem wsX110_in : ∀ w ∈ wsX110, w ∈ lw_tbl := li_of (u_ws RX11 TX11 8) [(2, 229), (2, 231), (2, 233), (2, 235), (2, 237), (2, 239), (3, 1), (3, 3)] rfl
set_option maxRecDepth 100000 in
theorem wsX120_in : ∀ w ∈ wsX120, w ∈ lw_tbl := li_of (u_ws RX12 TX12 81) [(6, 91), (6, 93), (6, 95), (6, 97), (6, 99), (6, 101), (6, 103), (6, 105), (6, 107), (6, 109), (6, 111), (6, 113), (6, 115), (6, 117), (6, 119), (6, 121), (6, 123), (6, 125), (6, 127), (6, 129), (6, 131), (6, 133), (6, 135), (6, 137), (6, 139), (6, 141), (6, 143), (6, 145), (6, 147), (6, 149), (6, 151), (6, 153), (6, 155), (6, 157), (6, 159), (6, 161), (6, 163), (6, 165), (6, 167), (6, 169), (6, 171), (6, 173), (6, 175), (6, 177), (6, 179), (6, 181), (6, 183), (6, 185), (6, 187), (6, 189), (6, 191), (6, 193), (6, 195), (6, 197), (6, 199), (6, 201), (6, 203), (6, 205), (6, 207), (6, 209), (6, 211), (6, 213), (6, 215), (6, 217), (6, 219), (6, 221), (6, 223), (6, 225), (6, 227), (6, 229), (6, 231), (6, 233), (6, 235), (6, 237), (6, 239), (7, 1), (7, 3), (7, 5), (7, 7), (7, 9), (7, 11)] rfl
set_option maxRecDepth 100000 in
theorem wsX00_in : ∀ w ∈ wsX00, w ∈ lw_tbl := li_of (u_ws RX0 TX0 2) [(1, 43), (1, 45)] rfl
set_option maxRecDepth 100000 in
theorem wsX90_in : ∀ w ∈ wsX90, w ∈ lw_tbl := li_of (u_ws RX9 TX9 4) [(1, 61), (1, 63), (1, 65), (1, 67)] rfl
set_option maxRecDepth 100000 in
theorem wsX100_in : ∀ w ∈ wsX100, w ∈ lw_tbl := li_of (u_ws RX10 TX10 13) [(2, 18), (2, 20), (2, 22), (2, 24), (2, 26), (2, 28), (2, 30), (2, 32), (2, 34), (2, 36), (2, 38), (2, 40), (2, 42)] rfl
set_option maxRecDepth 100000 in
theorem wsX20_in : ∀ w ∈ wsX20, w ∈ lw_tbl := li_of (u_ws RX2 TX2 9) [(1, 200), (1, 202), (1, 204), (1, 206), (1, 208), (1, 210), (1, 212), (1, 214), (1, 216)] rfl
set_option maxRecDepth 100000 in
theorem wsX40_in : ∀ w ∈ wsX40, w ∈ lw_tbl := li_of (u_ws RX4 TX4 20) [(2, 138), (2, 140), (2, 142), (2, 144), (2, 146), (2, 148), (2, 150), (2, 152), (2, 154), (2, 156), (2, 158), (2, 160), (2, 162), (2, 164), (2, 166), (2, 168), (2, 170), (2, 172), (2, 174), (2, 176)] rfl
set_option maxRecDepth 100000 in
theorem wsX30_in : ∀ w ∈ wsX30, w ∈ lw_tbl := li_of (u_ws RX3 TX3 7) [(2, 206), (2, 208), (2, 210), (2, 212), (2, 214), (2, 216), (2, 218)] rfl
set_option maxRecDepth 100000 in
theorem wsX60_in : ∀ w ∈ wsX60, w ∈ lw_tbl := li_of (u_ws RX6 TX6 4) [(1, 133), (1, 135), (1, 137), (1, 139)] rfl
set_option maxRecDepth 100000 in
theorem wsX70_in : ∀ w ∈ wsX70, w ∈ lw_tbl := li_of (u_ws RX7 TX7 6) [(1, 157), (1, 159), (1, 161), (1, 163), (1, 165), (1, 167)] rfl
set_option maxRecDepth 100000 in
theorem wsX10_in : ∀ w ∈ wsX10, w ∈ lw_tbl := li_of (u_ws RX1 TX1 9) [(1, 100), (1, 102), (1, 104), (1, 106), (1, 108), (1, 110), (1, 112), (1, 114), (1, 116)] rfl
set_option maxRecDepth 100000 in
theorem wsX80_in : ∀ w ∈ wsX80, w ∈ lw_tbl := li_of (u_ws RX8 TX8 1) [(1, 230)] rfl
set_option maxRecDepth 100000 in
theorem wsX50_in : ∀ w ∈ wsX50, w ∈ lw_tbl := li_of (u_ws RX5 TX5 11) [(2, 92), (2, 94), (2, 96), (2, 98), (2, 100), (2, 102), (2, 104), (2, 106), (2, 108), (2, 110), (2, 112)] rfl
theorem wsL_law_in : ∀ w ∈ wsL_law, w ∈ lw_tbl := List.forall_mem_append.mpr ⟨List.forall_mem_append.mpr ⟨List.forall_mem_append.mpr ⟨List.forall_mem_append.mpr ⟨List.forall_mem_append.mpr ⟨List.forall_mem_append.mpr ⟨List.forall_mem_append.mpr ⟨List.forall_mem_append.mpr ⟨List.forall_mem_append.mpr ⟨List.forall_mem_append.mpr ⟨List.forall_mem_append.mpr ⟨List.forall_mem_append.mpr ⟨List.forall_mem_append.mpr ⟨List.forall_mem_append.mpr ⟨List.forall_mem_append.mpr ⟨wsL_law_r1_in, List.forall_mem_append.mpr ⟨wsL_law_r2_in, List.forall_mem_append.mpr ⟨wsL_law_r3_in, List.forall_mem_append.mpr ⟨wsL_law_r4_in, List.forall_mem_append.mpr ⟨wsL_law_r5_in, List.forall_mem_append.mpr ⟨wsL_law_r6_in, List.forall_mem_append.mpr ⟨wsL_law_r7_in, List.forall_mem_append.mpr ⟨wsL_law_r8_in, List.forall_mem_append.mpr ⟨wsL_law_r9_in, List.forall_mem_append.mpr ⟨wsL_law_r10_in, List.forall_mem_append.mpr ⟨wsL_law_r11_in, List.forall_mem_append.mpr ⟨wsL_law_r12_in, List.forall_mem_append.mpr ⟨wsL_law_r13_in, List.forall_mem_append.mpr ⟨wsL_law_r14_in, List.forall_mem_append.mpr ⟨wsL_law_r15_in, List.forall_mem_append.mpr ⟨wsL_law_r16_in, List.forall_mem_append.mpr ⟨wsL_law_r17_in, List.forall_mem_append.mpr ⟨wsL_law_r18_in, List.forall_mem_append.mpr ⟨wsL_law_r19_in, List.forall_mem_append.mpr ⟨wsL_law_r20_in, List.forall_mem_append.mpr ⟨wsL_law_r21_in, List.forall_mem_append.mpr ⟨wsL_law_r22_in, List.forall_mem_append.mpr ⟨wsL_law_r23_in, List.forall_mem_append.mpr ⟨wsL_law_r24_in, List.forall_mem_append.mpr ⟨wsL_law_r25_in, List.forall_mem_append.mpr ⟨wsL_law_r26_in, List.forall_mem_append.mpr ⟨wsL_law_r27_in, List.forall_mem_append.mpr ⟨wsL_law_r28_in, List.forall_mem_append.mpr ⟨wsL_law_r29_in, List.forall_mem_append.mpr ⟨wsL_law_r30_in, List.forall_mem_append.mpr ⟨wsL_law_r31_in, List.forall_mem_append.mpr ⟨wsL_law_r32_in, List.forall_mem_append.mpr ⟨wsL_law_r33_in, List.forall_mem_append.mpr ⟨wsL_law_r34_in, List.forall_mem_append.mpr ⟨wsL_law_r35_in, List.forall_mem_append.mpr ⟨wsL_law_r36_in, List.forall_mem_append.mpr ⟨wsL_law_r37_in, List.forall_mem_append.mpr ⟨wsL_law_r38_in, List.forall_mem_append.mpr ⟨wsL_law_r39_in, List.forall_mem_append.mpr ⟨wsL_law_r40_in, List.forall_mem_append.mpr ⟨wsL_law_r41_in, List.forall_mem_append.mpr ⟨wsL_law_r42_in, List.forall_mem_append.mpr ⟨wsL_law_r43_in, List.forall_mem_append.mpr ⟨wsL_law_r44_in, List.forall_mem_append.mpr ⟨wsL_law_r45_in, List.forall_mem_append.mpr ⟨wsL_law_r46_in, List.forall_mem_append.mpr ⟨wsL_law_r47_in, List.forall_mem_append.mpr ⟨wsL_law_r48_in, List.forall_mem_append.mpr ⟨wsL_law_r49_in, List.forall_mem_append.mpr ⟨wsL_law_r50_in, List.forall_mem_append.mpr ⟨wsL_law_r51_in, List.forall_mem_append.mpr ⟨wsL_law_r52_in, List.forall_mem_append.mpr ⟨wsL_law_r53_in, List.forall_mem_append.mpr ⟨wsL_law_r54_in, List.forall_mem_append.mpr ⟨wsL_law_r55_in, List.forall_mem_append.mpr ⟨wsL_law_r56_in, wsL_law_r57_in⟩⟩⟩⟩⟩⟩⟩⟩⟩⟩⟩⟩⟩⟩⟩⟩⟩⟩⟩⟩⟩⟩⟩⟩⟩⟩⟩⟩⟩⟩⟩⟩⟩⟩⟩⟩⟩⟩⟩⟩⟩⟩⟩⟩⟩⟩⟩⟩⟩⟩⟩⟩⟩⟩⟩⟩, wsX110_in⟩, wsX120_in⟩, wsX00_in⟩, wsX90_in⟩, wsX100_in⟩, wsX20_in⟩, wsX40_in⟩, wsX30_in⟩, wsX60_in⟩, wsX70_in⟩, wsX10_in⟩, wsX80_in⟩, wsX50_in⟩, fun _ h => absurd h List.not_mem_nil⟩
