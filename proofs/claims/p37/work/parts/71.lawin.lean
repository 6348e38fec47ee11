theorem zplaceT {zc : List (List Cond)} {big ws : List Cond} (hz : ∀ l ∈ zc, ∀ w ∈ l, w ∈ big) (ps : List (Nat × Nat)) (hp : ws = ps.filterMap (fun p => (zc[p.1]?).bind (fun l => l[p.2]?))) : ∀ w ∈ ws, w ∈ big := by
  intro w hw
  rw [hp] at hw
  obtain ⟨p, -, hp⟩ := List.mem_filterMap.mp hw
  have hp : (zc[p.1]?).bind (fun l => l[p.2]?) = some w := hp
  cases h1 : zc[p.1]? with
  | none => rw [h1] at hp; cases hp
  | some l =>
    rw [h1] at hp
    have hp : l[p.2]? = some w := hp
    exact hz l (List.mem_of_getElem? h1) w (List.mem_of_getElem? hp)
theorem zplace {big ws : List Cond} (ps : List Nat) (hp : ws = ps.filterMap (fun i => big[i]?)) : ∀ w ∈ ws, w ∈ big := by
  intro w hw
  rw [hp] at hw
  obtain ⟨i, -, hi⟩ := List.mem_filterMap.mp hw
  exact List.mem_of_getElem? hi
noncomputable def zcT : List (List Cond) := [k2_sels lw_privs, tables_1_1, tables_1_2, tables_1_3, tables_1_4, tables_1_5, tables_1_6, tables_1_7, tables_1_8, tables_1_9]
theorem zcT_in : ∀ l ∈ zcT, ∀ w ∈ l, w ∈ lw_tbl := by
  intro l hl
  unfold zcT at hl
  rcases List.mem_cons.mp hl with e | hl
  · rw [e]; exact fun w h => List.mem_append_left _ h
  rcases List.mem_cons.mp hl with e | hl
  · rw [e]; exact fun w h => List.mem_append_right _ (List.mem_append_left _ h)
  rcases List.mem_cons.mp hl with e | hl
  · rw [e]; exact fun w h => List.mem_append_right _ (List.mem_append_right _ (List.mem_append_left _ h))
  rcases List.mem_cons.mp hl with e | hl
  · rw [e]; exact fun w h => List.mem_append_right _ (List.mem_append_right _ (List.mem_append_right _ (List.mem_append_left _ h)))
  rcases List.mem_cons.mp hl with e | hl
  · rw [e]; exact fun w h => List.mem_append_right _ (List.mem_append_right _ (List.mem_append_right _ (List.mem_append_right _ (List.mem_append_left _ h))))
  rcases List.mem_cons.mp hl with e | hl
  · rw [e]; exact fun w h => List.mem_append_right _ (List.mem_append_right _ (List.mem_append_right _ (List.mem_append_right _ (List.mem_append_right _ (List.mem_append_left _ h)))))
  rcases List.mem_cons.mp hl with e | hl
  · rw [e]; exact fun w h => List.mem_append_right _ (List.mem_append_right _ (List.mem_append_right _ (List.mem_append_right _ (List.mem_append_right _ (List.mem_append_right _ (List.mem_append_left _ h))))))
  rcases List.mem_cons.mp hl with e | hl
  · rw [e]; exact fun w h => List.mem_append_right _ (List.mem_append_right _ (List.mem_append_right _ (List.mem_append_right _ (List.mem_append_right _ (List.mem_append_right _ (List.mem_append_right _ (List.mem_append_left _ h)))))))
  rcases List.mem_cons.mp hl with e | hl
  · rw [e]; exact fun w h => List.mem_append_right _ (List.mem_append_right _ (List.mem_append_right _ (List.mem_append_right _ (List.mem_append_right _ (List.mem_append_right _ (List.mem_append_right _ (List.mem_append_right _ (List.mem_append_left _ h))))))))
  rcases List.mem_cons.mp hl with e | hl
  · rw [e]; exact fun w h => List.mem_append_right _ (List.mem_append_right _ (List.mem_append_right _ (List.mem_append_right _ (List.mem_append_right _ (List.mem_append_right _ (List.mem_append_right _ (List.mem_append_right _ (List.mem_append_right _ h))))))))
  cases hl
set_option maxRecDepth 20000 in
theorem zin_wsL_law_r1 : ∀ w ∈ wsL_law_r1, w ∈ lw_tbl := zplaceT zcT_in [(1, 19), (1, 20), (1, 1), (6, 13), (6, 14), (1, 17), (1, 21), (1, 22), (1, 23), (1, 24), (1, 25), (1, 26), (1, 117), (3, 20), (1, 118), (3, 22), (1, 27), (1, 28), (1, 2), (3, 23), (1, 134), (1, 135), (1, 8), (3, 24)] rfl
set_option maxRecDepth 20000 in
theorem zin_wsL_law_r2 : ∀ w ∈ wsL_law_r2, w ∈ lw_tbl := zplaceT zcT_in [(3, 25), (3, 26), (3, 27), (2, 72), (2, 73), (1, 12), (3, 28), (3, 29), (2, 93), (1, 239), (1, 11), (3, 30), (2, 95), (2, 96), (1, 13), (3, 31), (2, 153), (2, 154), (1, 14), (3, 32), (2, 217), (2, 218), (1, 15), (3, 33)] rfl
set_option maxRecDepth 20000 in
theorem zin_wsL_law_r3 : ∀ w ∈ wsL_law_r3, w ∈ lw_tbl := zplaceT zcT_in [(3, 5), (3, 6), (1, 16), (3, 34), (3, 35), (1, 30), (1, 31), (1, 32), (1, 33), (1, 34), (1, 3), (1, 119), (1, 123), (1, 35), (1, 36), (1, 37), (1, 38), (1, 88), (1, 89), (1, 40), (1, 41), (1, 42), (1, 4), (1, 43)] rfl
set_option maxRecDepth 20000 in
theorem zin_wsL_law_r4 : ∀ w ∈ wsL_law_r4, w ∈ lw_tbl := zplaceT zcT_in [(9, 22), (1, 44), (1, 45), (1, 46), (1, 47), (1, 48), (9, 23), (1, 50), (1, 51), (1, 52), (1, 53), (1, 54), (1, 55), (1, 56), (1, 57), (1, 58), (1, 59), (1, 5), (1, 60), (1, 61), (1, 62), (1, 63), (1, 64), (1, 66)] rfl
set_option maxRecDepth 20000 in
theorem zin_wsL_law_r5 : ∀ w ∈ wsL_law_r5, w ∈ lw_tbl := zplaceT zcT_in [(1, 67), (1, 6), (1, 68), (1, 69), (1, 70), (1, 7), (1, 71), (1, 72), (1, 73), (1, 74), (1, 75), (1, 76), (1, 77), (1, 78), (1, 79), (1, 80), (1, 81), (1, 82), (1, 84), (1, 86), (1, 137), (1, 138), (1, 139), (2, 26)] rfl
set_option maxRecDepth 20000 in
theorem zin_wsL_law_r6 : ∀ w ∈ wsL_law_r6, w ∈ lw_tbl := zplaceT zcT_in [(2, 28), (2, 30), (2, 32), (1, 140), (1, 141), (1, 9), (2, 37), (1, 202), (1, 203), (1, 10), (2, 44), (1, 238), (2, 49), (1, 143), (1, 144), (1, 145), (1, 159), (1, 161), (1, 167), (1, 170), (1, 175), (1, 177), (1, 179), (1, 180)] rfl
set_option maxRecDepth 20000 in
theorem zin_wsL_law_r7 : ∀ w ∈ wsL_law_r7, w ∈ lw_tbl := zplaceT zcT_in [(1, 205), (1, 206), (1, 207), (1, 217), (1, 221), (1, 224), (2, 1), (2, 2), (2, 3), (2, 19), (2, 4), (2, 7), (2, 20), (2, 10), (2, 75), (2, 76), (2, 77), (2, 78), (2, 98), (2, 99), (2, 100), (2, 101), (2, 103), (2, 104)] rfl
set_option maxRecDepth 20000 in
theorem zin_wsL_law_r8 : ∀ w ∈ wsL_law_r8, w ∈ lw_tbl := zplaceT zcT_in [(2, 107), (2, 108), (2, 111), (2, 115), (2, 118), (2, 120), (2, 122), (2, 156), (2, 157), (2, 158), (2, 159), (2, 161), (2, 162), (2, 165), (2, 166), (2, 167), (2, 168), (2, 170), (2, 180), (2, 182), (2, 220), (2, 221), (2, 222), (2, 223)] rfl
set_option maxRecDepth 20000 in
theorem zin_wsL_law_r9 : ∀ w ∈ wsL_law_r9, w ∈ lw_tbl := zplaceT zcT_in [(2, 227), (2, 225), (2, 228), (2, 229), (2, 230), (2, 232), (3, 8), (3, 9), (3, 10), (3, 11), (3, 13), (6, 15), (6, 16), (6, 17), (6, 18), (6, 19), (6, 20), (6, 21), (6, 22), (6, 23), (6, 24), (6, 25), (6, 26), (6, 27)] rfl
set_option maxRecDepth 20000 in
theorem zin_wsL_law_r10 : ∀ w ∈ wsL_law_r10, w ∈ lw_tbl := zplaceT zcT_in [(6, 28), (6, 29), (6, 30), (6, 31), (6, 32), (6, 33), (6, 34), (6, 35), (6, 36), (6, 37), (6, 38), (6, 39), (6, 40), (6, 41), (6, 42), (6, 43), (6, 44), (6, 45), (6, 46), (6, 47), (6, 48), (6, 49), (6, 50), (6, 51)] rfl
set_option maxRecDepth 20000 in
theorem zin_wsL_law_r11 : ∀ w ∈ wsL_law_r11, w ∈ lw_tbl := zplaceT zcT_in [(6, 52), (6, 53), (6, 54), (6, 55), (6, 56), (6, 57), (6, 58), (6, 59), (6, 60), (6, 61), (6, 62), (6, 63), (6, 64), (6, 65), (6, 66), (6, 67), (6, 68), (6, 69), (6, 70), (6, 71), (6, 72), (6, 73), (6, 74), (6, 75)] rfl
set_option maxRecDepth 20000 in
theorem zin_wsL_law_r12 : ∀ w ∈ wsL_law_r12, w ∈ lw_tbl := zplaceT zcT_in [(6, 76), (6, 77), (6, 78), (6, 79), (6, 80), (6, 81), (6, 82), (6, 83), (6, 84), (6, 85), (3, 69), (3, 70), (3, 71), (3, 72), (3, 21), (3, 73), (3, 75), (0, 0), (3, 76), (3, 77), (3, 79), (0, 1), (3, 80), (6, 221)] rfl
set_option maxRecDepth 20000 in
theorem zin_wsL_law_r13 : ∀ w ∈ wsL_law_r13, w ∈ lw_tbl := zplaceT zcT_in [(6, 222), (6, 223), (6, 224), (6, 225), (6, 227), (0, 44), (6, 228), (6, 229), (6, 231), (0, 45), (6, 232), (3, 81), (3, 82), (3, 83), (3, 84), (6, 233), (6, 234), (6, 235), (6, 236), (6, 237), (6, 239), (0, 46), (7, 0), (3, 85)] rfl
set_option maxRecDepth 20000 in
theorem zin_wsL_law_r14 : ∀ w ∈ wsL_law_r14, w ∈ lw_tbl := zplaceT zcT_in [(3, 86), (3, 87), (3, 88), (2, 48), (2, 43), (1, 155), (3, 89), (3, 90), (3, 91), (3, 92), (1, 121), (1, 93), (2, 22), (2, 40), (1, 152), (3, 93), (3, 94), (3, 95), (3, 96), (2, 21), (2, 34), (1, 150), (1, 156), (3, 97)] rfl
set_option maxRecDepth 20000 in
theorem zin_wsL_law_r15 : ∀ w ∈ wsL_law_r15, w ∈ lw_tbl := zplaceT zcT_in [(3, 98), (3, 99), (3, 100), (3, 101), (3, 102), (1, 18), (3, 103), (3, 104), (3, 105), (3, 106), (1, 90), (1, 91), (1, 92), (3, 107), (3, 108), (3, 109), (3, 110), (1, 94), (1, 96), (1, 98), (3, 111), (3, 112), (3, 113), (3, 114)] rfl
set_option maxRecDepth 20000 in
theorem zin_wsL_law_r16 : ∀ w ∈ wsL_law_r16, w ∈ lw_tbl := zplaceT zcT_in [(3, 116), (0, 2), (3, 117), (3, 118), (3, 120), (0, 3), (3, 121), (3, 122), (3, 124), (0, 4), (3, 125), (1, 99), (1, 95), (3, 126), (3, 127), (3, 128), (3, 129), (3, 131), (0, 5), (3, 132), (3, 133), (3, 134), (3, 135), (3, 136)] rfl
set_option maxRecDepth 20000 in
theorem zin_wsL_law_r17 : ∀ w ∈ wsL_law_r17, w ∈ lw_tbl := zplaceT zcT_in [(3, 137), (3, 139), (0, 6), (3, 140), (1, 120), (3, 165), (3, 174), (3, 141), (3, 143), (0, 7), (3, 144), (1, 97), (3, 145), (3, 146), (3, 147), (3, 148), (3, 149), (3, 150), (3, 151), (3, 152), (3, 153), (3, 154), (3, 155), (3, 156)] rfl
set_option maxRecDepth 20000 in
theorem zin_wsL_law_r18 : ∀ w ∈ wsL_law_r18, w ∈ lw_tbl := zplaceT zcT_in [(1, 146), (3, 157), (3, 159), (0, 8), (3, 160), (3, 161), (3, 162), (3, 163), (3, 164), (3, 166), (3, 168), (0, 9), (3, 169), (3, 170), (3, 171), (3, 172), (3, 173), (3, 175), (3, 176), (3, 177), (3, 178), (3, 179), (3, 181), (0, 10)] rfl
set_option maxRecDepth 20000 in
theorem zin_wsL_law_r19 : ∀ w ∈ wsL_law_r19, w ∈ lw_tbl := zplaceT zcT_in [(3, 182), (2, 36), (3, 183), (3, 185), (0, 11), (3, 186), (3, 187), (3, 188), (3, 189), (3, 190), (3, 191), (3, 192), (3, 193), (3, 194), (3, 195), (3, 196), (3, 201), (1, 157), (3, 197), (3, 199), (0, 12), (3, 200), (3, 202), (3, 204)] rfl
set_option maxRecDepth 20000 in
theorem zin_wsL_law_r20 : ∀ w ∈ wsL_law_r20, w ∈ lw_tbl := zplaceT zcT_in [(0, 13), (3, 205), (3, 206), (3, 208), (0, 14), (3, 209), (3, 210), (3, 212), (0, 15), (3, 213), (3, 218), (3, 214), (3, 216), (0, 16), (3, 217), (3, 219), (3, 221), (0, 17), (3, 222), (3, 223), (3, 225), (0, 18), (3, 226), (3, 227)] rfl
set_option maxRecDepth 20000 in
theorem zin_wsL_law_r21 : ∀ w ∈ wsL_law_r21, w ∈ lw_tbl := zplaceT zcT_in [(3, 228), (3, 229), (3, 230), (3, 231), (3, 233), (0, 19), (3, 234), (3, 235), (3, 236), (3, 237), (3, 238), (3, 239), (4, 1), (0, 20), (4, 2), (4, 3), (4, 4), (4, 5), (4, 6), (4, 7), (4, 8), (4, 9), (4, 10), (4, 11)] rfl
set_option maxRecDepth 20000 in
theorem zin_wsL_law_r22 : ∀ w ∈ wsL_law_r22, w ∈ lw_tbl := zplaceT zcT_in [(4, 12), (4, 13), (4, 14), (1, 208), (1, 215), (1, 149), (1, 168), (1, 212), (4, 15), (4, 17), (0, 21), (4, 18), (1, 178), (4, 19), (4, 21), (0, 22), (4, 22), (4, 23), (4, 24), (4, 25), (4, 26), (1, 147), (4, 86), (4, 27)] rfl
set_option maxRecDepth 20000 in
theorem zin_wsL_law_r23 : ∀ w ∈ wsL_law_r23, w ∈ lw_tbl := zplaceT zcT_in [(4, 28), (4, 29), (4, 30), (1, 164), (4, 69), (4, 59), (4, 60), (4, 31), (4, 33), (0, 23), (4, 34), (4, 35), (4, 36), (4, 37), (4, 38), (4, 39), (4, 40), (4, 41), (4, 42), (4, 43), (4, 45), (0, 24), (4, 46), (4, 48)] rfl
set_option maxRecDepth 20000 in
theorem zin_wsL_law_r24 : ∀ w ∈ wsL_law_r24, w ∈ lw_tbl := zplaceT zcT_in [(4, 49), (4, 50), (4, 58), (4, 61), (4, 62), (4, 63), (4, 51), (4, 52), (4, 53), (4, 54), (4, 55), (4, 56), (1, 18), (4, 57), (4, 64), (4, 66), (0, 25), (4, 67), (4, 68), (4, 70), (4, 71), (4, 72), (4, 73), (4, 74)] rfl
set_option maxRecDepth 20000 in
theorem zin_wsL_law_r25 : ∀ w ∈ wsL_law_r25, w ∈ lw_tbl := zplaceT zcT_in [(4, 75), (4, 76), (4, 77), (4, 78), (4, 79), (4, 80), (4, 81), (4, 82), (4, 83), (4, 84), (4, 85), (4, 87), (4, 89), (0, 26), (4, 90), (4, 91), (4, 92), (4, 93), (4, 94), (4, 95), (4, 96), (4, 97), (4, 98), (2, 105)] rfl
set_option maxRecDepth 20000 in
theorem zin_wsL_law_r26 : ∀ w ∈ wsL_law_r26, w ∈ lw_tbl := zplaceT zcT_in [(4, 99), (4, 100), (4, 101), (4, 102), (2, 163), (4, 103), (4, 104), (4, 105), (4, 106), (7, 1), (7, 2), (7, 3), (7, 4), (7, 5), (7, 7), (0, 47), (7, 8), (7, 9), (7, 11), (0, 48), (7, 12), (7, 13), (7, 15), (0, 49)] rfl
set_option maxRecDepth 20000 in
theorem zin_wsL_law_r27 : ∀ w ∈ wsL_law_r27, w ∈ lw_tbl := zplaceT zcT_in [(7, 16), (7, 17), (7, 19), (0, 50), (7, 20), (7, 91), (7, 21), (7, 23), (0, 51), (7, 24), (7, 25), (7, 27), (0, 52), (7, 28), (7, 29), (7, 31), (0, 53), (7, 32), (7, 33), (7, 35), (0, 54), (7, 36), (7, 37), (7, 39)] rfl
set_option maxRecDepth 20000 in
theorem zin_wsL_law_r28 : ∀ w ∈ wsL_law_r28, w ∈ lw_tbl := zplaceT zcT_in [(0, 55), (7, 40), (7, 41), (7, 42), (7, 43), (7, 44), (7, 46), (0, 56), (7, 47), (7, 76), (7, 90), (7, 48), (7, 50), (0, 57), (7, 51), (7, 52), (7, 54), (0, 58), (7, 55), (7, 56), (7, 58), (0, 59), (7, 59), (7, 60)] rfl
set_option maxRecDepth 20000 in
theorem zin_wsL_law_r29 : ∀ w ∈ wsL_law_r29, w ∈ lw_tbl := zplaceT zcT_in [(7, 62), (0, 60), (7, 63), (7, 64), (7, 66), (0, 61), (7, 67), (7, 68), (7, 70), (0, 62), (7, 71), (7, 72), (7, 74), (0, 63), (7, 75), (7, 77), (7, 79), (0, 64), (7, 80), (7, 81), (7, 83), (0, 65), (7, 84), (7, 85)] rfl
set_option maxRecDepth 20000 in
theorem zin_wsL_law_r30 : ∀ w ∈ wsL_law_r30, w ∈ lw_tbl := zplaceT zcT_in [(7, 86), (7, 87), (7, 88), (7, 89), (7, 92), (7, 94), (0, 66), (7, 95), (7, 96), (7, 97), (7, 98), (7, 100), (0, 67), (7, 101), (7, 102), (7, 104), (0, 68), (7, 105), (7, 106), (7, 108), (0, 69), (7, 109), (7, 110), (7, 112)] rfl
set_option maxRecDepth 20000 in
theorem zin_wsL_law_r31 : ∀ w ∈ wsL_law_r31, w ∈ lw_tbl := zplaceT zcT_in [(0, 70), (7, 113), (7, 114), (7, 116), (0, 71), (7, 117), (7, 118), (7, 119), (7, 121), (0, 72), (7, 122), (7, 123), (7, 125), (0, 73), (7, 126), (7, 127), (7, 129), (0, 74), (7, 130), (7, 131), (7, 133), (0, 75), (7, 134), (7, 135)] rfl
set_option maxRecDepth 20000 in
theorem zin_wsL_law_r32 : ∀ w ∈ wsL_law_r32, w ∈ lw_tbl := zplaceT zcT_in [(7, 136), (7, 137), (7, 138), (7, 140), (0, 76), (7, 141), (7, 142), (7, 144), (0, 77), (7, 145), (7, 146), (7, 148), (0, 78), (7, 149), (4, 107), (4, 108), (4, 109), (4, 110), (1, 122), (1, 124), (7, 150), (7, 151), (7, 152), (7, 153)] rfl
set_option maxRecDepth 20000 in
theorem zin_wsL_law_r33 : ∀ w ∈ wsL_law_r33, w ∈ lw_tbl := zplaceT zcT_in [(4, 111), (4, 112), (4, 113), (4, 114), (2, 25), (1, 158), (1, 211), (1, 214), (2, 35), (4, 115), (4, 116), (4, 117), (4, 118), (7, 154), (7, 155), (7, 156), (7, 157), (7, 158), (7, 160), (0, 79), (7, 161), (7, 162), (7, 164), (0, 80)] rfl
set_option maxRecDepth 20000 in
theorem zin_wsL_law_r34 : ∀ w ∈ wsL_law_r34, w ∈ lw_tbl := zplaceT zcT_in [(7, 165), (7, 166), (7, 168), (0, 81), (7, 169), (7, 170), (7, 172), (0, 82), (7, 173), (7, 174), (7, 176), (0, 83), (7, 177), (4, 119), (4, 120), (4, 121), (4, 122), (2, 27), (1, 160), (4, 123), (4, 124), (4, 125), (4, 126), (4, 127)] rfl
set_option maxRecDepth 20000 in
theorem zin_wsL_law_r35 : ∀ w ∈ wsL_law_r35, w ∈ lw_tbl := zplaceT zcT_in [(4, 128), (4, 129), (4, 130), (4, 131), (4, 132), (4, 133), (7, 178), (7, 179), (7, 180), (7, 181), (7, 190), (7, 182), (7, 184), (0, 84), (7, 185), (7, 186), (7, 188), (0, 85), (7, 189), (4, 134), (4, 135), (4, 136), (4, 137), (2, 29)] rfl
set_option maxRecDepth 20000 in
theorem zin_wsL_law_r36 : ∀ w ∈ wsL_law_r36, w ∈ lw_tbl := zplaceT zcT_in [(2, 31), (2, 33), (7, 191), (7, 192), (7, 193), (7, 194), (4, 138), (4, 139), (4, 140), (4, 141), (1, 165), (1, 219), (1, 169), (1, 174), (4, 142), (7, 195), (7, 196), (7, 197), (7, 198), (7, 199), (7, 201), (0, 86), (7, 202), (4, 143)] rfl
set_option maxRecDepth 20000 in
theorem zin_wsL_law_r37 : ∀ w ∈ wsL_law_r37, w ∈ lw_tbl := zplaceT zcT_in [(4, 144), (4, 145), (4, 146), (4, 147), (4, 148), (7, 203), (7, 204), (7, 205), (7, 206), (7, 207), (4, 149), (4, 150), (4, 151), (4, 152), (2, 52), (2, 11), (2, 9), (2, 6), (7, 208), (7, 209), (7, 210), (7, 211), (7, 212), (7, 214)] rfl
set_option maxRecDepth 20000 in
theorem zin_wsL_law_r38 : ∀ w ∈ wsL_law_r38, w ∈ lw_tbl := zplaceT zcT_in [(0, 87), (7, 215), (7, 216), (7, 218), (0, 88), (7, 219), (7, 220), (7, 222), (0, 89), (7, 223), (7, 224), (7, 226), (0, 90), (7, 227), (7, 228), (7, 229), (7, 230), (7, 231), (7, 232), (7, 233), (7, 234), (7, 235), (7, 236), (7, 237)] rfl
set_option maxRecDepth 20000 in
theorem zin_wsL_law_r39 : ∀ w ∈ wsL_law_r39, w ∈ lw_tbl := zplaceT zcT_in [(7, 238), (7, 239), (8, 0), (8, 1), (8, 2), (8, 3), (8, 5), (0, 91), (8, 6), (8, 7), (8, 8), (8, 9), (4, 153), (4, 154), (4, 155), (4, 156), (4, 157), (4, 158), (4, 159), (4, 160), (4, 161), (4, 162), (4, 163), (4, 164)] rfl
set_option maxRecDepth 20000 in
theorem zin_wsL_law_r40 : ∀ w ∈ wsL_law_r40, w ∈ lw_tbl := zplaceT zcT_in [(8, 10), (8, 11), (8, 12), (8, 13), (4, 165), (4, 166), (4, 167), (4, 168), (1, 176), (8, 14), (8, 15), (8, 16), (8, 17), (8, 18), (8, 20), (0, 92), (8, 21), (4, 169), (4, 170), (4, 171), (4, 172), (4, 173), (4, 174), (4, 175)] rfl
set_option maxRecDepth 20000 in
theorem zin_wsL_law_r41 : ∀ w ∈ wsL_law_r41, w ∈ lw_tbl := zplaceT zcT_in [(4, 176), (1, 216), (4, 177), (4, 178), (4, 179), (4, 180), (1, 220), (8, 22), (8, 23), (8, 24), (8, 25), (4, 181), (4, 182), (4, 183), (4, 184), (4, 185), (4, 186), (4, 187), (4, 188), (4, 189), (4, 190), (4, 191), (4, 192), (4, 193)] rfl
set_option maxRecDepth 20000 in
theorem zin_wsL_law_r42 : ∀ w ∈ wsL_law_r42, w ∈ lw_tbl := zplaceT zcT_in [(8, 26), (8, 27), (8, 28), (8, 29), (4, 194), (4, 195), (4, 196), (4, 197), (4, 198), (4, 199), (4, 200), (4, 201), (4, 202), (4, 203), (4, 204), (4, 205), (4, 206), (4, 207), (4, 208), (8, 30), (8, 31), (8, 32), (8, 33), (8, 34)] rfl
set_option maxRecDepth 20000 in
theorem zin_wsL_law_r43 : ∀ w ∈ wsL_law_r43, w ∈ lw_tbl := zplaceT zcT_in [(8, 36), (0, 93), (8, 37), (8, 38), (8, 40), (0, 94), (8, 41), (8, 42), (8, 44), (0, 95), (8, 45), (8, 46), (8, 48), (0, 96), (8, 49), (8, 50), (8, 52), (0, 97), (8, 53), (4, 209), (4, 210), (4, 211), (4, 212), (4, 213)] rfl
set_option maxRecDepth 20000 in
theorem zin_wsL_law_r44 : ∀ w ∈ wsL_law_r44, w ∈ lw_tbl := zplaceT zcT_in [(8, 54), (8, 55), (8, 56), (8, 57), (4, 214), (4, 215), (4, 216), (4, 217), (2, 83), (4, 218), (4, 219), (4, 220), (4, 221), (2, 82), (2, 84), (2, 39), (1, 151), (1, 171), (4, 222), (4, 223), (4, 224), (4, 225), (1, 163), (5, 0)] rfl
set_option maxRecDepth 20000 in
theorem zin_wsL_law_r45 : ∀ w ∈ wsL_law_r45, w ∈ lw_tbl := zplaceT zcT_in [(5, 5), (5, 6), (4, 226), (4, 227), (4, 228), (4, 229), (4, 230), (4, 231), (4, 233), (0, 27), (4, 234), (4, 235), (4, 236), (4, 238), (4, 239), (5, 1), (5, 2), (5, 3), (5, 4), (5, 7), (5, 8), (5, 9), (5, 10), (5, 11)] rfl
set_option maxRecDepth 20000 in
theorem zin_wsL_law_r46 : ∀ w ∈ wsL_law_r46, w ∈ lw_tbl := zplaceT zcT_in [(5, 12), (5, 13), (5, 14), (5, 15), (1, 173), (8, 58), (8, 59), (8, 60), (8, 61), (8, 62), (8, 64), (0, 98), (8, 65), (8, 66), (8, 68), (0, 99), (8, 69), (8, 70), (8, 72), (0, 100), (8, 73), (8, 74), (8, 76), (0, 101)] rfl
set_option maxRecDepth 20000 in
theorem zin_wsL_law_r47 : ∀ w ∈ wsL_law_r47, w ∈ lw_tbl := zplaceT zcT_in [(8, 77), (5, 16), (5, 17), (5, 18), (5, 19), (2, 85), (8, 78), (8, 79), (8, 80), (8, 81), (5, 20), (5, 21), (5, 22), (5, 23), (2, 81), (8, 82), (8, 83), (8, 84), (8, 85), (5, 24), (5, 25), (5, 26), (5, 27), (5, 28)] rfl
set_option maxRecDepth 20000 in
theorem zin_wsL_law_r48 : ∀ w ∈ wsL_law_r48, w ∈ lw_tbl := zplaceT zcT_in [(5, 29), (5, 31), (0, 28), (5, 32), (8, 86), (8, 87), (8, 88), (8, 89), (8, 90), (8, 92), (0, 102), (8, 93), (5, 33), (5, 34), (5, 35), (5, 36), (5, 41), (5, 37), (5, 38), (5, 39), (5, 40), (1, 166), (5, 42), (5, 44)] rfl
set_option maxRecDepth 20000 in
theorem zin_wsL_law_r49 : ∀ w ∈ wsL_law_r49, w ∈ lw_tbl := zplaceT zcT_in [(0, 29), (5, 45), (5, 46), (8, 94), (8, 95), (8, 96), (8, 97), (8, 98), (5, 47), (5, 48), (5, 49), (5, 50), (5, 51), (5, 52), (5, 53), (5, 54), (5, 55), (5, 56), (5, 57), (8, 99), (8, 100), (8, 101), (8, 102), (8, 103)] rfl
set_option maxRecDepth 20000 in
theorem zin_wsL_law_r50 : ∀ w ∈ wsL_law_r50, w ∈ lw_tbl := zplaceT zcT_in [(8, 105), (0, 103), (8, 106), (8, 107), (8, 109), (0, 104), (8, 110), (5, 58), (5, 59), (5, 60), (5, 61), (2, 112), (2, 114), (5, 62), (5, 63), (5, 64), (5, 65), (2, 41), (1, 153), (2, 45), (1, 213), (2, 109), (5, 66), (5, 67)] rfl
set_option maxRecDepth 20000 in
theorem zin_wsL_law_r51 : ∀ w ∈ wsL_law_r51, w ∈ lw_tbl := zplaceT zcT_in [(5, 69), (0, 30), (5, 70), (2, 24), (2, 106), (2, 51), (5, 71), (5, 72), (5, 74), (0, 31), (5, 75), (5, 76), (5, 77), (5, 78), (1, 210), (1, 223), (5, 79), (5, 80), (5, 81), (5, 83), (0, 32), (5, 84), (2, 80), (2, 113)] rfl
set_option maxRecDepth 20000 in
theorem zin_wsL_law_r52 : ∀ w ∈ wsL_law_r52, w ∈ lw_tbl := zplaceT zcT_in [(5, 85), (5, 86), (8, 111), (8, 112), (8, 113), (8, 114), (8, 115), (8, 117), (0, 105), (8, 118), (8, 119), (8, 121), (0, 106), (8, 122), (8, 123), (8, 125), (0, 107), (8, 126), (8, 127), (8, 129), (0, 108), (8, 130), (5, 87), (5, 88)] rfl
set_option maxRecDepth 20000 in
theorem zin_wsL_law_r53 : ∀ w ∈ wsL_law_r53, w ∈ lw_tbl := zplaceT zcT_in [(5, 89), (5, 90), (2, 110), (8, 131), (8, 132), (8, 133), (8, 134), (5, 91), (5, 92), (5, 93), (5, 94), (2, 175), (2, 173), (2, 171), (5, 95), (5, 96), (5, 97), (5, 98), (2, 164), (2, 46), (2, 174), (2, 50), (2, 172), (2, 23)] rfl
set_option maxRecDepth 20000 in
theorem zin_wsL_law_r54 : ∀ w ∈ wsL_law_r54, w ∈ lw_tbl := zplaceT zcT_in [(5, 99), (5, 100), (5, 101), (5, 102), (5, 103), (5, 104), (5, 106), (0, 33), (5, 107), (2, 169), (5, 108), (5, 110), (0, 34), (5, 111), (1, 209), (1, 222), (5, 112), (5, 114), (0, 35), (5, 115), (5, 116), (5, 118), (0, 36), (5, 119)] rfl
set_option maxRecDepth 20000 in
theorem zin_wsL_law_r55 : ∀ w ∈ wsL_law_r55, w ∈ lw_tbl := zplaceT zcT_in [(5, 120), (5, 122), (0, 37), (5, 123), (8, 135), (8, 136), (8, 137), (8, 138), (8, 139), (8, 141), (0, 109), (8, 142), (8, 143), (8, 145), (0, 110), (8, 146), (8, 147), (8, 149), (0, 111), (8, 150), (8, 151), (8, 153), (0, 112), (8, 154)] rfl
set_option maxRecDepth 20000 in
theorem zin_wsL_law_r56 : ∀ w ∈ wsL_law_r56, w ∈ lw_tbl := zplaceT zcT_in [(5, 124), (5, 125), (5, 126), (5, 127), (2, 177), (2, 179), (2, 181), (2, 183), (5, 128), (5, 129), (5, 130), (5, 131), (2, 176), (2, 178), (5, 133), (5, 134), (5, 135), (5, 136), (8, 155), (8, 156), (8, 157), (8, 158), (8, 159), (8, 160)] rfl
set_option maxRecDepth 20000 in
theorem zin_wsL_law_r57 : ∀ w ∈ wsL_law_r57, w ∈ lw_tbl := zplaceT zcT_in [(8, 162), (0, 113), (8, 163), (5, 137), (5, 138), (5, 139), (5, 140), (5, 141), (5, 143), (0, 38), (5, 144), (5, 145), (5, 147), (0, 39), (5, 148), (5, 149), (8, 164), (8, 165), (8, 166), (8, 167), (8, 168), (8, 170), (0, 114), (8, 171)] rfl
set_option maxRecDepth 20000 in
theorem zin_wsL_law_r58 : ∀ w ∈ wsL_law_r58, w ∈ lw_tbl := zplaceT zcT_in [(8, 172), (8, 174), (0, 115), (8, 175), (5, 150), (5, 151), (5, 152), (5, 153), (2, 117), (2, 119), (2, 121), (2, 123), (5, 154), (5, 155), (5, 156), (5, 157), (2, 116), (5, 158), (5, 159), (5, 161), (0, 40), (5, 162), (5, 163), (5, 165)] rfl
set_option maxRecDepth 20000 in
theorem zin_wsL_law_r59 : ∀ w ∈ wsL_law_r59, w ∈ lw_tbl := zplaceT zcT_in [(0, 41), (5, 166), (5, 167), (5, 169), (0, 42), (5, 170), (8, 176), (8, 177), (8, 178), (8, 179), (8, 180), (8, 182), (0, 116), (8, 183), (8, 184), (8, 186), (0, 117), (8, 187), (5, 171), (5, 172), (5, 173), (5, 174), (5, 175), (5, 176)] rfl
set_option maxRecDepth 20000 in
theorem zin_wsL_law_r60 : ∀ w ∈ wsL_law_r60, w ∈ lw_tbl := zplaceT zcT_in [(5, 177), (5, 178), (5, 179), (8, 188), (8, 189), (8, 190), (8, 191), (5, 180), (5, 181), (5, 182), (5, 183), (5, 184), (5, 185), (5, 186), (5, 187), (8, 192), (8, 193), (8, 194), (8, 195), (8, 196), (8, 197), (8, 198), (8, 199), (5, 188)] rfl
set_option maxRecDepth 20000 in
theorem zin_wsL_law_r61 : ∀ w ∈ wsL_law_r61, w ∈ lw_tbl := zplaceT zcT_in [(5, 189), (5, 190), (5, 191), (5, 192), (5, 193), (5, 194), (5, 195), (2, 42), (1, 154), (2, 47), (5, 196), (5, 197), (5, 198), (5, 200), (0, 43), (5, 201), (1, 218), (2, 5), (2, 8), (2, 79), (1, 172), (5, 202), (5, 203), (5, 204)] rfl
set_option maxRecDepth 20000 in
theorem zin_wsL_law_r62 : ∀ w ∈ wsL_law_r62, w ∈ lw_tbl := zplaceT zcT_in [(5, 205), (5, 206), (5, 207), (5, 208), (5, 209), (5, 210), (5, 211), (5, 212), (5, 213), (5, 214), (5, 215), (8, 200), (8, 201), (8, 202), (8, 203), (8, 204), (8, 206), (0, 118), (8, 207), (8, 208), (8, 209), (8, 210), (8, 212), (0, 119)] rfl
set_option maxRecDepth 20000 in
theorem zin_wsL_law_r63 : ∀ w ∈ wsL_law_r63, w ∈ lw_tbl := zplaceT zcT_in [(8, 213), (8, 214), (8, 216), (0, 120), (8, 217), (5, 216), (5, 217), (5, 218), (5, 219), (2, 231), (2, 233), (8, 218), (8, 219), (8, 220), (8, 221), (5, 220), (5, 221), (5, 222), (5, 223), (3, 14), (3, 12), (6, 0), (5, 224), (5, 225)] rfl
set_option maxRecDepth 20000 in
theorem zin_wsL_law_r64 : ∀ w ∈ wsL_law_r64, w ∈ lw_tbl := zplaceT zcT_in [(5, 226), (5, 227), (2, 38), (1, 148), (1, 162), (5, 230), (5, 231), (5, 232), (5, 228), (5, 229), (5, 233), (5, 235), (5, 236), (5, 237), (5, 238), (8, 222), (8, 223), (8, 224), (8, 225), (8, 226), (8, 227), (8, 229), (0, 121), (8, 230)] rfl
set_option maxRecDepth 20000 in
theorem zin_wsL_law_r65 : ∀ w ∈ wsL_law_r65, w ∈ lw_tbl := zplaceT zcT_in [(8, 231), (8, 233), (0, 122), (8, 234), (8, 235), (8, 236), (8, 237), (8, 238), (8, 239), (9, 0), (9, 1), (9, 3), (0, 123), (9, 4), (9, 5), (9, 7), (0, 124), (9, 8), (6, 1), (6, 2), (6, 3), (6, 4), (9, 9), (9, 10)] rfl
set_option maxRecDepth 20000 in
theorem zin_wsL_law_r66 : ∀ w ∈ wsL_law_r66, w ∈ lw_tbl := zplaceT zcT_in [(9, 11), (9, 12), (6, 5), (6, 6), (6, 7), (6, 8), (9, 13), (9, 14), (9, 15), (9, 16), (6, 9), (6, 10), (6, 11), (6, 12), (9, 17), (9, 18), (9, 19), (9, 20), (9, 21)] rfl
theorem zT_1 : ∀ w ∈ tables_1_1, w ∈ tables_1 := fun _ h => (List.mem_append_left _ h)
theorem zT_2 : ∀ w ∈ tables_1_2, w ∈ tables_1 := fun _ h => (List.mem_append_right _ (List.mem_append_left _ h))
theorem zT_3 : ∀ w ∈ tables_1_3, w ∈ tables_1 := fun _ h => (List.mem_append_right _ (List.mem_append_right _ (List.mem_append_left _ h)))
theorem zT_4 : ∀ w ∈ tables_1_4, w ∈ tables_1 := fun _ h => (List.mem_append_right _ (List.mem_append_right _ (List.mem_append_right _ (List.mem_append_left _ h))))
theorem zT_5 : ∀ w ∈ tables_1_5, w ∈ tables_1 := fun _ h => (List.mem_append_right _ (List.mem_append_right _ (List.mem_append_right _ (List.mem_append_right _ (List.mem_append_left _ h)))))
theorem zT_6 : ∀ w ∈ tables_1_6, w ∈ tables_1 := fun _ h => (List.mem_append_right _ (List.mem_append_right _ (List.mem_append_right _ (List.mem_append_right _ (List.mem_append_right _ (List.mem_append_left _ h))))))
theorem zT_7 : ∀ w ∈ tables_1_7, w ∈ tables_1 := fun _ h => (List.mem_append_right _ (List.mem_append_right _ (List.mem_append_right _ (List.mem_append_right _ (List.mem_append_right _ (List.mem_append_right _ (List.mem_append_left _ h)))))))
theorem zT_8 : ∀ w ∈ tables_1_8, w ∈ tables_1 := fun _ h => (List.mem_append_right _ (List.mem_append_right _ (List.mem_append_right _ (List.mem_append_right _ (List.mem_append_right _ (List.mem_append_right _ (List.mem_append_right _ (List.mem_append_left _ h))))))))
theorem zT_9 : ∀ w ∈ tables_1_9, w ∈ tables_1 := fun _ h => (List.mem_append_right _ (List.mem_append_right _ (List.mem_append_right _ (List.mem_append_right _ (List.mem_append_right _ (List.mem_append_right _ (List.mem_append_right _ (List.mem_append_right _ h))))))))
set_option maxRecDepth 20000 in
theorem inX0 : ∀ w ∈ wsX00, w ∈ lw_tbl := zplaceT zcT_in [(2, 234), (2, 236), (2, 238), (3, 0), (3, 2)] rfl
set_option maxRecDepth 20000 in
theorem inX1 : ∀ w ∈ wsX10, w ∈ lw_tbl := zplaceT zcT_in [(2, 124), (2, 126), (2, 128), (2, 130), (2, 132), (2, 134), (2, 136), (2, 138), (2, 140), (2, 142), (2, 144), (2, 146), (2, 148), (2, 150)] rfl
set_option maxRecDepth 20000 in
theorem inX2 : ∀ w ∈ wsX20, w ∈ lw_tbl := zplaceT zcT_in [(1, 225), (1, 227), (1, 229), (1, 231), (1, 233), (1, 235)] rfl
set_option maxRecDepth 20000 in
theorem inX3 : ∀ w ∈ wsX30, w ∈ lw_tbl := zplaceT zcT_in [(2, 184), (2, 186), (2, 188), (2, 190), (2, 192), (2, 194), (2, 196), (2, 198), (2, 200), (2, 202), (2, 204), (2, 206), (2, 208), (2, 210), (2, 212), (2, 214)] rfl
set_option maxRecDepth 20000 in
theorem inX4 : ∀ w ∈ wsX40, w ∈ lw_tbl := zplaceT zcT_in [(1, 181), (1, 183), (1, 185), (1, 187), (1, 189), (1, 191), (1, 193), (1, 195), (1, 197), (1, 199)] rfl
set_option maxRecDepth 20000 in
theorem inX5 : ∀ w ∈ wsX50, w ∈ lw_tbl := zplaceT zcT_in [(1, 125), (1, 127), (1, 129), (1, 131)] rfl
set_option maxRecDepth 20000 in
theorem inX6 : ∀ w ∈ wsX60, w ∈ lw_tbl := zplaceT zcT_in [(2, 12), (2, 14), (2, 16)] rfl
set_option maxRecDepth 20000 in
theorem inX7 : ∀ w ∈ wsX70, w ∈ lw_tbl := zplaceT zcT_in [(2, 86), (2, 88), (2, 90)] rfl
set_option maxRecDepth 20000 in
theorem inX8 : ∀ w ∈ wsX80, w ∈ lw_tbl := zplaceT zcT_in [(3, 15), (3, 17)] rfl
set_option maxRecDepth 20000 in
theorem inX9 : ∀ w ∈ wsX90, w ∈ lw_tbl := zplaceT zcT_in [(2, 53), (2, 55), (2, 57), (2, 59), (2, 61), (2, 63), (2, 65), (2, 67), (2, 69)] rfl
set_option maxRecDepth 20000 in
theorem inX10 : ∀ w ∈ wsX100, w ∈ lw_tbl := zplaceT zcT_in [(1, 100), (1, 102), (1, 104), (1, 106), (1, 108), (1, 110), (1, 112), (1, 114)] rfl
set_option maxRecDepth 20000 in
theorem inX11 : ∀ w ∈ wsX110, w ∈ lw_tbl := zplaceT zcT_in [(3, 36), (3, 38), (3, 40), (3, 42), (3, 44), (3, 46), (3, 48), (3, 50), (3, 52), (3, 54), (3, 56), (3, 58), (3, 60), (3, 62), (3, 64), (3, 66)] rfl
set_option maxRecDepth 20000 in
theorem inX12 : ∀ w ∈ wsX120, w ∈ lw_tbl := zplaceT zcT_in [(6, 86), (6, 88), (6, 90), (6, 92), (6, 94), (6, 96), (6, 98), (6, 100), (6, 102), (6, 104), (6, 106), (6, 108), (6, 110), (6, 112), (6, 114), (6, 116), (6, 118), (6, 120), (6, 122), (6, 124), (6, 126), (6, 128), (6, 130), (6, 132), (6, 134), (6, 136), (6, 138), (6, 140), (6, 142), (6, 144), (6, 146), (6, 148), (6, 150), (6, 152), (6, 154), (6, 156), (6, 158), (6, 160), (6, 162), (6, 164), (6, 166), (6, 168), (6, 170), (6, 172), (6, 174), (6, 176), (6, 178), (6, 180), (6, 182), (6, 184), (6, 186), (6, 188), (6, 190), (6, 192), (6, 194), (6, 196), (6, 198), (6, 200), (6, 202), (6, 204), (6, 206), (6, 208), (6, 210), (6, 212), (6, 214), (6, 216), (6, 218)] rfl
set_option maxRecDepth 20000 in
theorem wsL_law_in : ∀ w ∈ wsL_law, w ∈ lw_tbl := List.forall_mem_append.mpr ⟨List.forall_mem_append.mpr ⟨List.forall_mem_append.mpr ⟨List.forall_mem_append.mpr ⟨List.forall_mem_append.mpr ⟨List.forall_mem_append.mpr ⟨List.forall_mem_append.mpr ⟨List.forall_mem_append.mpr ⟨List.forall_mem_append.mpr ⟨List.forall_mem_append.mpr ⟨List.forall_mem_append.mpr ⟨List.forall_mem_append.mpr ⟨List.forall_mem_append.mpr ⟨List.forall_mem_append.mpr ⟨List.forall_mem_append.mpr ⟨zin_wsL_law_r1, List.forall_mem_append.mpr ⟨zin_wsL_law_r2, List.forall_mem_append.mpr ⟨zin_wsL_law_r3, List.forall_mem_append.mpr ⟨zin_wsL_law_r4, List.forall_mem_append.mpr ⟨zin_wsL_law_r5, List.forall_mem_append.mpr ⟨zin_wsL_law_r6, List.forall_mem_append.mpr ⟨zin_wsL_law_r7, List.forall_mem_append.mpr ⟨zin_wsL_law_r8, List.forall_mem_append.mpr ⟨zin_wsL_law_r9, List.forall_mem_append.mpr ⟨zin_wsL_law_r10, List.forall_mem_append.mpr ⟨zin_wsL_law_r11, List.forall_mem_append.mpr ⟨zin_wsL_law_r12, List.forall_mem_append.mpr ⟨zin_wsL_law_r13, List.forall_mem_append.mpr ⟨zin_wsL_law_r14, List.forall_mem_append.mpr ⟨zin_wsL_law_r15, List.forall_mem_append.mpr ⟨zin_wsL_law_r16, List.forall_mem_append.mpr ⟨zin_wsL_law_r17, List.forall_mem_append.mpr ⟨zin_wsL_law_r18, List.forall_mem_append.mpr ⟨zin_wsL_law_r19, List.forall_mem_append.mpr ⟨zin_wsL_law_r20, List.forall_mem_append.mpr ⟨zin_wsL_law_r21, List.forall_mem_append.mpr ⟨zin_wsL_law_r22, List.forall_mem_append.mpr ⟨zin_wsL_law_r23, List.forall_mem_append.mpr ⟨zin_wsL_law_r24, List.forall_mem_append.mpr ⟨zin_wsL_law_r25, List.forall_mem_append.mpr ⟨zin_wsL_law_r26, List.forall_mem_append.mpr ⟨zin_wsL_law_r27, List.forall_mem_append.mpr ⟨zin_wsL_law_r28, List.forall_mem_append.mpr ⟨zin_wsL_law_r29, List.forall_mem_append.mpr ⟨zin_wsL_law_r30, List.forall_mem_append.mpr ⟨zin_wsL_law_r31, List.forall_mem_append.mpr ⟨zin_wsL_law_r32, List.forall_mem_append.mpr ⟨zin_wsL_law_r33, List.forall_mem_append.mpr ⟨zin_wsL_law_r34, List.forall_mem_append.mpr ⟨zin_wsL_law_r35, List.forall_mem_append.mpr ⟨zin_wsL_law_r36, List.forall_mem_append.mpr ⟨zin_wsL_law_r37, List.forall_mem_append.mpr ⟨zin_wsL_law_r38, List.forall_mem_append.mpr ⟨zin_wsL_law_r39, List.forall_mem_append.mpr ⟨zin_wsL_law_r40, List.forall_mem_append.mpr ⟨zin_wsL_law_r41, List.forall_mem_append.mpr ⟨zin_wsL_law_r42, List.forall_mem_append.mpr ⟨zin_wsL_law_r43, List.forall_mem_append.mpr ⟨zin_wsL_law_r44, List.forall_mem_append.mpr ⟨zin_wsL_law_r45, List.forall_mem_append.mpr ⟨zin_wsL_law_r46, List.forall_mem_append.mpr ⟨zin_wsL_law_r47, List.forall_mem_append.mpr ⟨zin_wsL_law_r48, List.forall_mem_append.mpr ⟨zin_wsL_law_r49, List.forall_mem_append.mpr ⟨zin_wsL_law_r50, List.forall_mem_append.mpr ⟨zin_wsL_law_r51, List.forall_mem_append.mpr ⟨zin_wsL_law_r52, List.forall_mem_append.mpr ⟨zin_wsL_law_r53, List.forall_mem_append.mpr ⟨zin_wsL_law_r54, List.forall_mem_append.mpr ⟨zin_wsL_law_r55, List.forall_mem_append.mpr ⟨zin_wsL_law_r56, List.forall_mem_append.mpr ⟨zin_wsL_law_r57, List.forall_mem_append.mpr ⟨zin_wsL_law_r58, List.forall_mem_append.mpr ⟨zin_wsL_law_r59, List.forall_mem_append.mpr ⟨zin_wsL_law_r60, List.forall_mem_append.mpr ⟨zin_wsL_law_r61, List.forall_mem_append.mpr ⟨zin_wsL_law_r62, List.forall_mem_append.mpr ⟨zin_wsL_law_r63, List.forall_mem_append.mpr ⟨zin_wsL_law_r64, List.forall_mem_append.mpr ⟨zin_wsL_law_r65, zin_wsL_law_r66⟩⟩⟩⟩⟩⟩⟩⟩⟩⟩⟩⟩⟩⟩⟩⟩⟩⟩⟩⟩⟩⟩⟩⟩⟩⟩⟩⟩⟩⟩⟩⟩⟩⟩⟩⟩⟩⟩⟩⟩⟩⟩⟩⟩⟩⟩⟩⟩⟩⟩⟩⟩⟩⟩⟩⟩⟩⟩⟩⟩⟩⟩⟩⟩⟩, inX11⟩, inX12⟩, inX5⟩, inX9⟩, inX7⟩, inX6⟩, inX1⟩, inX3⟩, inX0⟩, inX8⟩, inX10⟩, inX4⟩, inX2⟩, fun _ h => absurd h List.not_mem_nil⟩
