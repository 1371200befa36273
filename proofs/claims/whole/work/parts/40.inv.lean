/-! the fixed references; how a memory is read behind a write; numbers of long compares -/
def au_fx0 : List (Int × Int × Int) := [(0, 0, 14), (0, 1, 33), (0, 2, 34), (0, 3, 36), (0, 4, 40), (0, 5, 16), (0, 6, 46), (0, 7, 56), (0, 8, 66), (0, 9, 268), (0, 10, 269), (1, 0, 2), (1, 1, 3), (1, 2, 4), (1, 3, 5), (1, 4, 6), (1, 5, 7), (1, 6, 8), (1, 7, 9), (1, 8, 10), (10, 0, 11), (10, 1, 12), (10, 2, 13), (14, 0, 15), (16, 0, 17), (16, 1, 18), (16, 2, 19), (20, 0, 21), (20, 1, 22), (20, 2, 23), (20, 3, 24), (20, 4, 25), (20, 5, 26), (20, 6, 27), (20, 7, 28), (20, 8, 29), (29, 0, 30), (29, 1, 31), (29, 2, 32), (33, 0, 14), (34, 0, 35), (36, 0, 34), (36, 1, 37), (36, 2, 38), (36, 3, 39), (40, 0, 36), (40, 1, 41), (40, 2, 42), (40, 3, 43), (40, 4, 44), (40, 5, 45), (46, 0, 47), (46, 1, 48), (46, 2, 49), (46, 3, 50), (46, 4, 51), (46, 5, 52), (46, 6, 53), (46, 7, 54), (46, 8, 55)]
def au_fx1 : List (Int × Int × Int) := [(56, 0, 57), (56, 1, 58), (56, 2, 59), (56, 3, 60), (56, 4, 61), (56, 5, 62), (56, 6, 63), (56, 7, 64), (56, 8, 65), (66, 0, 67), (67, 0, 68), (67, 1, 78), (67, 2, 88), (67, 3, 98), (67, 4, 108), (67, 5, 118), (67, 6, 128), (67, 7, 138), (67, 8, 148), (67, 9, 158), (67, 10, 168), (67, 11, 178), (67, 12, 188), (67, 13, 198), (67, 14, 208), (67, 15, 218), (67, 16, 228), (67, 17, 238), (67, 18, 248), (67, 19, 258), (68, 0, 69), (68, 1, 70), (68, 2, 71), (68, 3, 72), (68, 4, 73), (68, 5, 74), (68, 6, 75), (68, 7, 76), (68, 8, 77), (78, 0, 79), (78, 1, 80), (78, 2, 81), (78, 3, 82), (78, 4, 83), (78, 5, 84), (78, 6, 85), (78, 7, 86), (78, 8, 87), (88, 0, 89), (88, 1, 90), (88, 2, 91), (88, 3, 92), (88, 4, 93), (88, 5, 94), (88, 6, 95), (88, 7, 96), (88, 8, 97), (98, 0, 99), (98, 1, 100), (98, 2, 101)]
def au_fx2 : List (Int × Int × Int) := [(98, 3, 102), (98, 4, 103), (98, 5, 104), (98, 6, 105), (98, 7, 106), (98, 8, 107), (108, 0, 109), (108, 1, 110), (108, 2, 111), (108, 3, 112), (108, 4, 113), (108, 5, 114), (108, 6, 115), (108, 7, 116), (108, 8, 117), (118, 0, 119), (118, 1, 120), (118, 2, 121), (118, 3, 122), (118, 4, 123), (118, 5, 124), (118, 6, 125), (118, 7, 126), (118, 8, 127), (128, 0, 129), (128, 1, 130), (128, 2, 131), (128, 3, 132), (128, 4, 133), (128, 5, 134), (128, 6, 135), (128, 7, 136), (128, 8, 137), (138, 0, 139), (138, 1, 140), (138, 2, 141), (138, 3, 142), (138, 4, 143), (138, 5, 144), (138, 6, 145), (138, 7, 146), (138, 8, 147), (148, 0, 149), (148, 1, 150), (148, 2, 151), (148, 3, 152), (148, 4, 153), (148, 5, 154), (148, 6, 155), (148, 7, 156), (148, 8, 157), (158, 0, 159), (158, 1, 160), (158, 2, 161), (158, 3, 162), (158, 4, 163), (158, 5, 164), (158, 6, 165), (158, 7, 166), (158, 8, 167)]
def au_fx3 : List (Int × Int × Int) := [(168, 0, 169), (168, 1, 170), (168, 2, 171), (168, 3, 172), (168, 4, 173), (168, 5, 174), (168, 6, 175), (168, 7, 176), (168, 8, 177), (178, 0, 179), (178, 1, 180), (178, 2, 181), (178, 3, 182), (178, 4, 183), (178, 5, 184), (178, 6, 185), (178, 7, 186), (178, 8, 187), (188, 0, 189), (188, 1, 190), (188, 2, 191), (188, 3, 192), (188, 4, 193), (188, 5, 194), (188, 6, 195), (188, 7, 196), (188, 8, 197), (198, 0, 199), (198, 1, 200), (198, 2, 201), (198, 3, 202), (198, 4, 203), (198, 5, 204), (198, 6, 205), (198, 7, 206), (198, 8, 207), (208, 0, 209), (208, 1, 210), (208, 2, 211), (208, 3, 212), (208, 4, 213), (208, 5, 214), (208, 6, 215), (208, 7, 216), (208, 8, 217), (218, 0, 219), (218, 1, 220), (218, 2, 221), (218, 3, 222), (218, 4, 223), (218, 5, 224), (218, 6, 225), (218, 7, 226), (218, 8, 227), (228, 0, 229), (228, 1, 230), (228, 2, 231), (228, 3, 232), (228, 4, 233), (228, 5, 234)]
def au_fx4 : List (Int × Int × Int) := [(228, 6, 235), (228, 7, 236), (228, 8, 237), (238, 0, 239), (238, 1, 240), (238, 2, 241), (238, 3, 242), (238, 4, 243), (238, 5, 244), (238, 6, 245), (238, 7, 246), (238, 8, 247), (248, 0, 249), (248, 1, 250), (248, 2, 251), (248, 3, 252), (248, 4, 253), (248, 5, 254), (248, 6, 255), (248, 7, 256), (248, 8, 257), (258, 0, 259), (258, 1, 260), (258, 2, 261), (258, 3, 262), (258, 4, 263), (258, 5, 264), (258, 6, 265), (258, 7, 266), (258, 8, 267), (270, 0, 271), (270, 9, 272), (270, 10, 273), (270, 11, 274), (270, 12, 275), (270, 13, 276), (270, 14, 277), (270, 15, 278), (270, 16, 279), (270, 17, 280), (270, 18, 281), (270, 19, 282), (270, 20, 283), (270, 21, 284), (270, 22, 285), (270, 23, 286), (270, 24, 287), (270, 25, 288), (270, 26, 289), (270, 27, 290), (270, 28, 291), (270, 29, 292), (270, 30, 293), (270, 31, 294), (270, 32, 295), (270, 33, 296), (270, 34, 297), (270, 35, 298), (270, 36, 299), (270, 37, 300)]
def au_fx5 : List (Int × Int × Int) := [(270, 39, 301), (270, 40, 302), (270, 41, 303), (270, 42, 304), (270, 45, 305), (270, 46, 306), (270, 47, 307), (270, 51, 308), (270, 52, 309), (270, 56, 310), (270, 59, 311), (270, 60, 312), (270, 61, 313), (270, 62, 314), (270, 63, 315), (270, 64, 316), (270, 68, 317), (270, 69, 318), (270, 70, 319), (270, 71, 320), (270, 72, 321), (270, 73, 322), (270, 74, 323), (270, 75, 324), (270, 76, 325), (270, 77, 326), (270, 78, 327), (270, 79, 328), (270, 80, 329), (270, 81, 330), (270, 82, 331), (270, 83, 332), (270, 84, 333), (270, 85, 334), (270, 86, 335), (270, 87, 336), (270, 88, 337), (270, 89, 338), (270, 90, 339), (270, 91, 340), (270, 93, 341), (270, 97, 342), (270, 101, 343)]
def au_fix : List (Int × Int × Int) := au_fx0 ++ au_fx1 ++ au_fx2 ++ au_fx3 ++ au_fx4 ++ au_fx5
def aw_fx (f : am_F) : Prop := ∀ q ∈ au_fix, f q.1 q.2.1 = q.2.2
theorem fx_0_0 {f : am_F} (h : aw_fx f) : f 0 0 = 14 := h (0, 0, 14) (List.mem_of_getElem? (i := 0) rfl)
theorem fx_0_1 {f : am_F} (h : aw_fx f) : f 0 1 = 33 := h (0, 1, 33) (List.mem_of_getElem? (i := 1) rfl)
theorem fx_0_2 {f : am_F} (h : aw_fx f) : f 0 2 = 34 := h (0, 2, 34) (List.mem_of_getElem? (i := 2) rfl)
theorem fx_0_3 {f : am_F} (h : aw_fx f) : f 0 3 = 36 := h (0, 3, 36) (List.mem_of_getElem? (i := 3) rfl)
theorem fx_0_4 {f : am_F} (h : aw_fx f) : f 0 4 = 40 := h (0, 4, 40) (List.mem_of_getElem? (i := 4) rfl)
theorem fx_0_5 {f : am_F} (h : aw_fx f) : f 0 5 = 16 := h (0, 5, 16) (List.mem_of_getElem? (i := 5) rfl)
theorem fx_0_6 {f : am_F} (h : aw_fx f) : f 0 6 = 46 := h (0, 6, 46) (List.mem_of_getElem? (i := 6) rfl)
theorem fx_0_7 {f : am_F} (h : aw_fx f) : f 0 7 = 56 := h (0, 7, 56) (List.mem_of_getElem? (i := 7) rfl)
theorem fx_0_8 {f : am_F} (h : aw_fx f) : f 0 8 = 66 := h (0, 8, 66) (List.mem_of_getElem? (i := 8) rfl)
theorem fx_0_9 {f : am_F} (h : aw_fx f) : f 0 9 = 268 := h (0, 9, 268) (List.mem_of_getElem? (i := 9) rfl)
theorem fx_0_10 {f : am_F} (h : aw_fx f) : f 0 10 = 269 := h (0, 10, 269) (List.mem_of_getElem? (i := 10) rfl)
theorem fx_1_0 {f : am_F} (h : aw_fx f) : f 1 0 = 2 := h (1, 0, 2) (List.mem_of_getElem? (i := 11) rfl)
theorem fx_1_1 {f : am_F} (h : aw_fx f) : f 1 1 = 3 := h (1, 1, 3) (List.mem_of_getElem? (i := 12) rfl)
theorem fx_1_2 {f : am_F} (h : aw_fx f) : f 1 2 = 4 := h (1, 2, 4) (List.mem_of_getElem? (i := 13) rfl)
theorem fx_1_3 {f : am_F} (h : aw_fx f) : f 1 3 = 5 := h (1, 3, 5) (List.mem_of_getElem? (i := 14) rfl)
theorem fx_1_4 {f : am_F} (h : aw_fx f) : f 1 4 = 6 := h (1, 4, 6) (List.mem_of_getElem? (i := 15) rfl)
theorem fx_1_5 {f : am_F} (h : aw_fx f) : f 1 5 = 7 := h (1, 5, 7) (List.mem_of_getElem? (i := 16) rfl)
theorem fx_1_6 {f : am_F} (h : aw_fx f) : f 1 6 = 8 := h (1, 6, 8) (List.mem_of_getElem? (i := 17) rfl)
theorem fx_1_7 {f : am_F} (h : aw_fx f) : f 1 7 = 9 := h (1, 7, 9) (List.mem_of_getElem? (i := 18) rfl)
theorem fx_1_8 {f : am_F} (h : aw_fx f) : f 1 8 = 10 := h (1, 8, 10) (List.mem_of_getElem? (i := 19) rfl)
theorem fx_10_0 {f : am_F} (h : aw_fx f) : f 10 0 = 11 := h (10, 0, 11) (List.mem_of_getElem? (i := 20) rfl)
theorem fx_10_1 {f : am_F} (h : aw_fx f) : f 10 1 = 12 := h (10, 1, 12) (List.mem_of_getElem? (i := 21) rfl)
theorem fx_10_2 {f : am_F} (h : aw_fx f) : f 10 2 = 13 := h (10, 2, 13) (List.mem_of_getElem? (i := 22) rfl)
theorem fx_14_0 {f : am_F} (h : aw_fx f) : f 14 0 = 15 := h (14, 0, 15) (List.mem_of_getElem? (i := 23) rfl)
theorem fx_16_0 {f : am_F} (h : aw_fx f) : f 16 0 = 17 := h (16, 0, 17) (List.mem_of_getElem? (i := 24) rfl)
theorem fx_16_1 {f : am_F} (h : aw_fx f) : f 16 1 = 18 := h (16, 1, 18) (List.mem_of_getElem? (i := 25) rfl)
theorem fx_16_2 {f : am_F} (h : aw_fx f) : f 16 2 = 19 := h (16, 2, 19) (List.mem_of_getElem? (i := 26) rfl)
theorem fx_20_0 {f : am_F} (h : aw_fx f) : f 20 0 = 21 := h (20, 0, 21) (List.mem_of_getElem? (i := 27) rfl)
theorem fx_20_1 {f : am_F} (h : aw_fx f) : f 20 1 = 22 := h (20, 1, 22) (List.mem_of_getElem? (i := 28) rfl)
theorem fx_20_2 {f : am_F} (h : aw_fx f) : f 20 2 = 23 := h (20, 2, 23) (List.mem_of_getElem? (i := 29) rfl)
theorem fx_20_3 {f : am_F} (h : aw_fx f) : f 20 3 = 24 := h (20, 3, 24) (List.mem_of_getElem? (i := 30) rfl)
theorem fx_20_4 {f : am_F} (h : aw_fx f) : f 20 4 = 25 := h (20, 4, 25) (List.mem_of_getElem? (i := 31) rfl)
theorem fx_20_5 {f : am_F} (h : aw_fx f) : f 20 5 = 26 := h (20, 5, 26) (List.mem_of_getElem? (i := 32) rfl)
theorem fx_20_6 {f : am_F} (h : aw_fx f) : f 20 6 = 27 := h (20, 6, 27) (List.mem_of_getElem? (i := 33) rfl)
theorem fx_20_7 {f : am_F} (h : aw_fx f) : f 20 7 = 28 := h (20, 7, 28) (List.mem_of_getElem? (i := 34) rfl)
theorem fx_20_8 {f : am_F} (h : aw_fx f) : f 20 8 = 29 := h (20, 8, 29) (List.mem_of_getElem? (i := 35) rfl)
theorem fx_29_0 {f : am_F} (h : aw_fx f) : f 29 0 = 30 := h (29, 0, 30) (List.mem_of_getElem? (i := 36) rfl)
theorem fx_29_1 {f : am_F} (h : aw_fx f) : f 29 1 = 31 := h (29, 1, 31) (List.mem_of_getElem? (i := 37) rfl)
theorem fx_29_2 {f : am_F} (h : aw_fx f) : f 29 2 = 32 := h (29, 2, 32) (List.mem_of_getElem? (i := 38) rfl)
theorem fx_33_0 {f : am_F} (h : aw_fx f) : f 33 0 = 14 := h (33, 0, 14) (List.mem_of_getElem? (i := 39) rfl)
theorem fx_34_0 {f : am_F} (h : aw_fx f) : f 34 0 = 35 := h (34, 0, 35) (List.mem_of_getElem? (i := 40) rfl)
theorem fx_36_0 {f : am_F} (h : aw_fx f) : f 36 0 = 34 := h (36, 0, 34) (List.mem_of_getElem? (i := 41) rfl)
theorem fx_36_1 {f : am_F} (h : aw_fx f) : f 36 1 = 37 := h (36, 1, 37) (List.mem_of_getElem? (i := 42) rfl)
theorem fx_36_2 {f : am_F} (h : aw_fx f) : f 36 2 = 38 := h (36, 2, 38) (List.mem_of_getElem? (i := 43) rfl)
theorem fx_36_3 {f : am_F} (h : aw_fx f) : f 36 3 = 39 := h (36, 3, 39) (List.mem_of_getElem? (i := 44) rfl)
theorem fx_40_0 {f : am_F} (h : aw_fx f) : f 40 0 = 36 := h (40, 0, 36) (List.mem_of_getElem? (i := 45) rfl)
theorem fx_40_1 {f : am_F} (h : aw_fx f) : f 40 1 = 41 := h (40, 1, 41) (List.mem_of_getElem? (i := 46) rfl)
theorem fx_40_2 {f : am_F} (h : aw_fx f) : f 40 2 = 42 := h (40, 2, 42) (List.mem_of_getElem? (i := 47) rfl)
theorem fx_40_3 {f : am_F} (h : aw_fx f) : f 40 3 = 43 := h (40, 3, 43) (List.mem_of_getElem? (i := 48) rfl)
theorem fx_40_4 {f : am_F} (h : aw_fx f) : f 40 4 = 44 := h (40, 4, 44) (List.mem_of_getElem? (i := 49) rfl)
theorem fx_40_5 {f : am_F} (h : aw_fx f) : f 40 5 = 45 := h (40, 5, 45) (List.mem_of_getElem? (i := 50) rfl)
theorem fx_46_0 {f : am_F} (h : aw_fx f) : f 46 0 = 47 := h (46, 0, 47) (List.mem_of_getElem? (i := 51) rfl)
theorem fx_46_1 {f : am_F} (h : aw_fx f) : f 46 1 = 48 := h (46, 1, 48) (List.mem_of_getElem? (i := 52) rfl)
theorem fx_46_2 {f : am_F} (h : aw_fx f) : f 46 2 = 49 := h (46, 2, 49) (List.mem_of_getElem? (i := 53) rfl)
theorem fx_46_3 {f : am_F} (h : aw_fx f) : f 46 3 = 50 := h (46, 3, 50) (List.mem_of_getElem? (i := 54) rfl)
theorem fx_46_4 {f : am_F} (h : aw_fx f) : f 46 4 = 51 := h (46, 4, 51) (List.mem_of_getElem? (i := 55) rfl)
theorem fx_46_5 {f : am_F} (h : aw_fx f) : f 46 5 = 52 := h (46, 5, 52) (List.mem_of_getElem? (i := 56) rfl)
theorem fx_46_6 {f : am_F} (h : aw_fx f) : f 46 6 = 53 := h (46, 6, 53) (List.mem_of_getElem? (i := 57) rfl)
theorem fx_46_7 {f : am_F} (h : aw_fx f) : f 46 7 = 54 := h (46, 7, 54) (List.mem_of_getElem? (i := 58) rfl)
theorem fx_46_8 {f : am_F} (h : aw_fx f) : f 46 8 = 55 := h (46, 8, 55) (List.mem_of_getElem? (i := 59) rfl)
theorem fx_56_0 {f : am_F} (h : aw_fx f) : f 56 0 = 57 := h (56, 0, 57) (List.mem_of_getElem? (i := 60) rfl)
theorem fx_56_1 {f : am_F} (h : aw_fx f) : f 56 1 = 58 := h (56, 1, 58) (List.mem_of_getElem? (i := 61) rfl)
theorem fx_56_2 {f : am_F} (h : aw_fx f) : f 56 2 = 59 := h (56, 2, 59) (List.mem_of_getElem? (i := 62) rfl)
theorem fx_56_3 {f : am_F} (h : aw_fx f) : f 56 3 = 60 := h (56, 3, 60) (List.mem_of_getElem? (i := 63) rfl)
theorem fx_56_4 {f : am_F} (h : aw_fx f) : f 56 4 = 61 := h (56, 4, 61) (List.mem_of_getElem? (i := 64) rfl)
theorem fx_56_5 {f : am_F} (h : aw_fx f) : f 56 5 = 62 := h (56, 5, 62) (List.mem_of_getElem? (i := 65) rfl)
theorem fx_56_6 {f : am_F} (h : aw_fx f) : f 56 6 = 63 := h (56, 6, 63) (List.mem_of_getElem? (i := 66) rfl)
theorem fx_56_7 {f : am_F} (h : aw_fx f) : f 56 7 = 64 := h (56, 7, 64) (List.mem_of_getElem? (i := 67) rfl)
theorem fx_56_8 {f : am_F} (h : aw_fx f) : f 56 8 = 65 := h (56, 8, 65) (List.mem_of_getElem? (i := 68) rfl)
theorem fx_66_0 {f : am_F} (h : aw_fx f) : f 66 0 = 67 := h (66, 0, 67) (List.mem_of_getElem? (i := 69) rfl)
theorem fx_67_0 {f : am_F} (h : aw_fx f) : f 67 0 = 68 := h (67, 0, 68) (List.mem_of_getElem? (i := 70) rfl)
theorem fx_67_1 {f : am_F} (h : aw_fx f) : f 67 1 = 78 := h (67, 1, 78) (List.mem_of_getElem? (i := 71) rfl)
theorem fx_67_2 {f : am_F} (h : aw_fx f) : f 67 2 = 88 := h (67, 2, 88) (List.mem_of_getElem? (i := 72) rfl)
theorem fx_67_3 {f : am_F} (h : aw_fx f) : f 67 3 = 98 := h (67, 3, 98) (List.mem_of_getElem? (i := 73) rfl)
theorem fx_67_4 {f : am_F} (h : aw_fx f) : f 67 4 = 108 := h (67, 4, 108) (List.mem_of_getElem? (i := 74) rfl)
theorem fx_67_5 {f : am_F} (h : aw_fx f) : f 67 5 = 118 := h (67, 5, 118) (List.mem_of_getElem? (i := 75) rfl)
theorem fx_67_6 {f : am_F} (h : aw_fx f) : f 67 6 = 128 := h (67, 6, 128) (List.mem_of_getElem? (i := 76) rfl)
theorem fx_67_7 {f : am_F} (h : aw_fx f) : f 67 7 = 138 := h (67, 7, 138) (List.mem_of_getElem? (i := 77) rfl)
theorem fx_67_8 {f : am_F} (h : aw_fx f) : f 67 8 = 148 := h (67, 8, 148) (List.mem_of_getElem? (i := 78) rfl)
theorem fx_67_9 {f : am_F} (h : aw_fx f) : f 67 9 = 158 := h (67, 9, 158) (List.mem_of_getElem? (i := 79) rfl)
theorem fx_67_10 {f : am_F} (h : aw_fx f) : f 67 10 = 168 := h (67, 10, 168) (List.mem_of_getElem? (i := 80) rfl)
theorem fx_67_11 {f : am_F} (h : aw_fx f) : f 67 11 = 178 := h (67, 11, 178) (List.mem_of_getElem? (i := 81) rfl)
theorem fx_67_12 {f : am_F} (h : aw_fx f) : f 67 12 = 188 := h (67, 12, 188) (List.mem_of_getElem? (i := 82) rfl)
theorem fx_67_13 {f : am_F} (h : aw_fx f) : f 67 13 = 198 := h (67, 13, 198) (List.mem_of_getElem? (i := 83) rfl)
theorem fx_67_14 {f : am_F} (h : aw_fx f) : f 67 14 = 208 := h (67, 14, 208) (List.mem_of_getElem? (i := 84) rfl)
theorem fx_67_15 {f : am_F} (h : aw_fx f) : f 67 15 = 218 := h (67, 15, 218) (List.mem_of_getElem? (i := 85) rfl)
theorem fx_67_16 {f : am_F} (h : aw_fx f) : f 67 16 = 228 := h (67, 16, 228) (List.mem_of_getElem? (i := 86) rfl)
theorem fx_67_17 {f : am_F} (h : aw_fx f) : f 67 17 = 238 := h (67, 17, 238) (List.mem_of_getElem? (i := 87) rfl)
theorem fx_67_18 {f : am_F} (h : aw_fx f) : f 67 18 = 248 := h (67, 18, 248) (List.mem_of_getElem? (i := 88) rfl)
theorem fx_67_19 {f : am_F} (h : aw_fx f) : f 67 19 = 258 := h (67, 19, 258) (List.mem_of_getElem? (i := 89) rfl)
theorem fx_68_0 {f : am_F} (h : aw_fx f) : f 68 0 = 69 := h (68, 0, 69) (List.mem_of_getElem? (i := 90) rfl)
theorem fx_68_1 {f : am_F} (h : aw_fx f) : f 68 1 = 70 := h (68, 1, 70) (List.mem_of_getElem? (i := 91) rfl)
theorem fx_68_2 {f : am_F} (h : aw_fx f) : f 68 2 = 71 := h (68, 2, 71) (List.mem_of_getElem? (i := 92) rfl)
theorem fx_68_3 {f : am_F} (h : aw_fx f) : f 68 3 = 72 := h (68, 3, 72) (List.mem_of_getElem? (i := 93) rfl)
theorem fx_68_4 {f : am_F} (h : aw_fx f) : f 68 4 = 73 := h (68, 4, 73) (List.mem_of_getElem? (i := 94) rfl)
theorem fx_68_5 {f : am_F} (h : aw_fx f) : f 68 5 = 74 := h (68, 5, 74) (List.mem_of_getElem? (i := 95) rfl)
theorem fx_68_6 {f : am_F} (h : aw_fx f) : f 68 6 = 75 := h (68, 6, 75) (List.mem_of_getElem? (i := 96) rfl)
theorem fx_68_7 {f : am_F} (h : aw_fx f) : f 68 7 = 76 := h (68, 7, 76) (List.mem_of_getElem? (i := 97) rfl)
theorem fx_68_8 {f : am_F} (h : aw_fx f) : f 68 8 = 77 := h (68, 8, 77) (List.mem_of_getElem? (i := 98) rfl)
theorem fx_78_0 {f : am_F} (h : aw_fx f) : f 78 0 = 79 := h (78, 0, 79) (List.mem_of_getElem? (i := 99) rfl)
theorem fx_78_1 {f : am_F} (h : aw_fx f) : f 78 1 = 80 := h (78, 1, 80) (List.mem_of_getElem? (i := 100) rfl)
theorem fx_78_2 {f : am_F} (h : aw_fx f) : f 78 2 = 81 := h (78, 2, 81) (List.mem_of_getElem? (i := 101) rfl)
theorem fx_78_3 {f : am_F} (h : aw_fx f) : f 78 3 = 82 := h (78, 3, 82) (List.mem_of_getElem? (i := 102) rfl)
theorem fx_78_4 {f : am_F} (h : aw_fx f) : f 78 4 = 83 := h (78, 4, 83) (List.mem_of_getElem? (i := 103) rfl)
theorem fx_78_5 {f : am_F} (h : aw_fx f) : f 78 5 = 84 := h (78, 5, 84) (List.mem_of_getElem? (i := 104) rfl)
theorem fx_78_6 {f : am_F} (h : aw_fx f) : f 78 6 = 85 := h (78, 6, 85) (List.mem_of_getElem? (i := 105) rfl)
theorem fx_78_7 {f : am_F} (h : aw_fx f) : f 78 7 = 86 := h (78, 7, 86) (List.mem_of_getElem? (i := 106) rfl)
theorem fx_78_8 {f : am_F} (h : aw_fx f) : f 78 8 = 87 := h (78, 8, 87) (List.mem_of_getElem? (i := 107) rfl)
theorem fx_88_0 {f : am_F} (h : aw_fx f) : f 88 0 = 89 := h (88, 0, 89) (List.mem_of_getElem? (i := 108) rfl)
theorem fx_88_1 {f : am_F} (h : aw_fx f) : f 88 1 = 90 := h (88, 1, 90) (List.mem_of_getElem? (i := 109) rfl)
theorem fx_88_2 {f : am_F} (h : aw_fx f) : f 88 2 = 91 := h (88, 2, 91) (List.mem_of_getElem? (i := 110) rfl)
theorem fx_88_3 {f : am_F} (h : aw_fx f) : f 88 3 = 92 := h (88, 3, 92) (List.mem_of_getElem? (i := 111) rfl)
theorem fx_88_4 {f : am_F} (h : aw_fx f) : f 88 4 = 93 := h (88, 4, 93) (List.mem_of_getElem? (i := 112) rfl)
theorem fx_88_5 {f : am_F} (h : aw_fx f) : f 88 5 = 94 := h (88, 5, 94) (List.mem_of_getElem? (i := 113) rfl)
theorem fx_88_6 {f : am_F} (h : aw_fx f) : f 88 6 = 95 := h (88, 6, 95) (List.mem_of_getElem? (i := 114) rfl)
theorem fx_88_7 {f : am_F} (h : aw_fx f) : f 88 7 = 96 := h (88, 7, 96) (List.mem_of_getElem? (i := 115) rfl)
theorem fx_88_8 {f : am_F} (h : aw_fx f) : f 88 8 = 97 := h (88, 8, 97) (List.mem_of_getElem? (i := 116) rfl)
theorem fx_98_0 {f : am_F} (h : aw_fx f) : f 98 0 = 99 := h (98, 0, 99) (List.mem_of_getElem? (i := 117) rfl)
theorem fx_98_1 {f : am_F} (h : aw_fx f) : f 98 1 = 100 := h (98, 1, 100) (List.mem_of_getElem? (i := 118) rfl)
theorem fx_98_2 {f : am_F} (h : aw_fx f) : f 98 2 = 101 := h (98, 2, 101) (List.mem_of_getElem? (i := 119) rfl)
theorem fx_98_3 {f : am_F} (h : aw_fx f) : f 98 3 = 102 := h (98, 3, 102) (List.mem_of_getElem? (i := 120) rfl)
theorem fx_98_4 {f : am_F} (h : aw_fx f) : f 98 4 = 103 := h (98, 4, 103) (List.mem_of_getElem? (i := 121) rfl)
theorem fx_98_5 {f : am_F} (h : aw_fx f) : f 98 5 = 104 := h (98, 5, 104) (List.mem_of_getElem? (i := 122) rfl)
theorem fx_98_6 {f : am_F} (h : aw_fx f) : f 98 6 = 105 := h (98, 6, 105) (List.mem_of_getElem? (i := 123) rfl)
theorem fx_98_7 {f : am_F} (h : aw_fx f) : f 98 7 = 106 := h (98, 7, 106) (List.mem_of_getElem? (i := 124) rfl)
theorem fx_98_8 {f : am_F} (h : aw_fx f) : f 98 8 = 107 := h (98, 8, 107) (List.mem_of_getElem? (i := 125) rfl)
theorem fx_108_0 {f : am_F} (h : aw_fx f) : f 108 0 = 109 := h (108, 0, 109) (List.mem_of_getElem? (i := 126) rfl)
theorem fx_108_1 {f : am_F} (h : aw_fx f) : f 108 1 = 110 := h (108, 1, 110) (List.mem_of_getElem? (i := 127) rfl)
theorem fx_108_2 {f : am_F} (h : aw_fx f) : f 108 2 = 111 := h (108, 2, 111) (List.mem_of_getElem? (i := 128) rfl)
theorem fx_108_3 {f : am_F} (h : aw_fx f) : f 108 3 = 112 := h (108, 3, 112) (List.mem_of_getElem? (i := 129) rfl)
theorem fx_108_4 {f : am_F} (h : aw_fx f) : f 108 4 = 113 := h (108, 4, 113) (List.mem_of_getElem? (i := 130) rfl)
theorem fx_108_5 {f : am_F} (h : aw_fx f) : f 108 5 = 114 := h (108, 5, 114) (List.mem_of_getElem? (i := 131) rfl)
theorem fx_108_6 {f : am_F} (h : aw_fx f) : f 108 6 = 115 := h (108, 6, 115) (List.mem_of_getElem? (i := 132) rfl)
theorem fx_108_7 {f : am_F} (h : aw_fx f) : f 108 7 = 116 := h (108, 7, 116) (List.mem_of_getElem? (i := 133) rfl)
theorem fx_108_8 {f : am_F} (h : aw_fx f) : f 108 8 = 117 := h (108, 8, 117) (List.mem_of_getElem? (i := 134) rfl)
theorem fx_118_0 {f : am_F} (h : aw_fx f) : f 118 0 = 119 := h (118, 0, 119) (List.mem_of_getElem? (i := 135) rfl)
theorem fx_118_1 {f : am_F} (h : aw_fx f) : f 118 1 = 120 := h (118, 1, 120) (List.mem_of_getElem? (i := 136) rfl)
theorem fx_118_2 {f : am_F} (h : aw_fx f) : f 118 2 = 121 := h (118, 2, 121) (List.mem_of_getElem? (i := 137) rfl)
theorem fx_118_3 {f : am_F} (h : aw_fx f) : f 118 3 = 122 := h (118, 3, 122) (List.mem_of_getElem? (i := 138) rfl)
theorem fx_118_4 {f : am_F} (h : aw_fx f) : f 118 4 = 123 := h (118, 4, 123) (List.mem_of_getElem? (i := 139) rfl)
theorem fx_118_5 {f : am_F} (h : aw_fx f) : f 118 5 = 124 := h (118, 5, 124) (List.mem_of_getElem? (i := 140) rfl)
theorem fx_118_6 {f : am_F} (h : aw_fx f) : f 118 6 = 125 := h (118, 6, 125) (List.mem_of_getElem? (i := 141) rfl)
theorem fx_118_7 {f : am_F} (h : aw_fx f) : f 118 7 = 126 := h (118, 7, 126) (List.mem_of_getElem? (i := 142) rfl)
theorem fx_118_8 {f : am_F} (h : aw_fx f) : f 118 8 = 127 := h (118, 8, 127) (List.mem_of_getElem? (i := 143) rfl)
theorem fx_128_0 {f : am_F} (h : aw_fx f) : f 128 0 = 129 := h (128, 0, 129) (List.mem_of_getElem? (i := 144) rfl)
theorem fx_128_1 {f : am_F} (h : aw_fx f) : f 128 1 = 130 := h (128, 1, 130) (List.mem_of_getElem? (i := 145) rfl)
theorem fx_128_2 {f : am_F} (h : aw_fx f) : f 128 2 = 131 := h (128, 2, 131) (List.mem_of_getElem? (i := 146) rfl)
theorem fx_128_3 {f : am_F} (h : aw_fx f) : f 128 3 = 132 := h (128, 3, 132) (List.mem_of_getElem? (i := 147) rfl)
theorem fx_128_4 {f : am_F} (h : aw_fx f) : f 128 4 = 133 := h (128, 4, 133) (List.mem_of_getElem? (i := 148) rfl)
theorem fx_128_5 {f : am_F} (h : aw_fx f) : f 128 5 = 134 := h (128, 5, 134) (List.mem_of_getElem? (i := 149) rfl)
theorem fx_128_6 {f : am_F} (h : aw_fx f) : f 128 6 = 135 := h (128, 6, 135) (List.mem_of_getElem? (i := 150) rfl)
theorem fx_128_7 {f : am_F} (h : aw_fx f) : f 128 7 = 136 := h (128, 7, 136) (List.mem_of_getElem? (i := 151) rfl)
theorem fx_128_8 {f : am_F} (h : aw_fx f) : f 128 8 = 137 := h (128, 8, 137) (List.mem_of_getElem? (i := 152) rfl)
theorem fx_138_0 {f : am_F} (h : aw_fx f) : f 138 0 = 139 := h (138, 0, 139) (List.mem_of_getElem? (i := 153) rfl)
theorem fx_138_1 {f : am_F} (h : aw_fx f) : f 138 1 = 140 := h (138, 1, 140) (List.mem_of_getElem? (i := 154) rfl)
theorem fx_138_2 {f : am_F} (h : aw_fx f) : f 138 2 = 141 := h (138, 2, 141) (List.mem_of_getElem? (i := 155) rfl)
theorem fx_138_3 {f : am_F} (h : aw_fx f) : f 138 3 = 142 := h (138, 3, 142) (List.mem_of_getElem? (i := 156) rfl)
theorem fx_138_4 {f : am_F} (h : aw_fx f) : f 138 4 = 143 := h (138, 4, 143) (List.mem_of_getElem? (i := 157) rfl)
theorem fx_138_5 {f : am_F} (h : aw_fx f) : f 138 5 = 144 := h (138, 5, 144) (List.mem_of_getElem? (i := 158) rfl)
theorem fx_138_6 {f : am_F} (h : aw_fx f) : f 138 6 = 145 := h (138, 6, 145) (List.mem_of_getElem? (i := 159) rfl)
theorem fx_138_7 {f : am_F} (h : aw_fx f) : f 138 7 = 146 := h (138, 7, 146) (List.mem_of_getElem? (i := 160) rfl)
theorem fx_138_8 {f : am_F} (h : aw_fx f) : f 138 8 = 147 := h (138, 8, 147) (List.mem_of_getElem? (i := 161) rfl)
theorem fx_148_0 {f : am_F} (h : aw_fx f) : f 148 0 = 149 := h (148, 0, 149) (List.mem_of_getElem? (i := 162) rfl)
theorem fx_148_1 {f : am_F} (h : aw_fx f) : f 148 1 = 150 := h (148, 1, 150) (List.mem_of_getElem? (i := 163) rfl)
theorem fx_148_2 {f : am_F} (h : aw_fx f) : f 148 2 = 151 := h (148, 2, 151) (List.mem_of_getElem? (i := 164) rfl)
theorem fx_148_3 {f : am_F} (h : aw_fx f) : f 148 3 = 152 := h (148, 3, 152) (List.mem_of_getElem? (i := 165) rfl)
theorem fx_148_4 {f : am_F} (h : aw_fx f) : f 148 4 = 153 := h (148, 4, 153) (List.mem_of_getElem? (i := 166) rfl)
theorem fx_148_5 {f : am_F} (h : aw_fx f) : f 148 5 = 154 := h (148, 5, 154) (List.mem_of_getElem? (i := 167) rfl)
theorem fx_148_6 {f : am_F} (h : aw_fx f) : f 148 6 = 155 := h (148, 6, 155) (List.mem_of_getElem? (i := 168) rfl)
theorem fx_148_7 {f : am_F} (h : aw_fx f) : f 148 7 = 156 := h (148, 7, 156) (List.mem_of_getElem? (i := 169) rfl)
theorem fx_148_8 {f : am_F} (h : aw_fx f) : f 148 8 = 157 := h (148, 8, 157) (List.mem_of_getElem? (i := 170) rfl)
theorem fx_158_0 {f : am_F} (h : aw_fx f) : f 158 0 = 159 := h (158, 0, 159) (List.mem_of_getElem? (i := 171) rfl)
theorem fx_158_1 {f : am_F} (h : aw_fx f) : f 158 1 = 160 := h (158, 1, 160) (List.mem_of_getElem? (i := 172) rfl)
theorem fx_158_2 {f : am_F} (h : aw_fx f) : f 158 2 = 161 := h (158, 2, 161) (List.mem_of_getElem? (i := 173) rfl)
theorem fx_158_3 {f : am_F} (h : aw_fx f) : f 158 3 = 162 := h (158, 3, 162) (List.mem_of_getElem? (i := 174) rfl)
theorem fx_158_4 {f : am_F} (h : aw_fx f) : f 158 4 = 163 := h (158, 4, 163) (List.mem_of_getElem? (i := 175) rfl)
theorem fx_158_5 {f : am_F} (h : aw_fx f) : f 158 5 = 164 := h (158, 5, 164) (List.mem_of_getElem? (i := 176) rfl)
theorem fx_158_6 {f : am_F} (h : aw_fx f) : f 158 6 = 165 := h (158, 6, 165) (List.mem_of_getElem? (i := 177) rfl)
theorem fx_158_7 {f : am_F} (h : aw_fx f) : f 158 7 = 166 := h (158, 7, 166) (List.mem_of_getElem? (i := 178) rfl)
theorem fx_158_8 {f : am_F} (h : aw_fx f) : f 158 8 = 167 := h (158, 8, 167) (List.mem_of_getElem? (i := 179) rfl)
theorem fx_168_0 {f : am_F} (h : aw_fx f) : f 168 0 = 169 := h (168, 0, 169) (List.mem_of_getElem? (i := 180) rfl)
theorem fx_168_1 {f : am_F} (h : aw_fx f) : f 168 1 = 170 := h (168, 1, 170) (List.mem_of_getElem? (i := 181) rfl)
theorem fx_168_2 {f : am_F} (h : aw_fx f) : f 168 2 = 171 := h (168, 2, 171) (List.mem_of_getElem? (i := 182) rfl)
theorem fx_168_3 {f : am_F} (h : aw_fx f) : f 168 3 = 172 := h (168, 3, 172) (List.mem_of_getElem? (i := 183) rfl)
theorem fx_168_4 {f : am_F} (h : aw_fx f) : f 168 4 = 173 := h (168, 4, 173) (List.mem_of_getElem? (i := 184) rfl)
theorem fx_168_5 {f : am_F} (h : aw_fx f) : f 168 5 = 174 := h (168, 5, 174) (List.mem_of_getElem? (i := 185) rfl)
theorem fx_168_6 {f : am_F} (h : aw_fx f) : f 168 6 = 175 := h (168, 6, 175) (List.mem_of_getElem? (i := 186) rfl)
theorem fx_168_7 {f : am_F} (h : aw_fx f) : f 168 7 = 176 := h (168, 7, 176) (List.mem_of_getElem? (i := 187) rfl)
theorem fx_168_8 {f : am_F} (h : aw_fx f) : f 168 8 = 177 := h (168, 8, 177) (List.mem_of_getElem? (i := 188) rfl)
theorem fx_178_0 {f : am_F} (h : aw_fx f) : f 178 0 = 179 := h (178, 0, 179) (List.mem_of_getElem? (i := 189) rfl)
theorem fx_178_1 {f : am_F} (h : aw_fx f) : f 178 1 = 180 := h (178, 1, 180) (List.mem_of_getElem? (i := 190) rfl)
theorem fx_178_2 {f : am_F} (h : aw_fx f) : f 178 2 = 181 := h (178, 2, 181) (List.mem_of_getElem? (i := 191) rfl)
theorem fx_178_3 {f : am_F} (h : aw_fx f) : f 178 3 = 182 := h (178, 3, 182) (List.mem_of_getElem? (i := 192) rfl)
theorem fx_178_4 {f : am_F} (h : aw_fx f) : f 178 4 = 183 := h (178, 4, 183) (List.mem_of_getElem? (i := 193) rfl)
theorem fx_178_5 {f : am_F} (h : aw_fx f) : f 178 5 = 184 := h (178, 5, 184) (List.mem_of_getElem? (i := 194) rfl)
theorem fx_178_6 {f : am_F} (h : aw_fx f) : f 178 6 = 185 := h (178, 6, 185) (List.mem_of_getElem? (i := 195) rfl)
theorem fx_178_7 {f : am_F} (h : aw_fx f) : f 178 7 = 186 := h (178, 7, 186) (List.mem_of_getElem? (i := 196) rfl)
theorem fx_178_8 {f : am_F} (h : aw_fx f) : f 178 8 = 187 := h (178, 8, 187) (List.mem_of_getElem? (i := 197) rfl)
theorem fx_188_0 {f : am_F} (h : aw_fx f) : f 188 0 = 189 := h (188, 0, 189) (List.mem_of_getElem? (i := 198) rfl)
theorem fx_188_1 {f : am_F} (h : aw_fx f) : f 188 1 = 190 := h (188, 1, 190) (List.mem_of_getElem? (i := 199) rfl)
theorem fx_188_2 {f : am_F} (h : aw_fx f) : f 188 2 = 191 := h (188, 2, 191) (List.mem_of_getElem? (i := 200) rfl)
theorem fx_188_3 {f : am_F} (h : aw_fx f) : f 188 3 = 192 := h (188, 3, 192) (List.mem_of_getElem? (i := 201) rfl)
theorem fx_188_4 {f : am_F} (h : aw_fx f) : f 188 4 = 193 := h (188, 4, 193) (List.mem_of_getElem? (i := 202) rfl)
theorem fx_188_5 {f : am_F} (h : aw_fx f) : f 188 5 = 194 := h (188, 5, 194) (List.mem_of_getElem? (i := 203) rfl)
theorem fx_188_6 {f : am_F} (h : aw_fx f) : f 188 6 = 195 := h (188, 6, 195) (List.mem_of_getElem? (i := 204) rfl)
theorem fx_188_7 {f : am_F} (h : aw_fx f) : f 188 7 = 196 := h (188, 7, 196) (List.mem_of_getElem? (i := 205) rfl)
theorem fx_188_8 {f : am_F} (h : aw_fx f) : f 188 8 = 197 := h (188, 8, 197) (List.mem_of_getElem? (i := 206) rfl)
theorem fx_198_0 {f : am_F} (h : aw_fx f) : f 198 0 = 199 := h (198, 0, 199) (List.mem_of_getElem? (i := 207) rfl)
theorem fx_198_1 {f : am_F} (h : aw_fx f) : f 198 1 = 200 := h (198, 1, 200) (List.mem_of_getElem? (i := 208) rfl)
theorem fx_198_2 {f : am_F} (h : aw_fx f) : f 198 2 = 201 := h (198, 2, 201) (List.mem_of_getElem? (i := 209) rfl)
theorem fx_198_3 {f : am_F} (h : aw_fx f) : f 198 3 = 202 := h (198, 3, 202) (List.mem_of_getElem? (i := 210) rfl)
theorem fx_198_4 {f : am_F} (h : aw_fx f) : f 198 4 = 203 := h (198, 4, 203) (List.mem_of_getElem? (i := 211) rfl)
theorem fx_198_5 {f : am_F} (h : aw_fx f) : f 198 5 = 204 := h (198, 5, 204) (List.mem_of_getElem? (i := 212) rfl)
theorem fx_198_6 {f : am_F} (h : aw_fx f) : f 198 6 = 205 := h (198, 6, 205) (List.mem_of_getElem? (i := 213) rfl)
theorem fx_198_7 {f : am_F} (h : aw_fx f) : f 198 7 = 206 := h (198, 7, 206) (List.mem_of_getElem? (i := 214) rfl)
theorem fx_198_8 {f : am_F} (h : aw_fx f) : f 198 8 = 207 := h (198, 8, 207) (List.mem_of_getElem? (i := 215) rfl)
theorem fx_208_0 {f : am_F} (h : aw_fx f) : f 208 0 = 209 := h (208, 0, 209) (List.mem_of_getElem? (i := 216) rfl)
theorem fx_208_1 {f : am_F} (h : aw_fx f) : f 208 1 = 210 := h (208, 1, 210) (List.mem_of_getElem? (i := 217) rfl)
theorem fx_208_2 {f : am_F} (h : aw_fx f) : f 208 2 = 211 := h (208, 2, 211) (List.mem_of_getElem? (i := 218) rfl)
theorem fx_208_3 {f : am_F} (h : aw_fx f) : f 208 3 = 212 := h (208, 3, 212) (List.mem_of_getElem? (i := 219) rfl)
theorem fx_208_4 {f : am_F} (h : aw_fx f) : f 208 4 = 213 := h (208, 4, 213) (List.mem_of_getElem? (i := 220) rfl)
theorem fx_208_5 {f : am_F} (h : aw_fx f) : f 208 5 = 214 := h (208, 5, 214) (List.mem_of_getElem? (i := 221) rfl)
theorem fx_208_6 {f : am_F} (h : aw_fx f) : f 208 6 = 215 := h (208, 6, 215) (List.mem_of_getElem? (i := 222) rfl)
theorem fx_208_7 {f : am_F} (h : aw_fx f) : f 208 7 = 216 := h (208, 7, 216) (List.mem_of_getElem? (i := 223) rfl)
theorem fx_208_8 {f : am_F} (h : aw_fx f) : f 208 8 = 217 := h (208, 8, 217) (List.mem_of_getElem? (i := 224) rfl)
theorem fx_218_0 {f : am_F} (h : aw_fx f) : f 218 0 = 219 := h (218, 0, 219) (List.mem_of_getElem? (i := 225) rfl)
theorem fx_218_1 {f : am_F} (h : aw_fx f) : f 218 1 = 220 := h (218, 1, 220) (List.mem_of_getElem? (i := 226) rfl)
theorem fx_218_2 {f : am_F} (h : aw_fx f) : f 218 2 = 221 := h (218, 2, 221) (List.mem_of_getElem? (i := 227) rfl)
theorem fx_218_3 {f : am_F} (h : aw_fx f) : f 218 3 = 222 := h (218, 3, 222) (List.mem_of_getElem? (i := 228) rfl)
theorem fx_218_4 {f : am_F} (h : aw_fx f) : f 218 4 = 223 := h (218, 4, 223) (List.mem_of_getElem? (i := 229) rfl)
theorem fx_218_5 {f : am_F} (h : aw_fx f) : f 218 5 = 224 := h (218, 5, 224) (List.mem_of_getElem? (i := 230) rfl)
theorem fx_218_6 {f : am_F} (h : aw_fx f) : f 218 6 = 225 := h (218, 6, 225) (List.mem_of_getElem? (i := 231) rfl)
theorem fx_218_7 {f : am_F} (h : aw_fx f) : f 218 7 = 226 := h (218, 7, 226) (List.mem_of_getElem? (i := 232) rfl)
theorem fx_218_8 {f : am_F} (h : aw_fx f) : f 218 8 = 227 := h (218, 8, 227) (List.mem_of_getElem? (i := 233) rfl)
theorem fx_228_0 {f : am_F} (h : aw_fx f) : f 228 0 = 229 := h (228, 0, 229) (List.mem_of_getElem? (i := 234) rfl)
theorem fx_228_1 {f : am_F} (h : aw_fx f) : f 228 1 = 230 := h (228, 1, 230) (List.mem_of_getElem? (i := 235) rfl)
theorem fx_228_2 {f : am_F} (h : aw_fx f) : f 228 2 = 231 := h (228, 2, 231) (List.mem_of_getElem? (i := 236) rfl)
theorem fx_228_3 {f : am_F} (h : aw_fx f) : f 228 3 = 232 := h (228, 3, 232) (List.mem_of_getElem? (i := 237) rfl)
theorem fx_228_4 {f : am_F} (h : aw_fx f) : f 228 4 = 233 := h (228, 4, 233) (List.mem_of_getElem? (i := 238) rfl)
theorem fx_228_5 {f : am_F} (h : aw_fx f) : f 228 5 = 234 := h (228, 5, 234) (List.mem_of_getElem? (i := 239) rfl)
theorem fx_228_6 {f : am_F} (h : aw_fx f) : f 228 6 = 235 := h (228, 6, 235) (List.mem_of_getElem? (i := 240) rfl)
theorem fx_228_7 {f : am_F} (h : aw_fx f) : f 228 7 = 236 := h (228, 7, 236) (List.mem_of_getElem? (i := 241) rfl)
theorem fx_228_8 {f : am_F} (h : aw_fx f) : f 228 8 = 237 := h (228, 8, 237) (List.mem_of_getElem? (i := 242) rfl)
theorem fx_238_0 {f : am_F} (h : aw_fx f) : f 238 0 = 239 := h (238, 0, 239) (List.mem_of_getElem? (i := 243) rfl)
theorem fx_238_1 {f : am_F} (h : aw_fx f) : f 238 1 = 240 := h (238, 1, 240) (List.mem_of_getElem? (i := 244) rfl)
theorem fx_238_2 {f : am_F} (h : aw_fx f) : f 238 2 = 241 := h (238, 2, 241) (List.mem_of_getElem? (i := 245) rfl)
theorem fx_238_3 {f : am_F} (h : aw_fx f) : f 238 3 = 242 := h (238, 3, 242) (List.mem_of_getElem? (i := 246) rfl)
theorem fx_238_4 {f : am_F} (h : aw_fx f) : f 238 4 = 243 := h (238, 4, 243) (List.mem_of_getElem? (i := 247) rfl)
theorem fx_238_5 {f : am_F} (h : aw_fx f) : f 238 5 = 244 := h (238, 5, 244) (List.mem_of_getElem? (i := 248) rfl)
theorem fx_238_6 {f : am_F} (h : aw_fx f) : f 238 6 = 245 := h (238, 6, 245) (List.mem_of_getElem? (i := 249) rfl)
theorem fx_238_7 {f : am_F} (h : aw_fx f) : f 238 7 = 246 := h (238, 7, 246) (List.mem_of_getElem? (i := 250) rfl)
theorem fx_238_8 {f : am_F} (h : aw_fx f) : f 238 8 = 247 := h (238, 8, 247) (List.mem_of_getElem? (i := 251) rfl)
theorem fx_248_0 {f : am_F} (h : aw_fx f) : f 248 0 = 249 := h (248, 0, 249) (List.mem_of_getElem? (i := 252) rfl)
theorem fx_248_1 {f : am_F} (h : aw_fx f) : f 248 1 = 250 := h (248, 1, 250) (List.mem_of_getElem? (i := 253) rfl)
theorem fx_248_2 {f : am_F} (h : aw_fx f) : f 248 2 = 251 := h (248, 2, 251) (List.mem_of_getElem? (i := 254) rfl)
theorem fx_248_3 {f : am_F} (h : aw_fx f) : f 248 3 = 252 := h (248, 3, 252) (List.mem_of_getElem? (i := 255) rfl)
theorem fx_248_4 {f : am_F} (h : aw_fx f) : f 248 4 = 253 := h (248, 4, 253) (List.mem_of_getElem? (i := 256) rfl)
theorem fx_248_5 {f : am_F} (h : aw_fx f) : f 248 5 = 254 := h (248, 5, 254) (List.mem_of_getElem? (i := 257) rfl)
theorem fx_248_6 {f : am_F} (h : aw_fx f) : f 248 6 = 255 := h (248, 6, 255) (List.mem_of_getElem? (i := 258) rfl)
theorem fx_248_7 {f : am_F} (h : aw_fx f) : f 248 7 = 256 := h (248, 7, 256) (List.mem_of_getElem? (i := 259) rfl)
theorem fx_248_8 {f : am_F} (h : aw_fx f) : f 248 8 = 257 := h (248, 8, 257) (List.mem_of_getElem? (i := 260) rfl)
theorem fx_258_0 {f : am_F} (h : aw_fx f) : f 258 0 = 259 := h (258, 0, 259) (List.mem_of_getElem? (i := 261) rfl)
theorem fx_258_1 {f : am_F} (h : aw_fx f) : f 258 1 = 260 := h (258, 1, 260) (List.mem_of_getElem? (i := 262) rfl)
theorem fx_258_2 {f : am_F} (h : aw_fx f) : f 258 2 = 261 := h (258, 2, 261) (List.mem_of_getElem? (i := 263) rfl)
theorem fx_258_3 {f : am_F} (h : aw_fx f) : f 258 3 = 262 := h (258, 3, 262) (List.mem_of_getElem? (i := 264) rfl)
theorem fx_258_4 {f : am_F} (h : aw_fx f) : f 258 4 = 263 := h (258, 4, 263) (List.mem_of_getElem? (i := 265) rfl)
theorem fx_258_5 {f : am_F} (h : aw_fx f) : f 258 5 = 264 := h (258, 5, 264) (List.mem_of_getElem? (i := 266) rfl)
theorem fx_258_6 {f : am_F} (h : aw_fx f) : f 258 6 = 265 := h (258, 6, 265) (List.mem_of_getElem? (i := 267) rfl)
theorem fx_258_7 {f : am_F} (h : aw_fx f) : f 258 7 = 266 := h (258, 7, 266) (List.mem_of_getElem? (i := 268) rfl)
theorem fx_258_8 {f : am_F} (h : aw_fx f) : f 258 8 = 267 := h (258, 8, 267) (List.mem_of_getElem? (i := 269) rfl)
theorem fx_270_0 {f : am_F} (h : aw_fx f) : f 270 0 = 271 := h (270, 0, 271) (List.mem_of_getElem? (i := 270) rfl)
theorem fx_270_9 {f : am_F} (h : aw_fx f) : f 270 9 = 272 := h (270, 9, 272) (List.mem_of_getElem? (i := 271) rfl)
theorem fx_270_10 {f : am_F} (h : aw_fx f) : f 270 10 = 273 := h (270, 10, 273) (List.mem_of_getElem? (i := 272) rfl)
theorem fx_270_11 {f : am_F} (h : aw_fx f) : f 270 11 = 274 := h (270, 11, 274) (List.mem_of_getElem? (i := 273) rfl)
theorem fx_270_12 {f : am_F} (h : aw_fx f) : f 270 12 = 275 := h (270, 12, 275) (List.mem_of_getElem? (i := 274) rfl)
theorem fx_270_13 {f : am_F} (h : aw_fx f) : f 270 13 = 276 := h (270, 13, 276) (List.mem_of_getElem? (i := 275) rfl)
theorem fx_270_14 {f : am_F} (h : aw_fx f) : f 270 14 = 277 := h (270, 14, 277) (List.mem_of_getElem? (i := 276) rfl)
theorem fx_270_15 {f : am_F} (h : aw_fx f) : f 270 15 = 278 := h (270, 15, 278) (List.mem_of_getElem? (i := 277) rfl)
theorem fx_270_16 {f : am_F} (h : aw_fx f) : f 270 16 = 279 := h (270, 16, 279) (List.mem_of_getElem? (i := 278) rfl)
theorem fx_270_17 {f : am_F} (h : aw_fx f) : f 270 17 = 280 := h (270, 17, 280) (List.mem_of_getElem? (i := 279) rfl)
theorem fx_270_18 {f : am_F} (h : aw_fx f) : f 270 18 = 281 := h (270, 18, 281) (List.mem_of_getElem? (i := 280) rfl)
theorem fx_270_19 {f : am_F} (h : aw_fx f) : f 270 19 = 282 := h (270, 19, 282) (List.mem_of_getElem? (i := 281) rfl)
theorem fx_270_20 {f : am_F} (h : aw_fx f) : f 270 20 = 283 := h (270, 20, 283) (List.mem_of_getElem? (i := 282) rfl)
theorem fx_270_21 {f : am_F} (h : aw_fx f) : f 270 21 = 284 := h (270, 21, 284) (List.mem_of_getElem? (i := 283) rfl)
theorem fx_270_22 {f : am_F} (h : aw_fx f) : f 270 22 = 285 := h (270, 22, 285) (List.mem_of_getElem? (i := 284) rfl)
theorem fx_270_23 {f : am_F} (h : aw_fx f) : f 270 23 = 286 := h (270, 23, 286) (List.mem_of_getElem? (i := 285) rfl)
theorem fx_270_24 {f : am_F} (h : aw_fx f) : f 270 24 = 287 := h (270, 24, 287) (List.mem_of_getElem? (i := 286) rfl)
theorem fx_270_25 {f : am_F} (h : aw_fx f) : f 270 25 = 288 := h (270, 25, 288) (List.mem_of_getElem? (i := 287) rfl)
theorem fx_270_26 {f : am_F} (h : aw_fx f) : f 270 26 = 289 := h (270, 26, 289) (List.mem_of_getElem? (i := 288) rfl)
theorem fx_270_27 {f : am_F} (h : aw_fx f) : f 270 27 = 290 := h (270, 27, 290) (List.mem_of_getElem? (i := 289) rfl)
theorem fx_270_28 {f : am_F} (h : aw_fx f) : f 270 28 = 291 := h (270, 28, 291) (List.mem_of_getElem? (i := 290) rfl)
theorem fx_270_29 {f : am_F} (h : aw_fx f) : f 270 29 = 292 := h (270, 29, 292) (List.mem_of_getElem? (i := 291) rfl)
theorem fx_270_30 {f : am_F} (h : aw_fx f) : f 270 30 = 293 := h (270, 30, 293) (List.mem_of_getElem? (i := 292) rfl)
theorem fx_270_31 {f : am_F} (h : aw_fx f) : f 270 31 = 294 := h (270, 31, 294) (List.mem_of_getElem? (i := 293) rfl)
theorem fx_270_32 {f : am_F} (h : aw_fx f) : f 270 32 = 295 := h (270, 32, 295) (List.mem_of_getElem? (i := 294) rfl)
theorem fx_270_33 {f : am_F} (h : aw_fx f) : f 270 33 = 296 := h (270, 33, 296) (List.mem_of_getElem? (i := 295) rfl)
theorem fx_270_34 {f : am_F} (h : aw_fx f) : f 270 34 = 297 := h (270, 34, 297) (List.mem_of_getElem? (i := 296) rfl)
theorem fx_270_35 {f : am_F} (h : aw_fx f) : f 270 35 = 298 := h (270, 35, 298) (List.mem_of_getElem? (i := 297) rfl)
theorem fx_270_36 {f : am_F} (h : aw_fx f) : f 270 36 = 299 := h (270, 36, 299) (List.mem_of_getElem? (i := 298) rfl)
theorem fx_270_37 {f : am_F} (h : aw_fx f) : f 270 37 = 300 := h (270, 37, 300) (List.mem_of_getElem? (i := 299) rfl)
theorem fx_270_39 {f : am_F} (h : aw_fx f) : f 270 39 = 301 := h (270, 39, 301) (List.mem_of_getElem? (i := 300) rfl)
theorem fx_270_40 {f : am_F} (h : aw_fx f) : f 270 40 = 302 := h (270, 40, 302) (List.mem_of_getElem? (i := 301) rfl)
theorem fx_270_41 {f : am_F} (h : aw_fx f) : f 270 41 = 303 := h (270, 41, 303) (List.mem_of_getElem? (i := 302) rfl)
theorem fx_270_42 {f : am_F} (h : aw_fx f) : f 270 42 = 304 := h (270, 42, 304) (List.mem_of_getElem? (i := 303) rfl)
theorem fx_270_45 {f : am_F} (h : aw_fx f) : f 270 45 = 305 := h (270, 45, 305) (List.mem_of_getElem? (i := 304) rfl)
theorem fx_270_46 {f : am_F} (h : aw_fx f) : f 270 46 = 306 := h (270, 46, 306) (List.mem_of_getElem? (i := 305) rfl)
theorem fx_270_47 {f : am_F} (h : aw_fx f) : f 270 47 = 307 := h (270, 47, 307) (List.mem_of_getElem? (i := 306) rfl)
theorem fx_270_51 {f : am_F} (h : aw_fx f) : f 270 51 = 308 := h (270, 51, 308) (List.mem_of_getElem? (i := 307) rfl)
theorem fx_270_52 {f : am_F} (h : aw_fx f) : f 270 52 = 309 := h (270, 52, 309) (List.mem_of_getElem? (i := 308) rfl)
theorem fx_270_56 {f : am_F} (h : aw_fx f) : f 270 56 = 310 := h (270, 56, 310) (List.mem_of_getElem? (i := 309) rfl)
theorem fx_270_59 {f : am_F} (h : aw_fx f) : f 270 59 = 311 := h (270, 59, 311) (List.mem_of_getElem? (i := 310) rfl)
theorem fx_270_60 {f : am_F} (h : aw_fx f) : f 270 60 = 312 := h (270, 60, 312) (List.mem_of_getElem? (i := 311) rfl)
theorem fx_270_61 {f : am_F} (h : aw_fx f) : f 270 61 = 313 := h (270, 61, 313) (List.mem_of_getElem? (i := 312) rfl)
theorem fx_270_62 {f : am_F} (h : aw_fx f) : f 270 62 = 314 := h (270, 62, 314) (List.mem_of_getElem? (i := 313) rfl)
theorem fx_270_63 {f : am_F} (h : aw_fx f) : f 270 63 = 315 := h (270, 63, 315) (List.mem_of_getElem? (i := 314) rfl)
theorem fx_270_64 {f : am_F} (h : aw_fx f) : f 270 64 = 316 := h (270, 64, 316) (List.mem_of_getElem? (i := 315) rfl)
theorem fx_270_68 {f : am_F} (h : aw_fx f) : f 270 68 = 317 := h (270, 68, 317) (List.mem_of_getElem? (i := 316) rfl)
theorem fx_270_69 {f : am_F} (h : aw_fx f) : f 270 69 = 318 := h (270, 69, 318) (List.mem_of_getElem? (i := 317) rfl)
theorem fx_270_70 {f : am_F} (h : aw_fx f) : f 270 70 = 319 := h (270, 70, 319) (List.mem_of_getElem? (i := 318) rfl)
theorem fx_270_71 {f : am_F} (h : aw_fx f) : f 270 71 = 320 := h (270, 71, 320) (List.mem_of_getElem? (i := 319) rfl)
theorem fx_270_72 {f : am_F} (h : aw_fx f) : f 270 72 = 321 := h (270, 72, 321) (List.mem_of_getElem? (i := 320) rfl)
theorem fx_270_73 {f : am_F} (h : aw_fx f) : f 270 73 = 322 := h (270, 73, 322) (List.mem_of_getElem? (i := 321) rfl)
theorem fx_270_74 {f : am_F} (h : aw_fx f) : f 270 74 = 323 := h (270, 74, 323) (List.mem_of_getElem? (i := 322) rfl)
theorem fx_270_75 {f : am_F} (h : aw_fx f) : f 270 75 = 324 := h (270, 75, 324) (List.mem_of_getElem? (i := 323) rfl)
theorem fx_270_76 {f : am_F} (h : aw_fx f) : f 270 76 = 325 := h (270, 76, 325) (List.mem_of_getElem? (i := 324) rfl)
theorem fx_270_77 {f : am_F} (h : aw_fx f) : f 270 77 = 326 := h (270, 77, 326) (List.mem_of_getElem? (i := 325) rfl)
theorem fx_270_78 {f : am_F} (h : aw_fx f) : f 270 78 = 327 := h (270, 78, 327) (List.mem_of_getElem? (i := 326) rfl)
theorem fx_270_79 {f : am_F} (h : aw_fx f) : f 270 79 = 328 := h (270, 79, 328) (List.mem_of_getElem? (i := 327) rfl)
theorem fx_270_80 {f : am_F} (h : aw_fx f) : f 270 80 = 329 := h (270, 80, 329) (List.mem_of_getElem? (i := 328) rfl)
theorem fx_270_81 {f : am_F} (h : aw_fx f) : f 270 81 = 330 := h (270, 81, 330) (List.mem_of_getElem? (i := 329) rfl)
theorem fx_270_82 {f : am_F} (h : aw_fx f) : f 270 82 = 331 := h (270, 82, 331) (List.mem_of_getElem? (i := 330) rfl)
theorem fx_270_83 {f : am_F} (h : aw_fx f) : f 270 83 = 332 := h (270, 83, 332) (List.mem_of_getElem? (i := 331) rfl)
theorem fx_270_84 {f : am_F} (h : aw_fx f) : f 270 84 = 333 := h (270, 84, 333) (List.mem_of_getElem? (i := 332) rfl)
theorem fx_270_85 {f : am_F} (h : aw_fx f) : f 270 85 = 334 := h (270, 85, 334) (List.mem_of_getElem? (i := 333) rfl)
theorem fx_270_86 {f : am_F} (h : aw_fx f) : f 270 86 = 335 := h (270, 86, 335) (List.mem_of_getElem? (i := 334) rfl)
theorem fx_270_87 {f : am_F} (h : aw_fx f) : f 270 87 = 336 := h (270, 87, 336) (List.mem_of_getElem? (i := 335) rfl)
theorem fx_270_88 {f : am_F} (h : aw_fx f) : f 270 88 = 337 := h (270, 88, 337) (List.mem_of_getElem? (i := 336) rfl)
theorem fx_270_89 {f : am_F} (h : aw_fx f) : f 270 89 = 338 := h (270, 89, 338) (List.mem_of_getElem? (i := 337) rfl)
theorem fx_270_90 {f : am_F} (h : aw_fx f) : f 270 90 = 339 := h (270, 90, 339) (List.mem_of_getElem? (i := 338) rfl)
theorem fx_270_91 {f : am_F} (h : aw_fx f) : f 270 91 = 340 := h (270, 91, 340) (List.mem_of_getElem? (i := 339) rfl)
theorem fx_270_93 {f : am_F} (h : aw_fx f) : f 270 93 = 341 := h (270, 93, 341) (List.mem_of_getElem? (i := 340) rfl)
theorem fx_270_97 {f : am_F} (h : aw_fx f) : f 270 97 = 342 := h (270, 97, 342) (List.mem_of_getElem? (i := 341) rfl)
theorem fx_270_101 {f : am_F} (h : aw_fx f) : f 270 101 = 343 := h (270, 101, 343) (List.mem_of_getElem? (i := 342) rfl)
def au_key (a k : Int) : Bool := au_fix.any fun q => decide (q.1 = a ∧ q.2.1 = k)
def au_obj : List Int := [0, 1, 10, 14, 16, 20, 29, 33, 34, 36, 40, 46, 56, 66, 67, 68, 78, 88, 98, 108, 118, 128, 138, 148, 158, 168, 178, 188, 198, 208, 218, 228, 238, 248, 258, 270]
theorem au_objk : au_fix.all (fun q => au_obj.contains q.1) = true := by decide +kernel
theorem fx_up {f : am_F} {a k v : Int} (h : aw_fx f) (hk : au_key a k = false) : aw_fx (am_up f a k v) := by
  intro q hq
  unfold am_up
  have h2 : ¬ (q.1 = a ∧ q.2.1 = k) := by
    have := List.any_eq_false.mp hk q hq
    simpa using this
  rw [if_neg h2]
  exact h q hq
/-- a write into a row that is no object -/
theorem fx_upa {f : am_F} {a k v : Int} (h : aw_fx f) (hk : au_obj.contains a = false) : aw_fx (am_up f a k v) := by
  refine fx_up h (List.any_eq_false.mpr fun q hq => ?_)
  have h1 := List.all_eq_true.mp au_objk q hq
  intro h2
  have h3 : q.1 = a ∧ q.2.1 = k := by simpa using h2
  rw [h3.1, hk] at h1
  cases h1
/-- a memory that agrees with another but at places that are no fixed references -/
theorem fx_ag {f g : am_F} (h : aw_fx f) (hg : ∀ q ∈ au_fix, g q.1 q.2.1 = f q.1 q.2.1) : aw_fx g := fun q hq => (hg q hq).trans (h q hq)
theorem am_ua (f : am_F) (a k v b j : Int) : am_up f a k v b j = if b = a ∧ j = k then v else f b j := rfl
theorem lc_lt (a b : Int) : am_lc a b < 0 ↔ a < b := by unfold am_lc; split <;> (try split) <;> omega
theorem lc_ge (a b : Int) : 0 ≤ am_lc a b ↔ b ≤ a := by unfold am_lc; split <;> (try split) <;> omega
theorem lc_gt (a b : Int) : 0 < am_lc a b ↔ b < a := by unfold am_lc; split <;> (try split) <;> omega
theorem lc_le (a b : Int) : am_lc a b ≤ 0 ↔ a ≤ b := by unfold am_lc; split <;> (try split) <;> omega
theorem lc_eq (a b : Int) : am_lc a b = 0 ↔ a = b := by unfold am_lc; split <;> (try split) <;> omega
theorem kd_0 (v : Int) : am_kd 0 (0, v) = true := rfl
theorem kd_1 (v : Int) : am_kd 1 (1, v) = true := rfl
theorem cs_0 : am_cs [] = 0 := rfl
theorem cs_1 (t : Nat) (v : Int) (r : List am_V) : am_cs ((t, v) :: r) = (if t = 1 then 2 else 1) + am_cs r := by simp [am_cs]

theorem ln_2 : am_len aw_SH 2 = 8 := by decide +kernel
theorem ln_3 : am_len aw_SH 3 = 8 := by decide +kernel
theorem ln_4 : am_len aw_SH 4 = 8 := by decide +kernel
theorem ln_5 : am_len aw_SH 5 = 8 := by decide +kernel
theorem ln_6 : am_len aw_SH 6 = 4 := by decide +kernel
theorem ln_7 : am_len aw_SH 7 = 4 := by decide +kernel
theorem ln_8 : am_len aw_SH 8 = 4 := by decide +kernel
theorem ln_9 : am_len aw_SH 9 = 5 := by decide +kernel
theorem ln_11 : am_len aw_SH 11 = 1616 := by decide +kernel
theorem ln_12 : am_len aw_SH 12 = 10 := by decide +kernel
theorem ln_13 : am_len aw_SH 13 = 10 := by decide +kernel
theorem ln_15 : am_len aw_SH 15 = 1600 := by decide +kernel
theorem ln_17 : am_len aw_SH 17 = 1616 := by decide +kernel
theorem ln_18 : am_len aw_SH 18 = 10 := by decide +kernel
theorem ln_19 : am_len aw_SH 19 = 10 := by decide +kernel
theorem ln_21 : am_len aw_SH 21 = 8 := by decide +kernel
theorem ln_22 : am_len aw_SH 22 = 8 := by decide +kernel
theorem ln_23 : am_len aw_SH 23 = 8 := by decide +kernel
theorem ln_24 : am_len aw_SH 24 = 8 := by decide +kernel
theorem ln_25 : am_len aw_SH 25 = 4 := by decide +kernel
theorem ln_26 : am_len aw_SH 26 = 4 := by decide +kernel
theorem ln_27 : am_len aw_SH 27 = 4 := by decide +kernel
theorem ln_28 : am_len aw_SH 28 = 5 := by decide +kernel
theorem ln_30 : am_len aw_SH 30 = 1616 := by decide +kernel
theorem ln_31 : am_len aw_SH 31 = 10 := by decide +kernel
theorem ln_32 : am_len aw_SH 32 = 10 := by decide +kernel
theorem ln_35 : am_len aw_SH 35 = 100 := by decide +kernel
theorem ln_37 : am_len aw_SH 37 = 8 := by decide +kernel
theorem ln_38 : am_len aw_SH 38 = 32 := by decide +kernel
theorem ln_39 : am_len aw_SH 39 = 4 := by decide +kernel
theorem ln_41 : am_len aw_SH 41 = 6 := by decide +kernel
theorem ln_42 : am_len aw_SH 42 = 8 := by decide +kernel
theorem ln_43 : am_len aw_SH 43 = 8 := by decide +kernel
theorem ln_44 : am_len aw_SH 44 = 10 := by decide +kernel
theorem ln_45 : am_len aw_SH 45 = 6 := by decide +kernel
theorem ln_47 : am_len aw_SH 47 = 8 := by decide +kernel
theorem ln_48 : am_len aw_SH 48 = 8 := by decide +kernel
theorem ln_49 : am_len aw_SH 49 = 8 := by decide +kernel
theorem ln_50 : am_len aw_SH 50 = 8 := by decide +kernel
theorem ln_51 : am_len aw_SH 51 = 8 := by decide +kernel
theorem ln_52 : am_len aw_SH 52 = 8 := by decide +kernel
theorem ln_53 : am_len aw_SH 53 = 50 := by decide +kernel
theorem ln_54 : am_len aw_SH 54 = 50 := by decide +kernel
theorem ln_55 : am_len aw_SH 55 = 50 := by decide +kernel
theorem ln_57 : am_len aw_SH 57 = 8 := by decide +kernel
theorem ln_58 : am_len aw_SH 58 = 8 := by decide +kernel
theorem ln_59 : am_len aw_SH 59 = 8 := by decide +kernel
theorem ln_60 : am_len aw_SH 60 = 8 := by decide +kernel
theorem ln_61 : am_len aw_SH 61 = 8 := by decide +kernel
theorem ln_62 : am_len aw_SH 62 = 8 := by decide +kernel
theorem ln_63 : am_len aw_SH 63 = 50 := by decide +kernel
theorem ln_64 : am_len aw_SH 64 = 50 := by decide +kernel
theorem ln_65 : am_len aw_SH 65 = 50 := by decide +kernel
theorem ln_67 : am_len aw_SH 67 = 20 := by decide +kernel
theorem ln_69 : am_len aw_SH 69 = 8 := by decide +kernel
theorem ln_70 : am_len aw_SH 70 = 8 := by decide +kernel
theorem ln_71 : am_len aw_SH 71 = 8 := by decide +kernel
theorem ln_72 : am_len aw_SH 72 = 8 := by decide +kernel
theorem ln_73 : am_len aw_SH 73 = 8 := by decide +kernel
theorem ln_74 : am_len aw_SH 74 = 8 := by decide +kernel
theorem ln_75 : am_len aw_SH 75 = 50 := by decide +kernel
theorem ln_76 : am_len aw_SH 76 = 50 := by decide +kernel
theorem ln_77 : am_len aw_SH 77 = 50 := by decide +kernel
theorem ln_79 : am_len aw_SH 79 = 8 := by decide +kernel
theorem ln_80 : am_len aw_SH 80 = 8 := by decide +kernel
theorem ln_81 : am_len aw_SH 81 = 8 := by decide +kernel
theorem ln_82 : am_len aw_SH 82 = 8 := by decide +kernel
theorem ln_83 : am_len aw_SH 83 = 8 := by decide +kernel
theorem ln_84 : am_len aw_SH 84 = 8 := by decide +kernel
theorem ln_85 : am_len aw_SH 85 = 50 := by decide +kernel
theorem ln_86 : am_len aw_SH 86 = 50 := by decide +kernel
theorem ln_87 : am_len aw_SH 87 = 50 := by decide +kernel
theorem ln_89 : am_len aw_SH 89 = 8 := by decide +kernel
theorem ln_90 : am_len aw_SH 90 = 8 := by decide +kernel
theorem ln_91 : am_len aw_SH 91 = 8 := by decide +kernel
theorem ln_92 : am_len aw_SH 92 = 8 := by decide +kernel
theorem ln_93 : am_len aw_SH 93 = 8 := by decide +kernel
theorem ln_94 : am_len aw_SH 94 = 8 := by decide +kernel
theorem ln_95 : am_len aw_SH 95 = 50 := by decide +kernel
theorem ln_96 : am_len aw_SH 96 = 50 := by decide +kernel
theorem ln_97 : am_len aw_SH 97 = 50 := by decide +kernel
theorem ln_99 : am_len aw_SH 99 = 8 := by decide +kernel
theorem ln_100 : am_len aw_SH 100 = 8 := by decide +kernel
theorem ln_101 : am_len aw_SH 101 = 8 := by decide +kernel
theorem ln_102 : am_len aw_SH 102 = 8 := by decide +kernel
theorem ln_103 : am_len aw_SH 103 = 8 := by decide +kernel
theorem ln_104 : am_len aw_SH 104 = 8 := by decide +kernel
theorem ln_105 : am_len aw_SH 105 = 50 := by decide +kernel
theorem ln_106 : am_len aw_SH 106 = 50 := by decide +kernel
theorem ln_107 : am_len aw_SH 107 = 50 := by decide +kernel
theorem ln_109 : am_len aw_SH 109 = 8 := by decide +kernel
theorem ln_110 : am_len aw_SH 110 = 8 := by decide +kernel
theorem ln_111 : am_len aw_SH 111 = 8 := by decide +kernel
theorem ln_112 : am_len aw_SH 112 = 8 := by decide +kernel
theorem ln_113 : am_len aw_SH 113 = 8 := by decide +kernel
theorem ln_114 : am_len aw_SH 114 = 8 := by decide +kernel
theorem ln_115 : am_len aw_SH 115 = 50 := by decide +kernel
theorem ln_116 : am_len aw_SH 116 = 50 := by decide +kernel
theorem ln_117 : am_len aw_SH 117 = 50 := by decide +kernel
theorem ln_119 : am_len aw_SH 119 = 8 := by decide +kernel
theorem ln_120 : am_len aw_SH 120 = 8 := by decide +kernel
theorem ln_121 : am_len aw_SH 121 = 8 := by decide +kernel
theorem ln_122 : am_len aw_SH 122 = 8 := by decide +kernel
theorem ln_123 : am_len aw_SH 123 = 8 := by decide +kernel
theorem ln_124 : am_len aw_SH 124 = 8 := by decide +kernel
theorem ln_125 : am_len aw_SH 125 = 50 := by decide +kernel
theorem ln_126 : am_len aw_SH 126 = 50 := by decide +kernel
theorem ln_127 : am_len aw_SH 127 = 50 := by decide +kernel
theorem ln_129 : am_len aw_SH 129 = 8 := by decide +kernel
theorem ln_130 : am_len aw_SH 130 = 8 := by decide +kernel
theorem ln_131 : am_len aw_SH 131 = 8 := by decide +kernel
theorem ln_132 : am_len aw_SH 132 = 8 := by decide +kernel
theorem ln_133 : am_len aw_SH 133 = 8 := by decide +kernel
theorem ln_134 : am_len aw_SH 134 = 8 := by decide +kernel
theorem ln_135 : am_len aw_SH 135 = 50 := by decide +kernel
theorem ln_136 : am_len aw_SH 136 = 50 := by decide +kernel
theorem ln_137 : am_len aw_SH 137 = 50 := by decide +kernel
theorem ln_139 : am_len aw_SH 139 = 8 := by decide +kernel
theorem ln_140 : am_len aw_SH 140 = 8 := by decide +kernel
theorem ln_141 : am_len aw_SH 141 = 8 := by decide +kernel
theorem ln_142 : am_len aw_SH 142 = 8 := by decide +kernel
theorem ln_143 : am_len aw_SH 143 = 8 := by decide +kernel
theorem ln_144 : am_len aw_SH 144 = 8 := by decide +kernel
theorem ln_145 : am_len aw_SH 145 = 50 := by decide +kernel
theorem ln_146 : am_len aw_SH 146 = 50 := by decide +kernel
theorem ln_147 : am_len aw_SH 147 = 50 := by decide +kernel
theorem ln_149 : am_len aw_SH 149 = 8 := by decide +kernel
theorem ln_150 : am_len aw_SH 150 = 8 := by decide +kernel
theorem ln_151 : am_len aw_SH 151 = 8 := by decide +kernel
theorem ln_152 : am_len aw_SH 152 = 8 := by decide +kernel
theorem ln_153 : am_len aw_SH 153 = 8 := by decide +kernel
theorem ln_154 : am_len aw_SH 154 = 8 := by decide +kernel
theorem ln_155 : am_len aw_SH 155 = 50 := by decide +kernel
theorem ln_156 : am_len aw_SH 156 = 50 := by decide +kernel
theorem ln_157 : am_len aw_SH 157 = 50 := by decide +kernel
theorem ln_159 : am_len aw_SH 159 = 8 := by decide +kernel
theorem ln_160 : am_len aw_SH 160 = 8 := by decide +kernel
theorem ln_161 : am_len aw_SH 161 = 8 := by decide +kernel
theorem ln_162 : am_len aw_SH 162 = 8 := by decide +kernel
theorem ln_163 : am_len aw_SH 163 = 8 := by decide +kernel
theorem ln_164 : am_len aw_SH 164 = 8 := by decide +kernel
theorem ln_165 : am_len aw_SH 165 = 50 := by decide +kernel
theorem ln_166 : am_len aw_SH 166 = 50 := by decide +kernel
theorem ln_167 : am_len aw_SH 167 = 50 := by decide +kernel
theorem ln_169 : am_len aw_SH 169 = 8 := by decide +kernel
theorem ln_170 : am_len aw_SH 170 = 8 := by decide +kernel
theorem ln_171 : am_len aw_SH 171 = 8 := by decide +kernel
theorem ln_172 : am_len aw_SH 172 = 8 := by decide +kernel
theorem ln_173 : am_len aw_SH 173 = 8 := by decide +kernel
theorem ln_174 : am_len aw_SH 174 = 8 := by decide +kernel
theorem ln_175 : am_len aw_SH 175 = 50 := by decide +kernel
theorem ln_176 : am_len aw_SH 176 = 50 := by decide +kernel
theorem ln_177 : am_len aw_SH 177 = 50 := by decide +kernel
theorem ln_179 : am_len aw_SH 179 = 8 := by decide +kernel
theorem ln_180 : am_len aw_SH 180 = 8 := by decide +kernel
theorem ln_181 : am_len aw_SH 181 = 8 := by decide +kernel
theorem ln_182 : am_len aw_SH 182 = 8 := by decide +kernel
theorem ln_183 : am_len aw_SH 183 = 8 := by decide +kernel
theorem ln_184 : am_len aw_SH 184 = 8 := by decide +kernel
theorem ln_185 : am_len aw_SH 185 = 50 := by decide +kernel
theorem ln_186 : am_len aw_SH 186 = 50 := by decide +kernel
theorem ln_187 : am_len aw_SH 187 = 50 := by decide +kernel
theorem ln_189 : am_len aw_SH 189 = 8 := by decide +kernel
theorem ln_190 : am_len aw_SH 190 = 8 := by decide +kernel
theorem ln_191 : am_len aw_SH 191 = 8 := by decide +kernel
theorem ln_192 : am_len aw_SH 192 = 8 := by decide +kernel
theorem ln_193 : am_len aw_SH 193 = 8 := by decide +kernel
theorem ln_194 : am_len aw_SH 194 = 8 := by decide +kernel
theorem ln_195 : am_len aw_SH 195 = 50 := by decide +kernel
theorem ln_196 : am_len aw_SH 196 = 50 := by decide +kernel
theorem ln_197 : am_len aw_SH 197 = 50 := by decide +kernel
theorem ln_199 : am_len aw_SH 199 = 8 := by decide +kernel
theorem ln_200 : am_len aw_SH 200 = 8 := by decide +kernel
theorem ln_201 : am_len aw_SH 201 = 8 := by decide +kernel
theorem ln_202 : am_len aw_SH 202 = 8 := by decide +kernel
theorem ln_203 : am_len aw_SH 203 = 8 := by decide +kernel
theorem ln_204 : am_len aw_SH 204 = 8 := by decide +kernel
theorem ln_205 : am_len aw_SH 205 = 50 := by decide +kernel
theorem ln_206 : am_len aw_SH 206 = 50 := by decide +kernel
theorem ln_207 : am_len aw_SH 207 = 50 := by decide +kernel
theorem ln_209 : am_len aw_SH 209 = 8 := by decide +kernel
theorem ln_210 : am_len aw_SH 210 = 8 := by decide +kernel
theorem ln_211 : am_len aw_SH 211 = 8 := by decide +kernel
theorem ln_212 : am_len aw_SH 212 = 8 := by decide +kernel
theorem ln_213 : am_len aw_SH 213 = 8 := by decide +kernel
theorem ln_214 : am_len aw_SH 214 = 8 := by decide +kernel
theorem ln_215 : am_len aw_SH 215 = 50 := by decide +kernel
theorem ln_216 : am_len aw_SH 216 = 50 := by decide +kernel
theorem ln_217 : am_len aw_SH 217 = 50 := by decide +kernel
theorem ln_219 : am_len aw_SH 219 = 8 := by decide +kernel
theorem ln_220 : am_len aw_SH 220 = 8 := by decide +kernel
theorem ln_221 : am_len aw_SH 221 = 8 := by decide +kernel
theorem ln_222 : am_len aw_SH 222 = 8 := by decide +kernel
theorem ln_223 : am_len aw_SH 223 = 8 := by decide +kernel
theorem ln_224 : am_len aw_SH 224 = 8 := by decide +kernel
theorem ln_225 : am_len aw_SH 225 = 50 := by decide +kernel
theorem ln_226 : am_len aw_SH 226 = 50 := by decide +kernel
theorem ln_227 : am_len aw_SH 227 = 50 := by decide +kernel
theorem ln_229 : am_len aw_SH 229 = 8 := by decide +kernel
theorem ln_230 : am_len aw_SH 230 = 8 := by decide +kernel
theorem ln_231 : am_len aw_SH 231 = 8 := by decide +kernel
theorem ln_232 : am_len aw_SH 232 = 8 := by decide +kernel
theorem ln_233 : am_len aw_SH 233 = 8 := by decide +kernel
theorem ln_234 : am_len aw_SH 234 = 8 := by decide +kernel
theorem ln_235 : am_len aw_SH 235 = 50 := by decide +kernel
theorem ln_236 : am_len aw_SH 236 = 50 := by decide +kernel
theorem ln_237 : am_len aw_SH 237 = 50 := by decide +kernel
theorem ln_239 : am_len aw_SH 239 = 8 := by decide +kernel
theorem ln_240 : am_len aw_SH 240 = 8 := by decide +kernel
theorem ln_241 : am_len aw_SH 241 = 8 := by decide +kernel
theorem ln_242 : am_len aw_SH 242 = 8 := by decide +kernel
theorem ln_243 : am_len aw_SH 243 = 8 := by decide +kernel
theorem ln_244 : am_len aw_SH 244 = 8 := by decide +kernel
theorem ln_245 : am_len aw_SH 245 = 50 := by decide +kernel
theorem ln_246 : am_len aw_SH 246 = 50 := by decide +kernel
theorem ln_247 : am_len aw_SH 247 = 50 := by decide +kernel
theorem ln_249 : am_len aw_SH 249 = 8 := by decide +kernel
theorem ln_250 : am_len aw_SH 250 = 8 := by decide +kernel
theorem ln_251 : am_len aw_SH 251 = 8 := by decide +kernel
theorem ln_252 : am_len aw_SH 252 = 8 := by decide +kernel
theorem ln_253 : am_len aw_SH 253 = 8 := by decide +kernel
theorem ln_254 : am_len aw_SH 254 = 8 := by decide +kernel
theorem ln_255 : am_len aw_SH 255 = 50 := by decide +kernel
theorem ln_256 : am_len aw_SH 256 = 50 := by decide +kernel
theorem ln_257 : am_len aw_SH 257 = 50 := by decide +kernel
theorem ln_259 : am_len aw_SH 259 = 8 := by decide +kernel
theorem ln_260 : am_len aw_SH 260 = 8 := by decide +kernel
theorem ln_261 : am_len aw_SH 261 = 8 := by decide +kernel
theorem ln_262 : am_len aw_SH 262 = 8 := by decide +kernel
theorem ln_263 : am_len aw_SH 263 = 8 := by decide +kernel
theorem ln_264 : am_len aw_SH 264 = 8 := by decide +kernel
theorem ln_265 : am_len aw_SH 265 = 50 := by decide +kernel
theorem ln_266 : am_len aw_SH 266 = 50 := by decide +kernel
theorem ln_267 : am_len aw_SH 267 = 50 := by decide +kernel
theorem ln_268 : am_len aw_SH 268 = 43 := by decide +kernel
theorem ln_269 : am_len aw_SH 269 = 6 := by decide +kernel
theorem ln_271 : am_len aw_SH 271 = 1600 := by decide +kernel
theorem ln_272 : am_len aw_SH 272 = 6 := by decide +kernel
theorem ln_273 : am_len aw_SH 273 = 5 := by decide +kernel
theorem ln_274 : am_len aw_SH 274 = 5 := by decide +kernel
theorem ln_275 : am_len aw_SH 275 = 3 := by decide +kernel
theorem ln_276 : am_len aw_SH 276 = 5 := by decide +kernel
theorem ln_277 : am_len aw_SH 277 = 6 := by decide +kernel
theorem ln_278 : am_len aw_SH 278 = 5 := by decide +kernel
theorem ln_279 : am_len aw_SH 279 = 5 := by decide +kernel
theorem ln_280 : am_len aw_SH 280 = 5 := by decide +kernel
theorem ln_281 : am_len aw_SH 281 = 2 := by decide +kernel
theorem ln_282 : am_len aw_SH 282 = 6 := by decide +kernel
theorem ln_283 : am_len aw_SH 283 = 5 := by decide +kernel
theorem ln_284 : am_len aw_SH 284 = 5 := by decide +kernel
theorem ln_285 : am_len aw_SH 285 = 4 := by decide +kernel
theorem ln_286 : am_len aw_SH 286 = 5 := by decide +kernel
theorem ln_287 : am_len aw_SH 287 = 3 := by decide +kernel
theorem ln_288 : am_len aw_SH 288 = 6 := by decide +kernel
theorem ln_289 : am_len aw_SH 289 = 5 := by decide +kernel
theorem ln_290 : am_len aw_SH 290 = 3 := by decide +kernel
theorem ln_291 : am_len aw_SH 291 = 4 := by decide +kernel
theorem ln_292 : am_len aw_SH 292 = 6 := by decide +kernel
theorem ln_293 : am_len aw_SH 293 = 6 := by decide +kernel
theorem ln_294 : am_len aw_SH 294 = 4 := by decide +kernel
theorem ln_295 : am_len aw_SH 295 = 2 := by decide +kernel
theorem ln_296 : am_len aw_SH 296 = 3 := by decide +kernel
theorem ln_297 : am_len aw_SH 297 = 3 := by decide +kernel
theorem ln_298 : am_len aw_SH 298 = 3 := by decide +kernel
theorem ln_299 : am_len aw_SH 299 = 3 := by decide +kernel
theorem ln_300 : am_len aw_SH 300 = 3 := by decide +kernel
theorem ln_301 : am_len aw_SH 301 = 6 := by decide +kernel
theorem ln_302 : am_len aw_SH 302 = 48 := by decide +kernel
theorem ln_303 : am_len aw_SH 303 = 48 := by decide +kernel
theorem ln_304 : am_len aw_SH 304 = 16 := by decide +kernel
theorem ln_305 : am_len aw_SH 305 = 20 := by decide +kernel
theorem ln_306 : am_len aw_SH 306 = 20 := by decide +kernel
theorem ln_307 : am_len aw_SH 307 = 3200 := by decide +kernel
theorem ln_308 : am_len aw_SH 308 = 192 := by decide +kernel
theorem ln_309 : am_len aw_SH 309 = 41 := by decide +kernel
theorem ln_310 : am_len aw_SH 310 = 40 := by decide +kernel
theorem ln_311 : am_len aw_SH 311 = 8 := by decide +kernel
theorem ln_312 : am_len aw_SH 312 = 4 := by decide +kernel
theorem ln_313 : am_len aw_SH 313 = 6 := by decide +kernel
theorem ln_314 : am_len aw_SH 314 = 6 := by decide +kernel
theorem ln_315 : am_len aw_SH 315 = 310 := by decide +kernel
theorem ln_316 : am_len aw_SH 316 = 3840 := by decide +kernel
theorem ln_317 : am_len aw_SH 317 = 5 := by decide +kernel
theorem ln_318 : am_len aw_SH 318 = 4 := by decide +kernel
theorem ln_319 : am_len aw_SH 319 = 5 := by decide +kernel
theorem ln_320 : am_len aw_SH 320 = 5 := by decide +kernel
theorem ln_321 : am_len aw_SH 321 = 4 := by decide +kernel
theorem ln_322 : am_len aw_SH 322 = 5 := by decide +kernel
theorem ln_323 : am_len aw_SH 323 = 3 := by decide +kernel
theorem ln_324 : am_len aw_SH 324 = 3 := by decide +kernel
theorem ln_325 : am_len aw_SH 325 = 2 := by decide +kernel
theorem ln_326 : am_len aw_SH 326 = 3 := by decide +kernel
theorem ln_327 : am_len aw_SH 327 = 3 := by decide +kernel
theorem ln_328 : am_len aw_SH 328 = 3 := by decide +kernel
theorem ln_329 : am_len aw_SH 329 = 5 := by decide +kernel
theorem ln_330 : am_len aw_SH 330 = 3 := by decide +kernel
theorem ln_331 : am_len aw_SH 331 = 5 := by decide +kernel
theorem ln_332 : am_len aw_SH 332 = 6 := by decide +kernel
theorem ln_333 : am_len aw_SH 333 = 5 := by decide +kernel
theorem ln_334 : am_len aw_SH 334 = 3 := by decide +kernel
theorem ln_335 : am_len aw_SH 335 = 4 := by decide +kernel
theorem ln_336 : am_len aw_SH 336 = 5 := by decide +kernel
theorem ln_337 : am_len aw_SH 337 = 6 := by decide +kernel
theorem ln_338 : am_len aw_SH 338 = 6 := by decide +kernel
theorem ln_339 : am_len aw_SH 339 = 2 := by decide +kernel
theorem ln_340 : am_len aw_SH 340 = 1700 := by decide +kernel
theorem ln_341 : am_len aw_SH 341 = 1700 := by decide +kernel
theorem ln_342 : am_len aw_SH 342 = 1700 := by decide +kernel
theorem ln_343 : am_len aw_SH 343 = 43 := by decide +kernel
