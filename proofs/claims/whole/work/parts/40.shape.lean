/-! LAYER 2: what the functions s_.. answer. The shape: which reference stands where -/
def refT : List (Nat × Nat × Nat) := [(1, 0, 2), (1, 1, 3), (1, 2, 4), (1, 3, 5), (1, 4, 47), (1, 5, 50), (1, 6, 56), (1, 7, 59), (1, 8, 61), (1, 9, 63), (2, 0, 64), (2, 1, 68), (2, 2, 72), (2, 3, 76), (2, 4, 80), (2, 5, 84), (3, 0, 88), (3, 1, 90), (3, 2, 92), (3, 3, 94), (3, 4, 96), (3, 5, 98), (3, 6, 100), (3, 7, 102), (3, 8, 104), (3, 9, 106), (3, 10, 108), (3, 11, 110), (3, 12, 112), (3, 13, 114), (3, 14, 116), (3, 15, 118), (3, 16, 120), (3, 17, 122), (3, 18, 124), (3, 19, 126), (3, 20, 128), (3, 21, 130), (3, 22, 132), (3, 23, 134), (3, 24, 136), (3, 25, 138), (3, 26, 140), (3, 27, 142), (3, 28, 144), (3, 29, 146), (3, 30, 148), (3, 31, 150), (3, 32, 152), (3, 33, 154), (3, 34, 156), (3, 35, 158), (3, 36, 160), (3, 37, 162), (3, 38, 164), (3, 39, 166), (4, 0, 168), (4, 1, 170), (4, 2, 172), (4, 3, 174), (4, 4, 176), (4, 5, 178), (4, 6, 180), (4, 7, 182), (5, 0, 6), (6, 0, 7), (6, 1, 11), (6, 2, 15), (6, 3, 19), (6, 4, 23), (6, 5, 27), (6, 6, 31), (6, 7, 35), (6, 8, 39), (6, 9, 43), (7, 0, 8), (7, 1, 9), (7, 2, 10), (11, 0, 12), (11, 1, 13), (11, 2, 14), (15, 0, 16), (15, 1, 17), (15, 2, 18), (19, 0, 20), (19, 1, 21), (19, 2, 22), (23, 0, 24), (23, 1, 25), (23, 2, 26), (27, 0, 28), (27, 1, 29), (27, 2, 30), (31, 0, 32), (31, 1, 33), (31, 2, 34), (35, 0, 36), (35, 1, 37), (35, 2, 38), (39, 0, 40), (39, 1, 41), (39, 2, 42), (43, 0, 44), (43, 1, 45), (43, 2, 46), (47, 0, 48), (47, 1, 49), (50, 0, 51), (50, 1, 52), (50, 3, 54), (50, 4, 55), (56, 0, 57), (56, 1, 58), (59, 0, 60), (61, 0, 62), (64, 0, 65), (64, 1, 66), (64, 2, 67), (68, 0, 69), (68, 1, 70), (68, 2, 71), (72, 0, 73), (72, 1, 74), (72, 2, 75), (76, 0, 77), (76, 1, 78), (76, 2, 79), (80, 0, 81), (80, 1, 82), (80, 2, 83), (84, 0, 85), (84, 1, 86), (84, 2, 87), (88, 0, 89), (90, 0, 91), (92, 0, 93), (94, 0, 95), (96, 0, 97), (98, 0, 99), (100, 0, 101), (102, 0, 103), (104, 0, 105), (106, 0, 107), (108, 0, 109), (110, 0, 111), (112, 0, 113), (114, 0, 115), (116, 0, 117), (118, 0, 119), (120, 0, 121), (122, 0, 123), (124, 0, 125), (126, 0, 127), (128, 0, 129), (130, 0, 131), (132, 0, 133), (134, 0, 135), (136, 0, 137), (138, 0, 139), (140, 0, 141), (142, 0, 143), (144, 0, 145), (146, 0, 147), (148, 0, 149), (150, 0, 151), (152, 0, 153), (154, 0, 155), (156, 0, 157), (158, 0, 159), (160, 0, 161), (162, 0, 163), (164, 0, 165), (166, 0, 167), (168, 0, 169), (170, 0, 171), (172, 0, 173), (174, 0, 175), (176, 0, 177), (178, 0, 179), (180, 0, 181), (182, 0, 183), (184, 1, 185), (184, 3, 186), (184, 4, 187), (184, 5, 188), (184, 7, 189), (184, 8, 190), (184, 9, 191), (184, 10, 192), (184, 11, 193), (184, 12, 194), (184, 13, 195), (184, 14, 196), (184, 16, 197), (184, 18, 198), (184, 19, 199), (184, 20, 200), (184, 21, 201), (184, 22, 202), (184, 23, 203), (184, 24, 204), (184, 25, 205), (184, 27, 206), (184, 32, 207), (184, 33, 208), (184, 34, 209), (184, 35, 210), (184, 36, 211), (184, 37, 212), (184, 38, 213), (184, 40, 214), (184, 41, 215), (184, 44, 216), (184, 45, 217), (184, 50, 218), (184, 51, 219), (184, 52, 220), (184, 53, 221), (184, 54, 222), (184, 55, 223), (184, 57, 224)]
def Sh (M : Mm) : Prop := mN M = 224 ∧ (∀ q ∈ refT, rR M q.1 q.2.1 = q.2.2) ∧ (rR M 50 2 = 3 ∨ rR M 50 2 = 53)
def hs (r k : Nat) : Bool := Nat.ble 1 r && (Nat.ble r 224 && Nat.beq (tb r).1 k)
theorem has_sh {M : Mm} (h : Sh M) (r k : Nat) : has M r k = hs r k := by
  unfold has hs
  rw [h.1]
theorem Sh_wI (M : Mm) (k s : Nat) (v : Int32) : Sh (wI M k s v) = Sh M := rfl
theorem Sh_wL (M : Mm) (k s : Nat) (v : Int64) : Sh (wL M k s v) = Sh M := rfl
theorem Sh_wC (M : Mm) (a i b j n : Nat) : Sh (wC M a i b j n) = Sh M := rfl
theorem refT_ne : ∀ q ∈ refT, ¬ (q.1 = 50 ∧ q.2.1 = 2) := by decide +kernel
theorem Sh_wR {M : Mm} (h : Sh M) : Sh (wR M 50 2 3) := by
  refine ⟨h.1, fun q hq => ?_, Or.inl (by show u2 M.2.2.2 50 2 3 50 2 = 3; exact u2_eq)⟩
  rw [← h.2.1 q hq]
  show u2 M.2.2.2 50 2 3 q.1 q.2.1 = M.2.2.2 q.1 q.2.1
  exact u2_ne (refT_ne q hq)
theorem rI_wI (M : Mm) (k s : Nat) (v : Int32) (j t : Nat) : rI (wI M k s v) j t = if j = k ∧ t = s then v else rI M j t := rfl
theorem rI_wL (M : Mm) (k s : Nat) (v : Int64) (j t : Nat) : rI (wL M k s v) j t = rI M j t := rfl
theorem rI_wR (M : Mm) (k s : Nat) (v : Nat) (j t : Nat) : rI (wR M k s v) j t = rI M j t := rfl
theorem rL_wI (M : Mm) (k s : Nat) (v : Int32) (j t : Nat) : rL (wI M k s v) j t = rL M j t := rfl
theorem rL_wL (M : Mm) (k s : Nat) (v : Int64) (j t : Nat) : rL (wL M k s v) j t = if j = k ∧ t = s then v else rL M j t := rfl
theorem rL_wR (M : Mm) (k s : Nat) (v : Nat) (j t : Nat) : rL (wR M k s v) j t = rL M j t := rfl
theorem rR_wI (M : Mm) (k s : Nat) (v : Int32) (j t : Nat) : rR (wI M k s v) j t = rR M j t := rfl
theorem rR_wL (M : Mm) (k s : Nat) (v : Int64) (j t : Nat) : rR (wL M k s v) j t = rR M j t := rfl
theorem rR_wR (M : Mm) (k s : Nat) (v : Nat) (j t : Nat) : rR (wR M k s v) j t = if j = k ∧ t = s then v else rR M j t := rfl
theorem rI_wC (M : Mm) (a i b j n k t : Nat) : rI (wC M a i b j n) k t = if k = b ∧ j ≤ t ∧ t < j + n then rI M a (i + (t - j)) else rI M k t := rfl
theorem rL_wC (M : Mm) (a i b j n k t : Nat) : rL (wC M a i b j n) k t = rL M k t := rfl
theorem rR_wC (M : Mm) (a i b j n k t : Nat) : rR (wC M a i b j n) k t = rR M k t := rfl
theorem sr1_0 {M : Mm} (h : Sh M) : rR M 1 0 = 2 := h.2.1 (1, 0, 2) (by decide +kernel)
theorem sr1_1 {M : Mm} (h : Sh M) : rR M 1 1 = 3 := h.2.1 (1, 1, 3) (by decide +kernel)
theorem sr1_2 {M : Mm} (h : Sh M) : rR M 1 2 = 4 := h.2.1 (1, 2, 4) (by decide +kernel)
theorem sr1_3 {M : Mm} (h : Sh M) : rR M 1 3 = 5 := h.2.1 (1, 3, 5) (by decide +kernel)
theorem sr1_4 {M : Mm} (h : Sh M) : rR M 1 4 = 47 := h.2.1 (1, 4, 47) (by decide +kernel)
theorem sr1_5 {M : Mm} (h : Sh M) : rR M 1 5 = 50 := h.2.1 (1, 5, 50) (by decide +kernel)
theorem sr1_6 {M : Mm} (h : Sh M) : rR M 1 6 = 56 := h.2.1 (1, 6, 56) (by decide +kernel)
theorem sr1_7 {M : Mm} (h : Sh M) : rR M 1 7 = 59 := h.2.1 (1, 7, 59) (by decide +kernel)
theorem sr1_8 {M : Mm} (h : Sh M) : rR M 1 8 = 61 := h.2.1 (1, 8, 61) (by decide +kernel)
theorem sr1_9 {M : Mm} (h : Sh M) : rR M 1 9 = 63 := h.2.1 (1, 9, 63) (by decide +kernel)
theorem sr5_0 {M : Mm} (h : Sh M) : rR M 5 0 = 6 := h.2.1 (5, 0, 6) (by decide +kernel)
theorem sr47_0 {M : Mm} (h : Sh M) : rR M 47 0 = 48 := h.2.1 (47, 0, 48) (by decide +kernel)
theorem sr47_1 {M : Mm} (h : Sh M) : rR M 47 1 = 49 := h.2.1 (47, 1, 49) (by decide +kernel)
theorem sr50_0 {M : Mm} (h : Sh M) : rR M 50 0 = 51 := h.2.1 (50, 0, 51) (by decide +kernel)
theorem sr50_1 {M : Mm} (h : Sh M) : rR M 50 1 = 52 := h.2.1 (50, 1, 52) (by decide +kernel)
theorem sr50_3 {M : Mm} (h : Sh M) : rR M 50 3 = 54 := h.2.1 (50, 3, 54) (by decide +kernel)
theorem sr50_4 {M : Mm} (h : Sh M) : rR M 50 4 = 55 := h.2.1 (50, 4, 55) (by decide +kernel)
theorem sr56_0 {M : Mm} (h : Sh M) : rR M 56 0 = 57 := h.2.1 (56, 0, 57) (by decide +kernel)
theorem sr56_1 {M : Mm} (h : Sh M) : rR M 56 1 = 58 := h.2.1 (56, 1, 58) (by decide +kernel)
theorem sr59_0 {M : Mm} (h : Sh M) : rR M 59 0 = 60 := h.2.1 (59, 0, 60) (by decide +kernel)
theorem sr61_0 {M : Mm} (h : Sh M) : rR M 61 0 = 62 := h.2.1 (61, 0, 62) (by decide +kernel)
theorem sr184_1 {M : Mm} (h : Sh M) : rR M 184 1 = 185 := h.2.1 (184, 1, 185) (by decide +kernel)
theorem sr184_3 {M : Mm} (h : Sh M) : rR M 184 3 = 186 := h.2.1 (184, 3, 186) (by decide +kernel)
theorem sr184_4 {M : Mm} (h : Sh M) : rR M 184 4 = 187 := h.2.1 (184, 4, 187) (by decide +kernel)
theorem sr184_5 {M : Mm} (h : Sh M) : rR M 184 5 = 188 := h.2.1 (184, 5, 188) (by decide +kernel)
theorem sr184_7 {M : Mm} (h : Sh M) : rR M 184 7 = 189 := h.2.1 (184, 7, 189) (by decide +kernel)
theorem sr184_8 {M : Mm} (h : Sh M) : rR M 184 8 = 190 := h.2.1 (184, 8, 190) (by decide +kernel)
theorem sr184_9 {M : Mm} (h : Sh M) : rR M 184 9 = 191 := h.2.1 (184, 9, 191) (by decide +kernel)
theorem sr184_10 {M : Mm} (h : Sh M) : rR M 184 10 = 192 := h.2.1 (184, 10, 192) (by decide +kernel)
theorem sr184_11 {M : Mm} (h : Sh M) : rR M 184 11 = 193 := h.2.1 (184, 11, 193) (by decide +kernel)
theorem sr184_12 {M : Mm} (h : Sh M) : rR M 184 12 = 194 := h.2.1 (184, 12, 194) (by decide +kernel)
theorem sr184_13 {M : Mm} (h : Sh M) : rR M 184 13 = 195 := h.2.1 (184, 13, 195) (by decide +kernel)
theorem sr184_14 {M : Mm} (h : Sh M) : rR M 184 14 = 196 := h.2.1 (184, 14, 196) (by decide +kernel)
theorem sr184_16 {M : Mm} (h : Sh M) : rR M 184 16 = 197 := h.2.1 (184, 16, 197) (by decide +kernel)
theorem sr184_18 {M : Mm} (h : Sh M) : rR M 184 18 = 198 := h.2.1 (184, 18, 198) (by decide +kernel)
theorem sr184_19 {M : Mm} (h : Sh M) : rR M 184 19 = 199 := h.2.1 (184, 19, 199) (by decide +kernel)
theorem sr184_20 {M : Mm} (h : Sh M) : rR M 184 20 = 200 := h.2.1 (184, 20, 200) (by decide +kernel)
theorem sr184_21 {M : Mm} (h : Sh M) : rR M 184 21 = 201 := h.2.1 (184, 21, 201) (by decide +kernel)
theorem sr184_22 {M : Mm} (h : Sh M) : rR M 184 22 = 202 := h.2.1 (184, 22, 202) (by decide +kernel)
theorem sr184_23 {M : Mm} (h : Sh M) : rR M 184 23 = 203 := h.2.1 (184, 23, 203) (by decide +kernel)
theorem sr184_24 {M : Mm} (h : Sh M) : rR M 184 24 = 204 := h.2.1 (184, 24, 204) (by decide +kernel)
theorem sr184_25 {M : Mm} (h : Sh M) : rR M 184 25 = 205 := h.2.1 (184, 25, 205) (by decide +kernel)
theorem sr184_27 {M : Mm} (h : Sh M) : rR M 184 27 = 206 := h.2.1 (184, 27, 206) (by decide +kernel)
theorem sr184_32 {M : Mm} (h : Sh M) : rR M 184 32 = 207 := h.2.1 (184, 32, 207) (by decide +kernel)
theorem sr184_33 {M : Mm} (h : Sh M) : rR M 184 33 = 208 := h.2.1 (184, 33, 208) (by decide +kernel)
theorem sr184_34 {M : Mm} (h : Sh M) : rR M 184 34 = 209 := h.2.1 (184, 34, 209) (by decide +kernel)
theorem sr184_35 {M : Mm} (h : Sh M) : rR M 184 35 = 210 := h.2.1 (184, 35, 210) (by decide +kernel)
theorem sr184_36 {M : Mm} (h : Sh M) : rR M 184 36 = 211 := h.2.1 (184, 36, 211) (by decide +kernel)
theorem sr184_37 {M : Mm} (h : Sh M) : rR M 184 37 = 212 := h.2.1 (184, 37, 212) (by decide +kernel)
theorem sr184_38 {M : Mm} (h : Sh M) : rR M 184 38 = 213 := h.2.1 (184, 38, 213) (by decide +kernel)
theorem sr184_40 {M : Mm} (h : Sh M) : rR M 184 40 = 214 := h.2.1 (184, 40, 214) (by decide +kernel)
theorem sr184_41 {M : Mm} (h : Sh M) : rR M 184 41 = 215 := h.2.1 (184, 41, 215) (by decide +kernel)
theorem sr184_44 {M : Mm} (h : Sh M) : rR M 184 44 = 216 := h.2.1 (184, 44, 216) (by decide +kernel)
theorem sr184_45 {M : Mm} (h : Sh M) : rR M 184 45 = 217 := h.2.1 (184, 45, 217) (by decide +kernel)
theorem sr184_50 {M : Mm} (h : Sh M) : rR M 184 50 = 218 := h.2.1 (184, 50, 218) (by decide +kernel)
theorem sr184_51 {M : Mm} (h : Sh M) : rR M 184 51 = 219 := h.2.1 (184, 51, 219) (by decide +kernel)
theorem sr184_52 {M : Mm} (h : Sh M) : rR M 184 52 = 220 := h.2.1 (184, 52, 220) (by decide +kernel)
theorem sr184_53 {M : Mm} (h : Sh M) : rR M 184 53 = 221 := h.2.1 (184, 53, 221) (by decide +kernel)
theorem sr184_54 {M : Mm} (h : Sh M) : rR M 184 54 = 222 := h.2.1 (184, 54, 222) (by decide +kernel)
theorem sr184_55 {M : Mm} (h : Sh M) : rR M 184 55 = 223 := h.2.1 (184, 55, 223) (by decide +kernel)
theorem sr184_57 {M : Mm} (h : Sh M) : rR M 184 57 = 224 := h.2.1 (184, 57, 224) (by decide +kernel)
theorem sr2_ : ∀ i, i < 6 → (2, i, 64 + 4 * i) ∈ refT := by decide +kernel
theorem sr2 {M : Mm} (h : Sh M) {i : Nat} (hi : i < 6) : rR M 2 i = 64 + 4 * i := h.2.1 (2, i, 64 + 4 * i) (sr2_ i hi)
theorem sr3_ : ∀ i, i < 40 → (3, i, 88 + 2 * i) ∈ refT := by decide +kernel
theorem sr3 {M : Mm} (h : Sh M) {i : Nat} (hi : i < 40) : rR M 3 i = 88 + 2 * i := h.2.1 (3, i, 88 + 2 * i) (sr3_ i hi)
theorem sr4_ : ∀ i, i < 8 → (4, i, 168 + 2 * i) ∈ refT := by decide +kernel
theorem sr4 {M : Mm} (h : Sh M) {i : Nat} (hi : i < 8) : rR M 4 i = 168 + 2 * i := h.2.1 (4, i, 168 + 2 * i) (sr4_ i hi)
theorem sr6_ : ∀ i, i < 10 → (6, i, 7 + 4 * i) ∈ refT := by decide +kernel
theorem sr6 {M : Mm} (h : Sh M) {i : Nat} (hi : i < 10) : rR M 6 i = 7 + 4 * i := h.2.1 (6, i, 7 + 4 * i) (sr6_ i hi)
theorem srru0_ : ∀ i, i < 10 → ((7 + 4 * i), 0, 8 + 4 * i) ∈ refT := by decide +kernel
theorem srru0 {M : Mm} (h : Sh M) {i : Nat} (hi : i < 10) : rR M (7 + 4 * i) 0 = 8 + 4 * i := h.2.1 ((7 + 4 * i), 0, 8 + 4 * i) (srru0_ i hi)
theorem srwi0_ : ∀ i, i < 6 → ((64 + 4 * i), 0, 65 + 4 * i) ∈ refT := by decide +kernel
theorem srwi0 {M : Mm} (h : Sh M) {i : Nat} (hi : i < 6) : rR M (64 + 4 * i) 0 = 65 + 4 * i := h.2.1 ((64 + 4 * i), 0, 65 + 4 * i) (srwi0_ i hi)
theorem srru1_ : ∀ i, i < 10 → ((7 + 4 * i), 1, 9 + 4 * i) ∈ refT := by decide +kernel
theorem srru1 {M : Mm} (h : Sh M) {i : Nat} (hi : i < 10) : rR M (7 + 4 * i) 1 = 9 + 4 * i := h.2.1 ((7 + 4 * i), 1, 9 + 4 * i) (srru1_ i hi)
theorem srwi1_ : ∀ i, i < 6 → ((64 + 4 * i), 1, 66 + 4 * i) ∈ refT := by decide +kernel
theorem srwi1 {M : Mm} (h : Sh M) {i : Nat} (hi : i < 6) : rR M (64 + 4 * i) 1 = 66 + 4 * i := h.2.1 ((64 + 4 * i), 1, 66 + 4 * i) (srwi1_ i hi)
theorem srru2_ : ∀ i, i < 10 → ((7 + 4 * i), 2, 10 + 4 * i) ∈ refT := by decide +kernel
theorem srru2 {M : Mm} (h : Sh M) {i : Nat} (hi : i < 10) : rR M (7 + 4 * i) 2 = 10 + 4 * i := h.2.1 ((7 + 4 * i), 2, 10 + 4 * i) (srru2_ i hi)
theorem srwi2_ : ∀ i, i < 6 → ((64 + 4 * i), 2, 67 + 4 * i) ∈ refT := by decide +kernel
theorem srwi2 {M : Mm} (h : Sh M) {i : Nat} (hi : i < 6) : rR M (64 + 4 * i) 2 = 67 + 4 * i := h.2.1 ((64 + 4 * i), 2, 67 + 4 * i) (srwi2_ i hi)
theorem srpi0_ : ∀ i, i < 40 → ((88 + 2 * i), 0, 89 + 2 * i) ∈ refT := by decide +kernel
theorem srpi0 {M : Mm} (h : Sh M) {i : Nat} (hi : i < 40) : rR M (88 + 2 * i) 0 = 89 + 2 * i := h.2.1 ((88 + 2 * i), 0, 89 + 2 * i) (srpi0_ i hi)
theorem srpa0_ : ∀ i, i < 8 → ((168 + 2 * i), 0, 169 + 2 * i) ∈ refT := by decide +kernel
theorem srpa0 {M : Mm} (h : Sh M) {i : Nat} (hi : i < 8) : rR M (168 + 2 * i) 0 = 169 + 2 * i := h.2.1 ((168 + 2 * i), 0, 169 + 2 * i) (srpa0_ i hi)
theorem hs_1 : hs 1 20 = true := by decide
theorem hs_2 : hs 2 5 = true := by decide
theorem tb_2 : (tb 2).2 = 6 := by decide
theorem hs_3 : hs 3 3 = true := by decide
theorem tb_3 : (tb 3).2 = 40 := by decide
theorem hs_4 : hs 4 2 = true := by decide
theorem tb_4 : (tb 4).2 = 8 := by decide
theorem hs_5 : hs 5 16 = true := by decide
theorem hs_6 : hs 6 4 = true := by decide
theorem tb_6 : (tb 6).2 = 10 := by decide
theorem hs_47 : hs 47 11 = true := by decide
theorem hs_48 : hs 48 0 = true := by decide
theorem tb_48 : (tb 48).2 = 40 := by decide
theorem hs_49 : hs 49 0 = true := by decide
theorem tb_49 : (tb 49).2 = 40 := by decide
theorem hs_50 : hs 50 17 = true := by decide
theorem hs_51 : hs 51 0 = true := by decide
theorem tb_51 : (tb 51).2 = 480 := by decide
theorem hs_52 : hs 52 0 = true := by decide
theorem tb_52 : (tb 52).2 = 480 := by decide
theorem hs_54 : hs 54 0 = true := by decide
theorem tb_54 : (tb 54).2 = 12 := by decide
theorem hs_55 : hs 55 0 = true := by decide
theorem tb_55 : (tb 55).2 = 12 := by decide
theorem hs_56 : hs 56 10 = true := by decide
theorem hs_57 : hs 57 0 = true := by decide
theorem tb_57 : (tb 57).2 = 145 := by decide
theorem hs_58 : hs 58 0 = true := by decide
theorem tb_58 : (tb 58).2 = 145 := by decide
theorem hs_59 : hs 59 18 = true := by decide
theorem hs_60 : hs 60 0 = true := by decide
theorem tb_60 : (tb 60).2 = 80 := by decide
theorem hs_61 : hs 61 14 = true := by decide
theorem hs_62 : hs 62 0 = true := by decide
theorem tb_62 : (tb 62).2 = 16 := by decide
theorem hs_63 : hs 63 0 = true := by decide
theorem tb_63 : (tb 63).2 = 7 := by decide
theorem hs_184 : hs 184 21 = true := by decide
theorem hs_185 : hs 185 0 = true := by decide
theorem tb_185 : (tb 185).2 = 9 := by decide
theorem hs_186 : hs 186 0 = true := by decide
theorem tb_186 : (tb 186).2 = 6 := by decide
theorem hs_187 : hs 187 0 = true := by decide
theorem tb_187 : (tb 187).2 = 6 := by decide
theorem hs_188 : hs 188 0 = true := by decide
theorem tb_188 : (tb 188).2 = 6 := by decide
theorem hs_189 : hs 189 0 = true := by decide
theorem tb_189 : (tb 189).2 = 40 := by decide
theorem hs_190 : hs 190 0 = true := by decide
theorem tb_190 : (tb 190).2 = 40 := by decide
theorem hs_191 : hs 191 0 = true := by decide
theorem tb_191 : (tb 191).2 = 40 := by decide
theorem hs_192 : hs 192 0 = true := by decide
theorem tb_192 : (tb 192).2 = 40 := by decide
theorem hs_193 : hs 193 0 = true := by decide
theorem tb_193 : (tb 193).2 = 40 := by decide
theorem hs_194 : hs 194 0 = true := by decide
theorem tb_194 : (tb 194).2 = 40 := by decide
theorem hs_195 : hs 195 0 = true := by decide
theorem tb_195 : (tb 195).2 = 40 := by decide
theorem hs_196 : hs 196 0 = true := by decide
theorem tb_196 : (tb 196).2 = 480 := by decide
theorem hs_197 : hs 197 0 = true := by decide
theorem tb_197 : (tb 197).2 = 16 := by decide
theorem hs_198 : hs 198 0 = true := by decide
theorem tb_198 : (tb 198).2 = 11 := by decide
theorem hs_199 : hs 199 0 = true := by decide
theorem tb_199 : (tb 199).2 = 11 := by decide
theorem hs_200 : hs 200 0 = true := by decide
theorem tb_200 : (tb 200).2 = 11 := by decide
theorem hs_201 : hs 201 0 = true := by decide
theorem tb_201 : (tb 201).2 = 11 := by decide
theorem hs_202 : hs 202 0 = true := by decide
theorem tb_202 : (tb 202).2 = 11 := by decide
theorem hs_203 : hs 203 0 = true := by decide
theorem tb_203 : (tb 203).2 = 33 := by decide
theorem hs_204 : hs 204 0 = true := by decide
theorem tb_204 : (tb 204).2 = 33 := by decide
theorem hs_205 : hs 205 0 = true := by decide
theorem tb_205 : (tb 205).2 = 33 := by decide
theorem hs_206 : hs 206 0 = true := by decide
theorem tb_206 : (tb 206).2 = 80 := by decide
theorem hs_207 : hs 207 0 = true := by decide
theorem tb_207 : (tb 207).2 = 6 := by decide
theorem hs_208 : hs 208 0 = true := by decide
theorem tb_208 : (tb 208).2 = 240 := by decide
theorem hs_209 : hs 209 0 = true := by decide
theorem tb_209 : (tb 209).2 = 240 := by decide
theorem hs_210 : hs 210 0 = true := by decide
theorem tb_210 : (tb 210).2 = 240 := by decide
theorem hs_211 : hs 211 0 = true := by decide
theorem tb_211 : (tb 211).2 = 240 := by decide
theorem hs_212 : hs 212 0 = true := by decide
theorem tb_212 : (tb 212).2 = 320 := by decide
theorem hs_213 : hs 213 0 = true := by decide
theorem tb_213 : (tb 213).2 = 8 := by decide
theorem hs_214 : hs 214 0 = true := by decide
theorem tb_214 : (tb 214).2 = 40 := by decide
theorem hs_215 : hs 215 0 = true := by decide
theorem tb_215 : (tb 215).2 = 40 := by decide
theorem hs_216 : hs 216 0 = true := by decide
theorem tb_216 : (tb 216).2 = 700 := by decide
theorem hs_217 : hs 217 0 = true := by decide
theorem tb_217 : (tb 217).2 = 700 := by decide
theorem hs_218 : hs 218 0 = true := by decide
theorem tb_218 : (tb 218).2 = 12 := by decide
theorem hs_219 : hs 219 0 = true := by decide
theorem tb_219 : (tb 219).2 = 12 := by decide
theorem hs_220 : hs 220 1 = true := by decide
theorem tb_220 : (tb 220).2 = 8 := by decide
theorem hs_221 : hs 221 0 = true := by decide
theorem tb_221 : (tb 221).2 = 8 := by decide
theorem hs_222 : hs 222 0 = true := by decide
theorem tb_222 : (tb 222).2 = 8 := by decide
theorem hs_223 : hs 223 1 = true := by decide
theorem tb_223 : (tb 223).2 = 320 := by decide
theorem hs_224 : hs 224 0 = true := by decide
theorem tb_224 : (tb 224).2 = 12 := by decide
theorem hs_ru_ : ∀ i, i < 10 → hs (7 + 4 * i) 15 = true := by decide
theorem hs_ru {i : Nat} (h : i < 10) : hs (7 + 4 * i) 15 = true := hs_ru_ i h
theorem hs_ru0_ : ∀ i, i < 10 → hs (8 + 4 * i) 0 = true := by decide
theorem hs_ru0 {i : Nat} (h : i < 10) : hs (8 + 4 * i) 0 = true := hs_ru0_ i h
theorem tb_ru0_ : ∀ i, i < 10 → (tb (8 + 4 * i)).2 = 3 := by decide
theorem tb_ru0 {i : Nat} (h : i < 10) : (tb (8 + 4 * i)).2 = 3 := tb_ru0_ i h
theorem hs_ru1_ : ∀ i, i < 10 → hs (9 + 4 * i) 0 = true := by decide
theorem hs_ru1 {i : Nat} (h : i < 10) : hs (9 + 4 * i) 0 = true := hs_ru1_ i h
theorem tb_ru1_ : ∀ i, i < 10 → (tb (9 + 4 * i)).2 = 3 := by decide
theorem tb_ru1 {i : Nat} (h : i < 10) : (tb (9 + 4 * i)).2 = 3 := tb_ru1_ i h
theorem hs_ru2_ : ∀ i, i < 10 → hs (10 + 4 * i) 0 = true := by decide
theorem hs_ru2 {i : Nat} (h : i < 10) : hs (10 + 4 * i) 0 = true := hs_ru2_ i h
theorem tb_ru2_ : ∀ i, i < 10 → (tb (10 + 4 * i)).2 = 3 := by decide
theorem tb_ru2 {i : Nat} (h : i < 10) : (tb (10 + 4 * i)).2 = 3 := tb_ru2_ i h
theorem hs_wi_ : ∀ i, i < 6 → hs (64 + 4 * i) 19 = true := by decide
theorem hs_wi {i : Nat} (h : i < 6) : hs (64 + 4 * i) 19 = true := hs_wi_ i h
theorem hs_wi0_ : ∀ i, i < 6 → hs (65 + 4 * i) 0 = true := by decide
theorem hs_wi0 {i : Nat} (h : i < 6) : hs (65 + 4 * i) 0 = true := hs_wi0_ i h
theorem tb_wi0_ : ∀ i, i < 6 → (tb (65 + 4 * i)).2 = 12 := by decide
theorem tb_wi0 {i : Nat} (h : i < 6) : (tb (65 + 4 * i)).2 = 12 := tb_wi0_ i h
theorem hs_wi1_ : ∀ i, i < 6 → hs (66 + 4 * i) 0 = true := by decide
theorem hs_wi1 {i : Nat} (h : i < 6) : hs (66 + 4 * i) 0 = true := hs_wi1_ i h
theorem tb_wi1_ : ∀ i, i < 6 → (tb (66 + 4 * i)).2 = 40 := by decide
theorem tb_wi1 {i : Nat} (h : i < 6) : (tb (66 + 4 * i)).2 = 40 := tb_wi1_ i h
theorem hs_wi2_ : ∀ i, i < 6 → hs (67 + 4 * i) 0 = true := by decide
theorem hs_wi2 {i : Nat} (h : i < 6) : hs (67 + 4 * i) 0 = true := hs_wi2_ i h
theorem tb_wi2_ : ∀ i, i < 6 → (tb (67 + 4 * i)).2 = 40 := by decide
theorem tb_wi2 {i : Nat} (h : i < 6) : (tb (67 + 4 * i)).2 = 40 := tb_wi2_ i h
theorem hs_pi_ : ∀ i, i < 40 → hs (88 + 2 * i) 13 = true := by decide
theorem hs_pi {i : Nat} (h : i < 40) : hs (88 + 2 * i) 13 = true := hs_pi_ i h
theorem hs_pi0_ : ∀ i, i < 40 → hs (89 + 2 * i) 0 = true := by decide
theorem hs_pi0 {i : Nat} (h : i < 40) : hs (89 + 2 * i) 0 = true := hs_pi0_ i h
theorem tb_pi0_ : ∀ i, i < 40 → (tb (89 + 2 * i)).2 = 12 := by decide
theorem tb_pi0 {i : Nat} (h : i < 40) : (tb (89 + 2 * i)).2 = 12 := tb_pi0_ i h
theorem hs_pa_ : ∀ i, i < 8 → hs (168 + 2 * i) 12 = true := by decide
theorem hs_pa {i : Nat} (h : i < 8) : hs (168 + 2 * i) 12 = true := hs_pa_ i h
theorem hs_pa0_ : ∀ i, i < 8 → hs (169 + 2 * i) 0 = true := by decide
theorem hs_pa0 {i : Nat} (h : i < 8) : hs (169 + 2 * i) 0 = true := hs_pa0_ i h
theorem tb_pa0_ : ∀ i, i < 8 → (tb (169 + 2 * i)).2 = 40 := by decide
theorem tb_pa0 {i : Nat} (h : i < 8) : (tb (169 + 2 * i)).2 = 40 := tb_pa0_ i h
theorem inb_nI {n N : Nat} (h : n < N) (hN : N < 2 ^ 31) : inb (nI n) N = true := by
  have := vp_in_nI h hN
  unfold vp_in at this
  unfold inb
  exact decide_eq_true this
theorem inb_of {x : Int32} {N : Nat} (hN : N < 2 ^ 31) (h : inb x N = true) : ∃ n, n < N ∧ x = nI n := vp_in_of (inb_spec h) hN
/-- an argument: below 0, or a number -/
theorem i32_cases (x : Int32) : x < 0 ∨ ∃ n, n < 2 ^ 31 ∧ x = nI n := by
  by_cases h : x < 0
  · exact Or.inl h
  · exact Or.inr (nI_of h)
theorem zb_0 : zb 0 = true := by decide
theorem zb_1 : zb 1 = true := by decide
