/-! the cells that stand once both objects are made: kinds, references that never change -/
def SH : gS := [(0, 6), (0, 5), (0, 0), (0, 1), (0, 4), (1, 4), (1, 9), (1, 9), (4, 30), (0, 4), (1, 4), (1, 9), (1, 9), (0, 4), (1, 4), (1, 9), (1, 9), (0, 4), (1, 4), (1, 9), (1, 9), (0, 4), (1, 4), (1, 9), (1, 9), (0, 4), (1, 4), (1, 9), (1, 9), (0, 4), (1, 4), (1, 9), (1, 9), (0, 4), (1, 4), (1, 9), (1, 9), (0, 4), (1, 4), (1, 9), (1, 9), (0, 4), (1, 4), (1, 9), (1, 9), (0, 4), (1, 4), (1, 9), (1, 9), (0, 4), (1, 4), (1, 9), (1, 9), (0, 4), (1, 4), (1, 9), (1, 9), (0, 4), (1, 4), (1, 9), (1, 9), (0, 4), (1, 4), (1, 9), (1, 9), (0, 4), (1, 4), (1, 9), (1, 9), (0, 4), (1, 4), (1, 9), (1, 9), (0, 4), (1, 4), (1, 9), (1, 9), (0, 4), (1, 4), (1, 9), (1, 9), (0, 4), (1, 4), (1, 9), (1, 9), (0, 4), (1, 4), (1, 9), (1, 9), (0, 4), (1, 4), (1, 9), (1, 9), (0, 4), (1, 4), (1, 9), (1, 9), (0, 4), (1, 4), (1, 9), (1, 9), (0, 4), (1, 4), (1, 9), (1, 9), (0, 4), (1, 4), (1, 9), (1, 9), (0, 4), (1, 4), (1, 9), (1, 9), (0, 4), (1, 4), (1, 9), (1, 9), (0, 4), (1, 4), (1, 9), (1, 9), (0, 4), (1, 4), (1, 9), (1, 9), (0, 4), (1, 4), (1, 9), (1, 9), (1, 9), (1, 9), (1, 9), (1, 240), (1, 90), (1, 9), (5, 4), (0, 2), (1, 300), (1, 3), (1, 3), (1, 24), (1, 24), (1, 24), (0, 2), (1, 300), (1, 3), (1, 3), (1, 24), (1, 24), (1, 24), (0, 2), (1, 300), (1, 3), (1, 3), (1, 24), (1, 24), (1, 24), (0, 2), (1, 300), (1, 3), (1, 3), (1, 24), (1, 24), (1, 24), (1, 12), (1, 64), (0, 4), (1, 4), (1, 9), (1, 9), (1, 6), (1, 6), (1, 6), (1, 4), (0, 1), (0, 4), (1, 4), (1, 9), (1, 9), (4, 30), (0, 4), (1, 4), (1, 9), (1, 9), (0, 4), (1, 4), (1, 9), (1, 9), (0, 4), (1, 4), (1, 9), (1, 9), (0, 4), (1, 4), (1, 9), (1, 9), (0, 4), (1, 4), (1, 9), (1, 9), (0, 4), (1, 4), (1, 9), (1, 9), (0, 4), (1, 4), (1, 9), (1, 9), (0, 4), (1, 4), (1, 9), (1, 9), (0, 4), (1, 4), (1, 9), (1, 9), (0, 4), (1, 4), (1, 9), (1, 9), (0, 4), (1, 4), (1, 9), (1, 9), (0, 4), (1, 4), (1, 9), (1, 9), (0, 4), (1, 4), (1, 9), (1, 9), (0, 4), (1, 4), (1, 9), (1, 9), (0, 4), (1, 4), (1, 9), (1, 9), (0, 4), (1, 4), (1, 9), (1, 9), (0, 4), (1, 4), (1, 9), (1, 9), (0, 4), (1, 4), (1, 9), (1, 9), (0, 4), (1, 4), (1, 9), (1, 9), (0, 4), (1, 4), (1, 9), (1, 9), (0, 4), (1, 4), (1, 9), (1, 9), (0, 4), (1, 4), (1, 9), (1, 9), (0, 4), (1, 4), (1, 9), (1, 9), (0, 4), (1, 4), (1, 9), (1, 9), (0, 4), (1, 4), (1, 9), (1, 9), (0, 4), (1, 4), (1, 9), (1, 9), (0, 4), (1, 4), (1, 9), (1, 9), (0, 4), (1, 4), (1, 9), (1, 9), (0, 4), (1, 4), (1, 9), (1, 9), (0, 4), (1, 4), (1, 9), (1, 9), (1, 9), (1, 9), (1, 9), (1, 240), (1, 90), (1, 9), (0, 3), (1, 300), (1, 64), (1, 9), (0, 7), (1, 11120), (1, 11120), (2, 300), (1, 4), (1, 96), (1, 96), (1, 96), (1, 96), (1, 1600), (1, 1600), (1, 40), (1, 41), (1, 80), (1, 80), (1, 24), (1, 24), (1, 24), (1, 24), (1, 400), (1, 400), (1, 12), (3, 200), (1, 4), (1, 9), (1, 6), (1, 6), (1, 6), (1, 4), (1, 4)]
def RFL : List (List (Option Nat)) := [[some 1, some 2, some 3, some 174, some 306, some 309, none, none, none, none], [some 2, some 3, some 166, some 170, some 171, some 172, none, some 173, none, none, none, none], [some 3, some 135, some 164, some 165], [some 4, some 8, none, some 129, some 130, some 131, none, some 132, some 133, none, none, none, none, some 134, none], [some 5, some 6, some 7, none, none, none], [], [], [], [], [some 10, some 11, some 12, none, none, none], [], [], [], [some 14, some 15, some 16, none, none, none], [], [], [], [some 18, some 19, some 20, none, none, none], [], [], [], [some 22, some 23, some 24, none, none, none], [], [], [], [some 26, some 27, some 28, none, none, none], [], [], [], [some 30, some 31, some 32, none, none, none], [], [], [], [some 34, some 35, some 36, none, none, none], [], [], [], [some 38, some 39, some 40, none, none, none], [], [], [], [some 42, some 43, some 44, none, none, none], [], [], [], [some 46, some 47, some 48, none, none, none], [], [], [], [some 50, some 51, some 52, none, none, none], [], [], [], [some 54, some 55, some 56, none, none, none], [], [], [], [some 58, some 59, some 60, none, none, none], [], [], [], [some 62, some 63, some 64, none, none, none], [], [], [], [some 66, some 67, some 68, none, none, none], [], [], [], [some 70, some 71, some 72, none, none, none], [], [], [], [some 74, some 75, some 76, none, none, none], [], [], [], [some 78, some 79, some 80, none, none, none], [], [], [], [some 82, some 83, some 84, none, none, none], [], [], [], [some 86, some 87, some 88, none, none, none], [], [], [], [some 90, some 91, some 92, none, none, none], [], [], [], [some 94, some 95, some 96, none, none, none], [], [], [], [some 98, some 99, some 100, none, none, none], [], [], [], [some 102, some 103, some 104, none, none, none], [], [], [], [some 106, some 107, some 108, none, none, none], [], [], [], [some 110, some 111, some 112, none, none, none], [], [], [], [some 114, some 115, some 116, none, none, none], [], [], [], [some 118, some 119, some 120, none, none, none], [], [], [], [some 122, some 123, some 124, none, none, none], [], [], [], [some 126, some 127, some 128, none, none, none], [], [], [], [], [], [], [], [], [], [some 136, some 143, some 150, some 157], [some 137, none, some 138, some 139, some 140, some 141, some 142, none], [], [], [], [], [], [], [some 144, none, some 145, some 146, some 147, some 148, some 149, none], [], [], [], [], [], [], [some 151, none, some 152, some 153, some 154, some 155, some 156, none], [], [], [], [], [], [], [some 158, none, some 159, some 160, some 161, some 162, some 163, none], [], [], [], [], [], [], [], [], [some 167, some 168, some 169, none, none, none], [], [], [], [], [], [], [], [some 175, some 179, none, some 300, some 301, some 302, none, some 303, some 304, none, none, none, none, some 305, none], [some 176, some 177, some 178, none, none, none], [], [], [], [some 180, some 184, some 188, some 192, some 196, some 200, some 204, some 208, some 212, some 216, some 220, some 224, some 228, some 232, some 236, some 240, some 244, some 248, some 252, some 256, some 260, some 264, some 268, some 272, some 276, some 280, some 284, some 288, some 292, some 296], [some 181, some 182, some 183, none, none, none], [], [], [], [some 185, some 186, some 187, none, none, none], [], [], [], [some 189, some 190, some 191, none, none, none], [], [], [], [some 193, some 194, some 195, none, none, none], [], [], [], [some 197, some 198, some 199, none, none, none], [], [], [], [some 201, some 202, some 203, none, none, none], [], [], [], [some 205, some 206, some 207, none, none, none], [], [], [], [some 209, some 210, some 211, none, none, none], [], [], [], [some 213, some 214, some 215, none, none, none], [], [], [], [some 217, some 218, some 219, none, none, none], [], [], [], [some 221, some 222, some 223, none, none, none], [], [], [], [some 225, some 226, some 227, none, none, none], [], [], [], [some 229, some 230, some 231, none, none, none], [], [], [], [some 233, some 234, some 235, none, none, none], [], [], [], [some 237, some 238, some 239, none, none, none], [], [], [], [some 241, some 242, some 243, none, none, none], [], [], [], [some 245, some 246, some 247, none, none, none], [], [], [], [some 249, some 250, some 251, none, none, none], [], [], [], [some 253, some 254, some 255, none, none, none], [], [], [], [some 257, some 258, some 259, none, none, none], [], [], [], [some 261, some 262, some 263, none, none, none], [], [], [], [some 265, some 266, some 267, none, none, none], [], [], [], [some 269, some 270, some 271, none, none, none], [], [], [], [some 273, some 274, some 275, none, none, none], [], [], [], [some 277, some 278, some 279, none, none, none], [], [], [], [some 281, some 282, some 283, none, none, none], [], [], [], [some 285, some 286, some 287, none, none, none], [], [], [], [some 289, some 290, some 291, none, none, none], [], [], [], [some 293, some 294, some 295, none, none, none], [], [], [], [some 297, some 298, some 299, none, none, none], [], [], [], [], [], [], [], [], [], [some 307, none, none, none, none, none, none, none, none, some 308, none, none, none, none, none], [], [], [], [some 311, some 312, some 313, none, none, none, some 314, some 315, some 316, some 317, some 318, some 319, some 320, none, none, none, none, none, none, none, none, none, some 321, some 322, none, some 323, some 324, none, none, none, some 325, some 326, some 327, some 328, none, some 329, some 330, some 331, some 332, some 333, some 334, none, some 335, some 336, some 337, some 338, some 339, none], [], [], [], [], [], [], [], [], [], [], [], [], [], [], [], [], [], [], [], [], [], [], [], [], [], [], [], [], []]
def RF (a k : Nat) : Option Nat := (RFL.getD a []).getD k none
def g_Fx (R : gR) : Prop := ∀ a k v, RF a k = some v → R a k = some v
theorem g_Fx_up {R : gR} {c i : Nat} {x : Option Nat} (h0 : RF c i = none) (h : g_Fx R) : g_Fx (upR R c i x) := by
  intro a k v hv
  by_cases e : a = c ∧ k = i
  · obtain ⟨rfl, rfl⟩ := e
    rw [h0] at hv
    cases hv
  · simp only [upR, e, if_false]
    exact h a k v hv
theorem g_Rdyn8 (i : Nat) : RF 8 i = none := rfl
def g_Sc (x : Nat) : Prop := SH[x]? = some (0, 4) ∧ SH[x + 1]? = some (1, 4) ∧ SH[x + 2]? = some (1, 9) ∧ SH[x + 3]? = some (1, 9) ∧ RF (x) 0 = some (x + 1) ∧ RF (x) 1 = some (x + 2) ∧ RF (x) 2 = some (x + 3)
theorem Sc_s0 {x : Nat} (h : g_Sc x) : SH[x]? = some (0, 4) := h.1
theorem Sc_s1 {x : Nat} (h : g_Sc x) : SH[x + 1]? = some (1, 4) := h.2.1
theorem Sc_s2 {x : Nat} (h : g_Sc x) : SH[x + 2]? = some (1, 9) := h.2.2.1
theorem Sc_s3 {x : Nat} (h : g_Sc x) : SH[x + 3]? = some (1, 9) := h.2.2.2.1
theorem Sc_r0_0 {x : Nat} (h : g_Sc x) : RF (x) 0 = some (x + 1) := h.2.2.2.2.1
theorem Sc_r0_1 {x : Nat} (h : g_Sc x) : RF (x) 1 = some (x + 2) := h.2.2.2.2.2.1
theorem Sc_r0_2 {x : Nat} (h : g_Sc x) : RF (x) 2 = some (x + 3) := h.2.2.2.2.2.2
def g_La (x : Nat) : Prop := SH[x]? = some (0, 2) ∧ SH[x + 1]? = some (1, 300) ∧ SH[x + 2]? = some (1, 3) ∧ SH[x + 3]? = some (1, 3) ∧ SH[x + 4]? = some (1, 24) ∧ SH[x + 5]? = some (1, 24) ∧ SH[x + 6]? = some (1, 24) ∧ RF (x) 0 = some (x + 1) ∧ RF (x) 2 = some (x + 2) ∧ RF (x) 3 = some (x + 3) ∧ RF (x) 4 = some (x + 4) ∧ RF (x) 5 = some (x + 5) ∧ RF (x) 6 = some (x + 6)
theorem La_s0 {x : Nat} (h : g_La x) : SH[x]? = some (0, 2) := h.1
theorem La_s1 {x : Nat} (h : g_La x) : SH[x + 1]? = some (1, 300) := h.2.1
theorem La_s2 {x : Nat} (h : g_La x) : SH[x + 2]? = some (1, 3) := h.2.2.1
theorem La_s3 {x : Nat} (h : g_La x) : SH[x + 3]? = some (1, 3) := h.2.2.2.1
theorem La_s4 {x : Nat} (h : g_La x) : SH[x + 4]? = some (1, 24) := h.2.2.2.2.1
theorem La_s5 {x : Nat} (h : g_La x) : SH[x + 5]? = some (1, 24) := h.2.2.2.2.2.1
theorem La_s6 {x : Nat} (h : g_La x) : SH[x + 6]? = some (1, 24) := h.2.2.2.2.2.2.1
theorem La_r0_0 {x : Nat} (h : g_La x) : RF (x) 0 = some (x + 1) := h.2.2.2.2.2.2.2.1
theorem La_r0_2 {x : Nat} (h : g_La x) : RF (x) 2 = some (x + 2) := h.2.2.2.2.2.2.2.2.1
theorem La_r0_3 {x : Nat} (h : g_La x) : RF (x) 3 = some (x + 3) := h.2.2.2.2.2.2.2.2.2.1
theorem La_r0_4 {x : Nat} (h : g_La x) : RF (x) 4 = some (x + 4) := h.2.2.2.2.2.2.2.2.2.2.1
theorem La_r0_5 {x : Nat} (h : g_La x) : RF (x) 5 = some (x + 5) := h.2.2.2.2.2.2.2.2.2.2.2.1
theorem La_r0_6 {x : Nat} (h : g_La x) : RF (x) 6 = some (x + 6) := h.2.2.2.2.2.2.2.2.2.2.2.2
def g_Co (x : Nat) : Prop := SH[x]? = some (0, 1) ∧ SH[x + 1]? = some (0, 4) ∧ SH[x + 2]? = some (1, 4) ∧ SH[x + 3]? = some (1, 9) ∧ SH[x + 4]? = some (1, 9) ∧ SH[x + 5]? = some (4, 30) ∧ SH[x + 126]? = some (1, 9) ∧ SH[x + 127]? = some (1, 9) ∧ SH[x + 128]? = some (1, 9) ∧ SH[x + 129]? = some (1, 240) ∧ SH[x + 130]? = some (1, 90) ∧ SH[x + 131]? = some (1, 9) ∧ RF (x) 0 = some (x + 1) ∧ RF (x) 1 = some (x + 5) ∧ RF (x) 3 = some (x + 126) ∧ RF (x) 4 = some (x + 127) ∧ RF (x) 5 = some (x + 128) ∧ RF (x) 7 = some (x + 129) ∧ RF (x) 8 = some (x + 130) ∧ RF (x) 13 = some (x + 131) ∧ RF (x + 1) 0 = some (x + 2) ∧ RF (x + 1) 1 = some (x + 3) ∧ RF (x + 1) 2 = some (x + 4)
theorem Co_s0 {x : Nat} (h : g_Co x) : SH[x]? = some (0, 1) := h.1
theorem Co_s1 {x : Nat} (h : g_Co x) : SH[x + 1]? = some (0, 4) := h.2.1
theorem Co_s2 {x : Nat} (h : g_Co x) : SH[x + 2]? = some (1, 4) := h.2.2.1
theorem Co_s3 {x : Nat} (h : g_Co x) : SH[x + 3]? = some (1, 9) := h.2.2.2.1
theorem Co_s4 {x : Nat} (h : g_Co x) : SH[x + 4]? = some (1, 9) := h.2.2.2.2.1
theorem Co_s5 {x : Nat} (h : g_Co x) : SH[x + 5]? = some (4, 30) := h.2.2.2.2.2.1
theorem Co_s126 {x : Nat} (h : g_Co x) : SH[x + 126]? = some (1, 9) := h.2.2.2.2.2.2.1
theorem Co_s127 {x : Nat} (h : g_Co x) : SH[x + 127]? = some (1, 9) := h.2.2.2.2.2.2.2.1
theorem Co_s128 {x : Nat} (h : g_Co x) : SH[x + 128]? = some (1, 9) := h.2.2.2.2.2.2.2.2.1
theorem Co_s129 {x : Nat} (h : g_Co x) : SH[x + 129]? = some (1, 240) := h.2.2.2.2.2.2.2.2.2.1
theorem Co_s130 {x : Nat} (h : g_Co x) : SH[x + 130]? = some (1, 90) := h.2.2.2.2.2.2.2.2.2.2.1
theorem Co_s131 {x : Nat} (h : g_Co x) : SH[x + 131]? = some (1, 9) := h.2.2.2.2.2.2.2.2.2.2.2.1
theorem Co_r0_0 {x : Nat} (h : g_Co x) : RF (x) 0 = some (x + 1) := h.2.2.2.2.2.2.2.2.2.2.2.2.1
theorem Co_r0_1 {x : Nat} (h : g_Co x) : RF (x) 1 = some (x + 5) := h.2.2.2.2.2.2.2.2.2.2.2.2.2.1
theorem Co_r0_3 {x : Nat} (h : g_Co x) : RF (x) 3 = some (x + 126) := h.2.2.2.2.2.2.2.2.2.2.2.2.2.2.1
theorem Co_r0_4 {x : Nat} (h : g_Co x) : RF (x) 4 = some (x + 127) := h.2.2.2.2.2.2.2.2.2.2.2.2.2.2.2.1
theorem Co_r0_5 {x : Nat} (h : g_Co x) : RF (x) 5 = some (x + 128) := h.2.2.2.2.2.2.2.2.2.2.2.2.2.2.2.2.1
theorem Co_r0_7 {x : Nat} (h : g_Co x) : RF (x) 7 = some (x + 129) := h.2.2.2.2.2.2.2.2.2.2.2.2.2.2.2.2.2.1
theorem Co_r0_8 {x : Nat} (h : g_Co x) : RF (x) 8 = some (x + 130) := h.2.2.2.2.2.2.2.2.2.2.2.2.2.2.2.2.2.2.1
theorem Co_r0_13 {x : Nat} (h : g_Co x) : RF (x) 13 = some (x + 131) := h.2.2.2.2.2.2.2.2.2.2.2.2.2.2.2.2.2.2.2.1
theorem Co_r1_0 {x : Nat} (h : g_Co x) : RF (x + 1) 0 = some (x + 2) := h.2.2.2.2.2.2.2.2.2.2.2.2.2.2.2.2.2.2.2.2.1
theorem Co_r1_1 {x : Nat} (h : g_Co x) : RF (x + 1) 1 = some (x + 3) := h.2.2.2.2.2.2.2.2.2.2.2.2.2.2.2.2.2.2.2.2.2.1
theorem Co_r1_2 {x : Nat} (h : g_Co x) : RF (x + 1) 2 = some (x + 4) := h.2.2.2.2.2.2.2.2.2.2.2.2.2.2.2.2.2.2.2.2.2.2
theorem Co_x1 {x : Nat} (h : g_Co x) : g_Sc (x + 1) := ⟨Co_s1 h, Co_s2 h, Co_s3 h, Co_s4 h, Co_r1_0 h, Co_r1_1 h, Co_r1_2 h⟩
theorem Sc_4 : g_Sc 4 := ⟨rfl, rfl, rfl, rfl, rfl, rfl, rfl⟩
theorem Sc_166 : g_Sc 166 := ⟨rfl, rfl, rfl, rfl, rfl, rfl, rfl⟩
theorem Sc_175 : g_Sc 175 := ⟨rfl, rfl, rfl, rfl, rfl, rfl, rfl⟩
theorem Sc_9 {i : Nat} (h : i < 30) : g_Sc (9 + 4 * i) := by
  have : ∀ i, i < 30 → g_Sc (9 + 4 * i) := by unfold g_Sc; decide +kernel
  exact this i h
theorem Sc_180 {i : Nat} (h : i < 30) : g_Sc (180 + 4 * i) := by
  have : ∀ i, i < 30 → g_Sc (180 + 4 * i) := by unfold g_Sc; decide +kernel
  exact this i h
theorem La_136 {i : Nat} (h : i < 4) : g_La (136 + 7 * i) := by
  have : ∀ i, i < 4 → g_La (136 + 7 * i) := by unfold g_La; decide +kernel
  exact this i h
theorem Co_3 : g_Co 3 := by unfold g_Co; decide +kernel
theorem Co_174 : g_Co 174 := by unfold g_Co; decide +kernel
theorem b0 {c : Prop} {i : Decidable c} : (@ite Int32 c i 1 0) = 0 ↔ ¬ c := by
  by_cases h : c <;> simp [h]
theorem b1 {c : Prop} {i : Decidable c} : ¬ (@ite Int32 c i 1 0) = 0 ↔ c := by
  by_cases h : c <;> simp [h]
theorem nz_or {x : Int32} (h : x = 0 ∨ x = 1) : narrow .boolean (.int x) = .int x := by
  rcases h with rfl | rfl <;> rfl
theorem nf_or {x : Int32} (h : x = 0 ∨ x = 1) : fits .boolean (.int x) = true := by
  rcases h with rfl | rfl <;> rfl
theorem nz_ite {c : Prop} {i : Decidable c} : narrow .boolean (.int (@ite Int32 c i 1 0)) = .int (@ite Int32 c i 1 0) := nz_or (by by_cases h : c <;> simp [h])
theorem nf_ite {c : Prop} {i : Decidable c} : fits .boolean (.int (@ite Int32 c i 1 0)) = true := nf_or (by by_cases h : c <;> simp [h])
theorem lc_cases (x y : Int64) : (x < y ∧ lg_cmp x y = -1) ∨ (x = y ∧ lg_cmp x y = 0) ∨ (y < x ∧ lg_cmp x y = 1) := by
  unfold lg_cmp
  by_cases h1 : x > y
  · exact Or.inr (Or.inr ⟨h1, by simp [h1]⟩)
  · by_cases h2 : x = y
    · exact Or.inr (Or.inl ⟨h2, by simp [h2]⟩)
    · refine Or.inl ⟨?_, by simp [h1, h2]⟩
      have a1 : ¬ y.toInt < x.toInt := fun q => h1 (Int64.lt_iff_toInt_lt.mpr q)
      have a2 : ¬ x.toInt = y.toInt := fun q => h2 (Int64.toInt_inj.mp q)
      exact Int64.lt_iff_toInt_lt.mpr (by omega)
theorem lc_eq {x y : Int64} : lg_cmp x y = 0 ↔ x = y := by
  rcases lc_cases x y with ⟨h, e⟩ | ⟨h, e⟩ | ⟨h, e⟩ <;> rw [e]
  · exact ⟨fun q => absurd q (by decide), fun q => by subst q; exact absurd (Int64.lt_iff_toInt_lt.mp h) (by omega)⟩
  · exact ⟨fun _ => h, fun _ => rfl⟩
  · exact ⟨fun q => absurd q (by decide), fun q => by subst q; exact absurd (Int64.lt_iff_toInt_lt.mp h) (by omega)⟩
theorem lc_lt {x y : Int64} : lg_cmp x y < 0 ↔ x < y := by
  rcases lc_cases x y with ⟨h, e⟩ | ⟨h, e⟩ | ⟨h, e⟩ <;> rw [e]
  · exact ⟨fun _ => h, fun _ => by decide⟩
  · exact ⟨fun q => absurd q (by decide), fun q => by subst h; exact absurd (Int64.lt_iff_toInt_lt.mp q) (by omega)⟩
  · exact ⟨fun q => absurd q (by decide), fun q => absurd (Int64.lt_iff_toInt_lt.mp q) (by have := Int64.lt_iff_toInt_lt.mp h; omega)⟩
theorem lc_gt {x y : Int64} : 0 < lg_cmp x y ↔ y < x := by
  rcases lc_cases x y with ⟨h, e⟩ | ⟨h, e⟩ | ⟨h, e⟩ <;> rw [e]
  · exact ⟨fun q => absurd q (by decide), fun q => absurd (Int64.lt_iff_toInt_lt.mp q) (by have := Int64.lt_iff_toInt_lt.mp h; omega)⟩
  · exact ⟨fun q => absurd q (by decide), fun q => by subst h; exact absurd (Int64.lt_iff_toInt_lt.mp q) (by omega)⟩
  · exact ⟨fun _ => h, fun _ => by decide⟩
theorem lc_nlt {x y : Int64} : ¬ x < y ↔ y ≤ x := by
  rw [Int64.lt_iff_toInt_lt, Int64.le_iff_toInt_le]; omega
theorem li_nlt {x y : Int32} : ¬ x < y ↔ y ≤ x := by
  rw [Int32.lt_iff_toInt_lt, Int32.le_iff_toInt_le]; omega
theorem lc_ge {x y : Int64} : 0 ≤ lg_cmp x y ↔ y ≤ x := by rw [← li_nlt, lc_lt, lc_nlt]
theorem lc_le {x y : Int64} : lg_cmp x y ≤ 0 ↔ x ≤ y := by rw [← li_nlt, lc_gt, lc_nlt]
theorem lc_ne {x y : Int64} : ¬ lg_cmp x y = 0 ↔ ¬ x = y := not_congr lc_eq
theorem lc_eq_n {x y : Int64} : ¬ lg_cmp x y = 0 ↔ ¬ x = y := not_congr lc_eq
theorem lc_ne_n {x y : Int64} : lg_cmp x y = 0 ↔ x = y := lc_eq
theorem lc_lt_n {x y : Int64} : ¬ lg_cmp x y < 0 ↔ ¬ x < y := not_congr lc_lt
theorem lc_gt_n {x y : Int64} : ¬ 0 < lg_cmp x y ↔ ¬ y < x := not_congr lc_gt
theorem lc_ge_n {x y : Int64} : ¬ 0 ≤ lg_cmp x y ↔ ¬ y ≤ x := not_congr lc_ge
theorem lc_le_n {x y : Int64} : ¬ lg_cmp x y ≤ 0 ↔ ¬ x ≤ y := not_congr lc_le
section GB
variable {G : gG} {μ : gm} {d rc rs pc : Nat} {ls : List (Option Value)} {st : List Value} {S : gS} {I : gI} {R : gR} {L : gL} {Q : gQ}
theorem go_drop (k : Nat) (kk : Go G μ d rc rs pc (ls.set k none) st S I R L Q) : Go G μ d rc rs pc ls st S I R L Q := by
  intro l p e RM s m args below meth c H locs cells slots mc ms lsA Z
  refine kk l p e RM s m args below meth c H locs cells slots mc ms lsA ⟨Z.1, Z.2.1, Z.2.2.1, Z.2.2.2.1, Z.2.2.2.2.1, Z.2.2.2.2.2.1, Z.2.2.2.2.2.2.1, fun j v hj => Z.2.2.2.2.2.2.2 j v ?_⟩
  by_cases e : j = k
  · subst e
    rw [List.getElem?_set] at hj
    split at hj
    · split at hj <;> simp at hj
    · rename_i h
      exact absurd rfl h
  · rw [List.getElem?_set_ne (Ne.symm e)] at hj
    exact hj
theorem go_ialdK {a n k : Nat} {i : Int32} (hd : decode μ.2.1 pc = .ok (.iaload, 1)) (hs : S[a]? = some (1, n)) (hin : vp_in i n) (hk : i.toNatClampNeg = k) (kk : Go G μ d rc rs (pc + 1) ls (.int (I a k) :: st) S I R L Q) : Go G μ d rc rs pc ls (.int i :: .ref a :: st) S I R L Q := go_iald hd hs hin (by rw [hk]; exact kk)
theorem go_baldK {a n k : Nat} {i : Int32} (hd : decode μ.2.1 pc = .ok (.baload, 1)) (hs : S[a]? = some (2, n)) (hin : vp_in i n) (hk : i.toNatClampNeg = k) (kk : Go G μ d rc rs (pc + 1) ls (.int (I a k) :: st) S I R L Q) : Go G μ d rc rs pc ls (.int i :: .ref a :: st) S I R L Q := go_bald hd hs hin (by rw [hk]; exact kk)
theorem go_laldK {a n k : Nat} {i : Int32} (hd : decode μ.2.1 pc = .ok (.laload, 1)) (hs : S[a]? = some (3, n)) (hin : vp_in i n) (hk : i.toNatClampNeg = k) (kk : Go G μ d rc rs (pc + 1) ls (.long (L a k) :: st) S I R L Q) : Go G μ d rc rs pc ls (.int i :: .ref a :: st) S I R L Q := go_lald hd hs hin (by rw [hk]; exact kk)
theorem go_aald4K {a n v k : Nat} {i : Int32} (hd : decode μ.2.1 pc = .ok (.aaload, 1)) (hs : S[a]? = some (4, n)) (hin : vp_in i n) (hk : i.toNatClampNeg = k) (hv : R a k = some v) (kk : Go G μ d rc rs (pc + 1) ls (.ref v :: st) S I R L Q) : Go G μ d rc rs pc ls (.int i :: .ref a :: st) S I R L Q := go_aald4 hd hs hin (by rw [hk]; exact hv) kk
theorem go_iastK {a n k : Nat} {i x : Int32} (hd : decode μ.2.1 pc = .ok (.iastore, 1)) (hs : S[a]? = some (1, n)) (hin : vp_in i n) (hk : i.toNatClampNeg = k) (kk : Go G μ d rc rs (pc + 1) ls st S (up I a k x) R L Q) : Go G μ d rc rs pc ls (.int x :: .int i :: .ref a :: st) S I R L Q := go_iast hd hs hin (by rw [hk]; exact kk)
theorem go_lastK {a n k : Nat} {i : Int32} {x : Int64} (hd : decode μ.2.1 pc = .ok (.lastore, 1)) (hs : S[a]? = some (3, n)) (hin : vp_in i n) (hk : i.toNatClampNeg = k) (kk : Go G μ d rc rs (pc + 1) ls st S I R (upL L a k x) Q) : Go G μ d rc rs pc ls (.long x :: .int i :: .ref a :: st) S I R L Q := go_last hd hs hin (by rw [hk]; exact kk)
theorem go_copyK {a c0 n0 n1 idx sk dk nk : Nat} {sp dp n : Int32} (hd : decode μ.2.1 pc = .ok (.invokestatic idx, 3)) (hl : Cond.methodLink μ.1.cls idx arraycopyName ∈ g_t) (h1 : Cond.native arraycopyName ∈ g_t) (h2 : Cond.static arraycopyName ∈ g_t) (h3 : Cond.initialized "java/lang/System" ∈ g_t) (hs0 : S[a]? = some (1, n0)) (hs1 : S[c0]? = some (1, n1)) (e1 : sp.toNatClampNeg = sk) (e2 : dp.toNatClampNeg = dk) (e3 : n.toNatClampNeg = nk) (b1 : ¬ sp < 0) (b2 : ¬ dp < 0) (b3 : ¬ n < 0) (b4 : sk + nk ≤ n0) (b5 : dk + nk ≤ n1) (hst : (st.map fun v => v.category).sum ≤ 8) (hdd : nativeFrameWords "java/lang/System" "arraycopy" 5 + 19 ≤ 64 * d)
    (kk : Go G μ d rc rs (pc + 3) ls st S (cpy I a c0 sk dk nk) R L Q) : Go G μ d rc rs pc ls (.int n :: .int dp :: .ref c0 :: .int sp :: .ref a :: st) S I R L Q := by
  subst e1 e2 e3
  exact go_copy hd hl h1 h2 h3 hs0 hs1 b1 b2 b3 b4 b5 hst hdd kk
theorem go_sld {i : Int32} (hd : decode μ.2.1 pc = .ok (.iaload, 1)) (hin : vp_in i G.2.2.2.2.1) (kk : Go G μ d rc rs (pc + 1) ls (.int (G.2.2.2.2.2 i.toNatClampNeg) :: st) S I R L Q) : Go G μ d rc rs pc ls (.int i :: .float 0 :: st) S I R L Q := by
  intro l p e RM s m args below meth c H locs cells slots mc ms lsA Z
  have hx := Z.1.2.2.2.2.2.2.2.2.1.2
  exact va_sld Z.1.1 Z.1.2.1 hx.1 hx.2.1 (show ¬ g_A G _ from Nat.not_le.mpr hx.2.1) Z.2.2.2.2.1 hin hd (kk l p e RM s m args below meth c H locs cells slots mc ms lsA Z)
theorem go_slen (hd : decode μ.2.1 pc = .ok (.arraylength, 1)) (kk : Go G μ d rc rs (pc + 1) ls (.int (Int32.ofNat G.2.2.2.2.1) :: st) S I R L Q) : Go G μ d rc rs pc ls (.float 0 :: st) S I R L Q := by
  intro l p e RM s m args below meth c H locs cells slots mc ms lsA Z
  have hx := Z.1.2.2.2.2.2.2.2.2.1.2
  exact va_slen Z.1.1 Z.1.2.1 hx.1 hx.2.1 (show ¬ g_A G _ from Nat.not_le.mpr hx.2.1) Z.2.2.2.2.1 hd (kk l p e RM s m args below meth c H locs cells slots mc ms lsA Z)
end GB
