/-! the static shape of the heap, the memory, and what holds it -/
def NC : Nat := 517
def kdl : List Nat := [6, 1, 12, 8, 8, 8, 8, 8, 12, 8, 8, 8, 8, 8, 8, 8, 8, 8, 8, 12, 8, 8, 8, 12, 8, 8, 8, 8, 8, 8, 8, 1, 12, 8, 8, 8, 8, 8, 12, 8, 8, 8, 8, 8, 8, 8, 8, 8, 8, 12, 8, 8, 8, 12, 8, 8, 8, 8, 8, 8, 8, 0, 8, 8, 13, 9, 9, 9, 9, 9, 9, 9, 9, 9, 9, 9, 9, 9, 9, 9, 9, 9, 9, 9, 9, 9, 9, 9, 9, 9, 9, 9, 9, 8, 8, 8, 9, 5, 4, 8, 8, 12, 8, 8, 8, 8, 8, 8, 8, 8, 8, 8, 8, 8, 8, 8, 8, 8, 8, 8, 8, 8, 3, 9, 9, 9, 2, 11, 1, 12, 8, 8, 8, 8, 8, 12, 8, 8, 8, 8, 8, 8, 8, 8, 8, 8, 12, 8, 8, 8, 12, 8, 8, 8, 8, 8, 8, 8, 1, 12, 8, 8, 8, 8, 8, 12, 8, 8, 8, 8, 8, 8, 8, 8, 8, 8, 12, 8, 8, 8, 12, 8, 8, 8, 8, 8, 8, 8, 1, 12, 8, 8, 8, 8, 8, 12, 8, 8, 8, 8, 8, 8, 8, 8, 8, 8, 12, 8, 8, 8, 12, 8, 8, 8, 8, 8, 8, 8, 1, 12, 8, 8, 8, 8, 8, 12, 8, 8, 8, 8, 8, 8, 8, 8, 8, 8, 12, 8, 8, 8, 12, 8, 8, 8, 8, 8, 8, 8, 1, 12, 8, 8, 8, 8, 8, 12, 8, 8, 8, 8, 8, 8, 8, 8, 8, 8, 12, 8, 8, 8, 12, 8, 8, 8, 8, 8, 8, 8, 1, 12, 8, 8, 8, 8, 8, 12, 8, 8, 8, 8, 8, 8, 8, 8, 8, 8, 12, 8, 8, 8, 12, 8, 8, 8, 8, 8, 8, 8, 1, 12, 8, 8, 8, 8, 8, 12, 8, 8, 8, 8, 8, 8, 8, 8, 8, 8, 12, 8, 8, 8, 12, 8, 8, 8, 8, 8, 8, 8, 1, 12, 8, 8, 8, 8, 8, 12, 8, 8, 8, 8, 8, 8, 8, 8, 8, 8, 12, 8, 8, 8, 12, 8, 8, 8, 8, 8, 8, 8, 1, 12, 8, 8, 8, 8, 8, 12, 8, 8, 8, 8, 8, 8, 8, 8, 8, 8, 12, 8, 8, 8, 12, 8, 8, 8, 8, 8, 8, 8, 1, 12, 8, 8, 8, 8, 8, 12, 8, 8, 8, 8, 8, 8, 8, 8, 8, 8, 12, 8, 8, 8, 12, 8, 8, 8, 8, 8, 8, 8, 8, 11, 1, 12, 8, 8, 8, 8, 8, 12, 8, 8, 8, 8, 8, 8, 8, 8, 8, 8, 12, 8, 8, 8, 12, 8, 8, 8, 8, 8, 8, 8, 1, 12, 8, 8, 8, 8, 8, 12, 8, 8, 8, 8, 8, 8, 8, 8, 8, 8, 12, 8, 8, 8, 12, 8, 8, 8, 8, 8, 8, 8, 10, 8, 7, 8, 8, 8, 8, 8, 10, 8, 8, 9, 9, 9, 8, 8, 9, 10, 8, 8, 8, 8, 9, 9, 8, 8, 8]
def lnl : List Nat := [11, 14, 5, 4, 4, 4, 4, 4, 10, 4, 4, 4, 4, 4, 4, 4, 4, 4, 4, 3, 9, 9, 9, 6, 6, 6, 6, 6, 6, 6, 200, 14, 5, 4, 4, 4, 4, 4, 10, 4, 4, 4, 4, 4, 4, 4, 4, 4, 4, 3, 9, 9, 9, 6, 6, 6, 6, 6, 6, 6, 200, 12, 54, 54, 27, 25, 25, 25, 25, 25, 25, 25, 25, 25, 25, 25, 25, 25, 25, 25, 25, 25, 25, 25, 25, 25, 25, 25, 25, 25, 25, 25, 27, 27, 5, 5, 5, 2, 9, 20, 20, 20, 6, 6, 6, 6, 6, 6, 6, 6, 6, 6, 6, 6, 6, 6, 6, 6, 6, 6, 6, 6, 6, 25, 25, 25, 4, 10, 14, 5, 4, 4, 4, 4, 4, 10, 4, 4, 4, 4, 4, 4, 4, 4, 4, 4, 3, 9, 9, 9, 6, 6, 6, 6, 6, 6, 6, 200, 14, 5, 4, 4, 4, 4, 4, 10, 4, 4, 4, 4, 4, 4, 4, 4, 4, 4, 3, 9, 9, 9, 6, 6, 6, 6, 6, 6, 6, 200, 14, 5, 4, 4, 4, 4, 4, 10, 4, 4, 4, 4, 4, 4, 4, 4, 4, 4, 3, 9, 9, 9, 6, 6, 6, 6, 6, 6, 6, 200, 14, 5, 4, 4, 4, 4, 4, 10, 4, 4, 4, 4, 4, 4, 4, 4, 4, 4, 3, 9, 9, 9, 6, 6, 6, 6, 6, 6, 6, 200, 14, 5, 4, 4, 4, 4, 4, 10, 4, 4, 4, 4, 4, 4, 4, 4, 4, 4, 3, 9, 9, 9, 6, 6, 6, 6, 6, 6, 6, 200, 14, 5, 4, 4, 4, 4, 4, 10, 4, 4, 4, 4, 4, 4, 4, 4, 4, 4, 3, 9, 9, 9, 6, 6, 6, 6, 6, 6, 6, 200, 14, 5, 4, 4, 4, 4, 4, 10, 4, 4, 4, 4, 4, 4, 4, 4, 4, 4, 3, 9, 9, 9, 6, 6, 6, 6, 6, 6, 6, 200, 14, 5, 4, 4, 4, 4, 4, 10, 4, 4, 4, 4, 4, 4, 4, 4, 4, 4, 3, 9, 9, 9, 6, 6, 6, 6, 6, 6, 6, 200, 14, 5, 4, 4, 4, 4, 4, 10, 4, 4, 4, 4, 4, 4, 4, 4, 4, 4, 3, 9, 9, 9, 6, 6, 6, 6, 6, 6, 6, 200, 14, 5, 4, 4, 4, 4, 4, 10, 4, 4, 4, 4, 4, 4, 4, 4, 4, 4, 3, 9, 9, 9, 6, 6, 6, 6, 6, 6, 6, 200, 10, 2, 14, 5, 4, 4, 4, 4, 4, 10, 4, 4, 4, 4, 4, 4, 4, 4, 4, 4, 3, 9, 9, 9, 6, 6, 6, 6, 6, 6, 6, 200, 14, 5, 4, 4, 4, 4, 4, 10, 4, 4, 4, 4, 4, 4, 4, 4, 4, 4, 3, 9, 9, 9, 6, 6, 6, 6, 6, 6, 6, 200, 2, 4, 35, 6, 331, 3310, 10, 662, 2, 331, 5, 25, 25, 16, 5, 5, 5, 5, 3, 3, 10, 10, 10, 10, 20, 20, 120]
def rfL : List (List Nat) := [[1, 31, 61, 97, 98, 122, 126, 429, 490, 491, 0], [0, 0, 0, 0, 0, 0, 0, 0, 0, 2, 8, 19, 23, 30], [3, 4, 5, 6, 7], [], [], [], [], [], [9, 10, 11, 12, 13, 14, 15, 16, 17, 18], [], [], [], [], [], [], [], [], [], [], [20, 21, 22], [], [], [], [24, 25, 26, 27, 28, 29], [], [], [], [], [], [], [], [0, 0, 0, 0, 0, 0, 0, 0, 0, 32, 38, 49, 53, 60], [33, 34, 35, 36, 37], [], [], [], [], [], [39, 40, 41, 42, 43, 44, 45, 46, 47, 48], [], [], [], [], [], [], [], [], [], [], [50, 51, 52], [], [], [], [54, 55, 56, 57, 58, 59], [], [], [], [], [], [], [], [62, 63, 64, 92, 0, 93, 94, 95, 0, 0, 96, 0], [], [], [65, 66, 67, 68, 69, 70, 71, 72, 73, 74, 75, 76, 77, 78, 79, 80, 81, 82, 83, 84, 85, 86, 87, 88, 89, 90, 91], [], [], [], [], [], [], [], [], [], [], [], [], [], [], [], [], [], [], [], [], [], [], [], [], [], [], [], [], [], [], [], [], [61, 0], [61, 99, 100, 101, 0, 0, 0, 0, 0], [], [], [102, 103, 104, 105, 106, 107, 108, 109, 110, 111, 112, 113, 114, 115, 116, 117, 118, 119, 120, 121], [], [], [], [], [], [], [], [], [], [], [], [], [], [], [], [], [], [], [], [], [123, 124, 125, 0, 0, 0], [], [], [], [127, 428, 0, 0], [128, 158, 188, 218, 248, 278, 308, 338, 368, 398], [0, 0, 0, 0, 0, 0, 0, 0, 0, 129, 135, 146, 150, 157], [130, 131, 132, 133, 134], [], [], [], [], [], [136, 137, 138, 139, 140, 141, 142, 143, 144, 145], [], [], [], [], [], [], [], [], [], [], [147, 148, 149], [], [], [], [151, 152, 153, 154, 155, 156], [], [], [], [], [], [], [], [0, 0, 0, 0, 0, 0, 0, 0, 0, 159, 165, 176, 180, 187], [160, 161, 162, 163, 164], [], [], [], [], [], [166, 167, 168, 169, 170, 171, 172, 173, 174, 175], [], [], [], [], [], [], [], [], [], [], [177, 178, 179], [], [], [], [181, 182, 183, 184, 185, 186], [], [], [], [], [], [], [], [0, 0, 0, 0, 0, 0, 0, 0, 0, 189, 195, 206, 210, 217], [190, 191, 192, 193, 194], [], [], [], [], [], [196, 197, 198, 199, 200, 201, 202, 203, 204, 205], [], [], [], [], [], [], [], [], [], [], [207, 208, 209], [], [], [], [211, 212, 213, 214, 215, 216], [], [], [], [], [], [], [], [0, 0, 0, 0, 0, 0, 0, 0, 0, 219, 225, 236, 240, 247], [220, 221, 222, 223, 224], [], [], [], [], [], [226, 227, 228, 229, 230, 231, 232, 233, 234, 235], [], [], [], [], [], [], [], [], [], [], [237, 238, 239], [], [], [], [241, 242, 243, 244, 245, 246], [], [], [], [], [], [], [], [0, 0, 0, 0, 0, 0, 0, 0, 0, 249, 255, 266, 270, 277], [250, 251, 252, 253, 254], [], [], [], [], [], [256, 257, 258, 259, 260, 261, 262, 263, 264, 265], [], [], [], [], [], [], [], [], [], [], [267, 268, 269], [], [], [], [271, 272, 273, 274, 275, 276], [], [], [], [], [], [], [], [0, 0, 0, 0, 0, 0, 0, 0, 0, 279, 285, 296, 300, 307], [280, 281, 282, 283, 284], [], [], [], [], [], [286, 287, 288, 289, 290, 291, 292, 293, 294, 295], [], [], [], [], [], [], [], [], [], [], [297, 298, 299], [], [], [], [301, 302, 303, 304, 305, 306], [], [], [], [], [], [], [], [0, 0, 0, 0, 0, 0, 0, 0, 0, 309, 315, 326, 330, 337], [310, 311, 312, 313, 314], [], [], [], [], [], [316, 317, 318, 319, 320, 321, 322, 323, 324, 325], [], [], [], [], [], [], [], [], [], [], [327, 328, 329], [], [], [], [331, 332, 333, 334, 335, 336], [], [], [], [], [], [], [], [0, 0, 0, 0, 0, 0, 0, 0, 0, 339, 345, 356, 360, 367], [340, 341, 342, 343, 344], [], [], [], [], [], [346, 347, 348, 349, 350, 351, 352, 353, 354, 355], [], [], [], [], [], [], [], [], [], [], [357, 358, 359], [], [], [], [361, 362, 363, 364, 365, 366], [], [], [], [], [], [], [], [0, 0, 0, 0, 0, 0, 0, 0, 0, 369, 375, 386, 390, 397], [370, 371, 372, 373, 374], [], [], [], [], [], [376, 377, 378, 379, 380, 381, 382, 383, 384, 385], [], [], [], [], [], [], [], [], [], [], [387, 388, 389], [], [], [], [391, 392, 393, 394, 395, 396], [], [], [], [], [], [], [], [0, 0, 0, 0, 0, 0, 0, 0, 0, 399, 405, 416, 420, 427], [400, 401, 402, 403, 404], [], [], [], [], [], [406, 407, 408, 409, 410, 411, 412, 413, 414, 415], [], [], [], [], [], [], [], [], [], [], [417, 418, 419], [], [], [], [421, 422, 423, 424, 425, 426], [], [], [], [], [], [], [], [], [430, 460], [0, 0, 0, 0, 0, 0, 0, 0, 0, 431, 437, 448, 452, 459], [432, 433, 434, 435, 436], [], [], [], [], [], [438, 439, 440, 441, 442, 443, 444, 445, 446, 447], [], [], [], [], [], [], [], [], [], [], [449, 450, 451], [], [], [], [453, 454, 455, 456, 457, 458], [], [], [], [], [], [], [], [0, 0, 0, 0, 0, 0, 0, 0, 0, 461, 467, 478, 482, 489], [462, 463, 464, 465, 466], [], [], [], [], [], [468, 469, 470, 471, 472, 473, 474, 475, 476, 477], [], [], [], [], [], [], [], [], [], [], [479, 480, 481], [], [], [], [483, 484, 485, 486, 487, 488], [], [], [], [], [], [], [], [], [], [0, 0, 493, 494, 495, 496, 0, 497, 498, 499, 500, 501, 502, 503, 0, 504, 505, 506, 0, 507, 508, 0, 0, 0, 0, 0, 509, 510, 511, 512, 513, 0, 514, 515, 516], [], [], [], [], [], [], [], [], [], [], [], [], [], [], [], [], [], [], [], [], [], [], [], []]
def ftl : List (List Nat) := [[2, 2, 2, 2, 0, 2, 2, 2, 0, 0, 2, 1], [0, 0, 0, 0, 0, 0, 0, 0, 0, 2, 2, 2, 2, 2], [2, 2, 0, 0], [2, 2, 2, 1, 1, 0], [2, 2, 2, 2, 0, 0, 0, 0, 0], [2, 0], [2, 2, 2, 2, 2, 2, 2, 2, 2, 2, 0], [0, 0, 2, 2, 2, 2, 0, 2, 2, 2, 2, 2, 2, 2, 1, 2, 2, 2, 1, 2, 2, 0, 0, 0, 0, 0, 2, 2, 2, 2, 2, 0, 2, 2, 2]]
def kd (a : Nat) : Nat := kdl.getD a 99
def ln (a : Nat) : Nat := lnl.getD a 0
def rf (a i : Nat) : Nat := (rfL.getD a []).getD i 0
def ft (c k : Nat) : Nat := (ftl.getD c []).getD k 9
def nf (c : Nat) : Nat := (ftl.getD c []).length
abbrev Me : Type := (Nat → Nat → Int32) × (Nat → Nat → Int64)
def wi (M : Me) (a i : Nat) (x : Int32) : Me := (fun b j => if b = a ∧ j = i then x else M.1 b j, M.2)
def wj (M : Me) (a i : Nat) (x : Int64) : Me := (M.1, fun b j => if b = a ∧ j = i then x else M.2 b j)
def fv (h0 : Nat) (M : Me) (a c k : Nat) : Value := if ft c k = 0 then .int (M.1 a k) else if ft c k = 1 then .long (M.2 a k) else .ref (h0 + rf a k)
def ce (h0 : Nat) (cy : Nat → ClassId) (M : Me) (a : Nat) : va_E :=
  if kd a < 8 then .inr (kd a, (List.range (nf (kd a))).map (fv h0 M a (kd a)))
  else if kd a = 9 then .inl (cy 9, ln a, .inr (.inl (M.2 a)))
  else if kd a = 8 ∨ kd a = 10 then .inl (cy (kd a), ln a, .inl (M.1 a))
  else .inl (cy (kd a), ln a, .inr (.inr (.inr (.inr (fun i => some (h0 + rf a i))))))
def wl (h0 : Nat) (cy : Nat → ClassId) (M : Me) : va_W := (List.range NC).map (fun a => (h0 + a, ce h0 cy M a))
def aw (h0 : Nat) : Nat → Prop := fun q => h0 ≤ q
def tys (cy : Nat → ClassId) : List (ClassId × FieldType) := [(cy 8, .int), (cy 9, .long), (cy 10, .boolean), (cy 11, .object "VacuumDesk$Line"), (cy 12, .array .int), (cy 13, .array .long)]
theorem kd_lt {a : Nat} (h : kd a < 99) : a < NC := by
  rcases Nat.lt_or_ge a NC with q | q
  · exact q
  · exfalso
    have hl : kdl.length = NC := by decide +kernel
    have : kd a = 99 := by
      unfold kd
      rw [List.getD_eq_getElem?_getD, List.getElem?_eq_none (by omega)]
      rfl
    omega
theorem wl_get {h0 : Nat} {cy : Nat → ClassId} {M : Me} {a : Nat} (h : a < NC) : (wl h0 cy M)[a]? = some (h0 + a, ce h0 cy M a) := by
  unfold wl
  rw [List.getElem?_map, List.getElem?_range h]
  rfl
theorem wl_none {h0 : Nat} {cy : Nat → ClassId} {M : Me} {a : Nat} (h : ¬ a < NC) : (wl h0 cy M)[a]? = none := by
  unfold wl
  rw [List.getElem?_map, List.getElem?_eq_none (by rw [List.length_range]; omega)]
  rfl
theorem wl_at {h0 : Nat} {cy : Nat → ClassId} {M : Me} {a : Nat} {q : Nat × va_E} (h : (wl h0 cy M)[a]? = some q) : a < NC ∧ q = (h0 + a, ce h0 cy M a) := by
  by_cases ha : a < NC
  · rw [wl_get ha] at h
    exact ⟨ha, (Option.some.inj h).symm⟩
  · rw [wl_none ha] at h
    cases h
theorem wl_D {h0 : Nat} {cy : Nat → ClassId} {M : Me} : va_D (aw h0) (wl h0 cy M) := by
  refine ⟨fun i j x y hi hj hxy => ?_, fun k q hk => ?_⟩
  · obtain ⟨-, rfl⟩ := wl_at hi
    obtain ⟨-, rfl⟩ := wl_at hj
    exact Nat.add_left_cancel hxy
  · obtain ⟨-, rfl⟩ := wl_at hk
    exact Nat.le_add_right h0 k
theorem wl_set {h0 : Nat} {cy : Nat → ClassId} {M M' : Me} {a : Nat} {e : va_E} (h1 : ce h0 cy M' a = e) (h2 : ∀ b, b ≠ a → ce h0 cy M' b = ce h0 cy M b) : (wl h0 cy M).set a (h0 + a, e) = wl h0 cy M' := by
  apply List.ext_getElem?
  intro i
  by_cases hi : i < NC
  · have hl : i < (wl h0 cy M).length := by unfold wl; rw [List.length_map, List.length_range]; exact hi
    by_cases e1 : i = a
    · subst e1
      rw [List.getElem?_set_self hl, wl_get hi, h1]
    · rw [List.getElem?_set_ne (Ne.symm e1), wl_get hi, wl_get hi, h2 i e1]
  · have hl : ¬ i < ((wl h0 cy M).set a (h0 + a, e)).length := by rw [List.length_set]; unfold wl; rw [List.length_map, List.length_range]; exact hi
    rw [wl_none hi, List.getElem?_eq_none (by omega)]
theorem ce_congr {h0 : Nat} {cy : Nat → ClassId} {M M' : Me} {b : Nat} (h1 : M'.1 b = M.1 b) (h2 : M'.2 b = M.2 b) : ce h0 cy M' b = ce h0 cy M b := by
  have hf : ∀ c, fv h0 M' b c = fv h0 M b c := fun c => by funext k; unfold fv; rw [h1, h2]
  unfold ce
  rw [h1, h2, hf]
theorem wi_ne {M : Me} {a i b : Nat} {x : Int32} (h : b ≠ a) : (wi M a i x).1 b = M.1 b := by funext j; simp [wi, h]
theorem wi_same {M : Me} {a i : Nat} {x : Int32} : (wi M a i x).1 a = upd (M.1 a) i x := by funext j; simp [wi, upd]
theorem wj_ne {M : Me} {a i b : Nat} {x : Int64} (h : b ≠ a) : (wj M a i x).2 b = M.2 b := by funext j; simp [wj, h]
theorem wj_same {M : Me} {a i : Nat} {x : Int64} : (wj M a i x).2 a = vp_updL (M.2 a) i x := by funext j; simp [wj, vp_updL]
theorem ce_wi {h0 : Nat} {cy : Nat → ClassId} {M : Me} {a i b : Nat} {x : Int32} (h : b ≠ a) : ce h0 cy (wi M a i x) b = ce h0 cy M b := ce_congr (wi_ne h) rfl
theorem ce_wj {h0 : Nat} {cy : Nat → ClassId} {M : Me} {a i b : Nat} {x : Int64} (h : b ≠ a) : ce h0 cy (wj M a i x) b = ce h0 cy M b := ce_congr rfl (wj_ne h)
theorem ce_int {h0 : Nat} {cy : Nat → ClassId} {M : Me} {a : Nat} (h : kd a = 8) : ce h0 cy M a = .inl (cy 8, ln a, .inl (M.1 a)) := by simp [ce, h]
theorem ce_bool {h0 : Nat} {cy : Nat → ClassId} {M : Me} {a : Nat} (h : kd a = 10) : ce h0 cy M a = .inl (cy 10, ln a, .inl (M.1 a)) := by simp [ce, h]
theorem ce_long {h0 : Nat} {cy : Nat → ClassId} {M : Me} {a : Nat} (h : kd a = 9) : ce h0 cy M a = .inl (cy 9, ln a, .inr (.inl (M.2 a))) := by simp [ce, h]
theorem ce_ref {h0 : Nat} {cy : Nat → ClassId} {M : Me} {a : Nat} (h : 11 ≤ kd a) : ce h0 cy M a = .inl (cy (kd a), ln a, .inr (.inr (.inr (.inr (fun i => some (h0 + rf a i)))))) := by
  unfold ce
  rw [if_neg (by omega), if_neg (by omega), if_neg (by omega)]
theorem ce_obj {h0 : Nat} {cy : Nat → ClassId} {M : Me} {a c : Nat} (h : kd a = c) (hc : c < 8) : ce h0 cy M a = .inr (c, (List.range (nf c)).map (fv h0 M a c)) := by
  subst h
  unfold ce
  rw [if_pos hc]
theorem fv_set {h0 : Nat} {M M' : Me} {a c k : Nat} {v : Value} (hk : k < nf c) (h1 : fv h0 M' a c k = v) (h2 : ∀ j, j ≠ k → fv h0 M' a c j = fv h0 M a c j) : ((List.range (nf c)).map (fv h0 M a c)).set k v = (List.range (nf c)).map (fv h0 M' a c) := by
  apply List.ext_getElem?
  intro i
  by_cases hi : i < nf c
  · have hl : i < ((List.range (nf c)).map (fv h0 M a c)).length := by rw [List.length_map, List.length_range]; exact hi
    by_cases e1 : i = k
    · subst e1
      rw [List.getElem?_set_self hl, List.getElem?_map, List.getElem?_range hi, Option.map_some, h1]
    · rw [List.getElem?_set_ne (Ne.symm e1), List.getElem?_map, List.getElem?_map, List.getElem?_range hi, Option.map_some, Option.map_some, h2 i e1]
  · rw [List.getElem?_eq_none (by rw [List.length_set, List.length_map, List.length_range]; omega), List.getElem?_eq_none (by rw [List.length_map, List.length_range]; omega)]
theorem fv_at {h0 : Nat} {M : Me} {a c k : Nat} (hk : k < nf c) : ((List.range (nf c)).map (fv h0 M a c))[k]? = some (fv h0 M a c k) := by
  rw [List.getElem?_map, List.getElem?_range hk, Option.map_some]
theorem fv_wi {h0 : Nat} {M : Me} {a c k : Nat} {x : Int32} (h : ft c k = 0) : fv h0 (wi M a k x) a c k = .int x := by simp [fv, h, wi]
theorem fv_wi_ne {h0 : Nat} {M : Me} {a c k j : Nat} {x : Int32} (h : j ≠ k) : fv h0 (wi M a k x) a c j = fv h0 M a c j := by simp [fv, wi, h]
theorem fv_wj {h0 : Nat} {M : Me} {a c k : Nat} {x : Int64} (h : ft c k = 1) : fv h0 (wj M a k x) a c k = .long x := by simp [fv, h, wj]
theorem fv_wj_ne {h0 : Nat} {M : Me} {a c k j : Nat} {x : Int64} (h : j ≠ k) : fv h0 (wj M a k x) a c j = fv h0 M a c j := by simp [fv, wj, h]
/-! the locals, by their places; null: nothing is known -/
abbrev Lo : Type := List Value
def tv (h0 : Nat) (v : Value) : Value := match v with
  | .ref a => .ref (h0 + a)
  | w => w
theorem tv_cat (h0 : Nat) (v : Value) : (tv h0 v).category = v.category := by cases v <;> rfl
def isL (v : Value) : Bool := v.category == 2
def lset : List Value → Nat → Value → List Value
  | [], _, _ => []
  | _ :: r, 0, v => v :: r
  | w :: r, n + 1, v => (if n = 0 then (if isL w then Value.null else w) else w) :: lset r n v
theorem lset_len : ∀ (r : List Value) (i : Nat) (v : Value), (lset r i v).length = r.length
  | [], _, _ => rfl
  | _ :: _, 0, _ => rfl
  | _ :: r, n + 1, v => by simp [lset, lset_len r n v]
theorem lset_get : ∀ (r : List Value) (i : Nat) (v : Value) (j : Nat) (w : Value), (lset r i v)[j]? = some w → (j = i ∧ w = v) ∨ (j ≠ i ∧ (w = .null ∨ (r[j]? = some w ∧ ¬ (j + 1 = i ∧ w.category = 2))))
  | [], _, _, j, w, h => by simp [lset] at h
  | x :: r, 0, v, j, w, h => by
    cases j with
    | zero => simp [lset] at h; exact Or.inl ⟨rfl, h.symm⟩
    | succ j => simp [lset] at h; exact Or.inr ⟨by omega, Or.inr ⟨by simpa using h, by omega⟩⟩
  | x :: r, n + 1, v, j, w, h => by
    cases j with
    | zero =>
      refine Or.inr ⟨by omega, ?_⟩
      simp only [lset, List.getElem?_cons_zero, Option.some.injEq] at h
      by_cases hn : n = 0
      · rw [if_pos hn] at h
        by_cases hx : isL x = true
        · rw [if_pos hx] at h; exact Or.inl h.symm
        · rw [if_neg hx] at h
          refine Or.inr ⟨by simp [h], fun q => hx ?_⟩
          rw [h]; simp [isL, q.2]
      · rw [if_neg hn] at h
        exact Or.inr ⟨by simp [h], by omega⟩
    | succ j =>
      simp only [lset, List.getElem?_cons_succ] at h
      rcases lset_get r n v j w h with ⟨a, b⟩ | ⟨a, b⟩
      · exact Or.inl ⟨by omega, b⟩
      · refine Or.inr ⟨by omega, ?_⟩
        rcases b with b | ⟨b1, b2⟩
        · exact Or.inl b
        · exact Or.inr ⟨by simpa using b1, fun q => b2 ⟨by omega, q.2⟩⟩
def lset2 (r : List Value) (i : Nat) (v : Value) : List Value := (lset r i v).set (i + 1) .null
/-- the locals of the machine hold what is known of them -/
def lr (h0 nL : Nat) (ls : Array Slot) (r : Lo) : Prop := ls.size = nL ∧ lv_wf ls ∧ r.length = nL ∧ ∀ (i : Nat) (w : Value), r[i]? = some w → w ≠ .null → ls[i]? = some (.val (tv h0 w))
def lvof (h0 : Nat) (r : Lo) : List (Nat × Value) := (List.range r.length).filterMap (fun j => match r[j]? with
  | some w => if w = .null then none else some (j, tv h0 w)
  | none => none)
theorem lvof_mem {h0 : Nat} {r : Lo} {q : Nat × Value} : q ∈ lvof h0 r ↔ ∃ w, r[q.1]? = some w ∧ w ≠ .null ∧ q.2 = tv h0 w := by
  constructor
  · intro h
    obtain ⟨j, -, hj⟩ := List.mem_filterMap.mp h
    cases hw : r[j]? with
    | none => rw [hw] at hj; cases hj
    | some w =>
      rw [hw] at hj
      by_cases hn : w = .null
      · simp [hn] at hj
      · simp [hn] at hj; subst hj; exact ⟨w, hw, hn, rfl⟩
  · rintro ⟨w, h1, h2, h3⟩
    obtain ⟨j, x⟩ := q
    refine List.mem_filterMap.mpr ⟨j, List.mem_range.mpr (List.getElem?_eq_some_iff.mp h1).1, ?_⟩
    simp only at h1 h3
    rw [h1]
    simp [h2, h3]
theorem lr_has {h0 nL : Nat} {ls : Array Slot} {r : Lo} (h : lr h0 nL ls r) : lv_has ls nL (lvof h0 r) := by
  refine ⟨h.1, h.2.1, fun q hq => ?_⟩
  obtain ⟨w, h1, h2, h3⟩ := lvof_mem.mp hq
  rw [h3]
  exact h.2.2.2 q.1 w h1 h2
theorem lr_set {h0 nL : Nat} {ls' : Array Slot} {r : Lo} {i : Nat} {v : Value} (hr : r.length = nL) (h : lv_has ls' nL ((i, tv h0 v) :: (lvof h0 r).filter (fun q => !(q.1 == i) && !(q.1 + 1 == i && q.2.category == 2)))) : lr h0 nL ls' (lset r i v) := by
  refine ⟨h.1, h.2.1, by rw [lset_len]; exact hr, fun j w hj hw => ?_⟩
  rcases lset_get r i v j w hj with ⟨rfl, rfl⟩ | ⟨a, b⟩
  · exact h.2.2 (j, tv h0 w) List.mem_cons_self
  · rcases b with b | ⟨b1, b2⟩
    · exact absurd b hw
    · refine h.2.2 (j, tv h0 w) (List.mem_cons_of_mem _ (List.mem_filter.mpr ⟨lvof_mem.mpr ⟨w, b1, hw, rfl⟩, ?_⟩))
      simp only [tv_cat, Bool.and_eq_true, Bool.not_eq_true', beq_eq_false_iff_ne, ne_eq, Bool.and_eq_false_iff]
      exact ⟨a, by by_cases z : j + 1 = i; exact Or.inr (fun y => b2 ⟨z, y⟩); exact Or.inl z⟩
theorem lr_set2 {h0 nL : Nat} {ls' : Array Slot} {r : Lo} {i : Nat} {v : Value} (hr : r.length = nL) (h : lv_has ls' nL ((i, tv h0 v) :: (lvof h0 r).filter (fun q => !(q.1 == i) && (!(q.1 == i + 1) && !(q.1 + 1 == i && q.2.category == 2))))) : lr h0 nL ls' (lset2 r i v) := by
  refine ⟨h.1, h.2.1, by unfold lset2; rw [List.length_set, lset_len]; exact hr, fun j w hj hw => ?_⟩
  unfold lset2 at hj
  by_cases e : j = i + 1
  · subst e
    by_cases hl : i + 1 < (lset r i v).length
    · rw [List.getElem?_set_self hl] at hj
      exact absurd (Option.some.inj hj).symm hw
    · rw [List.getElem?_eq_none (by rw [List.length_set]; omega)] at hj
      cases hj
  · rw [List.getElem?_set_ne (Ne.symm e)] at hj
    rcases lset_get r i v j w hj with ⟨rfl, rfl⟩ | ⟨a, b⟩
    · exact h.2.2 (j, tv h0 w) List.mem_cons_self
    · rcases b with b | ⟨b1, b2⟩
      · exact absurd b hw
      · refine h.2.2 (j, tv h0 w) (List.mem_cons_of_mem _ (List.mem_filter.mpr ⟨lvof_mem.mpr ⟨w, b1, hw, rfl⟩, ?_⟩))
        simp only [tv_cat, Bool.and_eq_true, Bool.not_eq_true', beq_eq_false_iff_ne, ne_eq, Bool.and_eq_false_iff]
        exact ⟨a, e, by by_cases z : j + 1 = i; exact Or.inr (fun y => b2 ⟨z, y⟩); exact Or.inl z⟩
/-- what a method begins with -/
def ent : List Value → List Value
  | [] => []
  | v :: vs => if isL v then v :: .null :: ent vs else v :: ent vs
def entn (n : Nat) (vs : List Value) : List Value := ent vs ++ List.replicate (n - (ent vs).length) .null
theorem ent_len (h0 : Nat) : ∀ vs : List Value, (ent vs).length = (lg_sl (vs.map (tv h0))).length
  | [] => rfl
  | v :: vs => by
    have ih := ent_len h0 vs
    simp only [lg_sl, List.map_cons, List.flatMap_cons, tv_cat, ent, isL, beq_iff_eq] at ih ⊢
    by_cases hv : v.category = 2
    · simp [hv, ih]
    · simp [hv, ih]
theorem ent_at (h0 : Nat) : ∀ (vs : List Value) (i j : Nat) (w : Value), (ent vs)[j]? = some w → w ≠ .null → (i + j, tv h0 w) ∈ lv_args i (vs.map (tv h0))
  | [], i, j, w, h, _ => by simp [ent] at h
  | v :: vs, i, j, w, h, hw => by
    simp only [List.map_cons, lv_args, tv_cat]
    by_cases hv : v.category = 2
    · rw [if_pos hv]
      simp only [ent, isL, hv, beq_self_eq_true, if_true] at h
      match j, h with
      | 0, h => simp at h; subst h; exact List.mem_cons_self
      | 1, h => simp at h; exact absurd h.symm hw
      | j + 2, h =>
        refine List.mem_cons_of_mem _ ?_
        have := ent_at h0 vs (i + 2) j w (by simpa using h) hw
        rw [show i + (j + 2) = i + 2 + j by omega]
        exact this
    · rw [if_neg hv]
      have hb : (v.category == 2) = false := by simp [hv]
      simp only [ent, isL, hb, Bool.false_eq_true, if_false] at h
      match j, h with
      | 0, h => simp at h; subst h; exact List.mem_cons_self
      | j + 1, h =>
        refine List.mem_cons_of_mem _ ?_
        have := ent_at h0 vs (i + 1) j w (by simpa using h) hw
        rw [show i + (j + 1) = i + 1 + j by omega]
        exact this
theorem lr_entry {h0 n : Nat} {vs : List Value} (h : (ent vs).length ≤ n) : lr h0 n ((lg_sl (vs.map (tv h0)) ++ List.replicate (n - (lg_sl (vs.map (tv h0))).length) Slot.unset).toArray) (entn n vs) := by
  have hl := lv_entry (vs.map (tv h0)) (n := n) (by rw [← ent_len]; exact h)
  refine ⟨hl.1, hl.2.1, by unfold entn; rw [List.length_append, List.length_replicate]; omega, fun i w hi hw => ?_⟩
  unfold entn at hi
  by_cases hlt : i < (ent vs).length
  · rw [List.getElem?_append_left hlt] at hi
    have := ent_at h0 vs 0 i w hi hw
    rw [Nat.zero_add] at this
    exact hl.2.2 _ this
  · rw [List.getElem?_append_right (by omega)] at hi
    have := List.eq_of_mem_replicate (List.mem_of_getElem? hi)
    exact absurd this hw
