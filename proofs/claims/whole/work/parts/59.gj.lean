/-! ===== elimination without fractions ===== -/
def eK (A : Nat → Nat → Int) (k : Nat) : Nat → Nat → Int := fun i j => if i < k ∧ j < k then A i j else if i = j then 1 else 0
def dK (A : Nat → Nat → Int) (k : Nat) : Int := detI (eK A k)
def xK (A : Nat → Nat → Int) (k i j : Nat) : Int := cofI (eK A k) j i
section
variable {A : Nat → Nat → Int} {k i j : Nat}
theorem eK_in (hi : i < k) (hj : j < k) : eK A k i j = A i j := if_pos ⟨hi, hj⟩
theorem eK_o (h : ¬ (i < k ∧ j < k)) (hn : i ≠ j) : eK A k i j = 0 := by unfold eK; rw [if_neg h, if_neg hn]
set_option maxRecDepth 20000 in
theorem x_row (hk : k ≤ 5) (hi : i < k) (hj : j < k) : sm (fun l => A i l * xK A k l j) k = if i = j then dK A k else 0 := by
  have := lap_row (eK A k) (by omega : i < 5) (by omega : j < 5)
  rw [sm_cut5 hk (fun l h1 h2 => by rw [eK_o (by omega) (by omega), Int.zero_mul])] at this
  rw [← show detI (eK A k) = dK A k from rfl, ← this]
  exact sm_congr k (fun l hl => by rw [eK_in hi hl]; rfl)
set_option maxRecDepth 20000 in
theorem x_col (hk : k ≤ 5) (hi : i < k) (hj : j < k) : sm (fun l => xK A k i l * A l j) k = if i = j then dK A k else 0 := by
  have := lap_col (eK A k) (by omega : j < 5) (by omega : i < 5)
  rw [sm_cut5 hk (fun l h1 h2 => by rw [eK_o (by omega) (by omega), Int.zero_mul])] at this
  have e : (if i = j then dK A k else 0) = if j = i then detI (eK A k) else 0 := by
    by_cases q : i = j
    · subst q; simp [dK]
    · rw [if_neg q, if_neg (fun z => q z.symm)]
  rw [e, ← this]
  exact sm_congr k (fun l hl => by rw [eK_in hl hj, Int.mul_comm]; rfl)
set_option maxRecDepth 20000 in
theorem d_0 : dK A 0 = 1 := by
  unfold dK
  rw [det_row]
  simp [eK]
set_option maxRecDepth 100000 in
set_option maxRecDepth 20000 in
theorem x_last (hk : k < 5) : xK A (k + 1) k k = dK A k := by
  unfold xK dK
  rw [det_row]
  rcases (by omega : k = 0 ∨ k = 1 ∨ k = 2 ∨ k = 3 ∨ k = 4) with rfl | rfl | rfl | rfl | rfl
  · rw [cof_00]; simp [eK]
  · rw [cof_11]; simp [eK]
  · rw [cof_22]; simp [eK]; try grind
  · rw [cof_33]; simp [eK]; try grind
  · rw [cof_44]; simp [eK]; try grind
end
def fK (A : Nat → Nat → Int) (k i j : Nat) : Int := sm (fun l => xK A k i l * A l j) k
def rK (A : Nat → Nat → Int) (k i j : Nat) : Int := sm (fun l => A i l * xK A k l j) k
def qK (A : Nat → Nat → Int) (k i j : Nat) : Int := sm (fun l => A i l * fK A k l j) k
def sK (A : Nat → Nat → Int) (k i j : Nat) : Int :=
  if i < k then (if j < k then xK A k i j else fK A k i j) else (if j < k then -rK A k i j else dK A k * A i j - qK A k i j)
section
variable {A : Nat → Nat → Int} {k i j : Nat}
set_option maxRecDepth 20000 in
theorem qK_alt : qK A k i j = sm (fun m => rK A k i m * A m j) k := by
  unfold qK fK rK
  have e1 : sm (fun l => A i l * sm (fun m => xK A k l m * A m j) k) k = sm (fun l => sm (fun m => A i l * xK A k l m * A m j) k) k := sm_congr k (fun l _ => by rw [← sm_mul]; exact sm_congr k (fun m _ => (Int.mul_assoc _ _ _).symm))
  have e2 : sm (fun m => sm (fun l => A i l * xK A k l m) k * A m j) k = sm (fun m => sm (fun l => A i l * xK A k l m * A m j) k) k := sm_congr k (fun m _ => by rw [← sm_mulr])
  rw [e1, e2]
  exact sm_swap k
set_option maxRecDepth 20000 in
theorem g_R2 (hk : k < 5) (hd : dK A k ≠ 0) (hi : i < k) : xK A (k + 1) i k = -fK A k i k := by
  have h : ∀ m, m < k → sm (fun l => A m l * xK A (k + 1) l k) k + A m k * xK A (k + 1) k k = 0 := fun m hm => by
    have := x_row (A := A) (k := k + 1) (i := m) (j := k) (by omega) (by omega) (by omega)
    rwa [if_neg (by omega)] at this
  have e : sm (fun m => xK A k i m * (sm (fun l => A m l * xK A (k + 1) l k) k + A m k * xK A (k + 1) k k)) k = 0 := sm_zero k (fun m hm => by rw [h m hm, Int.mul_zero])
  have e1 : sm (fun m => xK A k i m * (sm (fun l => A m l * xK A (k + 1) l k) k + A m k * xK A (k + 1) k k)) k = sm (fun m => xK A k i m * sm (fun l => A m l * xK A (k + 1) l k) k) k + fK A k i k * xK A (k + 1) k k := by
    unfold fK
    rw [← sm_mulr, ← sm_add]
    exact sm_congr k (fun m _ => by rw [Int.mul_add, Int.mul_assoc])
  have e2 : sm (fun m => xK A k i m * sm (fun l => A m l * xK A (k + 1) l k) k) k = dK A k * xK A (k + 1) i k := by
    have a : sm (fun m => xK A k i m * sm (fun l => A m l * xK A (k + 1) l k) k) k = sm (fun m => sm (fun l => xK A k i m * A m l * xK A (k + 1) l k) k) k := sm_congr k (fun m _ => by rw [← sm_mul]; exact sm_congr k (fun l _ => (Int.mul_assoc _ _ _).symm))
    rw [a, sm_swap]
    have b : sm (fun l => sm (fun m => xK A k i m * A m l * xK A (k + 1) l k) k) k = sm (fun l => if l = i then dK A k * xK A (k + 1) l k else 0) k := sm_congr k (fun l hl => by
      rw [sm_mulr, x_col (by omega) hi hl]
      by_cases q : i = l
      · subst q; simp
      · rw [if_neg q, if_neg (fun z => q z.symm), Int.zero_mul])
    rw [b, sm_delta k hi]
  rw [e1, e2, x_last hk] at e
  have : dK A k * (xK A (k + 1) i k + fK A k i k) = 0 := by rw [Int.mul_add]; rw [Int.mul_comm (fK A k i k)] at e; exact e
  rcases Int.mul_eq_zero.mp this with q | q
  · exact absurd q hd
  · omega
set_option maxRecDepth 20000 in
theorem g_R3 (hk : k < 5) (hd : dK A k ≠ 0) (hj : j < k) : xK A (k + 1) k j = -rK A k k j := by
  have h : ∀ m, m < k → sm (fun l => xK A (k + 1) k l * A l m) k + xK A (k + 1) k k * A k m = 0 := fun m hm => by
    have := x_col (A := A) (k := k + 1) (i := k) (j := m) (by omega) (by omega) (by omega)
    rwa [if_neg (by omega)] at this
  have e : sm (fun m => (sm (fun l => xK A (k + 1) k l * A l m) k + xK A (k + 1) k k * A k m) * xK A k m j) k = 0 := sm_zero k (fun m hm => by rw [h m hm, Int.zero_mul])
  have e1 : sm (fun m => (sm (fun l => xK A (k + 1) k l * A l m) k + xK A (k + 1) k k * A k m) * xK A k m j) k = sm (fun m => sm (fun l => xK A (k + 1) k l * A l m) k * xK A k m j) k + xK A (k + 1) k k * rK A k k j := by
    unfold rK
    rw [← sm_mul, ← sm_add]
    exact sm_congr k (fun m _ => by rw [Int.add_mul, Int.mul_assoc (xK A (k + 1) k k)])
  have e2 : sm (fun m => sm (fun l => xK A (k + 1) k l * A l m) k * xK A k m j) k = dK A k * xK A (k + 1) k j := by
    have a : sm (fun m => sm (fun l => xK A (k + 1) k l * A l m) k * xK A k m j) k = sm (fun m => sm (fun l => xK A (k + 1) k l * (A l m * xK A k m j)) k) k := sm_congr k (fun m _ => by rw [← sm_mulr]; exact sm_congr k (fun l _ => Int.mul_assoc _ _ _))
    rw [a, sm_swap]
    have b : sm (fun l => sm (fun m => xK A (k + 1) k l * (A l m * xK A k m j)) k) k = sm (fun l => if l = j then dK A k * xK A (k + 1) k l else 0) k := sm_congr k (fun l hl => by
      rw [sm_mul, x_row (by omega) hl hj]
      by_cases q : l = j
      · subst q; simp [Int.mul_comm]
      · rw [if_neg q, if_neg q, Int.mul_zero])
    rw [b, sm_delta k hj]
  rw [e1, e2, x_last hk] at e
  have : dK A k * (xK A (k + 1) k j + rK A k k j) = 0 := by rw [Int.mul_add]; exact e
  rcases Int.mul_eq_zero.mp this with q | q
  · exact absurd q hd
  · omega
set_option maxRecDepth 20000 in
theorem g_R4 (hk : k < 5) (hd : dK A k ≠ 0) : dK A (k + 1) = sK A k k k := by
  have := x_row (A := A) (k := k + 1) (i := k) (j := k) (by omega) (by omega) (by omega)
  rw [if_pos rfl] at this
  rw [← this]
  simp only [sm]
  rw [x_last hk, sm_congr (g := fun l => -(A k l * fK A k l k)) k (fun l hl => by rw [g_R2 hk hd hl, Int.mul_neg]), sm_neg]
  unfold sK
  rw [if_neg (by omega), if_neg (by omega), Int.mul_comm (dK A k)]
  unfold qK
  omega
set_option maxRecDepth 20000 in
theorem g_R5 (hk : k < 5) (hd : dK A k ≠ 0) (hi : i < k) (hj : j < k) : dK A k * xK A (k + 1) i j = dK A (k + 1) * xK A k i j + fK A k i k * rK A k k j := by
  have h : ∀ l, l < k → sm (fun m => xK A (k + 1) i m * A m l) k + xK A (k + 1) i k * A k l = if i = l then dK A (k + 1) else 0 := fun l hl => x_col (A := A) (k := k + 1) (i := i) (j := l) (by omega) (by omega) (by omega)
  have e : sm (fun l => (sm (fun m => xK A (k + 1) i m * A m l) k + xK A (k + 1) i k * A k l) * xK A k l j) k = dK A (k + 1) * xK A k i j := by
    rw [sm_congr (g := fun l => if i = l then dK A (k + 1) * xK A k l j else 0) k (fun l hl => by rw [h l hl]; by_cases q : i = l <;> simp [q]), sm_delta2 k hi]
  have e1 : sm (fun l => (sm (fun m => xK A (k + 1) i m * A m l) k + xK A (k + 1) i k * A k l) * xK A k l j) k = sm (fun l => sm (fun m => xK A (k + 1) i m * A m l) k * xK A k l j) k + xK A (k + 1) i k * rK A k k j := by
    unfold rK
    rw [← sm_mul, ← sm_add]
    exact sm_congr k (fun m _ => by rw [Int.add_mul, Int.mul_assoc (xK A (k + 1) i k)])
  have e2 : sm (fun l => sm (fun m => xK A (k + 1) i m * A m l) k * xK A k l j) k = dK A k * xK A (k + 1) i j := by
    have a : sm (fun l => sm (fun m => xK A (k + 1) i m * A m l) k * xK A k l j) k = sm (fun l => sm (fun m => xK A (k + 1) i m * (A m l * xK A k l j)) k) k := sm_congr k (fun m _ => by rw [← sm_mulr]; exact sm_congr k (fun l _ => Int.mul_assoc _ _ _))
    rw [a, sm_swap]
    have b : sm (fun m => sm (fun l => xK A (k + 1) i m * (A m l * xK A k l j)) k) k = sm (fun m => if m = j then dK A k * xK A (k + 1) i m else 0) k := sm_congr k (fun l hl => by
      rw [sm_mul, x_row (by omega) hl hj]
      by_cases q : l = j
      · subst q; simp [Int.mul_comm]
      · rw [if_neg q, if_neg q, Int.mul_zero])
    rw [b, sm_delta k hj]
  rw [e1, e2, g_R2 hk hd hi, Int.neg_mul] at e
  omega
set_option maxRecDepth 20000 in
theorem f_next (hk : k < 5) (hd : dK A k ≠ 0) (hi : i < k) : dK A k * fK A (k + 1) i j = dK A (k + 1) * fK A k i j - fK A k i k * (dK A k * A k j - qK A k k j) := by
  have e0 : fK A (k + 1) i j = sm (fun l => xK A (k + 1) i l * A l j) k + xK A (k + 1) i k * A k j := rfl
  have e1 : dK A k * sm (fun l => xK A (k + 1) i l * A l j) k = dK A (k + 1) * fK A k i j + fK A k i k * qK A k k j := by
    rw [qK_alt, ← sm_mul]
    unfold fK
    rw [← sm_mul, ← sm_mul, ← sm_add]
    refine sm_congr k (fun l hl => ?_)
    have := g_R5 hk hd hi hl
    unfold fK at this
    rw [← Int.mul_assoc, this, Int.add_mul, Int.mul_assoc, Int.mul_assoc]
  rw [e0, Int.mul_add, e1, g_R2 hk hd hi]
  grind
set_option maxRecDepth 20000 in
theorem f_top (hk : k < 5) (hd : dK A k ≠ 0) : fK A (k + 1) k j = dK A k * A k j - qK A k k j := by
  have e0 : fK A (k + 1) k j = sm (fun l => xK A (k + 1) k l * A l j) k + xK A (k + 1) k k * A k j := rfl
  rw [e0, x_last hk, qK_alt, sm_congr (g := fun l => -(rK A k k l * A l j)) k (fun l hl => by rw [g_R3 hk hd hl, Int.neg_mul]), sm_neg]
  omega
set_option maxRecDepth 20000 in
theorem r_top (hk : k < 5) (hd : dK A k ≠ 0) : rK A (k + 1) i k = dK A k * A i k - qK A k i k := by
  have e0 : rK A (k + 1) i k = sm (fun l => A i l * xK A (k + 1) l k) k + A i k * xK A (k + 1) k k := rfl
  rw [e0, x_last hk, sm_congr (g := fun l => -(A i l * fK A k l k)) k (fun l hl => by rw [g_R2 hk hd hl, Int.mul_neg]), sm_neg, Int.mul_comm (A i k)]
  unfold qK
  omega
set_option maxRecDepth 20000 in
theorem r_next (hk : k < 5) (hd : dK A k ≠ 0) (hj : j < k) : dK A k * rK A (k + 1) i j = dK A (k + 1) * rK A k i j - (dK A k * A i k - qK A k i k) * rK A k k j := by
  have e0 : rK A (k + 1) i j = sm (fun l => A i l * xK A (k + 1) l j) k + A i k * xK A (k + 1) k j := rfl
  have e1 : dK A k * sm (fun l => A i l * xK A (k + 1) l j) k = dK A (k + 1) * rK A k i j + qK A k i k * rK A k k j := by
    have a : dK A (k + 1) * rK A k i j + qK A k i k * rK A k k j = sm (fun l => dK A (k + 1) * (A i l * xK A k l j) + A i l * fK A k l k * rK A k k j) k := by
      rw [sm_add, sm_mul, sm_mulr]; rfl
    rw [a, ← sm_mul]
    refine sm_congr k (fun l hl => ?_)
    have := g_R5 hk hd hl hj
    rw [show dK A k * (A i l * xK A (k + 1) l j) = A i l * (dK A k * xK A (k + 1) l j) by grind, this]
    grind
  rw [e0, Int.mul_add, e1, g_R3 hk hd hj]
  grind
set_option maxRecDepth 20000 in
theorem q_next (hk : k < 5) (hd : dK A k ≠ 0) : dK A k * qK A (k + 1) i j = dK A (k + 1) * qK A k i j + (dK A k * A i k - qK A k i k) * (dK A k * A k j - qK A k k j) := by
  have e0 : qK A (k + 1) i j = sm (fun l => A i l * fK A (k + 1) l j) k + A i k * fK A (k + 1) k j := rfl
  have e1 : dK A k * sm (fun l => A i l * fK A (k + 1) l j) k = dK A (k + 1) * qK A k i j - qK A k i k * (dK A k * A k j - qK A k k j) := by
    have a : dK A (k + 1) * qK A k i j - qK A k i k * (dK A k * A k j - qK A k k j) = sm (fun l => dK A (k + 1) * (A i l * fK A k l j) - A i l * fK A k l k * (dK A k * A k j - qK A k k j)) k := by
      rw [sm_sub, sm_mul, sm_mulr]; rfl
    rw [a, ← sm_mul]
    refine sm_congr k (fun l hl => ?_)
    have := f_next (j := j) hk hd hl
    rw [show dK A k * (A i l * fK A (k + 1) l j) = A i l * (dK A k * fK A (k + 1) l j) by grind, this]
    grind
  rw [e0, Int.mul_add, e1, f_top hk hd]
  grind
/-! the step of the elimination -/
set_option maxRecDepth 20000 in
theorem s_rec (hk : k < 5) (hd : dK A k ≠ 0) (hi : i ≠ k) (hj : j ≠ k) : dK A k * sK A (k + 1) i j = sK A k k k * sK A k i j - sK A k i k * sK A k k j := by
  rw [← g_R4 hk hd]
  by_cases h1 : i < k
  · by_cases h2 : j < k
    · have := g_R5 hk hd h1 h2
      simp only [sK]
      rw [if_pos (by omega), if_pos (by omega), if_pos h1, if_pos h2, if_pos h1, if_neg (by omega), if_neg (by omega), if_pos h2, this]
      grind
    · have := f_next (j := j) hk hd h1
      simp only [sK]
      rw [if_pos (by omega), if_neg (by omega), if_pos h1, if_neg h2, if_pos h1, if_neg (by omega), if_neg (by omega), if_neg h2, this]
  · by_cases h2 : j < k
    · have := r_next (i := i) hk hd h2
      simp only [sK]
      rw [if_neg (by omega), if_pos (by omega), if_neg h1, if_pos h2, if_neg h1, if_neg (by omega), if_neg (by omega), if_pos h2]
      grind
    · have := q_next (i := i) (j := j) hk hd
      simp only [sK]
      rw [if_neg (by omega), if_neg (by omega), if_neg h1, if_neg h2, if_neg h1, if_neg (by omega), if_neg (by omega), if_neg h2]
      grind
set_option maxRecDepth 20000 in
theorem s_col (hk : k < 5) (hd : dK A k ≠ 0) (hi : i ≠ k) : sK A (k + 1) i k = -sK A k i k := by
  by_cases h1 : i < k
  · simp only [sK]
    rw [if_pos (by omega), if_pos (by omega), if_pos h1, if_neg (by omega)]
    exact g_R2 hk hd h1
  · simp only [sK]
    rw [if_neg (by omega), if_pos (by omega), if_neg h1, if_neg (by omega), r_top hk hd]
set_option maxRecDepth 20000 in
theorem s_row (hk : k < 5) (hd : dK A k ≠ 0) (hj : j ≠ k) : sK A (k + 1) k j = sK A k k j := by
  by_cases h1 : j < k
  · simp only [sK]
    rw [if_pos (by omega), if_pos (by omega), if_neg (by omega), if_pos h1]
    exact g_R3 hk hd h1
  · simp only [sK]
    rw [if_pos (by omega), if_neg (by omega), if_neg (by omega), if_neg h1]
    exact f_top hk hd
set_option maxRecDepth 20000 in
theorem s_piv (hk : k < 5) : sK A (k + 1) k k = dK A k := by
  simp only [sK]
  rw [if_pos (by omega), if_pos (by omega)]
  exact x_last hk
set_option maxRecDepth 20000 in
theorem s_0 : sK A 0 i j = A i j := by
  simp only [sK, Nat.not_lt_zero, if_false, d_0, qK, sm]
  omega
end
