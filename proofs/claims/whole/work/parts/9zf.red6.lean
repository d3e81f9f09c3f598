/-! ===== reduced: bounds of the reference's tubes ===== -/
def uB (T : Nat → Option (Nat × Nat × Rat)) (n : Nat) : Prop := (∀ i a b q, i < n → T i = some (a, b, q) → q.den = 1) ∨ (∃ m, (∀ i j, i < n → j < n → i ≠ j → i ≠ m → j ≠ m → ∀ a b q c d r, T i = some (a, b, q) → T j = some (c, d, r) → ¬ uJ a b c d) ∧ (∀ i a b q, i < n → i ≠ m → T i = some (a, b, q) → q.den ≤ 14400) ∧ (∀ a b q, T m = some (a, b, q) → q.den ≤ 24883200000)) ∨ uD T n
def uNn (T : Nat → Option (Nat × Nat × Rat)) : Nat → Nat
  | 0 => 0
  | n + 1 => uNn T n + if (T n).isSome = true then 1 else 0
section
variable {T : Nat → Option (Nat × Nat × Rat)} {o : Option (Nat × Nat × Rat)} {n s i j a b c d x y : Nat} {q r z : Rat}
set_option maxRecDepth 20000 in
theorem uB_use (h : uB T n) (hi : i < n) (hj : j < n) (hn : i ≠ j) (ei : T i = some (a, b, q)) (ej : T j = some (c, d, r)) (hJ : uJ a b c d) : q.den * r.den < 562949953421312 := by
  rcases h with h | ⟨m, h1, h2, h3⟩ | h
  · rw [h i a b q hi ei, h j c d r hj ej]; decide
  · by_cases k1 : i = m
    · subst k1
      have a1 := h3 a b q ei
      have a2 := h2 j c d r hj (fun z => hn z.symm) ej
      have := Nat.mul_le_mul a1 a2
      omega
    · by_cases k2 : j = m
      · subst k2
        have a1 := h3 c d r ej
        have a2 := h2 i a b q hi k1 ei
        have := Nat.mul_le_mul a2 a1
        omega
      · exact absurd hJ (h1 i j hi hj hn k1 k2 a b q c d r ei ej)
  · exact absurd hJ (h i j hi hj hn a b q c d r ei ej)
set_option maxRecDepth 20000 in
theorem uJ_tr {a b c d e f : Nat} (h1 : uJ a b c d) (h2 : uJ a b e f) : uJ c d e f := by
  unfold uJ at *
  omega
set_option maxRecDepth 20000 in
theorem uJ_sy {a b c d : Nat} (h1 : uJ a b c d) : uJ c d a b := by
  unfold uJ at *
  omega
set_option maxRecDepth 20000 in
theorem uB_par (hG : uG T n) (h : uB T n) (hi : i < n) (hj : j < n) (hn : i ≠ j) (ei : T i = some (a, b, q)) (ej : T j = some (c, d, r)) (hJ : uJ a b c d) : uB (uU (uU T i (some (a, b, q + r))) j none) n := by
  have g1 := hG i hi a b q ei
  have g2 := hG j hj c d r ej
  have get : ∀ k a' b' q', uU (uU T i (some (a, b, q + r))) j none k = some (a', b', q') → k ≠ j ∧ ((k = i ∧ a' = a ∧ b' = b ∧ q' = q + r) ∨ (k ≠ i ∧ T k = some (a', b', q'))) := fun k a' b' q' e => by
    unfold uU at e
    by_cases k1 : k = j
    · rw [if_pos k1] at e; cases e
    · rw [if_neg k1] at e
      refine ⟨k1, ?_⟩
      by_cases k2 : k = i
      · rw [if_pos k2] at e
        simp only [Option.some.injEq, Prod.mk.injEq] at e
        exact Or.inl ⟨k2, e.1.symm, e.2.1.symm, e.2.2.symm⟩
      · rw [if_neg k2] at e
        exact Or.inr ⟨k2, e⟩
  rcases h with h | ⟨m, h1, h2, h3⟩ | h
  · left
    intro k a' b' q' hk e
    obtain ⟨k1, k2⟩ := get k a' b' q' e
    rcases k2 with ⟨rfl, rfl, rfl, rfl⟩ | ⟨k2, k3⟩
    · have e1 := tk_par (p := q) (q := r) (by grind) (by grind)
      have d1 := h k a' b' q hk ei
      have d2 := h j c d r hj ej
      have lw := low (r := q + r) (by grind) (Nat.mul_pos q.den_pos r.den_pos) e1
      have := lw.2.2
      rw [d1, d2] at this
      exact Nat.dvd_one.mp this
    · exact h k a' b' q' hk k3
  · right; right
    have him : i = m ∨ j = m := by
      by_cases k1 : i = m
      · exact Or.inl k1
      · by_cases k2 : j = m
        · exact Or.inr k2
        · exact absurd hJ (h1 i j hi hj hn k1 k2 a b q c d r ei ej)
    have oth : ∀ k a' b' q', k < n → k ≠ i → k ≠ j → T k = some (a', b', q') → ¬ uJ a b a' b' := fun k a' b' q' hk k1 k2 e hh => by
      rcases him with rfl | rfl
      · exact h1 j k hj hk (fun z => k2 z.symm) (fun z => hn z.symm) k1 c d r a' b' q' ej e (uJ_tr hJ hh)
      · exact h1 i k hi hk (fun z => k1 z.symm) hn k2 a b q a' b' q' ei e hh
    intro k l hk hl hkl a1 b1 q1 a2 b2 q2 e1 e2 hh
    obtain ⟨k1, k2⟩ := get k a1 b1 q1 e1
    obtain ⟨l1, l2⟩ := get l a2 b2 q2 e2
    rcases k2 with ⟨rfl, rfl, rfl, rfl⟩ | ⟨k2, k3⟩
    · rcases l2 with ⟨l2, -⟩ | ⟨l2, l3⟩
      · exact hkl l2.symm
      · exact oth l a2 b2 q2 hl l2 l1 l3 hh
    · rcases l2 with ⟨rfl, rfl, rfl, rfl⟩ | ⟨l2, l3⟩
      · exact oth k a1 b1 q1 hk k2 k1 k3 (uJ_sy hh)
      · rcases him with rfl | rfl
        · exact h1 k l hk hl hkl k2 l2 a1 b1 q1 a2 b2 q2 k3 l3 hh
        · exact h1 k l hk hl hkl k1 l1 a1 b1 q1 a2 b2 q2 k3 l3 hh
  · exact absurd hJ (h i j hi hj hn a b q c d r ei ej)
set_option maxRecDepth 20000 in
theorem uD_1 (h : uD T n) : uD (uU T s none) n := by
  intro k l hk hl hkl a1 b1 q1 a2 b2 q2 e1 e2
  unfold uU at e1 e2
  by_cases k1 : k = s
  · rw [if_pos k1] at e1; cases e1
  · by_cases k2 : l = s
    · rw [if_pos k2] at e2; cases e2
    · rw [if_neg k1] at e1
      rw [if_neg k2] at e2
      exact h k l hk hl hkl a1 b1 q1 a2 b2 q2 e1 e2
set_option maxRecDepth 20000 in
theorem uG_1 (h : uG T n) : uG (uU T s none) n := by
  intro k hk a' b' q' e
  unfold uU at e
  by_cases k1 : k = s
  · rw [if_pos k1] at e; cases e
  · rw [if_neg k1] at e
    exact h k hk a' b' q' e
set_option maxRecDepth 20000 in
theorem uG_2 (h : uG T n) (ha : a < 5) (hb : b < 5) (hn : a ≠ b) (hz : 0 < z) : uG (uU T s (some (a, b, z))) n := by
  intro k hk a' b' q' e
  unfold uU at e
  by_cases k1 : k = s
  · rw [if_pos k1] at e
    simp only [Option.some.injEq, Prod.mk.injEq] at e
    obtain ⟨rfl, rfl, rfl⟩ := e
    exact ⟨ha, hb, hn, hz⟩
  · rw [if_neg k1] at e
    exact h k hk a' b' q' e
set_option maxRecDepth 20000 in
theorem uB_2 (h : uD T n) (hd : ∀ i a b q, i < n → T i = some (a, b, q) → q.den ≤ 14400) (hz : z.den ≤ 24883200000) : uB (uU T s (some (a, b, z))) n := by
  right; left
  refine ⟨s, fun k l hk hl hkl k1 l1 a1 b1 q1 a2 b2 q2 e1 e2 => ?_, fun k a' b' q' hk k1 e => ?_, fun a' b' q' e => ?_⟩
  · unfold uU at e1 e2
    rw [if_neg k1] at e1
    rw [if_neg l1] at e2
    exact h k l hk hl hkl a1 b1 q1 a2 b2 q2 e1 e2
  · unfold uU at e
    rw [if_neg k1] at e
    exact hd k a' b' q' hk e
  · unfold uU at e
    rw [if_pos rfl] at e
    simp only [Option.some.injEq, Prod.mk.injEq] at e
    rw [← e.2.2]
    exact hz
set_option maxRecDepth 20000 in
theorem uN_congr {S : Nat → Option (Nat × Nat × Rat)} : ∀ n, (∀ i, i < n → T i = S i) → uNn T n = uNn S n
  | 0, _ => rfl
  | n + 1, e => by
    simp only [uNn]
    rw [uN_congr n (fun i hi => e i (by omega)), e n (by omega)]
set_option maxRecDepth 20000 in
theorem uN_none : ∀ n, s < n → (T s).isSome = true → uNn (uU T s none) n + 1 = uNn T n
  | 0, hs, _ => by omega
  | n + 1, hs, h => by
    simp only [uNn]
    by_cases k : s = n
    · subst k
      rw [uN_congr (S := T) s (fun i hi => by unfold uU; rw [if_neg (by omega)]), if_pos h]
      unfold uU
      rw [if_pos rfl]
      simp
    · have := uN_none n (by omega) h
      have e : uU T s none n = T n := by unfold uU; rw [if_neg (by omega)]
      rw [e]
      omega
set_option maxRecDepth 20000 in
theorem uN_some {v : Nat × Nat × Rat} : ∀ n, (T s).isSome = true → uNn (uU T s (some v)) n = uNn T n
  | 0, _ => rfl
  | n + 1, h => by
    simp only [uNn]
    rw [uN_some n h]
    by_cases k : n = s
    · subst k
      have e : uU T n (some v) n = some v := by unfold uU; rw [if_pos rfl]
      rw [e, if_pos h]
      rfl
    · have e : uU T s (some v) n = T n := by unfold uU; rw [if_neg k]
      rw [e]
/-! how many are left -/
def uKk (T : Nat → Option (Nat × Nat × Rat)) (x y : Nat) : Nat → Nat
  | 0 => 0
  | n + 1 => uKk T x y n + match T n with
    | none => 0
    | some (a, b, _) => if (a = x ∧ b = y) ∨ (a = y ∧ b = x) then 1 else 0
set_option maxRecDepth 20000 in
theorem uK_zero : ∀ n, (∀ i a b q, i < n → T i = some (a, b, q) → ¬ uJ a b x y) → uKk T x y n = 0
  | 0, _ => rfl
  | n + 1, h => by
    have ih := uK_zero n (fun i a b q hi => h i a b q (by omega))
    simp only [uKk]
    rw [ih]
    cases e : T n with
    | none => rfl
    | some v =>
      obtain ⟨a, b, q⟩ := v
      have := h n a b q (by omega) e
      unfold uJ at this
      simp only []
      rw [if_neg this]
set_option maxRecDepth 20000 in
theorem uK_one : ∀ n, s < n → T s = some (a, b, q) → uJ a b x y → (∀ i c d r, i < n → i ≠ s → T i = some (c, d, r) → ¬ uJ c d x y) → uKk T x y n = 1
  | 0, hs, _, _, _ => by omega
  | n + 1, hs, e, hJ, h => by
    simp only [uKk]
    by_cases k : s = n
    · subst k
      rw [uK_zero s (fun i c d r hi => h i c d r (by omega) (by omega)), e]
      unfold uJ at hJ
      simp only []
      rw [if_pos hJ]
    · rw [uK_one n (by omega) e hJ (fun i c d r hi => h i c d r (by omega))]
      cases e2 : T n with
      | none => rfl
      | some v =>
        obtain ⟨c, d, r⟩ := v
        have := h n c d r (by omega) (by omega) e2
        unfold uJ at this
        simp only []
        rw [if_neg this]
set_option maxRecDepth 20000 in
theorem uK_w (hG : uG T n) (hD : uD T n) : uKk T x y n = if uW T n x y = 0 then 0 else 1 := by
  by_cases k : uW T n x y = 0
  · rw [if_pos k]
    refine uK_zero n (fun i a b q hi e hJ => ?_)
    have := hG i hi a b q e
    have w := uW_at hD hi e
    have : uW T n a b = uW T n x y := by
      rcases hJ with ⟨rfl, rfl⟩ | ⟨rfl, rfl⟩
      · rfl
      · exact uW_symm
    grind
  · rw [if_neg k]
    obtain ⟨i, a, b, q, hi, e, hJ⟩ := uW_ex k
    exact uK_one n hi e hJ (fun j c d r hj hn ej hh => hD i j hi hj (fun z => hn z.symm) a b q c d r e ej (by unfold uJ at *; omega))
set_option maxRecDepth 20000 in
theorem uN_pairs : ∀ n, uG T n → uNn T n = uKk T 0 1 n + uKk T 0 2 n + uKk T 0 3 n + uKk T 0 4 n + uKk T 1 2 n + uKk T 1 3 n + uKk T 1 4 n + uKk T 2 3 n + uKk T 2 4 n + uKk T 3 4 n
  | 0, _ => rfl
  | n + 1, hG => by
    have ih := uN_pairs n (fun i hi => hG i (by omega))
    simp only [uNn, uKk]
    rw [ih]
    cases e : T n with
    | none => simp
    | some v =>
      obtain ⟨a, b, q⟩ := v
      obtain ⟨h1, h2, h3, -⟩ := hG n (by omega) a b q e
      rcases (by omega : a = 0 ∨ a = 1 ∨ a = 2 ∨ a = 3 ∨ a = 4) with rfl | rfl | rfl | rfl | rfl <;> rcases (by omega : b = 0 ∨ b = 1 ∨ b = 2 ∨ b = 3 ∨ b = 4) with rfl | rfl | rfl | rfl | rfl <;> first
        | exact absurd rfl h3
        | (simp; omega)
        | simp
set_option maxRecDepth 20000 in
theorem uN_lf (hG : uG T n) (hD : uD T n) : uNn T n = lfA (uW T n) 5 := by
  rw [uN_pairs n hG]
  simp only [uK_w hG hD, lfA, lfI, Nat.zero_add, Nat.add_zero, Nat.reduceAdd, Nat.reduceSub]
  omega
end
