/-! ===== reduced: the tubes of the reference ===== -/
def uC (o : Option (Nat × Nat × Rat)) (x y : Nat) : Rat := match o with
  | none => 0
  | some (a, b, q) => if (a = x ∧ b = y) ∨ (a = y ∧ b = x) then q else 0
def uS (g : Nat → Rat) : Nat → Rat
  | 0 => 0
  | n + 1 => uS g n + g n
def uW (T : Nat → Option (Nat × Nat × Rat)) (n : Nat) : Nat → Nat → Rat := fun x y => uS (fun i => uC (T i) x y) n
def uU (T : Nat → Option (Nat × Nat × Rat)) (s : Nat) (o : Option (Nat × Nat × Rat)) : Nat → Option (Nat × Nat × Rat) := fun i => if i = s then o else T i
def uG (T : Nat → Option (Nat × Nat × Rat)) (n : Nat) : Prop := ∀ i, i < n → ∀ a b q, T i = some (a, b, q) → a < 5 ∧ b < 5 ∧ a ≠ b ∧ 0 < q
def uJ (a b c d : Nat) : Prop := (a = c ∧ b = d) ∨ (a = d ∧ b = c)
def uD (T : Nat → Option (Nat × Nat × Rat)) (n : Nat) : Prop := ∀ i j, i < n → j < n → i ≠ j → ∀ a b q c d r, T i = some (a, b, q) → T j = some (c, d, r) → ¬ uJ a b c d
section
variable {T : Nat → Option (Nat × Nat × Rat)} {g h : Nat → Rat} {o : Option (Nat × Nat × Rat)} {n s i j a b c d x y : Nat} {q r z : Rat}
set_option maxRecDepth 20000 in
theorem uS_congr : ∀ n, (∀ i, i < n → g i = h i) → uS g n = uS h n
  | 0, _ => rfl
  | n + 1, e => by
    simp only [uS]
    rw [uS_congr n (fun i hi => e i (by omega)), e n (by omega)]
set_option maxRecDepth 20000 in
theorem uS_zero : ∀ n, (∀ i, i < n → g i = 0) → uS g n = 0
  | 0, _ => rfl
  | n + 1, e => by
    simp only [uS]
    rw [uS_zero n (fun i hi => e i (by omega)), e n (by omega)]
    grind
set_option maxRecDepth 20000 in
theorem uS_one : ∀ n, s < n → (∀ i, i < n → i ≠ s → g i = 0) → uS g n = g s
  | 0, hs, _ => by omega
  | n + 1, hs, e => by
    simp only [uS]
    by_cases k : s = n
    · subst k
      rw [uS_zero s (fun i hi => e i (by omega) (by omega))]
      grind
    · rw [uS_one n (by omega) (fun i hi hn => e i (by omega) hn), e n (by omega) (by omega)]
      grind
set_option maxRecDepth 20000 in
theorem uS_upd {v : Rat} : ∀ n, s < n → uS (fun i => if i = s then v else g i) n = uS g n - g s + v
  | 0, hs => by omega
  | n + 1, hs => by
    simp only [uS]
    by_cases k : s = n
    · subst k
      rw [if_pos rfl, uS_congr (h := g) s (fun i hi => if_neg (by omega))]
      grind
    · rw [uS_upd n (by omega), if_neg (by omega)]
      grind
set_option maxRecDepth 20000 in
theorem uS_nn (h : ∀ i, i < n → 0 ≤ g i) : ∀ m, m ≤ n → 0 ≤ uS g m
  | 0, _ => Rat.le_refl
  | m + 1, hm => by
    have := uS_nn h m (by omega)
    have := h m (by omega)
    simp only [uS]
    grind
set_option maxRecDepth 20000 in
theorem uS_ge : ∀ n, s < n → (∀ i, i < n → 0 ≤ g i) → g s ≤ uS g n
  | 0, hs, _ => by omega
  | n + 1, hs, e => by
    simp only [uS]
    by_cases k : s = n
    · subst k
      have := uS_nn (g := g) (n := s) (fun i hi => e i (by omega)) s (Nat.le_refl _)
      grind
    · have := uS_ge n (by omega) (fun i hi => e i (by omega))
      have := e n (by omega)
      grind
set_option maxRecDepth 20000 in
theorem uC_nn (hG : uG T n) (hi : i < n) : 0 ≤ uC (T i) x y := by
  cases e : T i with
  | none => exact Rat.le_refl
  | some v =>
    obtain ⟨a, b, q⟩ := v
    have := (hG i hi a b q e).2.2.2
    simp only [uC]
    split
    · grind
    · exact Rat.le_refl
set_option maxRecDepth 20000 in
theorem uC_symm : uC o x y = uC o y x := by
  cases o with
  | none => rfl
  | some v =>
    obtain ⟨a, b, q⟩ := v
    simp only [uC]
    by_cases k : (a = x ∧ b = y) ∨ (a = y ∧ b = x)
    · rw [if_pos k, if_pos k.symm]
    · rw [if_neg k, if_neg (fun z => k z.symm)]
theorem uW_symm : uW T n x y = uW T n y x := uS_congr n (fun i _ => uC_symm)
set_option maxRecDepth 20000 in
theorem uW_upd (hs : s < n) : uW (uU T s o) n x y = uW T n x y - uC (T s) x y + uC o x y := by
  have e : uW (uU T s o) n x y = uS (fun i => if i = s then uC o x y else uC (T i) x y) n := uS_congr n (fun i _ => by
    unfold uU
    by_cases k : i = s
    · rw [if_pos k, if_pos k]
    · rw [if_neg k, if_neg k])
  rw [e, uS_upd (g := fun i => uC (T i) x y) n hs]
  rfl
set_option maxRecDepth 20000 in
theorem uW_ge (hG : uG T n) (hi : i < n) (e : T i = some (a, b, q)) : q ≤ uW T n a b := by
  have := uS_ge (s := i) (g := fun i => uC (T i) a b) n hi (fun j hj => uC_nn hG hj)
  simp only [e] at this
  have k : uC (some (a, b, q)) a b = q := by simp [uC]
  rw [k] at this
  exact this
set_option maxRecDepth 20000 in
theorem uW_at (hD : uD T n) (hi : i < n) (e : T i = some (a, b, q)) : uW T n a b = q := by
  have k : uC (some (a, b, q)) a b = q := by simp [uC]
  have := uS_one (s := i) (g := fun i => uC (T i) a b) n hi (fun j hj hn => by
    cases ej : T j with
    | none => rfl
    | some v =>
      obtain ⟨c, d, r⟩ := v
      have := hD j i hj hi hn c d r a b q ej e
      simp only [uC]
      exact if_neg this)
  simp only [e] at this
  rw [k] at this
  exact this
set_option maxRecDepth 20000 in
theorem uW_ex (h : uW T n x y ≠ 0) : ∃ i a b q, i < n ∧ T i = some (a, b, q) ∧ uJ a b x y := by
  by_cases k : ∀ i, i < n → uC (T i) x y = 0
  · exact absurd (uS_zero n k) h
  · have ⟨i, hi⟩ := Classical.not_forall.mp k
    have ⟨hn, hz⟩ := Classical.not_imp.mp hi
    cases e : T i with
    | none =>
      rw [e] at hz
      exact absurd rfl hz
    | some v =>
      obtain ⟨a, b, q⟩ := v
      rw [e] at hz
      simp only [uC] at hz
      by_cases m : (a = x ∧ b = y) ∨ (a = y ∧ b = x)
      · exact ⟨i, a, b, q, hn, e, m⟩
      · rw [if_neg m] at hz
        exact absurd rfl hz
set_option maxRecDepth 20000 in
theorem uW_gw (hG : uG T n) : Gw (uW T n) := by
  refine ⟨fun x y => uW_symm, fun x => ?_, fun x y => uS_nn (fun i hi => uC_nn hG hi) n (Nat.le_refl _), fun x y hx => ?_⟩
  · by_cases k : uW T n x x = 0
    · exact k
    · obtain ⟨i, a, b, q, hi, e, m⟩ := uW_ex k
      have := hG i hi a b q e
      unfold uJ at m
      omega
  · by_cases k : uW T n x y = 0
    · exact k
    · obtain ⟨i, a, b, q, hi, e, m⟩ := uW_ex k
      have := hG i hi a b q e
      unfold uJ at m
      omega
/-! two side by side -/
set_option maxRecDepth 20000 in
theorem uW_par (hi : i < n) (hj : j < n) (hn : i ≠ j) (ei : T i = some (a, b, q)) (ej : T j = some (c, d, r)) (hJ : uJ a b c d) : uW (uU (uU T i (some (a, b, q + r))) j none) n = uW T n := by
  funext x y
  have e2 : uU T i (some (a, b, q + r)) j = some (c, d, r) := by unfold uU; rw [if_neg (fun z => hn z.symm)]; exact ej
  rw [uW_upd hj, uW_upd hi, e2, ei]
  simp only [uC]
  unfold uJ at hJ
  by_cases k : (a = x ∧ b = y) ∨ (a = y ∧ b = x)
  · rw [if_pos k, if_pos k, if_pos (by omega)]; grind
  · rw [if_neg k, if_neg k, if_neg (by omega)]; grind
set_option maxRecDepth 20000 in
theorem uG_par (hG : uG T n) (hi : i < n) (hj : j < n) (ei : T i = some (a, b, q)) (ej : T j = some (c, d, r)) : uG (uU (uU T i (some (a, b, q + r))) j none) n := fun k hk a' b' q' e => by
  unfold uU at e
  by_cases k1 : k = j
  · rw [if_pos k1] at e; cases e
  · rw [if_neg k1] at e
    by_cases k2 : k = i
    · rw [if_pos k2] at e
      simp only [Option.some.injEq, Prod.mk.injEq] at e
      obtain ⟨rfl, rfl, rfl⟩ := e
      have g1 := hG i hi a b q ei
      have g2 := hG j hj c d r ej
      exact ⟨g1.1, g1.2.1, g1.2.2.1, by grind⟩
    · rw [if_neg k2] at e
      exact hG k hk a' b' q' e
/-! one that is left out -/
def uA (o : Option (Nat × Nat × Rat)) (c : Nat) : Bool := match o with
  | none => false
  | some (a, b, _) => decide (a = c ∨ b = c)
def uO (o : Option (Nat × Nat × Rat)) (c : Nat) : Nat := match o with
  | none => 0
  | some (a, b, _) => if a = c then b else a
set_option maxRecDepth 20000 in
theorem uA_s (h : uA o c = true) : ∃ a b q, o = some (a, b, q) ∧ (a = c ∨ b = c) := by
  cases o with
  | none => cases h
  | some v =>
    obtain ⟨a, b, q⟩ := v
    exact ⟨a, b, q, rfl, of_decide_eq_true h⟩
set_option maxRecDepth 20000 in
theorem uW_row (hG : uG T n) (h : uW T n c x ≠ 0) : ∃ i, i < n ∧ uA (T i) c = true ∧ uO (T i) c = x := by
  obtain ⟨i, a, b, q, hi, e, m⟩ := uW_ex h
  have g := hG i hi a b q e
  unfold uJ at m
  refine ⟨i, hi, ?_, ?_⟩
  · rw [e]
    exact decide_eq_true (by omega)
  · rw [e]
    simp only [uO]
    split <;> omega
set_option maxRecDepth 20000 in
theorem uW_1 (hG : uG T n) (hD : uD T n) (hi : i < n) (hA : uA (T i) c = true) (hu : ∀ k, k < n → uA (T k) c = true → k = i) : uW (uU T i none) n = kr c (uW T n) ∧ rs (uW T n) c ≠ 0 ∧ T2 (uW T n) c := by
  have gw := uW_gw hG
  obtain ⟨a, b, q, e, ab⟩ := uA_s hA
  have g := hG i hi a b q e
  have w := uW_at hD hi e
  obtain ⟨p, ep⟩ : ∃ p, p = uO (T i) c := ⟨_, rfl⟩
  have ep2 : p = if a = c then b else a := by rw [ep, e]; rfl
  have hr : ∀ x, uW T n c x ≠ 0 → x = p := fun x hx => by
    obtain ⟨k, k1, k2, k3⟩ := uW_row hG hx
    rw [hu k k1 k2, ← ep] at k3
    exact k3.symm
  have wp : uW T n c p = q := by
    by_cases k : a = c
    · rw [if_pos k] at ep2
      rw [ep2, ← k]; exact w
    · rw [if_neg k] at ep2
      rw [ep2, uW_symm, show c = b by omega]; exact w
  refine ⟨?_, ?_, ⟨p, p, fun x hx => Or.inl (hr x hx)⟩⟩
  · rw [kr_1t gw hr]
    funext x y
    rw [uW_upd hi, e]
    unfold pt
    simp only [uC]
    by_cases k : (x = c ∧ y = p) ∨ (x = p ∧ y = c)
    · rw [if_pos k]
      have k2 : (a = x ∧ b = y) ∨ (a = y ∧ b = x) := by
        split at ep2 <;> omega
      rw [if_pos k2]
      rcases k with ⟨rfl, rfl⟩ | ⟨rfl, rfl⟩
      · rw [wp]; grind
      · rw [uW_symm, wp]; grind
    · rw [if_neg k]
      have k2 : ¬ ((a = x ∧ b = y) ∨ (a = y ∧ b = x)) := by
        split at ep2 <;> omega
      rw [if_neg k2]; grind
  · rw [rs_one hr (by split at ep2 <;> omega), wp]
    grind
set_option maxRecDepth 20000 in
theorem uW_2 (hG : uG T n) (hD : uD T n) (hi : i < n) (hj : j < n) (hn : i ≠ j) (hA : uA (T i) c = true) (hB : uA (T j) c = true) (hu : ∀ k, k < n → uA (T k) c = true → k = i ∨ k = j) : ∃ a b q e f r, T i = some (a, b, q) ∧ T j = some (e, f, r) ∧ uO (T i) c ≠ uO (T j) c ∧ uO (T i) c < 5 ∧ uO (T j) c < 5 ∧ uW T n c (uO (T i) c) = q ∧ uW T n c (uO (T j) c) = r ∧ 0 < q ∧ 0 < r ∧ uW (uU (uU T j none) i (some (uO (T i) c, uO (T j) c, q * r * (q + r)⁻¹))) n = kr c (uW T n) ∧ rs (uW T n) c = q + r ∧ T2 (uW T n) c := by
  have gw := uW_gw hG
  obtain ⟨a, b, q, ei, ab⟩ := uA_s hA
  obtain ⟨e, f, r, ej, ef⟩ := uA_s hB
  have gi := hG i hi a b q ei
  have gj := hG j hj e f r ej
  have wi := uW_at hD hi ei
  have wj := uW_at hD hj ej
  have nJ := hD i j hi hj hn a b q e f r ei ej
  obtain ⟨p, ep⟩ : ∃ p, p = uO (T i) c := ⟨_, rfl⟩
  obtain ⟨s, es⟩ : ∃ s, s = uO (T j) c := ⟨_, rfl⟩
  have ep2 : p = if a = c then b else a := by rw [ep, ei]; rfl
  have es2 : s = if e = c then f else e := by rw [es, ej]; rfl
  have ps : p ≠ s := by
    unfold uJ at nJ
    split at ep2 <;> split at es2 <;> omega
  have p5 : p < 5 := by split at ep2 <;> omega
  have s5 : s < 5 := by split at es2 <;> omega
  have cp : c ≠ p := by split at ep2 <;> omega
  have cs : c ≠ s := by split at es2 <;> omega
  have hr : ∀ x, uW T n c x ≠ 0 → x = p ∨ x = s := fun x hx => by
    obtain ⟨k, k1, k2, k3⟩ := uW_row hG hx
    rcases hu k k1 k2 with k4 | k4
    · rw [k4, ← ep] at k3
      exact Or.inl k3.symm
    · rw [k4, ← es] at k3
      exact Or.inr k3.symm
  have wp : uW T n c p = q := by
    by_cases k : a = c
    · rw [if_pos k] at ep2
      rw [ep2, ← k]; exact wi
    · rw [if_neg k] at ep2
      rw [ep2, uW_symm, show c = b by omega]; exact wi
  have ws : uW T n c s = r := by
    by_cases k : e = c
    · rw [if_pos k] at es2
      rw [es2, ← k]; exact wj
    · rw [if_neg k] at es2
      rw [es2, uW_symm, show c = f by omega]; exact wj
  refine ⟨a, b, q, e, f, r, ei, ej, ?_⟩
  rw [← ep, ← es]
  refine ⟨ps, p5, s5, wp, ws, gi.2.2.2, gj.2.2.2, ?_, ?_, ⟨p, s, hr⟩⟩
  · have n1 : uW T n c p ≠ 0 := by rw [wp]; have := gi.2.2.2; grind
    have n2 : uW T n c s ≠ 0 := by rw [ws]; have := gj.2.2.2; grind
    rw [kr_2t gw ps n1 n2 hr, wp, ws]
    funext x y
    have eu : uU T j none i = some (a, b, q) := by unfold uU; rw [if_neg hn]; exact ei
    rw [uW_upd hi, uW_upd hj, eu, ej]
    unfold pt
    simp only [uC]
    by_cases k0 : (x = p ∧ y = s) ∨ (x = s ∧ y = p)
    · rw [if_pos k0, if_neg (by split at es2 <;> omega), if_neg (by split at ep2 <;> omega), if_pos (by omega)]
      rcases k0 with ⟨rfl, rfl⟩ | ⟨rfl, rfl⟩
      · grind
      · rw [uW_symm]; grind
    · rw [if_neg k0, if_neg (by omega : ¬ ((p = x ∧ s = y) ∨ (p = y ∧ s = x)))]
      by_cases k1 : (x = c ∧ y = s) ∨ (x = s ∧ y = c)
      · rw [if_pos k1, if_pos (by split at es2 <;> omega), if_neg (by split at ep2 <;> omega)]
        rcases k1 with ⟨rfl, rfl⟩ | ⟨rfl, rfl⟩
        · rw [ws]; grind
        · rw [uW_symm, ws]; grind
      · rw [if_neg k1]
        by_cases k2 : (x = c ∧ y = p) ∨ (x = p ∧ y = c)
        · rw [if_pos k2, if_neg (by split at es2 <;> omega), if_pos (by split at ep2 <;> omega)]
          rcases k2 with ⟨rfl, rfl⟩ | ⟨rfl, rfl⟩
          · rw [wp]; grind
          · rw [uW_symm, wp]; grind
        · rw [if_neg k2, if_neg (by split at es2 <;> omega), if_neg (by split at ep2 <;> omega)]
          grind
  · rw [rs_two hr ps p5 s5, wp, ws]
end
