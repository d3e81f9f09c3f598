/-! ===== reduced: a chamber taken out ===== -/
def rs (w : Nat → Nat → Rat) (c : Nat) : Rat := w c 0 + w c 1 + w c 2 + w c 3 + w c 4
def kr (c : Nat) (w : Nat → Nat → Rat) : Nat → Nat → Rat := fun x y => if x = c ∨ y = c ∨ x = y then 0 else w x y + w c x * w c y * (rs w c)⁻¹
def Gw (w : Nat → Nat → Rat) : Prop := (∀ x y, w x y = w y x) ∧ (∀ x, w x x = 0) ∧ (∀ x y, 0 ≤ w x y) ∧ ∀ x y, 5 ≤ x → w x y = 0
section
variable {w : Nat → Nat → Rat} {a c x y : Nat}
set_option maxRecDepth 20000 in
theorem kr_id {w x y a c e i j p q s t : Rat} (h1 : s * i = 1) (h2 : t * j = 1) (h3 : (t - e * e * i) * p = 1) (h4 : (s - e * e * j) * q = 1) : x * y * i + (a + e * x * i) * (c + e * y * i) * p = a * c * j + (x + e * a * j) * (y + e * c * j) * q := by
  grind
set_option maxRecDepth 20000 in
theorem kr_sum (h : Gw w) (ha : a < 5) (hc : c < 5) (hn : a ≠ c) : rs (kr c w) a = rs w a - w c a + w c a * (rs w c - w c a) * (rs w c)⁻¹ := by
  obtain ⟨g1, g2, -, -⟩ := h
  have d0 := g2 0
  have d1 := g2 1
  have d2 := g2 2
  have d3 := g2 3
  have d4 := g2 4
  generalize hi : (rs w c)⁻¹ = i
  have e : ∀ z, kr c w a z = if a = c ∨ z = c ∨ a = z then 0 else w a z + w c a * w c z * i := fun z => by unfold kr; rw [hi]
  unfold rs
  rw [e, e, e, e, e]
  rcases (by omega : a = 0 ∨ a = 1 ∨ a = 2 ∨ a = 3 ∨ a = 4) with rfl | rfl | rfl | rfl | rfl <;> rcases (by omega : c = 0 ∨ c = 1 ∨ c = 2 ∨ c = 3 ∨ c = 4) with rfl | rfl | rfl | rfl | rfl <;> first | exact absurd rfl hn | (simp; grind)
end
