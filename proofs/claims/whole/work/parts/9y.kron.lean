/-! ===== reduced: a chamber taken out ===== -/
def rs (w : Nat → Nat → Rat) (c : Nat) : Rat := w c 0 + w c 1 + w c 2 + w c 3 + w c 4
def kr (c : Nat) (w : Nat → Nat → Rat) : Nat → Nat → Rat := fun x y => if x = c ∨ y = c ∨ x = y then 0 else w x y + w c x * w c y * (rs w c)⁻¹
def Gw (w : Nat → Nat → Rat) : Prop := (∀ x y, w x y = w y x) ∧ (∀ x, w x x = 0) ∧ (∀ x y, 0 ≤ w x y) ∧ ∀ x y, 5 ≤ x → w x y = 0
section
variable {w : Nat → Nat → Rat} {a c x y : Nat}
set_option maxRecDepth 20000 in
theorem kr_sum (h : Gw w) (ha : a < 5) (hc : c < 5) (hn : a ≠ c) : rs (kr c w) a = rs w a - w c a + w c a * (rs w c - w c a) * (rs w c)⁻¹ := by
  obtain ⟨g1, g2, -, -⟩ := h
  have d0 := g2 0
  have d1 := g2 1
  have d2 := g2 2
  have d3 := g2 3
  have d4 := g2 4
  generalize hi : (rs w c)⁻¹ = i
  have e : ∀ z, kr c w a z = if a = c ∨ z = c ∨ a = z then 0 else w a z + w c a * w c z * i := fun z => by unfold kr; rw [hi]
  unfold rs
  rw [e, e, e, e, e]
  rcases (by omega : a = 0 ∨ a = 1 ∨ a = 2 ∨ a = 3 ∨ a = 4) with rfl | rfl | rfl | rfl | rfl <;> rcases (by omega : c = 0 ∨ c = 1 ∨ c = 2 ∨ c = 3 ∨ c = 4) with rfl | rfl | rfl | rfl | rfl <;> first | exact absurd rfl hn | (simp; grind)
set_option maxRecDepth 20000 in
theorem rs_nn (h : Gw w) : 0 ≤ rs w c := by
  obtain ⟨-, -, g3, -⟩ := h
  have := g3 c 0; have := g3 c 1; have := g3 c 2; have := g3 c 3; have := g3 c 4
  unfold rs; grind
set_option maxRecDepth 20000 in
theorem rs_ge (h : Gw w) : w c y ≤ rs w c := by
  obtain ⟨g1, g2, g3, g4⟩ := h
  have := g3 c 0; have := g3 c 1; have := g3 c 2; have := g3 c 3; have := g3 c 4
  unfold rs
  by_cases hy : y < 5
  · rcases (by omega : y = 0 ∨ y = 1 ∨ y = 2 ∨ y = 3 ∨ y = 4) with rfl | rfl | rfl | rfl | rfl <;> grind
  · have := g4 y c (by omega)
    rw [g1] at this
    grind
set_option maxRecDepth 20000 in
theorem rs_ge2 (h : Gw w) (hn : x ≠ y) : w c x + w c y ≤ rs w c := by
  have gx := rs_ge (c := c) (y := x) h
  have gy := rs_ge (c := c) (y := y) h
  obtain ⟨g1, g2, g3, g4⟩ := h
  by_cases hx : x < 5
  · by_cases hy : y < 5
    · have := g3 c 0; have := g3 c 1; have := g3 c 2; have := g3 c 3; have := g3 c 4
      unfold rs
      rcases (by omega : x = 0 ∨ x = 1 ∨ x = 2 ∨ x = 3 ∨ x = 4) with rfl | rfl | rfl | rfl | rfl <;> rcases (by omega : y = 0 ∨ y = 1 ∨ y = 2 ∨ y = 3 ∨ y = 4) with rfl | rfl | rfl | rfl | rfl <;> first | exact absurd rfl hn | grind
    · have := g4 y c (by omega)
      rw [g1] at this
      grind
  · have := g4 x c (by omega)
    rw [g1] at this
    grind
set_option maxRecDepth 20000 in
theorem rs_row (h : Gw w) (hz : rs w c = 0) (y : Nat) : w c y = 0 := by
  have g := rs_ge (c := c) (y := y) h
  have := h.2.2.1 c y
  grind
set_option maxRecDepth 20000 in
theorem kr_0 (h : Gw w) (hz : rs w c = 0) : kr c w = w := by
  funext x y
  have r := rs_row h hz
  unfold kr
  by_cases z : x = c ∨ y = c ∨ x = y
  · rw [if_pos z]
    rcases z with rfl | rfl | rfl
    · rw [r]
    · rw [h.1, r]
    · rw [h.2.1]
  · rw [if_neg z, r x]; grind
set_option maxRecDepth 20000 in
theorem inv_nn {a : Rat} (h : 0 ≤ a) : 0 ≤ a⁻¹ := by
  by_cases z : a = 0
  · rw [z, Rat.inv_zero]; exact Rat.le_refl
  · by_cases q : 0 ≤ a⁻¹
    · exact q
    · have e : a * a⁻¹ = 1 := Rat.mul_inv_cancel a z
      have := Rat.mul_nonneg h (b := -a⁻¹) (by grind)
      grind
set_option maxRecDepth 20000 in
theorem kr_gw (h : Gw w) : Gw (kr c w) := by
  have n := rs_nn (c := c) h
  obtain ⟨g1, g2, g3, g4⟩ := h
  have ni := inv_nn n
  refine ⟨fun x y => ?_, fun x => ?_, fun x y => ?_, fun x y hx => ?_⟩
  · unfold kr
    have := g1 x y
    grind
  · unfold kr
    grind
  · unfold kr
    split
    · exact Rat.le_refl
    · have q := Rat.mul_nonneg (Rat.mul_nonneg (g3 c x) (g3 c y)) ni
      have := g3 x y
      grind
  · unfold kr
    have e1 := g4 x y hx
    have e2 := g4 x c hx
    rw [g1] at e2
    grind
set_option maxRecDepth 20000 in
theorem kr_c (_h : Gw w) (y : Nat) : kr c w c y = 0 := by
  unfold kr; rw [if_pos (Or.inl rfl)]
set_option maxRecDepth 20000 in
theorem rs_of0 (h : ∀ y, w c y = 0) : rs w c = 0 := by
  unfold rs; rw [h, h, h, h, h]; grind
set_option maxRecDepth 20000 in
theorem kr_keep (h : Gw w) (hz : rs w a = 0) : rs (kr c w) a = 0 := by
  have r := rs_row h hz
  refine rs_of0 (fun y => ?_)
  unfold kr
  split
  · rfl
  · have := r y
    have := r c
    rw [h.1] at this
    grind
/-! two taken out -/
def kD (w : Nat → Nat → Rat) (a c : Nat) : Rat := rs w a * rs w c - w c a * w c a
set_option maxRecDepth 20000 in
theorem kr_s (h : Gw w) (ha : a < 5) (hc : c < 5) (hn : a ≠ c) (h0 : rs w c ≠ 0) : rs (kr c w) a * rs w c = kD w a c := by
  rw [kr_sum h ha hc hn]
  unfold kD
  grind
set_option maxRecDepth 20000 in
theorem kr_two (h : Gw w) (ha : a < 5) (hc : c < 5) (hn : a ≠ c) (h0 : rs w c ≠ 0) (h1 : rs (kr c w) a ≠ 0) (x y : Nat) : kr a (kr c w) x y = if x = c ∨ y = c ∨ x = a ∨ y = a ∨ x = y then 0 else w x y + (rs w c * w a x * w a y + rs w a * w c x * w c y + w c a * (w a x * w c y + w c x * w a y)) * (kD w a c)⁻¹ := by
  have e := kr_s h ha hc hn h0
  have g := (kr_gw (c := c) h)
  have n0 : kD w a c ≠ 0 := by
    intro z
    rw [z] at e
    grind
  show (if x = a ∨ y = a ∨ x = y then 0 else kr c w x y + kr c w a x * kr c w a y * (rs (kr c w) a)⁻¹) = _
  by_cases z : x = c ∨ y = c ∨ x = a ∨ y = a ∨ x = y
  · rw [if_pos z]
    by_cases z2 : x = a ∨ y = a ∨ x = y
    · rw [if_pos z2]
    · rw [if_neg z2]
      have z3 : x = c ∨ y = c := by omega
      rcases z3 with rfl | rfl
      · rw [kr_c h, g.1 a, kr_c h]; grind
      · rw [g.1 x, kr_c h, g.1 a y, kr_c h]; grind
  · rw [if_neg z, if_neg (by omega)]
    have k1 : kr c w x y = w x y + w c x * w c y * (rs w c)⁻¹ := by unfold kr; rw [if_neg (by omega)]
    have k2 : kr c w a x = w a x + w c a * w c x * (rs w c)⁻¹ := by unfold kr; rw [if_neg (by omega)]
    have k3 : kr c w a y = w a y + w c a * w c y * (rs w c)⁻¹ := by unfold kr; rw [if_neg (by omega)]
    rw [k1, k2, k3]
    have e2 : (rs (kr c w) a)⁻¹ = rs w c * (kD w a c)⁻¹ := by grind
    rw [e2]
    have e3 : kD w a c = rs w a * rs w c - w c a * w c a := rfl
    generalize rs w c = s at *
    generalize rs w a = t at *
    generalize kD w a c = D at *
    grind
set_option maxRecDepth 20000 in
theorem kr_comm (h : Gw w) (ha : a < 5) (hc : c < 5) (hn : a ≠ c) : kr a (kr c w) = kr c (kr a w) := by
  by_cases c0 : rs w c = 0
  · rw [kr_0 h c0, kr_0 (kr_gw h) (kr_keep h c0)]
  by_cases a0 : rs w a = 0
  · rw [kr_0 h a0, kr_0 (kr_gw h) (kr_keep h a0)]
  have e1 := kr_s h ha hc hn c0
  have e2 := kr_s h hc ha (fun z => hn z.symm) a0
  have ed : kD w a c = kD w c a := by unfold kD; rw [h.1 c a]; grind
  by_cases d0 : kD w a c = 0
  · have z1 : rs (kr c w) a = 0 := by rw [d0] at e1; grind
    have z2 : rs (kr a w) c = 0 := by rw [← ed, d0] at e2; grind
    rw [kr_0 (kr_gw h) z1, kr_0 (kr_gw h) z2]
    have ga := rs_ge (c := a) (y := c) h
    have gc := rs_ge (c := c) (y := a) h
    have na := h.2.2.1 a c
    have sy := h.1 a c
    have pa := rs_nn (c := a) h
    have pc := rs_nn (c := c) h
    unfold kD at d0
    rw [sy] at ga na
    have q1 : rs w a = w c a := by
      have : 0 ≤ (rs w a - w c a) * rs w c := Rat.mul_nonneg (by grind) pc
      have : 0 ≤ w c a * (rs w c - w c a) := Rat.mul_nonneg na (by grind)
      have : (rs w a - w c a) * rs w c = 0 := by grind
      grind
    have q2 : rs w c = w c a := by grind
    have ra : ∀ y, y ≠ c → w a y = 0 := fun y hy => by
      have := rs_ge2 (c := a) (x := c) (y := y) h (fun z => hy z.symm)
      have := h.2.2.1 a y
      rw [sy] at *
      grind
    have rc : ∀ y, y ≠ a → w c y = 0 := fun y hy => by
      have := rs_ge2 (c := c) (x := a) (y := y) h (fun z => hy z.symm)
      have := h.2.2.1 c y
      grind
    funext x y
    unfold kr
    by_cases z : x = y
    · rw [if_pos (by omega), if_pos (by omega)]
    · by_cases xa : x = a
      · subst xa
        by_cases yc : y = c
        · rw [if_pos (by omega), if_pos (by omega)]
        · rw [if_neg (by omega), if_pos (by omega), ra y yc, rc y (by omega)]; grind
      · by_cases ya : y = a
        · subst ya
          by_cases xc : x = c
          · rw [if_pos (by omega), if_pos (by omega)]
          · rw [if_neg (by omega), if_pos (by omega), h.1 x y, ra x xc, rc x (by omega)]; grind
        · by_cases xc : x = c
          · subst xc
            rw [if_pos (by omega), if_neg (by omega), rc y ya, ra y (by omega)]; grind
          · by_cases yc : y = c
            · subst yc
              rw [if_pos (by omega), if_neg (by omega), h.1 x y, rc x xa, ra x xc]; grind
            · rw [if_neg (by omega), if_neg (by omega), rc x xa, ra x xc]; grind
  · have n1 : rs (kr c w) a ≠ 0 := fun z => d0 (by rw [← e1, z]; grind)
    have n2 : rs (kr a w) c ≠ 0 := fun z => d0 (by rw [ed, ← e2, z]; grind)
    funext x y
    rw [kr_two h ha hc hn c0 n1, kr_two h hc ha (fun z => hn z.symm) a0 n2, ← ed, h.1 a c]
    by_cases z : x = c ∨ y = c ∨ x = a ∨ y = a ∨ x = y
    · rw [if_pos z, if_pos (by omega)]
    · rw [if_neg z, if_neg (by omega)]
      grind

/-! at most two neighbours -/
def T2 (w : Nat → Nat → Rat) (c : Nat) : Prop := ∃ p q, ∀ i, w c i ≠ 0 → i = p ∨ i = q
set_option maxRecDepth 20000 in
theorem t2_kr (h : Gw w) (hc : T2 w c) (ha : T2 w a) : T2 (kr c w) a := by
  obtain ⟨p, q, hc⟩ := hc
  obtain ⟨r, s, ha⟩ := ha
  have key : ∀ i, kr c w a i ≠ 0 → a ≠ c ∧ i ≠ c ∧ a ≠ i ∧ (w a i ≠ 0 ∨ (w c a ≠ 0 ∧ w c i ≠ 0)) := fun i hi => by
    unfold kr at hi
    by_cases z : a = c ∨ i = c ∨ a = i
    · rw [if_pos z] at hi; exact absurd rfl hi
    · rw [if_neg z] at hi
      refine ⟨by omega, by omega, by omega, ?_⟩
      by_cases z1 : w a i = 0
      · right
        refine ⟨fun z2 => hi ?_, fun z2 => hi ?_⟩
        · rw [z1, z2]; grind
        · rw [z1, z2]; grind
      · exact Or.inl z1
  by_cases z : w c a = 0
  · refine ⟨r, s, fun i hi => ?_⟩
    obtain ⟨-, -, -, k⟩ := key i hi
    rcases k with k | k
    · exact ha i k
    · exact absurd z k.1
  · have z2 : w a c ≠ 0 := by rw [h.1]; exact z
    have m1 := hc a z
    have m2 := ha c z2
    refine ⟨if p = a then q else p, if r = c then s else r, fun i hi => ?_⟩
    obtain ⟨n1, n2, n3, k⟩ := key i hi
    rcases k with k | k
    · have := ha i k
      right
      split <;> omega
    · have := hc i k.2
      left
      split <;> omega
set_option maxRecDepth 20000 in
theorem kr_le (h : Gw w) (ha : a < 5) (hc : c < 5) : rs (kr c w) a ≤ rs w a := by
  by_cases n : a = c
  · subst n
    rw [rs_of0 (kr_c h)]
    exact rs_nn h
  · by_cases c0 : rs w c = 0
    · rw [kr_0 h c0]; exact Rat.le_refl
    · have e := kr_sum h ha hc n
      have i0 := inv_nn (rs_nn (c := c) h)
      have q := Rat.mul_nonneg (Rat.mul_nonneg (h.2.2.1 c a) (h.2.2.1 c a)) i0
      have e2 : w c a * (rs w c - w c a) * (rs w c)⁻¹ = w c a - w c a * w c a * (rs w c)⁻¹ := by grind
      grind
/-! what is reached, whatever is taken out first -/
section
variable {I : Nat → Prop}
def okP (I : Nat → Prop) (w : Nat → Nat → Rat) : List Nat → Prop
  | [] => True
  | c :: l => (I c ∧ T2 w c) ∧ okP I (kr c w) l
def ruP (w : Nat → Nat → Rat) : List Nat → (Nat → Nat → Rat)
  | [] => w
  | c :: l => ruP (kr c w) l
def Irr (I : Nat → Prop) (w : Nat → Nat → Rat) : Prop := ∀ c, I c → T2 w c → rs w c = 0
set_option maxRecDepth 20000 in
theorem ru_gw : ∀ (l : List Nat) (w : Nat → Nat → Rat), Gw w → Gw (ruP w l)
  | [], _, h => h
  | _ :: l, _, h => ru_gw l _ (kr_gw h)
set_option maxRecDepth 20000 in
theorem ok_app : ∀ (l : List Nat) (w : Nat → Nat → Rat), okP I w l → I c → T2 (ruP w l) c → okP I w (l ++ [c])
  | [], _, _, h1, h2 => ⟨⟨h1, h2⟩, trivial⟩
  | _ :: l, _, h, h1, h2 => ⟨h.1, ok_app l _ h.2 h1 h2⟩
set_option maxRecDepth 20000 in
theorem ru_app : ∀ (l : List Nat) (w : Nat → Nat → Rat), ruP w (l ++ [c]) = kr c (ruP w l)
  | [], _ => rfl
  | _ :: l, _ => ru_app l _
set_option maxRecDepth 20000 in
theorem strip (hI : ∀ c, I c → c < 5) : ∀ (l : List Nat) (w : Nat → Nat → Rat), Gw w → okP I w l → Irr I (ruP w l) → ∀ c, I c → T2 w c → ∃ l2, okP I (kr c w) l2 ∧ ruP (kr c w) l2 = ruP w l
  | [], w, g, _, r, c, h1, h2 => ⟨[], trivial, kr_0 g (r c h1 h2)⟩
  | a :: l, w, g, ⟨⟨k1, k2⟩, k3⟩, r, c, h1, h2 => by
    by_cases e : c = a
    · subst e
      exact ⟨l, k3, rfl⟩
    · obtain ⟨l2, m1, m2⟩ := strip hI l (kr a w) (kr_gw g) k3 r c h1 (t2_kr g k2 h2)
      have cm := kr_comm g (hI c h1) (hI a k1) e
      refine ⟨a :: l2, ⟨⟨k1, t2_kr g h2 k2⟩, ?_⟩, ?_⟩
      · rw [← cm]; exact m1
      · show ruP (kr a (kr c w)) l2 = _
        rw [← cm, m2]; rfl
set_option maxRecDepth 20000 in
theorem irr_id : ∀ (l : List Nat) (w : Nat → Nat → Rat), Gw w → okP I w l → Irr I w → ruP w l = w
  | [], _, _, _, _ => rfl
  | c :: l, w, g, ⟨⟨k1, k2⟩, k3⟩, r => by
    have e := kr_0 g (r c k1 k2)
    rw [e] at k3
    show ruP (kr c w) l = w
    rw [e]
    exact irr_id l w g k3 r
set_option maxRecDepth 20000 in
theorem same_end (hI : ∀ c, I c → c < 5) : ∀ (l2 : List Nat) (w : Nat → Nat → Rat) (l : List Nat), Gw w → okP I w l → Irr I (ruP w l) → okP I w l2 → Irr I (ruP w l2) → ruP w l2 = ruP w l
  | [], w, l, g, k, _, _, r2 => (irr_id l w g k r2).symm
  | c :: l2, w, l, g, k, r, ⟨⟨k1, k2⟩, k3⟩, r2 => by
    obtain ⟨l3, m1, m2⟩ := strip hI l w g k r c k1 k2
    rw [← m2] at r ⊢
    exact same_end hI l2 (kr c w) l3 (kr_gw g) m1 r k3 r2
end
end
