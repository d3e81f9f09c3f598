/-! ===== reduced: numbers ===== -/
def nu (q : Rat) : Nat := q.num.toNat
section
variable {q p r : Rat} {d s k : Nat}
set_option maxRecDepth 20000 in
theorem qm_den (a : Rat) : a * ((a.den : Nat) : Rat) = (a.num : Rat) := by
  have e : (a.num : Rat) / ((a.den : Nat) : Rat) = a := by rw [← Rat.mkRat_eq_div, Rat.mkRat_self]
  have n : ((a.den : Nat) : Rat) ≠ 0 := fun z => a.den_nz (Rat.natCast_eq_zero_iff.mp z)
  generalize ((a.den : Nat) : Rat) = d at *
  generalize ((a.num : Int) : Rat) = m at *
  rw [← e]
  exact Rat.div_mul_cancel n
set_option maxRecDepth 20000 in
theorem q_mul (h : 0 ≤ q) : q * ((q.den : Nat) : Rat) = ((nu q : Nat) : Rat) := by
  have n := Rat.num_nonneg.mpr h
  have e : ((nu q : Nat) : Int) = q.num := by unfold nu; omega
  have e2 : ((nu q : Nat) : Rat) = (q.num : Rat) := by
    rw [← e]; rfl
  rw [e2]
  exact qm_den q
set_option maxRecDepth 20000 in
theorem nu_0 (h : 0 ≤ q) : nu q = 0 ↔ q = 0 := by
  have n := Rat.num_nonneg.mpr h
  rw [← Rat.num_eq_zero]
  unfold nu
  omega
set_option maxRecDepth 20000 in
theorem low (h : 0 ≤ r) (hd : 0 < d) (e : r * ((d : Nat) : Rat) = ((s : Nat) : Rat)) : s / Nat.gcd s d = nu r ∧ d / Nat.gcd s d = r.den ∧ r.den ∣ d := by
  have e1 := q_mul h
  have e2 : nu r * d = s * r.den := by
    have : ((nu r * d : Nat) : Rat) = ((s * r.den : Nat) : Rat) := by
      rw [Rat.natCast_mul, Rat.natCast_mul, ← e1, ← e]
      grind
    exact Rat.natCast_inj.mp this
  have cp : Nat.Coprime (nu r) r.den := by
    have := r.reduced
    have n := Rat.num_nonneg.mpr h
    unfold nu
    rwa [show r.num.toNat = r.num.natAbs by omega]
  have dv : r.den ∣ d := by
    have : r.den ∣ nu r * d := ⟨s, by rw [e2, Nat.mul_comm]⟩
    exact (Nat.Coprime.symm cp).dvd_of_dvd_mul_left this
  obtain ⟨k, ek⟩ := dv
  have p0 := r.den_pos
  have k0 : 0 < k := by
    rcases Nat.eq_zero_or_pos k with z | z
    · rw [z] at ek; omega
    · exact z
  have es : s = nu r * k := by
    rw [ek] at e2
    have : nu r * k * r.den = s * r.den := by rw [← e2]; grind
    exact (Nat.eq_of_mul_eq_mul_right p0 this).symm
  have eg : Nat.gcd s d = k := by
    rw [es, ek, Nat.gcd_mul_right, cp, Nat.one_mul]
  rw [eg]
  refine ⟨by rw [es, Nat.mul_div_cancel _ k0], by rw [ek, Nat.mul_div_cancel _ k0], ⟨k, ek⟩⟩
set_option maxRecDepth 20000 in
theorem nu_le (h : 0 ≤ q) (h2 : q ≤ ((k : Nat) : Rat)) : nu q ≤ k * q.den := by
  have e := q_mul h
  have p0 : (0 : Rat) ≤ ((q.den : Nat) : Rat) := Rat.natCast_nonneg
  have : ((nu q : Nat) : Rat) ≤ ((k * q.den : Nat) : Rat) := by
    rw [Rat.natCast_mul, ← e]
    have := Rat.mul_nonneg (a := (k : Rat) - q) (by grind) p0
    grind
  exact Rat.natCast_le_natCast.mp this
set_option maxRecDepth 20000 in
theorem nu_le2 (hp : 0 ≤ p) (hq : 0 ≤ q) (h2 : p + q ≤ ((k : Nat) : Rat)) : nu p * q.den + nu q * p.den ≤ k * (p.den * q.den) := by
  have e1 := q_mul hp
  have e2 := q_mul hq
  have p0 : (0 : Rat) ≤ ((p.den : Nat) : Rat) := Rat.natCast_nonneg
  have p1 : (0 : Rat) ≤ ((q.den : Nat) : Rat) := Rat.natCast_nonneg
  have : ((nu p * q.den + nu q * p.den : Nat) : Rat) ≤ ((k * (p.den * q.den) : Nat) : Rat) := by
    rw [Rat.natCast_add, Rat.natCast_mul, Rat.natCast_mul, Rat.natCast_mul, Rat.natCast_mul, ← e1, ← e2]
    have := Rat.mul_nonneg (a := (k : Rat) - (p + q)) (by grind) (Rat.mul_nonneg p0 p1)
    grind
  exact Rat.natCast_le_natCast.mp this
set_option maxRecDepth 20000 in
theorem den_of_nat (e : q = ((k : Nat) : Rat)) : q.den = 1 ∧ nu q = k := by
  subst e
  exact ⟨rfl, by show ((k : Int)).toNat = k; omega⟩
end

def Dn (d : Nat) (w : Nat → Nat → Rat) : Prop := ∀ x y, ∃ n : Nat, w x y * ((d : Nat) : Rat) = ((n : Nat) : Rat)
section
variable {w : Nat → Nat → Rat} {a b c d f t x y n : Nat}
set_option maxRecDepth 20000 in
theorem dn_den (hd : 0 < d) (h : Dn d w) (g : Gw w) : (w x y).den ≤ d := by
  obtain ⟨n, e⟩ := h x y
  exact Nat.le_of_dvd hd (low (g.2.2.1 x y) hd e).2.2
set_option maxRecDepth 20000 in
theorem dn_rs (h : Dn 1 w) : ∃ n : Nat, rs w c = ((n : Nat) : Rat) := by
  obtain ⟨n0, e0⟩ := h c 0
  obtain ⟨n1, e1⟩ := h c 1
  obtain ⟨n2, e2⟩ := h c 2
  obtain ⟨n3, e3⟩ := h c 3
  obtain ⟨n4, e4⟩ := h c 4
  refine ⟨n0 + n1 + n2 + n3 + n4, ?_⟩
  rw [Rat.natCast_add, Rat.natCast_add, Rat.natCast_add, Rat.natCast_add, ← e0, ← e1, ← e2, ← e3, ← e4]
  unfold rs
  grind
set_option maxRecDepth 20000 in
theorem dn_1 (h : Dn 1 w) (hb : rs w c ≤ 120) (h0 : rs w c ≠ 0) : ∃ d, 0 < d ∧ d ≤ 14400 ∧ Dn d (kr c w) := by
  obtain ⟨d, e⟩ := dn_rs (c := c) h
  have d1 : d ≤ 120 := by
    rw [e] at hb
    exact Rat.natCast_le_natCast (b := 120).mp hb
  have d0 : 0 < d := by
    rcases Nat.eq_zero_or_pos d with z | z
    · rw [z] at e; exact absurd e h0
    · exact z
  refine ⟨d, d0, by omega, fun x y => ?_⟩
  unfold kr
  by_cases z : x = c ∨ y = c ∨ x = y
  · rw [if_pos z]
    exact ⟨0, by grind⟩
  · rw [if_neg z]
    obtain ⟨m1, e1⟩ := h x y
    obtain ⟨m2, e2⟩ := h c x
    obtain ⟨m3, e3⟩ := h c y
    refine ⟨m1 * d + m2 * m3, ?_⟩
    rw [Rat.natCast_add, Rat.natCast_mul, Rat.natCast_mul, ← e1, ← e2, ← e3, ← e]
    generalize rs w c = s at *
    grind
set_option maxRecDepth 20000 in
theorem dn_2 (g : Gw w) (h : Dn 1 w) (ha : a < 5) (hc : c < 5) (hn : a ≠ c) (hba : rs w a ≤ 120) (hbc : rs w c ≤ 120) (h0 : rs w c ≠ 0) (h1 : rs (kr c w) a ≠ 0) : ∃ d, 0 < d ∧ d ≤ 14400 ∧ Dn d (kr a (kr c w)) := by
  obtain ⟨A, eA⟩ := dn_rs (c := a) h
  obtain ⟨C, eC⟩ := dn_rs (c := c) h
  obtain ⟨m, em⟩ := h c a
  have em : w c a = (m : Rat) := by rw [← em]; grind
  have A1 : A ≤ 120 := by
    rw [eA] at hba
    exact Rat.natCast_le_natCast (b := 120).mp hba
  have C1 : C ≤ 120 := by
    rw [eC] at hbc
    exact Rat.natCast_le_natCast (b := 120).mp hbc
  have mA : m ≤ A := by
    have := rs_ge (c := a) (y := c) g
    rw [g.1, em, eA] at this
    exact Rat.natCast_le_natCast.mp this
  have mC : m ≤ C := by
    have := rs_ge (c := c) (y := a) g
    rw [em, eC] at this
    exact Rat.natCast_le_natCast.mp this
  have es := kr_s g ha hc hn h0
  have D0 : kD w a c ≠ 0 := by
    intro z
    rw [z] at es
    grind
  have mm : m * m ≤ A * C := Nat.mul_le_mul mA mC
  have ac : A * C ≤ 120 * 120 := Nat.mul_le_mul A1 C1
  have eD : kD w a c = ((A * C - m * m : Nat) : Rat) := by
    have : ((A * C - m * m + m * m : Nat) : Rat) = ((A * C : Nat) : Rat) := by rw [Nat.sub_add_cancel mm]
    rw [Rat.natCast_add, Rat.natCast_mul, Rat.natCast_mul, ← eA, ← eC, ← em] at this
    unfold kD
    grind
  have D1 : 0 < A * C - m * m := by
    rcases Nat.eq_zero_or_pos (A * C - m * m) with z | z
    · rw [z] at eD; exact absurd eD D0
    · exact z
  refine ⟨A * C - m * m, D1, by omega, fun x y => ?_⟩
  rw [kr_two g ha hc hn h0 h1, ← eD]
  by_cases z : x = c ∨ y = c ∨ x = a ∨ y = a ∨ x = y
  · rw [if_pos z]
    exact ⟨0, by grind⟩
  · rw [if_neg z]
    obtain ⟨m1, e1⟩ := h x y
    obtain ⟨m2, e2⟩ := h c x
    obtain ⟨m3, e3⟩ := h c y
    obtain ⟨m4, e4⟩ := h a x
    obtain ⟨m5, e5⟩ := h a y
    refine ⟨m1 * (A * C - m * m) + (C * m4 * m5 + A * m2 * m3 + m * (m4 * m3 + m2 * m5)), ?_⟩
    rw [Rat.natCast_add, Rat.natCast_mul, ← eD]
    simp only [Rat.natCast_add, Rat.natCast_mul]
    rw [← e1, ← e2, ← e3, ← e4, ← e5, ← eA, ← eC, ← em]
    generalize kD w a c = D at *
    generalize rs w c = s at *
    generalize rs w a = t at *
    grind
/-! the numbers of one that is taken out with two tubes -/
set_option maxRecDepth 20000 in
theorem tk_num {p q r : Rat} (hd : d ≤ 14400) (hp : 0 ≤ p) (hq : 0 ≤ q) (hr : 0 ≤ r) (p1 : p.den ≤ d) (q1 : q.den ≤ d) (r1 : r.den ≤ d) (s1 : p + q ≤ 120) (s2 : r ≤ 120) : nu p ≤ 1728000 ∧ nu q ≤ 1728000 ∧ nu r ≤ 1728000 ∧ nu p * q.den + nu q * p.den ≤ 24883200000 ∧ (nu p * q.den + nu q * p.den) * r.den < 562949953421312 := by
  have a1 := nu_le (k := 120) hp (by have : p ≤ p + q := by grind
                                     exact Rat.le_trans this s1)
  have a2 := nu_le (k := 120) hq (by have : q ≤ p + q := by grind
                                     exact Rat.le_trans this s1)
  have a3 := nu_le (k := 120) hr s2
  have a4 := nu_le2 (k := 120) hp hq s1
  have b1 : p.den * q.den ≤ 14400 * 14400 := Nat.mul_le_mul (by omega) (by omega)
  have b2 : nu p * q.den + nu q * p.den ≤ 24883200000 := by omega
  have b3 : (nu p * q.den + nu q * p.den) * r.den ≤ 24883200000 * 14400 := Nat.mul_le_mul b2 (by omega)
  refine ⟨by omega, by omega, by omega, b2, by omega⟩

set_option maxRecDepth 20000 in
theorem tk_ser {p q : Rat} (hp : 0 ≤ p) (hq : 0 ≤ q) (h0 : p + q ≠ 0) : p * q * (p + q)⁻¹ * ((nu p * q.den + nu q * p.den : Nat) : Rat) = ((nu p * nu q : Nat) : Rat) := by
  rw [Rat.natCast_add, Rat.natCast_mul, Rat.natCast_mul, Rat.natCast_mul, ← q_mul hp, ← q_mul hq]
  generalize ((p.den : Nat) : Rat) = m
  generalize ((q.den : Nat) : Rat) = n
  grind
set_option maxRecDepth 20000 in
theorem tk_par {p q : Rat} (hp : 0 ≤ p) (hq : 0 ≤ q) : (p + q) * ((p.den * q.den : Nat) : Rat) = ((nu p * q.den + nu q * p.den : Nat) : Rat) := by
  rw [Rat.natCast_add, Rat.natCast_mul, Rat.natCast_mul, Rat.natCast_mul, ← q_mul hp, ← q_mul hq]
  grind
set_option maxRecDepth 20000 in
theorem jo_eq {q z : Rat} {u l : Nat} (hq : 0 ≤ q) (e : z * ((l : Nat) : Rat) = ((u : Nat) : Rat)) : (q + z) * ((l * q.den : Nat) : Rat) = ((nu q * l + u * q.den : Nat) : Rat) := by
  rw [Rat.natCast_add, Rat.natCast_mul, Rat.natCast_mul, Rat.natCast_mul, ← q_mul hq, ← e]
  grind
set_option maxRecDepth 20000 in
theorem tk_pos {p q : Rat} (hp : 0 ≤ p) (hq : 0 ≤ q) (h0 : p + q ≠ 0) : 0 < nu p * q.den + nu q * p.den := by
  by_cases z : p = 0
  · have : nu q ≠ 0 := fun e => h0 (by rw [z, (nu_0 hq).mp e]; grind)
    have := Nat.mul_pos (Nat.pos_of_ne_zero this) p.den_pos
    omega
  · have : nu p ≠ 0 := fun e => z ((nu_0 hp).mp e)
    have := Nat.mul_pos (Nat.pos_of_ne_zero this) q.den_pos
    omega
theorem tk_nn {p q : Rat} (hp : 0 ≤ p) (hq : 0 ≤ q) : 0 ≤ p * q * (p + q)⁻¹ := Rat.mul_nonneg (Rat.mul_nonneg hp hq) (inv_nn (by grind))
set_option maxRecDepth 20000 in
theorem rs_two (h : ∀ i, w c i ≠ 0 → i = x ∨ i = y) (hn : x ≠ y) (hx : x < 5) (hy : y < 5) : rs w c = w c x + w c y := by
  have z : ∀ i, i ≠ x → i ≠ y → w c i = 0 := fun i h1 h2 => by
    by_cases e : w c i = 0
    · exact e
    · have := h i e
      omega
  unfold rs
  rcases (by omega : x = 0 ∨ x = 1 ∨ x = 2 ∨ x = 3 ∨ x = 4) with rfl | rfl | rfl | rfl | rfl <;> rcases (by omega : y = 0 ∨ y = 1 ∨ y = 2 ∨ y = 3 ∨ y = 4) with rfl | rfl | rfl | rfl | rfl <;> first
    | exact absurd rfl hn
    | (have z0 := z 0; have z1 := z 1; have z2 := z 2; have z3 := z 3; have z4 := z 4
       simp at z0 z1 z2 z3 z4
       grind)
set_option maxRecDepth 20000 in
theorem rs_one (h : ∀ i, w c i ≠ 0 → i = x) (hx : x < 5) : rs w c = w c x := by
  have z : ∀ i, i ≠ x → w c i = 0 := fun i h1 => by
    by_cases e : w c i = 0
    · exact e
    · exact absurd (h i e) h1
  unfold rs
  rcases (by omega : x = 0 ∨ x = 1 ∨ x = 2 ∨ x = 3 ∨ x = 4) with rfl | rfl | rfl | rfl | rfl <;>
    (have z0 := z 0; have z1 := z 1; have z2 := z 2; have z3 := z 3; have z4 := z 4
     simp at z0 z1 z2 z3 z4
     grind)
set_option maxRecDepth 20000 in
theorem gw_in (g : Gw w) (h : w c x ≠ 0) : x < 5 := by
  by_cases z : x < 5
  · exact z
  · have := g.2.2.2 x c (by omega)
    rw [g.1] at this
    exact absurd this h
def Inn (f t c : Nat) : Prop := c < 5 ∧ c ≠ f ∧ c ≠ t
def Bdd (f t : Nat) (w0 w : Nat → Nat → Rat) : Prop := w = w0 ∨ (∃ c, Inn f t c ∧ rs w0 c ≠ 0 ∧ w = kr c w0) ∨ (∃ c a, Inn f t c ∧ Inn f t a ∧ a ≠ c ∧ rs w0 c ≠ 0 ∧ rs (kr c w0) a ≠ 0 ∧ w = kr a (kr c w0)) ∨ ((∀ c, Inn f t c → rs w c = 0) ∧ ∀ x y, (w x y).den < 562949953421312)
def W0 (w0 : Nat → Nat → Rat) : Prop := Gw w0 ∧ Dn 1 w0 ∧ ∀ c, c < 5 → rs w0 c ≤ 120
section
variable {w0 : Nat → Nat → Rat}
set_option maxRecDepth 20000 in
theorem bd_use (h0 : W0 w0) (h : Bdd f t w0 w) : (∃ d, 0 < d ∧ d ≤ 14400 ∧ Dn d w) ∨ ((∀ c, Inn f t c → rs w c = 0) ∧ ∀ x y, (w x y).den < 562949953421312) := by
  obtain ⟨g, d1, b⟩ := h0
  rcases h with rfl | ⟨c, i1, i2, rfl⟩ | ⟨c, a, i1, i2, i3, i4, i5, rfl⟩ | h
  · exact Or.inl ⟨1, by decide, by decide, d1⟩
  · exact Or.inl (dn_1 d1 (b c i1.1) i2)
  · exact Or.inl (dn_2 g d1 i2.1 i1.1 i3 (b a i2.1) (b c i1.1) i4 i5)
  · exact Or.inr h
set_option maxRecDepth 20000 in
theorem bd_fin (h0 : W0 w0) (g : Gw w) (h : Bdd f t w0 w) (x y : Nat) : (w x y).den < 562949953421312 := by
  rcases bd_use h0 h with ⟨d, k1, k2, k3⟩ | h
  · have := dn_den (x := x) (y := y) k1 k3 g
    omega
  · exact h.2 x y
set_option maxRecDepth 20000 in
theorem six (h1 : f ≠ t) (hf : f < 5) (ht : t < 5) (ha : Inn f t a) (hb : Inn f t b) (hc : Inn f t c) (n1 : a ≠ b) (n2 : a ≠ c) (n3 : b ≠ c) (hx : Inn f t x) : x = a ∨ x = b ∨ x = c := by
  obtain ⟨a1, a2, a3⟩ := ha
  obtain ⟨b1, b2, b3⟩ := hb
  obtain ⟨c1, c2, c3⟩ := hc
  obtain ⟨x1, x2, x3⟩ := hx
  omega
set_option maxRecDepth 20000 in
theorem kr_two_n (g : Gw w) (h2 : T2 w c) (hx : w c x ≠ 0) (hy : w c y ≠ 0) (hn : x ≠ y) : rs w c = w c x + w c y := by
  obtain ⟨p, q, h2⟩ := h2
  refine rs_two (fun i hi => ?_) hn (gw_in g hx) (gw_in g hy)
  have := h2 i hi
  have := h2 x hx
  have := h2 y hy
  omega
set_option maxRecDepth 20000 in
theorem bd_step (h0 : W0 w0) (h1 : f ≠ t) (hf : f < 5) (ht : t < 5) (g : Gw w) (hb : ∀ c, c < 5 → rs w c ≤ 120) (h : Bdd f t w0 w) (hc : Inn f t c) (h2 : T2 w c) : Bdd f t w0 (kr c w) := by
  by_cases z : rs w c = 0
  · rw [kr_0 g z]; exact h
  have us := bd_use h0 h
  rcases h with rfl | ⟨e, i1, i2, rfl⟩ | ⟨e, a, i1, i2, i3, i4, i5, rfl⟩ | h
  · exact Or.inr (Or.inl ⟨c, hc, z, rfl⟩)
  · refine Or.inr (Or.inr (Or.inl ⟨e, c, i1, hc, fun q => ?_, i2, z, rfl⟩))
    subst q
    exact z (rs_of0 (kr_c h0.1))
  · have ge := kr_gw (c := e) h0.1
    have nca : c ≠ a := fun q => by
      subst q
      exact z (rs_of0 (kr_c ge))
    have nce : c ≠ e := fun q => by
      subst q
      exact z (kr_keep ge (rs_of0 (kr_c h0.1)))
    rcases us with ⟨d, k1, k2, k3⟩ | us
    case inr => exact absurd (us.1 c hc) z
    refine Or.inr (Or.inr (Or.inr ⟨fun x hx => ?_, fun x y => ?_⟩))
    · rcases six h1 hf ht i1 i2 hc (fun q => i3 q.symm) (fun q => nce q.symm) (fun q => nca q.symm) hx with rfl | rfl | rfl
      · exact kr_keep g (kr_keep ge (rs_of0 (kr_c h0.1)))
      · exact kr_keep g (rs_of0 (kr_c ge))
      · exact rs_of0 (kr_c g)
    · generalize kr a (kr e w0) = w at *
      have dx : ∀ x y, (w x y).den ≤ d := fun x y => dn_den k1 k3 g
      unfold kr
      by_cases z1 : x = c ∨ y = c ∨ x = y
      · rw [if_pos z1]; decide
      · rw [if_neg z1]
        by_cases z2 : w c x = 0
        · have : w x y + w c x * w c y * (rs w c)⁻¹ = w x y := by rw [z2]; grind
          rw [this]
          have := dx x y
          omega
        · by_cases z3 : w c y = 0
          · have : w x y + w c x * w c y * (rs w c)⁻¹ = w x y := by rw [z3]; grind
            rw [this]
            have := dx x y
            omega
          · have es := kr_two_n g h2 z2 z3 (by omega)
            have bc := hb c hc.1
            rw [es] at bc z ⊢
            have hp := g.2.2.1 c x
            have hq := g.2.2.1 c y
            have hr := g.2.2.1 x y
            have rb : w x y ≤ 120 := Rat.le_trans (rs_ge (c := x) (y := y) g) (hb x (gw_in g z2))
            obtain ⟨m1, m2, m3, m4, m5⟩ := tk_num k2 hp hq hr (dx c x) (dx c y) (dx x y) bc rb
            have e1 := jo_eq (q := w x y) (z := w c x * w c y * (w c x + w c y)⁻¹) hr (tk_ser hp hq z)
            have lw := low (r := w x y + w c x * w c y * (w c x + w c y)⁻¹) (by have := tk_nn hp hq; grind) (Nat.mul_pos (tk_pos hp hq z) (w x y).den_pos) e1
            have := Nat.le_of_dvd (Nat.mul_pos (tk_pos hp hq z) (w x y).den_pos) lw.2.2
            omega
  · exact absurd (h.1 c hc) z
end
end
