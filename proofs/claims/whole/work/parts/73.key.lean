/-! ===== the key of a line ===== -/
def dX (X : Nat → Int32) (t : Nat) : Nat := (X (28 + 4 * t + 2)).toNatClampNeg
def gsm (X : Nat → Int32) (i j : Nat) : Nat → Nat
  | 0 => 0
  | t + 1 => gsm X i j t + if oX X t = true ∧ ((fX X t = i ∧ gX X t = j) ∨ (fX X t = j ∧ gX X t = i)) then dX X t else 0
def pX (X : Nat → Int32) (p s : Nat) : Nat := (X (68 + 9 * p + s)).toNatClampNeg
def ldX (X : Nat → Int32) (c : Nat) : Nat := (X (8 + 4 * c)).toNatClampNeg + (X (8 + 4 * c + 1)).toNatClampNeg * (X (8 + 4 * c + 2)).toNatClampNeg / 64
def lkX (X : Nat → Int32) (c : Nat) : Nat := if X 5 = nI c then 2 * (X 6).toNatClampNeg else if nI 10 ≤ X 5 ∧ (fX X ((X 5).toNatClampNeg - 10) = c ∨ gX X ((X 5).toNatClampNeg - 10) = c) then (X 6).toNatClampNeg else 0
def kyN (X : Nat → Int32) (nc nt np hA hB i : Nat) : Nat :=
  if i = 0 then nc else if i = 1 then hA else if i = 2 then hB else if i < 28 then gsm X ((i - 3) / 5) ((i - 3) % 5) nt
  else if i < 43 then (if (i - 28) / 5 < np ∧ pX X ((i - 28) / 5) 1 ≠ 0 then pX X ((i - 28) / 5) ((i - 28) % 5) else 0)
  else if i < 49 then (if (i - 43) / 2 < np ∧ pX X ((i - 43) / 2) 1 ≠ 0 then pX X ((i - 43) / 2) (5 + (i - 43) % 2) else 0)
  else if i < 54 then (if i - 49 < nc then 2 * ldX X (i - 49) + lkX X (i - 49) else 0) else 0
section
variable {X : Nat → Int32} {nc nt np nw tm hA hB : Nat}
theorem ky_0 : kyN X nc nt np hA hB 0 = nc := rfl
theorem ky_1 : kyN X nc nt np hA hB 1 = hA := rfl
theorem ky_2 : kyN X nc nt np hA hB 2 = hB := rfl
set_option maxRecDepth 20000 in
theorem ky_g {i j : Nat} (hi : i < 5) (hj : j < 5) : kg (kyN X nc nt np hA hB) i j = gsm X i j nt := by
  unfold kg kyN
  rw [if_neg (by omega), if_neg (by omega), if_neg (by omega), if_pos (by omega), show (3 + 5 * i + j - 3) / 5 = i by omega, show (3 + 5 * i + j - 3) % 5 = j by omega]
set_option maxRecDepth 20000 in
theorem ky_e {p s : Nat} (hp : p < 3) (hs : s < 5) : kyN X nc nt np hA hB (28 + 5 * p + s) = if p < np ∧ pX X p 1 ≠ 0 then pX X p s else 0 := by
  unfold kyN
  rw [if_neg (by omega), if_neg (by omega), if_neg (by omega), if_neg (by omega), if_pos (by omega), show (28 + 5 * p + s - 28) / 5 = p by omega, show (28 + 5 * p + s - 28) % 5 = s by omega]
set_option maxRecDepth 20000 in
theorem ky_b {p s : Nat} (hp : p < 3) (hs : s < 2) : kyN X nc nt np hA hB (43 + 2 * p + s) = if p < np ∧ pX X p 1 ≠ 0 then pX X p (5 + s) else 0 := by
  unfold kyN
  rw [if_neg (by omega), if_neg (by omega), if_neg (by omega), if_neg (by omega), if_neg (by omega), if_pos (by omega), show (43 + 2 * p + s - 43) / 2 = p by omega, show (43 + 2 * p + s - 43) % 2 = s by omega]
set_option maxRecDepth 20000 in
theorem ky_c {c : Nat} (hc : c < 5) : kyN X nc nt np hA hB (49 + c) = if c < nc then 2 * ldX X c + lkX X c else 0 := by
  unfold kyN
  rw [if_neg (by omega), if_neg (by omega), if_neg (by omega), if_neg (by omega), if_neg (by omega), if_neg (by omega), if_pos (by omega), show 49 + c - 49 = c by omega]
set_option maxRecDepth 20000 in
theorem ky_o {i : Nat} (h : 54 ≤ i) : kyN X nc nt np hA hB i = 0 := by
  unfold kyN
  rw [if_neg (by omega), if_neg (by omega), if_neg (by omega), if_neg (by omega), if_neg (by omega), if_neg (by omega), if_neg (by omega)]
/-! a pump of the row, by its numbers -/
set_option maxRecDepth 20000 in
theorem pumpX {p tB : Nat} (hc : nc ≤ 5) (ht : tm ≤ 9999) (h : VxP X nc tB p) : (∀ s, s < 9 → X (68 + 9 * p + s) = nI (pX X p s) ∧ pX X p s ≤ 10000) ∧ pX X p 0 < nc ∧ pX X p 1 ≤ 1 ∧ pX X p 2 ≤ 40 ∧ pX X p 3 ≤ 40 ∧ pX X p 4 ≤ 40 ∧ 1 ≤ pX X p 5 ∧ pX X p 5 < pX X p 6 ∧ pX X p 6 ≤ 9999 := by
  obtain ⟨a, o, s0, s1, s2, b0, b1, tr, td, ⟨v0, v1, v2, v3, v4, v5, v6, v7, v8⟩, w0, w1, w2, w3, w4, w5, w6, w7, w8, w9, w10, w11⟩ := h
  have key : ∀ s x, X (68 + 9 * p + s) = nI x → x ≤ 10000 → pX X p s = x := fun s x e hx => by unfold pX; rw [e, nI_clamp (by omega)]
  have e0 := key 0 a v0 (by omega)
  have e1 := key 1 o v1 (by omega)
  have e2 := key 2 s0 v2 (by omega)
  have e3 := key 3 s1 v3 (by omega)
  have e4 := key 4 s2 v4 (by omega)
  have e5 := key 5 b0 v5 (by omega)
  have e6 := key 6 b1 v6 (by omega)
  have e7 := key 7 tr v7 (by omega)
  have e8 := key 8 td v8 (by omega)
  refine ⟨fun s hs => ?_, by omega, by omega, by omega, by omega, by omega, by omega, by omega, by omega⟩
  rcases (by omega : s = 0 ∨ s = 1 ∨ s = 2 ∨ s = 3 ∨ s = 4 ∨ s = 5 ∨ s = 6 ∨ s = 7 ∨ s = 8) with rfl | rfl | rfl | rfl | rfl | rfl | rfl | rfl | rfl
  · rw [e0]; exact ⟨v0, by omega⟩
  · rw [e1]; exact ⟨v1, by omega⟩
  · rw [e2]; exact ⟨v2, by omega⟩
  · rw [e3]; exact ⟨v3, by omega⟩
  · rw [e4]; exact ⟨v4, by omega⟩
  · rw [e5]; exact ⟨v5, by omega⟩
  · rw [e6]; exact ⟨v6, by omega⟩
  · rw [e7]; exact ⟨v7, by omega⟩
  · rw [e8]; exact ⟨v8, by omega⟩
set_option maxRecDepth 20000 in
theorem dX_e {t : Nat} (hc : nc ≤ 5) (h : VxT X nc t) : X (28 + 4 * t + 2) = nI (dX X t) ∧ 1 ≤ dX X t ∧ dX X t ≤ 12 := by
  obtain ⟨d, oo, -, -, -, -, -, v6, v7, v8, -⟩ := tubeX hc h
  have : dX X t = d := by unfold dX; rw [v6, nI_clamp (by omega)]
  rw [this]
  exact ⟨v6, v7, v8⟩
/-! the weight by numbers -/
def wTn (X : Nat → Int32) (c : Nat) : Nat → Nat
  | 0 => 0
  | t + 1 => wTn X c t + if fX X t = c ∨ gX X t = c then dX X t else 0
def wPn (X : Nat → Int32) (c : Nat) : Nat → Nat
  | 0 => 0
  | p + 1 => wPn X c p + if pX X p 0 = c then max (pX X p 2) (max (pX X p 3) (pX X p 4)) else 0
set_option maxRecDepth 20000 in
theorem wT_n (hc : nc ≤ 5) {c : Nat} (h5 : c < 5) : ∀ n, (∀ t, t < n → VxT X nc t) → wtT X (nI c) n = nI (wTn X c n) ∧ wTn X c n ≤ 12 * n
  | 0, _ => ⟨rfl, Nat.le_refl 0⟩
  | n + 1, h => by
    obtain ⟨i1, i2⟩ := wT_n hc h5 n (fun t ht => h t (by omega))
    obtain ⟨d, oo, v1, v2, v3, v4, v5, -⟩ := tubeX hc (h n (by omega))
    obtain ⟨d1, d2, d3⟩ := dX_e hc (h n (by omega))
    simp only [wtT, wTn]
    rw [i1, v1, v2, d1]
    have e1 : (nI (fX X n) = nI c) = (fX X n = c) := propext (nI_eq (by omega) (by omega))
    have e2 : (nI (gX X n) = nI c) = (gX X n = c) := propext (nI_eq (by omega) (by omega))
    simp only [e1, e2]
    by_cases q : fX X n = c ∨ gX X n = c
    · rw [if_pos q, if_pos q, nI_add]
      exact ⟨rfl, by omega⟩
    · rw [if_neg q, if_neg q]
      exact ⟨nI_add _ 0, by omega⟩
set_option maxRecDepth 20000 in
theorem gsp_n {p tB : Nat} (hc : nc ≤ 5) (ht : tm ≤ 9999) (h : VxP X nc tB p) : gsp X p 3 = nI (max (pX X p 2) (max (pX X p 3) (pX X p 4))) := by
  obtain ⟨a, a0, a1, a2, a3, a4, -⟩ := pumpX hc ht h
  have e0 := (a 2 (by decide)).1
  have e1 := (a 3 (by decide)).1
  have e2 := (a 4 (by decide)).1
  simp (disch := omega) only [gsp, e0, e1, e2, Nat.add_zero, lit32, mx_nI]
  congr 1
  omega
set_option maxRecDepth 20000 in
theorem wP_n (hc : nc ≤ 5) (ht : tm ≤ 9999) {c z tB : Nat} (h5 : c < 5) : ∀ n, (∀ p, p < n → VxP X nc tB p) → wtP X (nI c) (nI z) n = nI (z + wPn X c n) ∧ wPn X c n ≤ 40 * n
  | 0, _ => ⟨rfl, Nat.le_refl 0⟩
  | n + 1, h => by
    obtain ⟨i1, i2⟩ := wP_n hc ht (z := z) h5 n (fun t ht => h t (by omega))
    obtain ⟨a, a0, a1, a2, a3, a4, -⟩ := pumpX hc ht (h n (by omega))
    simp only [wtP, wPn]
    have z0 := (a 0 (by decide)).1
    rw [Nat.add_zero] at z0
    rw [i1, z0, gsp_n hc ht (h n (by omega))]
    have e1 : (nI (pX X n 0) = nI c) = (pX X n 0 = c) := propext (nI_eq (by omega) (by omega))
    simp only [e1]
    by_cases q : pX X n 0 = c
    · rw [if_pos q, if_pos q, nI_add]
      exact ⟨by rw [Nat.add_assoc], by omega⟩
    · rw [if_neg q, if_neg q]
      exact ⟨nI_add _ 0, by omega⟩
set_option maxRecDepth 20000 in
theorem wt_le {tB : Nat} (hv : VxB X nc nt np nw tm tB) {c : Nat} (h : c < nc) : wtP X (nI c) (wtT X (nI c) nt) np = nI (wTn X c nt + wPn X c np) ∧ wTn X c nt + wPn X c np ≤ 120 := by
  have hb := hv.2.1
  obtain ⟨a1, a2⟩ := wT_n hb.1 (c := c) (by omega) nt hv.2.2.2.2.1
  obtain ⟨b1, b2⟩ := wP_n hb.1 hb.2.2.2.2 (c := c) (z := wTn X c nt) (by omega) np hv.2.2.2.2.2.1
  obtain ⟨k, e, hk⟩ := hv.2.2.2.2.2.2.2.1 c h
  rw [a1, b1] at e ⊢
  have := (nI_eq (by omega) (by omega)).mp e
  exact ⟨rfl, by omega⟩
/-! the sums of pairs -/
set_option maxRecDepth 20000 in
theorem gsm_symm {i j : Nat} : ∀ n, gsm X i j n = gsm X j i n
  | 0 => rfl
  | n + 1 => by
    simp only [gsm]
    rw [gsm_symm n]
    congr 1
    by_cases q : oX X n = true ∧ ((fX X n = i ∧ gX X n = j) ∨ (fX X n = j ∧ gX X n = i))
    · rw [if_pos q, if_pos ⟨q.1, q.2.symm⟩]
    · rw [if_neg q, if_neg (fun z => q ⟨z.1, z.2.symm⟩)]
set_option maxRecDepth 20000 in
theorem gsm_zero {i j : Nat} : ∀ n, (∀ t, t < n → ¬ (oX X t = true ∧ ((fX X t = i ∧ gX X t = j) ∨ (fX X t = j ∧ gX X t = i)))) → gsm X i j n = 0
  | 0, _ => rfl
  | n + 1, h => by
    simp only [gsm]
    rw [gsm_zero n (fun t ht => h t (by omega)), if_neg (h n (by omega))]
set_option maxRecDepth 20000 in
theorem gsm_pos {i j t : Nat} (hd : 1 ≤ dX X t) (h : oX X t = true ∧ ((fX X t = i ∧ gX X t = j) ∨ (fX X t = j ∧ gX X t = i))) : ∀ n, t < n → gsm X i j n ≠ 0
  | 0, z => by omega
  | n + 1, z => by
    simp only [gsm]
    by_cases e : t = n
    · subst e
      rw [if_pos h]
      omega
    · have := gsm_pos hd h n (by omega)
      omega
set_option maxRecDepth 20000 in
theorem pair5 {f g i D : Nat} (hn : f ≠ g) (hf : f < 5) (hg : g < 5) : (if (f = i ∧ g = 0) ∨ (f = 0 ∧ g = i) then D else 0) + (if (f = i ∧ g = 1) ∨ (f = 1 ∧ g = i) then D else 0) + (if (f = i ∧ g = 2) ∨ (f = 2 ∧ g = i) then D else 0) + (if (f = i ∧ g = 3) ∨ (f = 3 ∧ g = i) then D else 0) + (if (f = i ∧ g = 4) ∨ (f = 4 ∧ g = i) then D else 0) ≤ if f = i ∨ g = i then D else 0 := by
  by_cases a : f = i
  · subst a
    have e : ∀ j, (if (f = f ∧ g = j) ∨ (f = j ∧ g = f) then D else 0) = if g = j then D else 0 := fun j => by
      by_cases q : g = j
      · rw [if_pos (Or.inl ⟨rfl, q⟩), if_pos q]
      · rw [if_neg (by omega), if_neg q]
    rw [e, e, e, e, e, if_pos (Or.inl rfl)]
    rcases (by omega : g = 0 ∨ g = 1 ∨ g = 2 ∨ g = 3 ∨ g = 4) with z | z | z | z | z <;> simp [z]
  · by_cases b : g = i
    · subst b
      have e : ∀ j, (if (f = g ∧ g = j) ∨ (f = j ∧ g = g) then D else 0) = if f = j then D else 0 := fun j => by
        by_cases q : f = j
        · rw [if_pos (Or.inr ⟨q, rfl⟩), if_pos q]
        · rw [if_neg (by omega), if_neg q]
      rw [e, e, e, e, e, if_pos (Or.inr rfl)]
      rcases (by omega : f = 0 ∨ f = 1 ∨ f = 2 ∨ f = 3 ∨ f = 4) with z | z | z | z | z <;> simp [z]
    · have e : ∀ j, (if (f = i ∧ g = j) ∨ (f = j ∧ g = i) then D else 0) = 0 := fun j => if_neg (by omega)
      rw [e, e, e, e, e]
      exact Nat.zero_le _
set_option maxRecDepth 20000 in
theorem gsm_sum {i : Nat} (hc : nc ≤ 5) : ∀ n, (∀ t, t < n → VxT X nc t) → gsm X i 0 n + gsm X i 1 n + gsm X i 2 n + gsm X i 3 n + gsm X i 4 n ≤ wTn X i n
  | 0, _ => Nat.le_refl 0
  | n + 1, h => by
    have ih := gsm_sum (i := i) hc n (fun t ht => h t (by omega))
    obtain ⟨d, oo, v1, v2, v3, v4, v5, -⟩ := tubeX hc (h n (by omega))
    simp only [gsm, wTn]
    have key : ∀ j, (if oX X n = true ∧ ((fX X n = i ∧ gX X n = j) ∨ (fX X n = j ∧ gX X n = i)) then dX X n else 0) ≤ if (fX X n = i ∧ gX X n = j) ∨ (fX X n = j ∧ gX X n = i) then dX X n else 0 := fun j => by
      by_cases q : oX X n = true ∧ ((fX X n = i ∧ gX X n = j) ∨ (fX X n = j ∧ gX X n = i))
      · rw [if_pos q, if_pos q.2]; exact Nat.le_refl _
      · rw [if_neg q]; exact Nat.zero_le _
    have k0 := key 0
    have k1 := key 1
    have k2 := key 2
    have k3 := key 3
    have k4 := key 4
    have tot := pair5 (i := i) (D := dX X n) v5 (by omega) (by omega)
    omega
set_option maxRecDepth 20000 in
theorem ldX_e {tB : Nat} (hv : VxB X nc nt np nw tm tB) {c : Nat} (hc : c < nc) : X (8 + 4 * c) + X (8 + 4 * c + 1) * X (8 + 4 * c + 2) / nI 64 = nI (ldX X c) ∧ ldX X c ≤ 801 := by
  obtain ⟨⟨a, a1, a2⟩, ⟨b, b1, b2⟩, ⟨d, d1, d2⟩, -⟩ := hv.2.2.2.1 c hc
  have e : ldX X c = a + b * d / 64 := by unfold ldX; rw [a1, b1, d1, nI_clamp (by omega), nI_clamp (by omega), nI_clamp (by omega)]
  have m : b * d ≤ 4999 * 9 := Nat.mul_le_mul b2 d2
  rw [e, a1, b1, d1, pk_mul, pk_div (by omega) (by decide) (by decide), nI_add]
  exact ⟨rfl, by omega⟩
set_option maxRecDepth 20000 in
theorem lkX_le {tB : Nat} (hv : VxB X nc nt np nw tm tB) {c : Nat} : lkX X c ≤ 120 := by
  have : (X 6).toNatClampNeg ≤ 60 := by
    rcases hv.2.2.1 with ⟨-, z⟩ | ⟨j, s, -, z, z1, z2, -⟩
    · rw [z]; decide
    · rw [z, nI_clamp (by omega)]; exact z2
  unfold lkX
  (repeat' split) <;> omega
/-! what a helper may be -/
def Hl (X : Nat → Int32) (nc nt np hA hB : Nat) : Prop := (hA = 9 ∧ hB = 0) ∨ (hA < nc ∧ hB ≤ 40 ∧ wTn X hA nt + wPn X hA np + hB ≤ 160)
set_option maxRecDepth 20000 in
theorem ky_good {tB : Nat} (hv : VxB X nc nt np nw tm tB) (hh : Hl X nc nt np hA hB) : GK (kyN X nc nt np hA hB) := by
  have hb := hv.2.1
  have tu := hv.2.2.2.2.1
  have pu := hv.2.2.2.2.2.1
  have pe : ∀ p s, p < 3 → s < 5 → kyN X nc nt np hA hB (28 + 5 * p + s) = 0 ∨ (p < np ∧ kyN X nc nt np hA hB (28 + 5 * p + s) = pX X p s ∧ kyN X nc nt np hA hB (28 + 5 * p) = pX X p 0) := fun p s hp hs => by
    rw [ky_e hp hs]
    have e0 := ky_e (X := X) (nc := nc) (nt := nt) (np := np) (hA := hA) (hB := hB) hp (by decide : 0 < 5)
    rw [Nat.add_zero] at e0
    by_cases q : p < np ∧ pX X p 1 ≠ 0
    · rw [if_pos q] at e0
      rw [if_pos q]
      exact Or.inr ⟨q.1, rfl, e0⟩
    · rw [if_neg q]; exact Or.inl rfl
  have p0 : ∀ p, p < 3 → kyN X nc nt np hA hB (28 + 5 * p) < 5 := fun p hp => by
    rcases pe p 0 hp (by decide) with z | ⟨z1, z2, z3⟩
    · rw [Nat.add_zero] at z; omega
    · have := (pumpX hb.1 hb.2.2.2.2 (pu p z1)).2.1
      omega
  have gz : ∀ i j, i < 5 → j < 5 → nc ≤ i → gsm X i j nt = 0 := fun i j hi hj h => gsm_zero nt (fun t ht q => by
    have := ends_lt hv t ht q.1
    omega)
  refine ⟨hb.1, fun i j hi hj => ?_, fun i hi => ?_, fun i j hi hj h => ?_, ?_, fun p s hp hs => ⟨?_, p0 p hp⟩, fun r i hr hi => ?_, fun p hp hz => ?_, fun c hc => ?_, fun c hc h => ?_⟩
  · rw [ky_g hi hj, ky_g hj hi]; exact gsm_symm nt
  · rw [ky_g hi hi]
    refine gsm_zero nt (fun t ht q => ?_)
    obtain ⟨d, oo, -, -, -, -, v5, -⟩ := tubeX hb.1 (tu t ht)
    omega
  · rw [ky_g hi hj]; exact gz i j hi hj h
  · rw [ky_0, ky_1, ky_2]
    rcases hh with h | h
    · exact Or.inl h.2
    · exact Or.inr h.1
  · rw [ky_0]
    rcases pe p (2 + s) hp (by omega) with z | ⟨z1, z2, z3⟩
    · exact Or.inl (by rw [Nat.add_assoc]; exact z)
    · have := (pumpX hb.1 hb.2.2.2.2 (pu p z1)).2.1
      exact Or.inr (by omega)
  · unfold kwt
    rw [ky_g hi (by decide), ky_g hi (by decide), ky_g hi (by decide), ky_g hi (by decide), ky_g hi (by decide)]
    have s1 := gsm_sum (X := X) (nc := nc) (i := i) hb.1 nt tu
    rcases Nat.lt_or_ge i nc with q | q
    · have wl := (wt_le hv q).2
      have sp : ksp (kyN X nc nt np hA hB) r i ≤ (if i = hA then hB else 0) + wPn X i np := by
        have one : ∀ p, p < 3 → (if kyN X nc nt np hA hB (28 + 5 * p) = i then kyN X nc nt np hA hB (28 + 5 * p + 2 + dg r p) else 0) ≤ if p < np ∧ pX X p 0 = i then max (pX X p 2) (max (pX X p 3) (pX X p 4)) else 0 := fun p hp => by
          have dl := dg_lt (r := r) (p := p)
          rw [Nat.add_assoc]
          rcases pe p (2 + dg r p) hp (by omega) with z | ⟨z1, z2, z3⟩
          · rw [z]; split <;> omega
          · rw [z2, z3]
            by_cases y : pX X p 0 = i
            · rw [if_pos y, if_pos ⟨z1, y⟩]
              rcases (by omega : dg r p = 0 ∨ dg r p = 1 ∨ dg r p = 2) with w | w | w
              · rw [w, show 2 + 0 = 2 from rfl]; omega
              · rw [w, show 2 + 1 = 3 from rfl]; omega
              · rw [w, show 2 + 2 = 4 from rfl]; omega
            · rw [if_neg y]; omega
        have o0 := one 0 (by decide)
        have o1 := one 1 (by decide)
        have o2 := one 2 (by decide)
        have tot : (if 0 < np ∧ pX X 0 0 = i then max (pX X 0 2) (max (pX X 0 3) (pX X 0 4)) else 0) + (if 1 < np ∧ pX X 1 0 = i then max (pX X 1 2) (max (pX X 1 3) (pX X 1 4)) else 0) + (if 2 < np ∧ pX X 2 0 = i then max (pX X 2 2) (max (pX X 2 3) (pX X 2 4)) else 0) = wPn X i np := by
          have h3 := hb.2.2.1
          rcases (by omega : np = 0 ∨ np = 1 ∨ np = 2 ∨ np = 3) with w | w | w | w <;> subst w <;> simp [wPn]
        have e : ksp (kyN X nc nt np hA hB) r i = (if i = hA then hB else 0) + (if kyN X nc nt np hA hB (28 + 5 * 0) = i then kyN X nc nt np hA hB (28 + 5 * 0 + 2 + dg r 0) else 0) + (if kyN X nc nt np hA hB (28 + 5 * 1) = i then kyN X nc nt np hA hB (28 + 5 * 1 + 2 + dg r 1) else 0) + (if kyN X nc nt np hA hB (28 + 5 * 2) = i then kyN X nc nt np hA hB (28 + 5 * 2 + 2 + dg r 2) else 0) := rfl
        rw [e]
        omega
      rcases hh with ⟨h1, h2⟩ | ⟨h1, h2, h3⟩
      · have : (if i = hA then hB else 0) = 0 := by rw [h2]; split <;> rfl
        omega
      · by_cases y : i = hA
        · rw [if_pos y] at sp
          subst y
          omega
        · rw [if_neg y] at sp
          omega
    · have g0 := gz i 0 hi (by decide) q
      have g1 := gz i 1 hi (by decide) q
      have g2 := gz i 2 hi (by decide) q
      have g3 := gz i 3 hi (by decide) q
      have g4 := gz i 4 hi (by decide) q
      have one : ∀ p, p < 3 → (if kyN X nc nt np hA hB (28 + 5 * p) = i then kyN X nc nt np hA hB (28 + 5 * p + 2 + dg r p) else 0) = 0 := fun p hp => by
        have dl := dg_lt (r := r) (p := p)
        rw [Nat.add_assoc]
        rcases pe p (2 + dg r p) hp (by omega) with z | ⟨z1, z2, z3⟩
        · rw [z]; split <;> rfl
        · have := (pumpX hb.1 hb.2.2.2.2 (pu p z1)).2.1
          rw [if_neg (by omega)]
      have o0 := one 0 (by decide)
      have o1 := one 1 (by decide)
      have o2 := one 2 (by decide)
      have oh : (if i = hA then hB else 0) = 0 := by
        rcases hh with ⟨h1, h2⟩ | ⟨h1, h2, h3⟩
        · rw [h2]; split <;> rfl
        · rw [if_neg (by omega)]
      have e : ksp (kyN X nc nt np hA hB) r i = (if i = hA then hB else 0) + (if kyN X nc nt np hA hB (28 + 5 * 0) = i then kyN X nc nt np hA hB (28 + 5 * 0 + 2 + dg r 0) else 0) + (if kyN X nc nt np hA hB (28 + 5 * 1) = i then kyN X nc nt np hA hB (28 + 5 * 1 + 2 + dg r 1) else 0) + (if kyN X nc nt np hA hB (28 + 5 * 2) = i then kyN X nc nt np hA hB (28 + 5 * 2 + 2 + dg r 2) else 0) := rfl
      rw [e]
      omega
  · have e0 := ky_e (X := X) (nc := nc) (nt := nt) (np := np) (hA := hA) (hB := hB) hp (by decide : 0 < 5)
    have b0 := ky_b (X := X) (nc := nc) (nt := nt) (np := np) (hA := hA) (hB := hB) hp (by decide : 0 < 2)
    rw [Nat.add_zero] at e0 b0
    rw [ky_e hp (by decide : 1 < 5)] at hz
    by_cases q : p < np ∧ pX X p 1 ≠ 0
    · obtain ⟨-, w0, -, -, -, -, w5, w6, w7⟩ := pumpX hb.1 hb.2.2.2.2 (pu p q.1)
      rw [if_pos q] at e0 b0
      rw [e0, b0, ky_b hp (by decide : 1 < 2), if_pos q, ky_0]
      exact ⟨w0, w5, w6, w7⟩
    · rw [if_neg q] at hz
      exact absurd rfl hz
  · rw [ky_c hc]
    split
    · rename_i q
      have := (ldX_e hv q).2
      have := lkX_le hv (c := c)
      omega
    · omega
  · rw [ky_c hc, if_neg (by rw [ky_0] at h; omega)]
/-! the nets by pairs are the nets by tubes -/
set_option maxRecDepth 20000 in
theorem ky_net {tB : Nat} (hv : VxB X nc nt np nw tm tB) {c : Nat} (hc : c < 5) : knet (kyN X nc nt np hA hB) c = nX X nt c := by
  have hb := hv.2.1
  have tu := hv.2.2.2.2.1
  have kop_g : ∀ t, t < 25 → (kop (kyN X nc nt np hA hB) t = true ↔ gsm X (t / 5) (t % 5) nt ≠ 0) := fun t ht => by
    have := ky_g (X := X) (nc := nc) (nt := nt) (np := np) (hA := hA) (hB := hB) (i := t / 5) (j := t % 5) (by omega) (by omega)
    unfold kg at this
    rw [show 3 + 5 * (t / 5) + t % 5 = 3 + t by omega] at this
    unfold kop
    rw [this]
    exact decide_eq_true_iff
  refine gSub_eq (fun i hi => ?_) (fun i hi => ?_)
  · refine gN_min (Z := gM (nX X nt c)) (fun t ht ho => ?_) gN_self hi
    have hg := (kop_g t ht).mp ho
    have ex : ∃ s, s < nt ∧ oX X s = true ∧ ((fX X s = t / 5 ∧ gX X s = t % 5) ∨ (fX X s = t % 5 ∧ gX X s = t / 5)) := by
      apply Classical.byContradiction
      intro z
      exact hg (gsm_zero nt (fun s hs y => z ⟨s, hs, y.1, y.2⟩))
    obtain ⟨s, s1, s2, s3⟩ := ex
    have cl := gN_cl (ends_5 hv) hc s s1 s2
    rcases s3 with ⟨a, b⟩ | ⟨a, b⟩
    · rw [a, b] at cl; exact cl
    · rw [a, b] at cl; exact cl.symm
  · refine gN_min (Z := gM (knet (kyN X nc nt np hA hB) c)) (fun t ht ho => ?_) gN_self hi
    obtain ⟨f5, g5⟩ := ends_5 hv t ht ho
    have hg := gsm_pos (i := fX X t) (j := gX X t) (dX_e hb.1 (tu t ht)).2.1 ⟨ho, Or.inl ⟨rfl, rfl⟩⟩ nt ht
    have ho2 := (kop_g (5 * fX X t + gX X t) (by omega)).mpr (by rw [show (5 * fX X t + gX X t) / 5 = fX X t by omega, show (5 * fX X t + gX X t) % 5 = gX X t by omega]; exact hg)
    have cl := gN_cl (kends (k := kyN X nc nt np hA hB)) hc (5 * fX X t + gX X t) (by omega) ho2
    simp only [show (5 * fX X t + gX X t) / 5 = fX X t by omega, show (5 * fX X t + gX X t) % 5 = gX X t by omega] at cl
    exact cl
end
