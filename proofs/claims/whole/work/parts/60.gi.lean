/-! ===== what holds through the elimination ===== -/
def sT (T : Nat → Bool) (f : Nat → Int) (n : Nat) : Int := sm (fun i => if T i = true then f i else 0) n
def uK (k : Nat) : Nat → Bool := fun j => decide (k ≤ j)
def pw : Nat → Int
  | 0 => 1
  | k + 1 => pw k * 160
set_option maxRecDepth 20000 in
theorem pw_pos : ∀ k, 0 < pw k
  | 0 => by decide
  | k + 1 => by have := pw_pos k; simp only [pw]; omega
section
variable {T : Nat → Bool} {f g : Nat → Int} {n k i : Nat} {c : Int}
set_option maxRecDepth 20000 in
theorem sT_congr (h : ∀ i, i < n → T i = true → f i = g i) : sT T f n = sT T g n := sm_congr n (fun i hi => by
  by_cases q : T i = true
  · simp only [q, if_true]; exact h i hi q
  · simp only [q]; rfl)
set_option maxRecDepth 20000 in
theorem sT_add : sT T (fun i => f i + g i) n = sT T f n + sT T g n := by
  unfold sT
  rw [← sm_add]
  exact sm_congr n (fun i hi => by by_cases q : T i = true <;> simp [q])
set_option maxRecDepth 20000 in
theorem sT_sub : sT T (fun i => f i - g i) n = sT T f n - sT T g n := by
  unfold sT
  rw [← sm_sub]
  exact sm_congr n (fun i hi => by by_cases q : T i = true <;> simp [q])
set_option maxRecDepth 20000 in
theorem sT_mul : sT T (fun i => c * f i) n = c * sT T f n := by
  unfold sT
  rw [← sm_mul]
  exact sm_congr n (fun i hi => by by_cases q : T i = true <;> simp [q])
set_option maxRecDepth 20000 in
theorem sT_mulr : sT T (fun i => f i * c) n = sT T f n * c := by
  unfold sT
  rw [← sm_mulr]
  exact sm_congr n (fun i hi => by by_cases q : T i = true <;> simp [q])
set_option maxRecDepth 20000 in
theorem sT_le (h : ∀ i, i < n → T i = true → f i ≤ g i) : sT T f n ≤ sT T g n := sm_le n (fun i hi => by
  by_cases q : T i = true
  · simp only [q, if_true]; exact h i hi q
  · simp [q])
set_option maxRecDepth 20000 in
theorem sT_nn (h : ∀ i, i < n → T i = true → 0 ≤ f i) : 0 ≤ sT T f n := sm_nn n (fun i hi => by
  by_cases q : T i = true
  · simp only [q, if_true]; exact h i hi q
  · simp [q])
/-! with one more -/
def tI (T : Nat → Bool) (k : Nat) : Nat → Bool := fun i => T i || decide (i = k)
set_option maxRecDepth 20000 in
theorem sT_ins (hk : k < n) (h : T k = false) : sT (tI T k) f n = sT T f n + f k := by
  unfold sT
  rw [← sm_delta (f := f) n hk, ← sm_add]
  refine sm_congr n (fun i hi => ?_)
  unfold tI
  by_cases e : i = k
  · subst e; simp [h]
  · simp [e]
/-! of what is not positive fewer are more -/
set_option maxRecDepth 20000 in
theorem sT_fewer {T U : Nat → Bool} (h : ∀ i, i < n → T i = true → U i = true) (h2 : ∀ i, i < n → U i = true → ¬ T i = true → f i ≤ 0) : sT U f n ≤ sT T f n := sm_le n (fun i hi => by
  by_cases q : T i = true
  · simp [q, h i hi q]
  · by_cases u : U i = true
    · simp only [u, q, if_true]
      have := h2 i hi u q
      simp [this]
    · simp [q, u])
end
def gSg (n k : Nat) (S : Nat → Nat → Int) : Prop := ∀ i j, i < n → j < n → (i < k → j < k → 0 ≤ S i j) ∧ (i < k → k ≤ j → S i j ≤ 0) ∧ (k ≤ i → j < k → 0 ≤ S i j) ∧ (k ≤ i → k ≤ j → i ≠ j → S i j ≤ 0)
def gSy (n k : Nat) (S : Nat → Nat → Int) : Prop := ∀ i j, i < n → j < n → (k ≤ i → k ≤ j → S i j = S j i) ∧ (i < k → k ≤ j → S j i = -S i j)
def gRs (n k : Nat) (d : Int) (S : Nat → Nat → Int) : Prop := ∀ i, i < n → (k ≤ i → 0 ≤ sT (uK k) (S i) n) ∧ (i < k → 0 ≤ d + sT (uK k) (S i) n)
def gPs (n k : Nat) (S : Nat → Nat → Int) : Prop := ∀ T : Nat → Bool, (∀ i, T i = true → k ≤ i ∧ i < n) → (∃ i, T i = true) → 0 < sT T (fun i => sT T (S i) n) n
def gBd (n k : Nat) (d : Int) (S : Nat → Nat → Int) : Prop := d ≤ pw k ∧ (∀ i, k ≤ i → i < n → S i i ≤ d * 160) ∧ (∀ i j, i < k → j < k → i < n → j < n → S i j * 160 ≤ k * pw k)
def gGI (n k : Nat) (d : Int) (S : Nat → Nat → Int) : Prop := 0 < d ∧ gSg n k S ∧ gSy n k S ∧ gRs n k d S ∧ gPs n k S ∧ gBd n k d S
section
variable {n k : Nat} {d : Int} {S S2 : Nat → Nat → Int}
set_option maxRecDepth 20000 in
theorem gi_one (hk : k < n) (h : gPs n k S) : 0 < S k k := by
  have := h (fun i => decide (i = k)) (fun i hi => by have := of_decide_eq_true hi; omega) ⟨k, by simp⟩
  have e : ∀ f : Nat → Int, sT (fun i => decide (i = k)) f n = f k := fun f => by
    unfold sT
    rw [← sm_delta (f := f) n hk]
    exact sm_congr n (fun i _ => by simp)
  rw [e, e] at this
  exact this
set_option maxRecDepth 20000 in
theorem pos_of_mul {a b : Int} (ha : 0 < a) (h : 0 < a * b) : 0 < b := by
  rcases (by omega : 0 < b ∨ b ≤ 0) with q | q
  · exact q
  · have := Int.mul_le_mul_of_nonneg_left q (Int.le_of_lt ha)
    rw [Int.mul_zero] at this
    omega
set_option maxRecDepth 20000 in
theorem nn_of_mul {a b : Int} (ha : 0 < a) (h : 0 ≤ a * b) : 0 ≤ b := by
  rcases (by omega : b < 0 ∨ 0 ≤ b) with q | q
  · have := Int.mul_lt_mul_of_pos_left q ha
    rw [Int.mul_zero] at this
    omega
  · exact q
set_option maxRecDepth 20000 in
theorem le_of_mul {a b c : Int} (ha : 0 < a) (h : a * b ≤ a * c) : b ≤ c := by
  have : 0 ≤ a * (c - b) := by rw [Int.mul_sub]; omega
  have := nn_of_mul ha this
  omega
theorem nonneg_mul {a b : Int} (ha : 0 ≤ a) (hb : 0 ≤ b) : 0 ≤ a * b := Int.mul_nonneg ha hb
set_option maxRecDepth 20000 in
theorem sq_lt {p q a : Int} (hp : a ≤ p) (hq : a ≤ q) (ha : 0 ≤ a) (hs : 2 * a < p + q) (p0 : 0 < p) (q0 : 0 < q) : 0 < p * q - a * a := by
  have e : p * q - a * a = (p - a) * q + a * (q - a) := by grind
  rw [e]
  have h1 : 0 ≤ (p - a) * q := nonneg_mul (by omega) (by omega)
  have h2 : 0 ≤ a * (q - a) := nonneg_mul ha (by omega)
  rcases (by omega : a < p ∨ a < q) with z | z
  · have := Int.mul_pos (by omega : 0 < p - a) q0
    omega
  · by_cases a0 : a = 0
    · subst a0
      have := Int.mul_pos (by omega : 0 < p - 0) q0
      omega
    · have := Int.mul_pos (by omega : 0 < a) (by omega : 0 < q - a)
      omega
/-! the sums of the two rows below a pivot -/
set_option maxRecDepth 20000 in
theorem gi_step (h : gGI n k d S) (hk : k < n) (h1 : ∀ i j, i < n → j < n → i ≠ k → j ≠ k → d * S2 i j = S k k * S i j - S i k * S k j) (h2 : ∀ i, i < n → i ≠ k → S2 i k = -S i k) (h3 : ∀ j, j < n → j ≠ k → S2 k j = S k j) (h4 : S2 k k = d) : gGI n (k + 1) (S k k) S2 := by
  obtain ⟨d0, sg, sy, rs, ps, b1, b2, b3⟩ := h
  have p0 := gi_one hk ps
  have up : ∀ i, i < n → uK k i = tI (uK (k + 1)) k i := fun i hi => by
    unfold uK tI
    rw [Bool.eq_iff_iff]
    simp only [Bool.or_eq_true, decide_eq_true_eq]
    omega
  have us : ∀ f : Nat → Int, sT (uK k) f n = sT (uK (k + 1)) f n + f k := fun f => by
    rw [← sT_ins hk (by unfold uK; simp)]
    exact sm_congr n (fun i hi => by simp only [up i hi])
  -- the sums of the new rows
  have rw1 : ∀ i, i < n → i ≠ k → d * sT (uK (k + 1)) (S2 i) n = S k k * sT (uK (k + 1)) (S i) n - S i k * sT (uK (k + 1)) (S k) n := fun i hi hik => by
    rw [← sT_mul, ← sT_mul, ← sT_mul, ← sT_sub]
    exact sT_congr (fun j hj hu => h1 i j hi hj hik (by have := of_decide_eq_true hu; omega))
  have sc : ∀ i, i < n → i ≠ k → S i k ≤ 0 := fun i hi hik => by
    rcases Nat.lt_or_ge i k with q | q
    · exact (sg i k hi hk).2.1 q (by omega)
    · exact (sg i k hi hk).2.2.2 q (by omega) hik
  have rk0 : 0 ≤ sT (uK k) (S k) n := (rs k hk).1 (by omega)
  refine ⟨p0, ?_, ?_, ?_, ?_, ?_, ?_, ?_⟩
  · intro i j hi hj
    have g := sg i j hi hj
    by_cases ei : i = k
    · subst ei
      by_cases ej : j = i
      · subst ej
        rw [h4]
        exact ⟨fun _ _ => by omega, fun _ _ => by omega, fun _ _ => by omega, fun _ _ _ => by omega⟩
      · rw [h3 j hj ej]
        exact ⟨fun _ _ => g.2.2.1 (by omega) (by omega), fun _ _ => g.2.2.2 (by omega) (by omega) (by omega), fun _ _ => by omega, fun _ _ _ => by omega⟩
    · by_cases ej : j = k
      · subst ej
        rw [h2 i hi ei]
        have := sc i hi ei
        exact ⟨fun _ _ => by omega, fun _ _ => by omega, fun _ _ => by omega, fun _ _ _ => by omega⟩
      · have e := h1 i j hi hj ei ej
        have c := sc i hi ei
        refine ⟨fun a b => ?_, fun a b => ?_, fun a b => ?_, fun a b z => ?_⟩
        · have y1 := nonneg_mul (Int.le_of_lt p0) (g.1 (by omega) (by omega))
          have y2 := nonneg_mul (by omega : 0 ≤ -S i k) ((sg k j hk hj).2.2.1 (by omega) (by omega))
          rw [Int.neg_mul] at y2
          exact nn_of_mul d0 (by omega)
        · have y1 := nonneg_mul (Int.le_of_lt p0) (by have := g.2.1 (by omega) (by omega); omega : 0 ≤ -S i j)
          have y2 := nonneg_mul (by omega : 0 ≤ -S i k) (by have := (sg k j hk hj).2.2.2 (by omega) (by omega) (by omega); omega : 0 ≤ -S k j)
          rw [Int.mul_neg] at y1
          rw [Int.neg_mul_neg] at y2
          have := nn_of_mul (b := -S2 i j) d0 (by rw [Int.mul_neg]; omega)
          omega
        · have y1 := nonneg_mul (Int.le_of_lt p0) (g.2.2.1 (by omega) (by omega))
          have y2 := nonneg_mul (by omega : 0 ≤ -S i k) ((sg k j hk hj).2.2.1 (by omega) (by omega))
          rw [Int.neg_mul] at y2
          exact nn_of_mul d0 (by omega)
        · have y1 := nonneg_mul (Int.le_of_lt p0) (by have := g.2.2.2 (by omega) (by omega) z; omega : 0 ≤ -S i j)
          have y2 := nonneg_mul (by omega : 0 ≤ -S i k) (by have := (sg k j hk hj).2.2.2 (by omega) (by omega) (by omega); omega : 0 ≤ -S k j)
          rw [Int.mul_neg] at y1
          rw [Int.neg_mul_neg] at y2
          have := nn_of_mul (b := -S2 i j) d0 (by rw [Int.mul_neg]; omega)
          omega
  · intro i j hi hj
    refine ⟨fun a b => ?_, fun a b => ?_⟩
    · have e1 := h1 i j hi hj (by omega) (by omega)
      have e2 := h1 j i hj hi (by omega) (by omega)
      rw [(sy i j hi hj).1 (by omega) (by omega), (sy i k hi hk).1 (by omega) (by omega), (sy k j hk hj).1 (by omega) (by omega), Int.mul_comm (S k i)] at e1
      have : d * S2 i j = d * S2 j i := by omega
      exact Int.eq_of_mul_eq_mul_left (by omega) this
    · by_cases ei : i = k
      · subst ei
        rw [h2 j hj (by omega), h3 j hj (by omega), (sy j i hj hi).1 (by omega) (by omega)]
      · have e1 := h1 i j hi hj (by omega) (by omega)
        have e2 := h1 j i hj hi (by omega) (by omega)
        have y1 := (sy i j hi hj).2 (by omega) (by omega)
        have y2 := (sy i k hi hk).2 (by omega) (by omega)
        have y3 := (sy j k hj hk).1 (by omega) (by omega)
        rw [y1, y2, y3] at e2
        have : d * S2 j i = d * (-S2 i j) := by rw [Int.mul_neg, e1, e2]; grind
        exact Int.eq_of_mul_eq_mul_left (by omega) this
  · intro i hi
    refine ⟨fun a => ?_, fun a => ?_⟩
    · have e := rw1 i hi (by omega)
      have y := (rs i hi).1 (by omega)
      rw [us] at y rk0
      have c := sc i hi (by omega)
      have y1 := nonneg_mul (Int.le_of_lt p0) y
      have y2 := nonneg_mul (by omega : 0 ≤ -S i k) rk0
      refine nn_of_mul d0 ?_
      rw [e]
      have : S k k * sT (uK (k + 1)) (S i) n - S i k * sT (uK (k + 1)) (S k) n = S k k * (sT (uK (k + 1)) (S i) n + S i k) + -S i k * (sT (uK (k + 1)) (S k) n + S k k) := by grind
      omega
    · by_cases ei : i = k
      · subst ei
        rw [us] at rk0
        rw [sT_congr (g := S i) (fun j hj hu => h3 j hj (by have := of_decide_eq_true hu; omega))]
        omega
      · have e := rw1 i hi ei
        have y := (rs i hi).2 (by omega)
        rw [us] at y rk0
        have c := sc i hi (by omega)
        have y1 := nonneg_mul (Int.le_of_lt p0) y
        have y2 := nonneg_mul (by omega : 0 ≤ -S i k) rk0
        refine nn_of_mul d0 ?_
        rw [Int.mul_add, e]
        have : d * S k k + (S k k * sT (uK (k + 1)) (S i) n - S i k * sT (uK (k + 1)) (S k) n) = S k k * (d + (sT (uK (k + 1)) (S i) n + S i k)) + -S i k * (sT (uK (k + 1)) (S k) n + S k k) := by grind
        omega
  · intro T hT hne
    have hTk : T k = false := by
      cases e : T k with
      | false => rfl
      | true => have := hT k e; omega
    have hT' : ∀ i, i < n → T i = true → i ≠ k := fun i _ q => by have := hT i q; omega
    obtain ⟨a, ea⟩ : ∃ a, a = -sT T (fun i => S i k) n := ⟨_, rfl⟩
    obtain ⟨q, eq⟩ : ∃ q, q = sT T (fun i => sT T (S i) n) n := ⟨_, rfl⟩
    have ek : sT T (S k) n = -a := by
      rw [ea, Int.neg_neg]
      exact sT_congr (fun i hi hi2 => (sy k i hk hi).1 (by omega) (by have := hT i hi2; omega))
    have a0 : 0 ≤ a := by
      have := sT_nn (T := T) (f := fun i => -S i k) (n := n) (fun i hi hi2 => by have := sc i hi (hT' i hi hi2); show 0 ≤ -S i k; omega)
      have e : sT T (fun i => -S i k) n = a := by
        rw [ea]
        have := sT_mul (T := T) (f := fun i => S i k) (n := n) (c := -1)
        have e2 : sT T (fun i => -S i k) n = sT T (fun i => -1 * S i k) n := sT_congr (fun i _ _ => by omega)
        rw [e2, this]
        omega
      omega
    have q0 : 0 < q := by rw [eq]; exact ps T (fun i hi => by have := hT i hi; omega) hne
    have pa : a ≤ S k k := by
      have := sT_fewer (f := S k) (n := n) (T := T) (U := uK (k + 1)) (fun i _ hi => decide_eq_true (hT i hi).1) (fun i hi hu _ => (sg k i hk hi).2.2.2 (by omega) (by have := of_decide_eq_true hu; omega) (by have := of_decide_eq_true hu; omega))
      rw [us] at rk0
      omega
    have qa : a ≤ q := by
      have e1 : ∀ i, i < n → T i = true → -S i k ≤ sT T (S i) n := fun i hi hi2 => by
        have y := (rs i hi).1 (by have := hT i hi2; omega)
        rw [us] at y
        have := sT_fewer (f := S i) (n := n) (T := T) (U := uK (k + 1)) (fun i _ hi => decide_eq_true (hT i hi).1) (fun j hj hu hn => (sg i j hi hj).2.2.2 (by have := hT i hi2; omega) (by have := of_decide_eq_true hu; omega) (fun z => hn (z ▸ hi2)))
        omega
      have e2 := sT_le (T := T) (n := n) e1
      have e3 : sT T (fun i => -S i k) n = a := by
        rw [ea]
        have := sT_mul (T := T) (f := fun i => S i k) (n := n) (c := -1)
        have e2 : sT T (fun i => -S i k) n = sT T (fun i => -1 * S i k) n := sT_congr (fun i _ _ => by omega)
        rw [e2, this]
        omega
      omega
    have un : 0 < q - 2 * a + S k k := by
      have := ps (tI T k) (fun i hi => by
        unfold tI at hi
        rw [Bool.or_eq_true] at hi
        rcases hi with z | z
        · have := hT i z; omega
        · have := of_decide_eq_true z; omega) ⟨k, by unfold tI; simp⟩
      rw [sT_ins hk hTk, sT_ins hk hTk, ek] at this
      have e2 : sT T (fun i => sT (tI T k) (S i) n) n = q - a := by
        rw [sT_congr (g := fun i => sT T (S i) n + S i k) (fun i hi _ => sT_ins hk hTk), sT_add, ← eq]
        omega
      omega
    have e : d * sT T (fun i => sT T (S2 i) n) n = S k k * q - a * a := by
      have e1 : ∀ i, i < n → T i = true → d * sT T (S2 i) n = S k k * sT T (S i) n + S i k * a := fun i hi hi2 => by
        have : d * sT T (S2 i) n = S k k * sT T (S i) n - S i k * sT T (S k) n := by
          rw [← sT_mul, ← sT_mul, ← sT_mul, ← sT_sub]
          exact sT_congr (fun j hj hj2 => h1 i j hi hj (hT' i hi hi2) (hT' j hj hj2))
        rw [this, ek, Int.mul_neg]
        omega
      rw [← sT_mul, sT_congr e1, sT_add, sT_mul, sT_mulr, ← eq]
      have : sT T (fun i => S i k) n = -a := by omega
      rw [this, Int.neg_mul]
      omega
    have := sq_lt pa qa a0 (by omega) p0 q0
    exact pos_of_mul d0 (by omega)
  · have := b2 k (by omega) hk
    simp only [pw]
    omega
  · intro i hi hin
    have e := h1 i i hin hin (by omega) (by omega)
    rw [(sy k i hk hin).1 (by omega) (by omega)] at e
    have y1 := Int.mul_le_mul_of_nonneg_left (b2 i (by omega) hin) (Int.le_of_lt p0)
    have y2 : 0 ≤ S i k * S i k := by
      have := sc i hin (by omega)
      have := nonneg_mul (by omega : 0 ≤ -S i k) (by omega : 0 ≤ -S i k)
      rwa [Int.neg_mul_neg] at this
    refine le_of_mul d0 ?_
    have : S k k * (d * 160) = d * (S k k * 160) := by grind
    omega
  · intro i j hi hj hin hjn
    have pk := pw_pos k
    have fb : ∀ i, i < n → i < k → -S i k ≤ d := fun i hin hi => by
      have y := (rs i hin).2 hi
      rw [us] at y
      have := sT_fewer (f := S i) (n := n) (T := fun _ => false) (U := uK (k + 1)) (fun i _ hi => by cases hi) (fun j hj hu _ => (sg i j hin hj).2.1 hi (by have := of_decide_eq_true hu; omega))
      have z : sT (fun _ => false) (S i) n = 0 := sm_zero n (fun _ _ => by simp)
      omega
    have top : d * 160 ≤ ((k + 1 : Nat) : Int) * pw (k + 1) := by
      simp only [pw]
      have : 0 ≤ (k : Int) * (pw k * 160) := nonneg_mul (by omega) (by omega)
      rw [Int.natCast_add, Int.add_mul]
      omega
    by_cases ei : i = k
    · subst ei
      by_cases ej : j = i
      · subst ej; rw [h4]; exact top
      · rw [h3 j hjn ej]
        have := fb j hjn (by omega)
        have := (sy j i hjn hin).2 (by omega) (by omega)
        omega
    · by_cases ej : j = k
      · subst ej
        rw [h2 i hin ei]
        have := fb i hin (by omega)
        omega
      · have e := h1 i j hin hjn ei ej
        have f1 := fb i hin (by omega)
        have f2 := fb j hjn (by omega)
        have f3 := (sy j k hjn hk).2 (by omega) (by omega)
        have c1 := sc i hin ei
        have c2 := sc j hjn ej
        rw [f3] at e
        -- the two products
        have x0 := (sg i j hin hjn).1 (by omega) (by omega)
        have x1 := b3 i j (by omega) (by omega) hin hjn
        have y1 : S k k * (S i j * 160) ≤ d * 160 * (k * pw k) := by
          have z1 := Int.mul_le_mul_of_nonneg_left x1 (Int.le_of_lt p0)
          have z2 := Int.mul_le_mul_of_nonneg_right (b2 k (by omega) hk) (nonneg_mul (by omega : (0 : Int) ≤ (k : Int)) (Int.le_of_lt pk))
          omega
        have y2 : S i k * S j k ≤ d * d := by
          have z1 := Int.mul_le_mul f1 f2 (by omega) (by omega)
          rwa [Int.neg_mul_neg] at z1
        have y3 : d * d ≤ d * pw k := Int.mul_le_mul_of_nonneg_left b1 (Int.le_of_lt d0)
        refine le_of_mul d0 ?_
        have z1 : d * (S2 i j * 160) = S k k * (S i j * 160) + S i k * S j k * 160 := by
          rw [← Int.mul_assoc, e]
          grind
        have z2 : d * (((k + 1 : Nat) : Int) * pw (k + 1)) = d * 160 * (k * pw k) + d * pw k * 160 := by
          simp only [pw, Int.natCast_add]
          grind
        rw [z1, z2]
        omega
end
