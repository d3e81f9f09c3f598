/-! ===== nets: sets of chambers as bits ===== -/
def gE (f g : Nat → Nat) (t : Nat) : Nat := 2 ^ f t ||| 2 ^ g t
def gP (op : Nat → Bool) (f g : Nat → Nat) (m : Nat) : Nat → Nat
  | 0 => m
  | t + 1 => if op t = true ∧ ¬ (gP op f g m t &&& gE f g t = 0) then gP op f g m t ||| gE f g t else gP op f g m t
def gR (op : Nat → Bool) (f g : Nat → Nat) (nt m : Nat) : Nat → Nat
  | 0 => m
  | k + 1 => gP op f g (gR op f g nt m k) nt
def gSub (a b : Nat) : Prop := ∀ i, a.testBit i = true → b.testBit i = true
def gCl (op : Nat → Bool) (f g : Nat → Nat) (nt : Nat) (Z : Nat → Prop) : Prop := ∀ t, t < nt → op t = true → (Z (f t) ↔ Z (g t))
def gM (S : Nat) : Nat → Prop := fun i => S.testBit i = true
section
variable {op : Nat → Bool} {f g : Nat → Nat}
set_option maxRecDepth 20000 in
theorem gE_bit {t i : Nat} : (gE f g t).testBit i = true ↔ (f t = i ∨ g t = i) := by
  unfold gE
  rw [Nat.testBit_or, Nat.testBit_two_pow, Nat.testBit_two_pow]
  simp
set_option maxRecDepth 20000 in
theorem gE_hit {t S : Nat} : ¬ (S &&& gE f g t = 0) ↔ (S.testBit (f t) = true ∨ S.testBit (g t) = true) := by
  constructor
  · intro h
    by_cases h1 : S.testBit (f t) = true
    · exact Or.inl h1
    · by_cases h2 : S.testBit (g t) = true
      · exact Or.inr h2
      · exfalso
        apply h
        apply Nat.eq_of_testBit_eq
        intro i
        rw [Nat.testBit_and, Nat.zero_testBit]
        by_cases e : (gE f g t).testBit i = true
        · rcases gE_bit.mp e with rfl | rfl
          · simp [h1]
          · simp [h2]
        · simp [e]
  · rintro (h | h) q
    · have : (S &&& gE f g t).testBit (f t) = false := by rw [q]; exact Nat.zero_testBit _
      rw [Nat.testBit_and, h, gE_bit.mpr (Or.inl rfl)] at this
      cases this
    · have : (S &&& gE f g t).testBit (g t) = false := by rw [q]; exact Nat.zero_testBit _
      rw [Nat.testBit_and, h, gE_bit.mpr (Or.inr rfl)] at this
      cases this
set_option maxRecDepth 20000 in
theorem gP_step {m t : Nat} : gSub (gP op f g m t) (gP op f g m (t + 1)) := by
  intro i h
  simp only [gP]
  split
  · rw [Nat.testBit_or, h]; rfl
  · exact h
set_option maxRecDepth 20000 in
theorem gP_up {m n : Nat} : ∀ k, gSub (gP op f g m n) (gP op f g m (n + k))
  | 0, i, h => h
  | k + 1, i, h => gP_step i (gP_up k i h)
set_option maxRecDepth 20000 in
theorem gP_sub {m n : Nat} : gSub m (gP op f g m n) := fun i h => by
  have := gP_up (op := op) (f := f) (g := g) (m := m) (n := 0) n i h
  rwa [Nat.zero_add] at this
set_option maxRecDepth 20000 in
theorem gP_hit {m n t : Nat} (ht : t < n) (ho : op t = true) (h : m.testBit (f t) = true ∨ m.testBit (g t) = true) : (gP op f g m n).testBit (f t) = true ∧ (gP op f g m n).testBit (g t) = true := by
  have h1 : ¬ (gP op f g m t &&& gE f g t = 0) := gE_hit.mpr (h.elim (fun q => Or.inl (gP_sub _ q)) (fun q => Or.inr (gP_sub _ q)))
  have h2 : gP op f g m (t + 1) = gP op f g m t ||| gE f g t := by simp only [gP]; rw [if_pos ⟨ho, h1⟩]
  have h3 : ∀ i, (f t = i ∨ g t = i) → (gP op f g m n).testBit i = true := fun i hi => by
    have := gP_up (op := op) (f := f) (g := g) (m := m) (n := t + 1) (n - (t + 1)) i (by rw [h2, Nat.testBit_or, gE_bit.mpr hi, Bool.or_true])
    rwa [show t + 1 + (n - (t + 1)) = n by omega] at this
  exact ⟨h3 _ (Or.inl rfl), h3 _ (Or.inr rfl)⟩
set_option maxRecDepth 20000 in
theorem gP_min {m nt : Nat} {Z : Nat → Prop} (hz : gCl op f g nt Z) (hm : ∀ i, m.testBit i = true → Z i) : ∀ n, n ≤ nt → ∀ i, (gP op f g m n).testBit i = true → Z i
  | 0, _, i, h => hm i h
  | n + 1, hn, i, h => by
    have ih := gP_min hz hm n (by omega)
    simp only [gP] at h
    split at h
    · rename_i q
      rw [Nat.testBit_or, Bool.or_eq_true] at h
      rcases h with h | h
      · exact ih i h
      · have z := hz n (by omega) q.1
        have y : Z (f n) ∧ Z (g n) := by
          rcases gE_hit.mp q.2 with a | a
          · exact ⟨ih _ a, z.mp (ih _ a)⟩
          · exact ⟨z.mpr (ih _ a), ih _ a⟩
        rcases gE_bit.mp h with rfl | rfl
        · exact y.1
        · exact y.2
    · exact ih i h
set_option maxRecDepth 20000 in
theorem gP_lt {m N : Nat} (hm : m < 2 ^ N) : ∀ n, (∀ t, t < n → op t = true → f t < N ∧ g t < N) → gP op f g m n < 2 ^ N
  | 0, _ => hm
  | n + 1, h => by
    have ih := gP_lt hm n (fun t ht => h t (by omega))
    simp only [gP]
    split
    · rename_i q
      obtain ⟨a, b⟩ := h n (by omega) q.1
      exact Nat.or_lt_two_pow ih (Nat.or_lt_two_pow (Nat.pow_lt_pow_right (by decide) a) (Nat.pow_lt_pow_right (by decide) b))
    · exact ih
set_option maxRecDepth 20000 in
theorem gP_fix {m nt : Nat} (h : gP op f g m nt = m) : gCl op f g nt (gM m) := by
  intro t ht ho
  constructor
  · intro q
    have := (gP_hit (f := f) (g := g) ht ho (Or.inl q)).2
    rwa [h] at this
  · intro q
    have := (gP_hit (f := f) (g := g) ht ho (Or.inr q)).1
    rwa [h] at this
set_option maxRecDepth 20000 in
theorem gSub_eq {a b : Nat} (h1 : gSub a b) (h2 : gSub b a) : a = b := by
  apply Nat.eq_of_testBit_eq
  intro i
  cases e1 : a.testBit i <;> cases e2 : b.testBit i
  · rfl
  · rw [h2 i e2] at e1; cases e1
  · rw [h1 i e1] at e2; cases e2
  · rfl
set_option maxRecDepth 20000 in
theorem gSub_and {a b : Nat} (h : gSub a b) : a &&& b = a := by
  apply Nat.eq_of_testBit_eq
  intro i
  rw [Nat.testBit_and]
  cases e1 : a.testBit i
  · rfl
  · rw [h i e1]; rfl
theorem gP_cl {m nt : Nat} (h : gCl op f g nt (gM m)) : gP op f g m nt = m := gSub_eq (fun i hi => gP_min (Z := gM m) h (fun _ q => q) nt (Nat.le_refl _) i hi) gP_sub
def pc5 (a : Nat) : Nat := a % 2 + a / 2 % 2 + a / 4 % 2 + a / 8 % 2 + a / 16 % 2
theorem pc5_chk : ∀ x, x < 1024 → (x % 32 &&& x / 32 = x % 32) → x % 32 ≠ x / 32 → pc5 (x % 32) < pc5 (x / 32) := by decide +kernel
set_option maxRecDepth 20000 in
theorem pc5_lt {a b : Nat} (ha : a < 32) (hb : b < 32) (h : gSub a b) (hn : a ≠ b) : pc5 a < pc5 b := by
  have := pc5_chk (32 * b + a) (by omega)
  rw [show (32 * b + a) % 32 = a by omega, show (32 * b + a) / 32 = b by omega] at this
  exact this (gSub_and h) hn
theorem pc5_fchk : ∀ x, x < 192 → x % 32 < 2 ^ (x / 32) → x / 32 ≤ pc5 (x % 32) → x % 32 = 2 ^ (x / 32) - 1 := by decide +kernel
set_option maxRecDepth 20000 in
theorem pc5_full {n a : Nat} (hn : n ≤ 5) (ha : a < 2 ^ n) (h : n ≤ pc5 a) : a = 2 ^ n - 1 := by
  have h32 : a < 32 := Nat.lt_of_lt_of_le ha (Nat.pow_le_pow_right (by decide) hn)
  have := pc5_fchk (32 * n + a) (by omega)
  rw [show (32 * n + a) % 32 = a by omega, show (32 * n + a) / 32 = n by omega] at this
  exact this ha h
theorem pc5_pos : ∀ a, a < 32 → a ≠ 0 → 1 ≤ pc5 a := by decide +kernel
set_option maxRecDepth 20000 in
theorem gR_lt {m nt N : Nat} (hm : m < 2 ^ N) (h : ∀ t, t < nt → op t = true → f t < N ∧ g t < N) : ∀ k, gR op f g nt m k < 2 ^ N
  | 0 => hm
  | k + 1 => gP_lt (gR_lt hm h k) nt h
set_option maxRecDepth 20000 in
theorem gR_grow {m nt n : Nat} (hn : n ≤ 5) (hm : m < 2 ^ n) (h0 : m ≠ 0) (h : ∀ t, t < nt → op t = true → f t < n ∧ g t < n) : ∀ k, gCl op f g nt (gM (gR op f g nt m k)) ∨ k + 1 ≤ pc5 (gR op f g nt m k)
  | 0 => Or.inr (pc5_pos m (Nat.lt_of_lt_of_le hm (Nat.pow_le_pow_right (by decide) hn)) h0)
  | k + 1 => by
    have h32 : ∀ k, gR op f g nt m k < 32 := fun k => Nat.lt_of_lt_of_le (gR_lt hm h k) (Nat.pow_le_pow_right (i := n) (j := 5) (by decide) hn)
    rcases gR_grow hn hm h0 h k with q | q
    · refine Or.inl ?_
      show gCl op f g nt (gM (gP op f g (gR op f g nt m k) nt))
      rw [gP_cl q]; exact q
    · by_cases e : gP op f g (gR op f g nt m k) nt = gR op f g nt m k
      · refine Or.inl ?_
        show gCl op f g nt (gM (gP op f g (gR op f g nt m k) nt))
        rw [e]; exact gP_fix e
      · have := pc5_lt (h32 k) (h32 (k + 1)) (gP_sub (op := op) (f := f) (g := g)) (fun z => e z.symm)
        exact Or.inr (by omega)
set_option maxRecDepth 20000 in
theorem gR_cl {m nt n k : Nat} (hn : n ≤ 5) (hm : m < 2 ^ n) (h0 : m ≠ 0) (h : ∀ t, t < nt → op t = true → f t < n ∧ g t < n) (hk : n ≤ k + 1) : gCl op f g nt (gM (gR op f g nt m k)) := by
  rcases gR_grow hn hm h0 h k with q | q
  · exact q
  · have := pc5_full hn (gR_lt hm h k) (by omega)
    intro t ht ho
    obtain ⟨a, b⟩ := h t ht ho
    unfold gM
    rw [this, Nat.testBit_two_pow_sub_one, Nat.testBit_two_pow_sub_one]
    simp [a, b]
set_option maxRecDepth 20000 in
theorem gR_min {m nt : Nat} {Z : Nat → Prop} (hz : gCl op f g nt Z) (hm : ∀ i, m.testBit i = true → Z i) : ∀ k i, (gR op f g nt m k).testBit i = true → Z i
  | 0, i, h => hm i h
  | k + 1, i, h => gP_min hz (gR_min hz hm k) nt (Nat.le_refl _) i h
set_option maxRecDepth 20000 in
theorem gR_sub {m nt : Nat} : ∀ k, gSub m (gR op f g nt m k)
  | 0, _, h => h
  | k + 1, i, h => gP_sub i (gR_sub k i h)
set_option maxRecDepth 20000 in
theorem gR_eq {m nt k j : Nat} (hk : gCl op f g nt (gM (gR op f g nt m k))) (hj : gCl op f g nt (gM (gR op f g nt m j))) : gR op f g nt m k = gR op f g nt m j :=
  gSub_eq (fun i hi => gR_min (Z := gM _) hj (gR_sub j) k i hi) (fun i hi => gR_min (Z := gM _) hk (gR_sub k) j i hi)
/-! the net of a chamber -/
def gN (op : Nat → Bool) (f g : Nat → Nat) (nt c : Nat) : Nat := gR op f g nt (2 ^ c) 4
theorem two_ne (c : Nat) : 2 ^ c ≠ 0 := by have := Nat.two_pow_pos c; omega
theorem two_lt {c n : Nat} (h : c < n) : 2 ^ c < 2 ^ n := Nat.pow_lt_pow_right (by decide) h
section
variable {nt : Nat}
theorem gN_cl (h : ∀ t, t < nt → op t = true → f t < 5 ∧ g t < 5) {c : Nat} (hc : c < 5) : gCl op f g nt (gM (gN op f g nt c)) := gR_cl (n := 5) (by decide) (two_lt hc) (two_ne c) h (by decide)
theorem gN_self {c : Nat} : (gN op f g nt c).testBit c = true := gR_sub 4 c Nat.testBit_two_pow_self
set_option maxRecDepth 20000 in
theorem gN_min {Z : Nat → Prop} (hz : gCl op f g nt Z) {c : Nat} (hc : Z c) {i : Nat} (h : (gN op f g nt c).testBit i = true) : Z i :=
  gR_min hz (fun i q => by rw [Nat.testBit_two_pow] at q; rw [← of_decide_eq_true q]; exact hc) 4 i h
theorem gN_lt {n : Nat} (h : ∀ t, t < nt → op t = true → f t < n ∧ g t < n) {c : Nat} (hc : c < n) : gN op f g nt c < 2 ^ n := gR_lt (two_lt hc) h 4
set_option maxRecDepth 20000 in
theorem gN_rounds {n k : Nat} (hn : n ≤ 5) (h : ∀ t, t < nt → op t = true → f t < n ∧ g t < n) {c : Nat} (hc : c < n) (hk : n ≤ k + 1) : gR op f g nt (2 ^ c) k = gN op f g nt c :=
  gR_eq (gR_cl hn (two_lt hc) (two_ne c) h hk) (gR_cl hn (two_lt hc) (two_ne c) h (by omega))
set_option maxRecDepth 20000 in
theorem gN_in {c i : Nat} (h : ∀ t, t < nt → op t = true → f t < 5 ∧ g t < 5) (hc : c < 5) (hi : (gN op f g nt c).testBit i = true) : i < 5 := by
  rcases Nat.lt_or_ge i 5 with q | q
  · exact q
  · rw [Nat.testBit_lt_two_pow (Nat.lt_of_lt_of_le (gN_lt h hc) (Nat.pow_le_pow_right (by decide) q))] at hi
    cases hi
set_option maxRecDepth 20000 in
theorem gN_symm {c i : Nat} (h : ∀ t, t < nt → op t = true → f t < 5 ∧ g t < 5) (hc : c < 5) (hi : (gN op f g nt c).testBit i = true) : (gN op f g nt i).testBit c = true := by
  have i5 := gN_in h hc hi
  cases e : (gN op f g nt i).testBit c with
  | true => rfl
  | false =>
    exfalso
    have := gN_min (Z := fun k => ¬ (gN op f g nt i).testBit k = true) (fun t ht ho => not_congr (gN_cl h i5 t ht ho)) (by rw [e]; decide) hi
    exact this gN_self
set_option maxRecDepth 20000 in
theorem gN_trans {c i : Nat} (h : ∀ t, t < nt → op t = true → f t < 5 ∧ g t < 5) (hc : c < 5) (hi : (gN op f g nt c).testBit i = true) : gN op f g nt i = gN op f g nt c :=
  gSub_eq (fun _ q => gN_min (gN_cl h hc) hi q) (fun _ q => gN_min (gN_cl h (gN_in h hc hi)) (gN_symm h hc hi) q)
set_option maxRecDepth 20000 in
theorem gN_tube {t : Nat} (h : ∀ t, t < nt → op t = true → f t < 5 ∧ g t < 5) (ht : t < nt) (ho : op t = true) : gN op f g nt (f t) = gN op f g nt (g t) := by
  have a := (h t ht ho).1
  exact (gN_trans h a ((gN_cl h a t ht ho).mp gN_self)).symm
set_option maxRecDepth 20000 in
theorem gN_iff {c i : Nat} (h : ∀ t, t < nt → op t = true → f t < 5 ∧ g t < 5) (hc : c < 5) (hi : i < 5) : (gN op f g nt c).testBit i = true ↔ gN op f g nt i = gN op f g nt c :=
  ⟨gN_trans h hc, fun q => by rw [← q]; exact gN_self⟩
end
/-! the least of a set -/
def gLo (S : Nat) : Nat := if S.testBit 0 = true then 0 else if S.testBit 1 = true then 1 else if S.testBit 2 = true then 2 else if S.testBit 3 = true then 3 else 4
set_option maxRecDepth 20000 in
theorem gLo_le {S c : Nat} (hc : c < 5) (h : S.testBit c = true) : gLo S ≤ c := by
  unfold gLo
  rcases (by omega : c = 0 ∨ c = 1 ∨ c = 2 ∨ c = 3 ∨ c = 4) with rfl | rfl | rfl | rfl | rfl
  all_goals (repeat' split) <;> first | omega | contradiction
set_option maxRecDepth 20000 in
theorem gLo_in {S c : Nat} (hc : c < 5) (h : S.testBit c = true) : S.testBit (gLo S) = true := by
  unfold gLo
  rcases (by omega : c = 0 ∨ c = 1 ∨ c = 2 ∨ c = 3 ∨ c = 4) with rfl | rfl | rfl | rfl | rfl
  all_goals (repeat' split) <;> first | assumption | contradiction
set_option maxRecDepth 20000 in
theorem gLo_lt {S : Nat} : gLo S < 5 := by
  unfold gLo
  (repeat' split) <;> omega
/-! labels -/
def gL (op : Nat → Bool) (f g : Nat → Nat) (L : Nat → Nat) : Nat → Nat → Nat
  | 0 => L
  | t + 1 => if op t = true then (fun i => if i = f t ∨ i = g t then min (gL op f g L t (f t)) (gL op f g L t (g t)) else gL op f g L t i) else gL op f g L t
def gLR (op : Nat → Bool) (f g : Nat → Nat) (nt : Nat) : Nat → Nat → Nat
  | 0 => fun c => c
  | k + 1 => gL op f g (gLR op f g nt k) nt
section
variable {nt : Nat}
set_option maxRecDepth 20000 in
theorem gL_in (h : ∀ t, t < nt → op t = true → f t < 5 ∧ g t < 5) {L : Nat → Nat} (hL : ∀ c, c < 5 → (gN op f g nt c).testBit (L c) = true) : ∀ n, n ≤ nt → ∀ c, c < 5 → (gN op f g nt c).testBit (gL op f g L n c) = true
  | 0, _, c, hc => hL c hc
  | n + 1, hn, c, hc => by
    have ih := gL_in h hL n (by omega)
    simp only [gL]
    split
    · rename_i ho
      obtain ⟨a, b⟩ := h n (by omega) ho
      have e := gN_tube h (by omega : n < nt) ho
      have y1 := ih _ a
      have y2 := ih _ b
      have y : (gN op f g nt (f n)).testBit (min (gL op f g L n (f n)) (gL op f g L n (g n))) = true := by
        rcases Nat.le_total (gL op f g L n (f n)) (gL op f g L n (g n)) with q | q
        · rw [Nat.min_eq_left q]; exact y1
        · rw [Nat.min_eq_right q, e]; exact y2
      show (gN op f g nt c).testBit (if c = f n ∨ c = g n then min (gL op f g L n (f n)) (gL op f g L n (g n)) else gL op f g L n c) = true
      split
      · rename_i q
        rcases q with rfl | rfl
        · exact y
        · rw [← e]; exact y
      · exact ih c hc
    · exact ih c hc
set_option maxRecDepth 20000 in
theorem gL_put (h : ∀ t, t < nt → op t = true → f t < 5 ∧ g t < 5) {L : Nat → Nat} (hL : ∀ c, c < 5 → (gN op f g nt c).testBit (L c) = true) {m S : Nat} (hm5 : m < 5) (hm : ∀ i, (gN op f g nt m).testBit i = true → m ≤ i) (hS : ∀ i, S.testBit i = true → (gN op f g nt m).testBit i = true) (hSL : ∀ i, S.testBit i = true → L i = m) : ∀ n, n ≤ nt → ∀ i, (gP op f g S n).testBit i = true → gL op f g L n i = m
  | 0, _, i, hi => hSL i hi
  | n + 1, hn, i, hi => by
    have ih := gL_put h hL hm5 hm hS hSL n (by omega)
    have hsub : ∀ i, (gP op f g S n).testBit i = true → (gN op f g nt m).testBit i = true := gP_min (Z := gM _) (gN_cl h hm5) hS n (by omega)
    have lin := gL_in h hL n (by omega)
    by_cases ho : op n = true
    case neg =>
      simp only [gL, gP] at hi ⊢
      rw [if_neg ho]
      rw [if_neg (fun q => ho q.1)] at hi
      exact ih i hi
    obtain ⟨a, b⟩ := h n (by omega) ho
    have e := gN_tube h (by omega : n < nt) ho
    have key : ∀ x, x < 5 → gN op f g nt x = gN op f g nt m → m ≤ gL op f g L n x := fun x hx q => hm _ (by rw [← q]; exact lin x hx)
    simp only [gL, gP] at hi ⊢
    rw [if_pos ho]
    by_cases hq : gP op f g S n &&& gE f g n = 0
    · rw [if_neg (fun q => q.2 hq)] at hi
      have e1 : ¬ (i = f n ∨ i = g n) := by
        rintro (rfl | rfl)
        · exact gE_hit.mpr (Or.inl hi) hq
        · exact gE_hit.mpr (Or.inr hi) hq
      show (if i = f n ∨ i = g n then _ else gL op f g L n i) = m
      rw [if_neg e1]
      exact ih i hi
    · rw [if_pos ⟨ho, hq⟩] at hi
      have y : min (gL op f g L n (f n)) (gL op f g L n (g n)) = m := by
        rcases gE_hit.mp hq with q | q
        · have w := gN_trans h hm5 (hsub _ q)
          rw [ih _ q]
          exact Nat.min_eq_left (key _ b (e ▸ w))
        · have w := gN_trans h hm5 (hsub _ q)
          rw [ih _ q]
          exact Nat.min_eq_right (key _ a (e.trans w))
      show (if i = f n ∨ i = g n then min (gL op f g L n (f n)) (gL op f g L n (g n)) else gL op f g L n i) = m
      by_cases e1 : i = f n ∨ i = g n
      · rw [if_pos e1]; exact y
      · rw [if_neg e1]
        rw [Nat.testBit_or, Bool.or_eq_true] at hi
        rcases hi with hi | hi
        · exact ih i hi
        · exact absurd ((gE_bit.mp hi).elim (fun q => Or.inl q.symm) (fun q => Or.inr q.symm)) e1
set_option maxRecDepth 20000 in
theorem gLR_in (h : ∀ t, t < nt → op t = true → f t < 5 ∧ g t < 5) : ∀ k c, c < 5 → (gN op f g nt c).testBit (gLR op f g nt k c) = true
  | 0, _, _ => gN_self
  | k + 1, c, hc => gL_in h (gLR_in h k) nt (Nat.le_refl _) c hc
set_option maxRecDepth 20000 in
theorem gLR_put (h : ∀ t, t < nt → op t = true → f t < 5 ∧ g t < 5) {m : Nat} (hm5 : m < 5) (hm : ∀ i, (gN op f g nt m).testBit i = true → m ≤ i) : ∀ k i, (gR op f g nt (2 ^ m) k).testBit i = true → gLR op f g nt k i = m
  | 0, i, hi => by
    simp only [gR] at hi
    rw [Nat.testBit_two_pow] at hi
    exact (of_decide_eq_true hi).symm
  | k + 1, i, hi => gL_put h (gLR_in h k) hm5 hm (gR_min (Z := gM _) (gN_cl h hm5) (fun i q => by rw [Nat.testBit_two_pow] at q; rw [← of_decide_eq_true q]; exact gN_self) k) (gLR_put h hm5 hm k) nt (Nat.le_refl _) i hi
/-! behind five rounds the label of a chamber is the least of its net -/
set_option maxRecDepth 20000 in
theorem gLR_lo (h : ∀ t, t < nt → op t = true → f t < 5 ∧ g t < 5) {c : Nat} (hc : c < 5) : gLR op f g nt 5 c = gLo (gN op f g nt c) := by
  have hin : (gN op f g nt c).testBit (gLo (gN op f g nt c)) = true := gLo_in hc gN_self
  have e := gN_trans h hc hin
  refine gLR_put h gLo_lt (fun i hi => ?_) 5 c ?_
  · rw [e] at hi
    exact gLo_le (gN_in h hc hi) hi
  · rw [gN_rounds (n := 5) (by decide) h gLo_lt (by decide)]
    exact gN_symm h hc hin
set_option maxRecDepth 20000 in
theorem gLo_iff (h : ∀ t, t < nt → op t = true → f t < 5 ∧ g t < 5) {c i : Nat} (hc : c < 5) (hi : i < 5) : gLo (gN op f g nt i) = gLo (gN op f g nt c) ↔ (gN op f g nt c).testBit i = true := by
  constructor
  · intro q
    have a := gN_trans h hc (gLo_in hc gN_self)
    have b := gN_trans h hi (gLo_in hi gN_self)
    rw [q, a] at b
    rw [b]; exact gN_self
  · intro q
    rw [gN_trans h hc q]
end
end
