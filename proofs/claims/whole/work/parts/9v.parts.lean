/-! ===== parts: the least cut ===== -/
def lsB (a b : Nat) : Bool := decide (pc10 a < pc10 b ∨ (pc10 a = pc10 b ∧ a < b))
def ctF (X : Nat → Int32) (S t : Nat) : Bool := oX X t && decide (S.testBit (fX X t) ≠ S.testBit (gX X t))
def ctS (X : Nat → Int32) (nt S : Nat) : Nat := msk (ctF X S) nt
def bsN (X : Nat → Int32) (nt S : Nat) (o : Option Nat) : Option Nat := match o with
  | none => some (ctS X nt S)
  | some b => if lsB (ctS X nt S) b = true then some (ctS X nt S) else some b
def bst (X : Nat → Int32) (nt f t : Nat) : Nat → Option Nat
  | 0 => none
  | S + 1 => if S.testBit f = true ∧ ¬ S.testBit t = true then bsN X nt S (bst X nt f t S) else bst X nt f t S
def opW (X : Nat → Int32) (w t : Nat) : Bool := oX X t && !w.testBit t
def hgW (X : Nat → Int32) (nt f w : Nat) : Nat := gR (opW X w) (fX X) (gX X) nt (2 ^ f) 5
def opA (X : Nat → Int32) (w : Nat) : Nat → Bool
  | 0 => true
  | t + 1 => opA X w t && (!w.testBit t || oX X t)
def vlB (X : Nat → Int32) (nt f t w : Nat) : Bool := opA X w nt && !(hgW X nt f w).testBit t
def rsN (X : Nat → Int32) (nt f t w : Nat) (o : Option Nat) : Option Nat := match o with
  | none => if vlB X nt f t w = true then some w else none
  | some b => if pc10 w < pc10 b ∧ vlB X nt f t w = true then some w else some b
def rst (X : Nat → Int32) (nt f t : Nat) : Nat → Option Nat
  | 0 => none
  | n + 1 => rsN X nt f t (n + 1) (rst X nt f t n)
section
variable {X : Nat → Int32} {nc nt np nw tm tB f t n a b S w : Nat}
set_option maxRecDepth 20000 in
theorem pc5_le (ha : a < 32) (hb : b < 32) (h : gSub a b) : pc5 a ≤ pc5 b := by
  by_cases e : a = b
  · rw [e]; exact Nat.le_refl _
  · exact Nat.le_of_lt (pc5_lt ha hb h e)
set_option maxRecDepth 20000 in
theorem pc10_lt (ha : a < 1024) (hb : b < 1024) (h : gSub a b) (hn : a ≠ b) : pc10 a < pc10 b := by
  have h1 : gSub (a % 32) (b % 32) := fun i hi => by
    rw [show 32 = 2 ^ 5 from rfl, Nat.testBit_mod_two_pow] at hi ⊢
    simp only [Bool.and_eq_true, decide_eq_true_eq] at hi ⊢
    exact ⟨hi.1, h i hi.2⟩
  have h2 : gSub (a / 32) (b / 32) := fun i hi => by
    rw [show 32 = 2 ^ 5 from rfl, Nat.testBit_div_two_pow] at hi ⊢
    exact h _ hi
  have l1 := pc5_le (a := a % 32) (b := b % 32) (by omega) (by omega) h1
  have l2 := pc5_le (a := a / 32) (b := b / 32) (by omega) (by omega) h2
  unfold pc10
  by_cases e : a % 32 = b % 32
  · have := pc5_lt (a := a / 32) (b := b / 32) (by omega) (by omega) h2 (by omega)
    omega
  · have := pc5_lt (a := a % 32) (b := b % 32) (by omega) (by omega) h1 e
    omega
set_option maxRecDepth 20000 in
theorem lsB_tot (h1 : lsB a b = false) (h2 : lsB b a = false) : a = b := by
  have h1 := of_decide_eq_false h1
  have h2 := of_decide_eq_false h2
  omega
set_option maxRecDepth 20000 in
theorem bst_ok : ∀ n, (bst X nt f t n = none → ∀ S, S < n → S.testBit f = true → ¬ S.testBit t = true → False) ∧ (∀ b, bst X nt f t n = some b → (∃ S, S < n ∧ S.testBit f = true ∧ (¬ S.testBit t = true) ∧ b = ctS X nt S) ∧ ∀ S, S < n → S.testBit f = true → ¬ S.testBit t = true → lsB (ctS X nt S) b = false) := by
  intro n
  induction n with
  | zero => exact ⟨(fun _ S hS => by omega), (fun b hb => by cases hb)⟩
  | succ n ih =>
    have e : bst X nt f t (n + 1) = if n.testBit f = true ∧ ¬ n.testBit t = true then bsN X nt n (bst X nt f t n) else bst X nt f t n := rfl
    rw [e]
    by_cases c : n.testBit f = true ∧ ¬ n.testBit t = true
    · rw [if_pos c]
      cases eb : bst X nt f t n with
      | none =>
        refine ⟨(fun h => by cases h), fun b hb => ?_⟩
        cases hb
        refine ⟨⟨n, by omega, c.1, c.2, rfl⟩, fun S hS h1 h2 => ?_⟩
        by_cases eS : S = n
        · rw [eS]
          unfold lsB
          exact decide_eq_false (by omega)
        · exact absurd trivial (fun _ => ih.1 eb S (by omega) h1 h2)
      | some b0 =>
        obtain ⟨i1, i2⟩ := ih.2 b0 eb
        refine ⟨(fun h => by
          unfold bsN at h
          simp only at h
          split at h <;> cases h), fun b hb => ?_⟩
        unfold bsN at hb
        simp only at hb
        by_cases l : lsB (ctS X nt n) b0 = true
        · rw [if_pos l] at hb
          cases hb
          refine ⟨⟨n, by omega, c.1, c.2, rfl⟩, fun S hS h1 h2 => ?_⟩
          by_cases eS : S = n
          · rw [eS]
            unfold lsB
            exact decide_eq_false (by omega)
          · have := of_decide_eq_false (i2 S (by omega) h1 h2)
            have l := of_decide_eq_true l
            unfold lsB
            exact decide_eq_false (by omega)
        · rw [if_neg l] at hb
          cases hb
          obtain ⟨S0, s1, s2, s3, s4⟩ := i1
          refine ⟨⟨S0, by omega, s2, s3, s4⟩, fun S hS h1 h2 => ?_⟩
          by_cases eS : S = n
          · rw [eS]; simpa using l
          · exact i2 S (by omega) h1 h2
    · rw [if_neg c]
      refine ⟨fun h S hS h1 h2 => ?_, fun b hb => ?_⟩
      · by_cases eS : S = n
        · rw [eS] at h1 h2; exact c ⟨h1, h2⟩
        · exact ih.1 h S (by omega) h1 h2
      · obtain ⟨⟨S0, s1, s2, s3, s4⟩, i2⟩ := ih.2 b hb
        refine ⟨⟨S0, by omega, s2, s3, s4⟩, fun S hS h1 h2 => ?_⟩
        by_cases eS : S = n
        · rw [eS] at h1 h2; exact absurd ⟨h1, h2⟩ c
        · exact i2 S (by omega) h1 h2
set_option maxRecDepth 20000 in
theorem rst_ok : ∀ n, (rst X nt f t n = none → ∀ w, 1 ≤ w → w ≤ n → vlB X nt f t w = false) ∧ (∀ b, rst X nt f t n = some b → (1 ≤ b ∧ b ≤ n ∧ vlB X nt f t b = true) ∧ ∀ w, 1 ≤ w → w ≤ n → vlB X nt f t w = true → lsB w b = false) := by
  intro n
  induction n with
  | zero => exact ⟨(fun _ w h1 h2 => by omega), (fun b hb => by cases hb)⟩
  | succ n ih =>
    have e : rst X nt f t (n + 1) = rsN X nt f t (n + 1) (rst X nt f t n) := rfl
    rw [e]
    cases eb : rst X nt f t n with
    | none =>
      have i1 := ih.1 eb
      unfold rsN
      simp only
      by_cases v : vlB X nt f t (n + 1) = true
      · rw [if_pos v]
        refine ⟨(fun h => by cases h), fun b hb => ?_⟩
        cases hb
        refine ⟨⟨by omega, by omega, v⟩, fun w h1 h2 h3 => ?_⟩
        by_cases ew : w = n + 1
        · rw [ew]
          unfold lsB
          exact decide_eq_false (by omega)
        · rw [i1 w h1 (by omega)] at h3; cases h3
      · rw [if_neg v]
        refine ⟨fun _ w h1 h2 => ?_, fun b hb => by cases hb⟩
        by_cases ew : w = n + 1
        · rw [ew]; simpa using v
        · exact i1 w h1 (by omega)
    | some b0 =>
      obtain ⟨⟨j1, j2, j3⟩, i2⟩ := ih.2 b0 eb
      unfold rsN
      simp only
      by_cases v : pc10 (n + 1) < pc10 b0 ∧ vlB X nt f t (n + 1) = true
      · rw [if_pos v]
        refine ⟨(fun h => by cases h), fun b hb => ?_⟩
        cases hb
        refine ⟨⟨by omega, by omega, v.2⟩, fun w h1 h2 h3 => ?_⟩
        by_cases ew : w = n + 1
        · rw [ew]
          unfold lsB
          exact decide_eq_false (by omega)
        · have := of_decide_eq_false (i2 w h1 (by omega) h3)
          unfold lsB
          exact decide_eq_false (by omega)
      · rw [if_neg v]
        refine ⟨(fun h => by cases h), fun b hb => ?_⟩
        cases hb
        refine ⟨⟨j1, by omega, j3⟩, fun w h1 h2 h3 => ?_⟩
        by_cases ew : w = n + 1
        · rw [ew]
          rw [ew] at h3
          have : ¬ pc10 (n + 1) < pc10 b0 := fun z => v ⟨z, h3⟩
          unfold lsB
          exact decide_eq_false (by omega)
        · exact i2 w h1 (by omega) h3
set_option maxRecDepth 20000 in
theorem opA_iff : ∀ n, opA X w n = true ↔ ∀ s, s < n → w.testBit s = true → oX X s = true
  | 0 => ⟨fun _ s hs => by omega, fun _ => rfl⟩
  | n + 1 => by
    simp only [opA, Bool.and_eq_true, Bool.or_eq_true, Bool.not_eq_true']
    rw [opA_iff n]
    constructor
    · intro h s hs hw
      by_cases e : s = n
      · subst e
        rcases h.2 with z | z
        · rw [z] at hw; cases hw
        · exact z
      · exact h.1 s (by omega) hw
    · intro h
      refine ⟨fun s hs hw => h s (by omega) hw, ?_⟩
      cases e : w.testBit n with
      | false => exact Or.inl rfl
      | true => exact Or.inr (h n (by omega) e)
theorem ct_bit {s : Nat} : (ctS X nt S).testBit s = (decide (s < nt) && ctF X S s) := msk_bit nt
theorem ct_lt : ctS X nt S < 2 ^ nt := msk_lt nt
set_option maxRecDepth 20000 in
theorem opW_ends (hv : VxB X nc nt np nw tm tB) : ∀ s, s < nt → opW X w s = true → fX X s < nc ∧ gX X s < nc := fun s hs ho => by
  unfold opW at ho
  simp only [Bool.and_eq_true] at ho
  exact ends_lt hv s hs ho.1
/-! a set of chambers gives a cut -/
set_option maxRecDepth 20000 in
theorem cut_vl (hv : VxB X nc nt np nw tm tB) (h1 : S.testBit f = true) (h2 : ¬ S.testBit t = true) : vlB X nt f t (ctS X nt S) = true := by
  unfold vlB
  rw [Bool.and_eq_true]
  refine ⟨(opA_iff nt).mpr (fun s hs hw => ?_), ?_⟩
  · rw [ct_bit] at hw
    unfold ctF at hw
    simp only [Bool.and_eq_true] at hw
    exact hw.2.1
  · have cl : gCl (opW X (ctS X nt S)) (fX X) (gX X) nt (gM S) := fun s hs ho => by
      unfold opW at ho
      rw [ct_bit, decide_eq_true hs, Bool.true_and] at ho
      unfold ctF at ho
      simp only [Bool.and_eq_true, Bool.not_eq_true'] at ho
      obtain ⟨o1, o2⟩ := ho
      rw [o1, Bool.true_and] at o2
      have o2 := of_decide_eq_false o2
      unfold gM
      have o3 : S.testBit (fX X s) = S.testBit (gX X s) := by
        by_cases z : S.testBit (fX X s) = S.testBit (gX X s)
        · exact z
        · exact absurd z o2
      rw [o3]
    have mn := fun i => gR_min (Z := gM S) cl (m := 2 ^ f) (fun i hi => by
      have : i = f := by
        rw [Nat.testBit_two_pow] at hi
        simpa using (of_decide_eq_true hi).symm
      rw [this]; exact h1) 5 i
    cases e : (hgW X nt f (ctS X nt S)).testBit t with
    | false => rfl
    | true => exact absurd (mn t e) h2
/-! a set of tubes that parts holds a cut -/
set_option maxRecDepth 20000 in
theorem cut_in (hv : VxB X nc nt np nw tm tB) (hf : f < nc) (h : vlB X nt f t w = true) : ∃ S, S < 2 ^ nc ∧ S.testBit f = true ∧ (¬ S.testBit t = true) ∧ gSub (ctS X nt S) w := by
  have hb := hv.2.1
  unfold vlB at h
  rw [Bool.and_eq_true] at h
  have cl : gCl (opW X w) (fX X) (gX X) nt (gM (hgW X nt f w)) := gR_cl (n := nc) hb.1 (two_lt hf) (two_ne f) (opW_ends hv) (by omega)
  refine ⟨hgW X nt f w, gR_lt (two_lt hf) (opW_ends hv) 5, gR_sub 5 f Nat.testBit_two_pow_self, ?_, fun s hs => ?_⟩
  · have := h.2
    cases e : (hgW X nt f w).testBit t with
    | false => decide
    | true => rw [e] at this; cases this
  · rw [ct_bit] at hs
    unfold ctF at hs
    simp only [Bool.and_eq_true, decide_eq_true_eq] at hs
    obtain ⟨s1, s2, s3⟩ := hs
    cases e : w.testBit s with
    | true => rfl
    | false =>
      exfalso
      have o : opW X w s = true := by unfold opW; rw [s2, e]; rfl
      have i := cl s s1 o
      unfold gM at i
      cases e1 : (hgW X nt f w).testBit (fX X s) <;> cases e2 : (hgW X nt f w).testBit (gX X s) <;> rw [e1, e2] at s3 i <;> simp at s3 i
/-! both find the same -/
set_option maxRecDepth 20000 in
theorem parts_eq (hv : VxB X nc nt np nw tm tB) (hf : f < nc) (ht : t < nc) (hft : f ≠ t) (hh : (nX X nt f).testBit t = true) : ∃ b, bst X nt f t (2 ^ nc) = some b ∧ rst X nt f t (2 ^ nt - 1) = some b ∧ b < 1024 := by
  have hb := hv.2.1
  have e5 := ends_5 hv
  have p10 : 2 ^ nt ≤ 1024 := Nat.pow_le_pow_right (i := nt) (j := 10) (by decide) hb.2.1
  have fb : (2 ^ f).testBit f = true := Nat.testBit_two_pow_self
  have tb : ¬ (2 ^ f).testBit t = true := by
    rw [Nat.testBit_two_pow]
    simp only [decide_eq_true_eq]
    omega
  have cpos : ∀ S, S.testBit f = true → ¬ S.testBit t = true → 1 ≤ ctS X nt S := fun S h1 h2 => by
    by_cases z : ctS X nt S = 0
    · exfalso
      have cl : gCl (oX X) (fX X) (gX X) nt (gM S) := fun s hs ho => by
        have q := ct_bit (X := X) (nt := nt) (S := S) (s := s)
        rw [z, Nat.zero_testBit, decide_eq_true hs, Bool.true_and] at q
        unfold ctF at q
        rw [ho, Bool.true_and] at q
        have q := of_decide_eq_false q.symm
        unfold gM
        have o3 : S.testBit (fX X s) = S.testBit (gX X s) := by
          by_cases z : S.testBit (fX X s) = S.testBit (gX X s)
          · exact z
          · exact absurd z q
        rw [o3]
      exact h2 (gN_min (Z := gM S) cl h1 hh)
    · omega
  cases eb : bst X nt f t (2 ^ nc) with
  | none => exact absurd trivial (fun _ => (bst_ok (2 ^ nc)).1 eb (2 ^ f) (two_lt hf) fb tb)
  | some b =>
    obtain ⟨⟨S, s1, s2, s3, s4⟩, bm⟩ := (bst_ok (2 ^ nc)).2 b eb
    have vb : vlB X nt f t b = true := by rw [s4]; exact cut_vl hv s2 s3
    have lb : b < 2 ^ nt := by rw [s4]; exact ct_lt
    have b1 : 1 ≤ b := by rw [s4]; exact cpos S s2 s3
    refine ⟨b, rfl, ?_, by omega⟩
    cases er : rst X nt f t (2 ^ nt - 1) with
    | none =>
      have := (rst_ok (2 ^ nt - 1)).1 er b b1 (by omega)
      rw [vb] at this
      cases this
    | some a =>
      obtain ⟨⟨a1, a2, a3⟩, am⟩ := (rst_ok (2 ^ nt - 1)).2 a er
      obtain ⟨C, c1, c2, c3, c4⟩ := cut_in hv hf a3
      have eC : ctS X nt C = a := by
        by_cases z : ctS X nt C = a
        · exact z
        · have lc : ctS X nt C < 2 ^ nt := ct_lt
          have lt := pc10_lt (a := ctS X nt C) (b := a) (by omega) (by omega) c4 z
          have := of_decide_eq_false (am (ctS X nt C) (cpos C c2 c3) (by omega) (cut_vl hv c2 c3))
          exact absurd (Or.inl lt) this
      have q1 := bm C c1 c2 c3
      rw [eC] at q1
      have q2 := am b b1 (by omega) vb
      rw [lsB_tot q1 q2]
end
