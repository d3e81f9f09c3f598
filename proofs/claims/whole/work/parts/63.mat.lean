/-! ===== the matrices of the balance ===== -/
def mA (act : Nat → Bool) (g : Nat → Nat → Nat) (e : Nat → Nat) (n i j : Nat) : Int :=
  if act i = true then (if i = j then (e i : Int) + sm (fun l => if act l = true then (g i l : Int) else 0) n else if act j = true then -(g i j : Int) else 0) else if i = j then 1 else 0
section
variable {act : Nat → Bool} {g : Nat → Nat → Nat} {e : Nat → Nat} {n : Nat}
set_option maxRecDepth 20000 in
theorem mA_row {T : Nat → Bool} {i : Nat} (hi : i < n) (h0 : g i i = 0) (ha : act i = true) (hT : T i = true) : sT T (mA act g e n i) n = e i + sm (fun l => if act l = true ∧ ¬ T l = true then (g i l : Int) else 0) n := by
  obtain ⟨D, eD⟩ : ∃ D : Int, D = (e i : Int) + sm (fun l => if act l = true then (g i l : Int) else 0) n := ⟨_, rfl⟩
  have e1 : sT T (mA act g e n i) n = sm (fun j => (if j = i then D else 0) + -(if T j = true ∧ act j = true then (g i j : Int) else 0)) n := by
    unfold sT
    refine sm_congr n (fun j hj => ?_)
    unfold mA
    by_cases q : j = i
    · subst q
      simp [hT, ha, h0, eD]
    · have q2 : ¬ i = j := fun z => q z.symm
      by_cases t : T j = true
      · by_cases u : act j = true
        · simp [q, q2, ha, t, u]
        · simp [q, q2, ha, t, u]
      · simp [q, t]
  rw [e1, sm_add, sm_delta (f := fun _ => D) n hi, sm_neg]
  have e2 : sm (fun l => if act l = true ∧ ¬ T l = true then (g i l : Int) else 0) n = sm (fun l => if act l = true then (g i l : Int) else 0) n - sm (fun j => if T j = true ∧ act j = true then (g i j : Int) else 0) n := by
    rw [← sm_sub]
    refine sm_congr n (fun j hj => ?_)
    by_cases t : T j = true <;> by_cases u : act j = true <;> simp [t, u]
  rw [e2]
  show D + _ = _
  omega
set_option maxRecDepth 20000 in
theorem mA_row1 {T : Nat → Bool} {i : Nat} (hi : i < n) (ha : ¬ act i = true) (hT : T i = true) : sT T (mA act g e n i) n = 1 := by
  have e1 : sT T (mA act g e n i) n = sm (fun j => if j = i then 1 else 0) n := by
    unfold sT
    refine sm_congr n (fun j hj => ?_)
    unfold mA
    by_cases q : j = i
    · subst q
      simp [hT, ha]
    · have q2 : ¬ i = j := fun z => q z.symm
      simp [q, q2, ha]
  rw [e1, sm_delta (f := fun _ => 1) n hi]
set_option maxRecDepth 20000 in
theorem mA_gi (hs : ∀ i j, i < n → j < n → g i j = g j i) (h0 : ∀ i, i < n → g i i = 0) (hd : ∀ i, i < n → act i = true → (e i : Int) + sm (fun l => if act l = true then (g i l : Int) else 0) n ≤ 160) (hp : ∀ T : Nat → Bool, (∀ i, T i = true → i < n ∧ act i = true) → (∃ i, T i = true) → (∃ i, T i = true ∧ 0 < e i) ∨ ∃ i j, T i = true ∧ j < n ∧ act j = true ∧ ¬ T j = true ∧ 0 < g i j) : gGI n 0 1 (mA act g e n) := by
  have nn : ∀ (T : Nat → Bool) i, i < n → T i = true → 0 ≤ sT T (mA act g e n i) n := fun T i hi hT => by
    by_cases ha : act i = true
    · rw [mA_row hi (h0 i hi) ha hT]
      have := sm_nn (f := fun l => if act l = true ∧ ¬ T l = true then (g i l : Int) else 0) n (fun l hl => by
        show (0 : Int) ≤ if act l = true ∧ ¬ T l = true then (g i l : Int) else 0
        split <;> omega)
      omega
    · rw [mA_row1 hi ha hT]; decide
  refine ⟨by decide, fun i j hi hj => ⟨fun z => by omega, fun z => by omega, fun _ z => by omega, fun _ _ hij => ?_⟩, fun i j hi hj => ⟨fun _ _ => ?_, fun z => by omega⟩, fun i hi => ⟨fun _ => nn (uK 0) i hi (by simp [uK]), fun z => by omega⟩, fun T hT hne => ?_, by decide, fun i _ hi => ?_, fun i j z => by omega⟩
  · unfold mA
    rw [if_neg hij, if_neg hij]
    split
    · split <;> omega
    · omega
  · unfold mA
    by_cases q : i = j
    · subst q; rfl
    · have q2 : ¬ j = i := fun z => q z.symm
      rw [if_neg q, if_neg q, if_neg q2, if_neg q2, hs i j hi hj]
      by_cases t : act i = true <;> by_cases u : act j = true <;> simp [t, u]
  · have key : ∃ i, T i = true ∧ 0 < sT T (mA act g e n i) n := by
      by_cases hall : ∀ i, T i = true → act i = true
      · rcases hp T (fun i hi => ⟨(hT i hi).2, hall i hi⟩) hne with ⟨i, h1, h2⟩ | ⟨i, j, h1, h2, h3, h4, h5⟩
        · refine ⟨i, h1, ?_⟩
          have hi := (hT i h1).2
          rw [mA_row hi (h0 i hi) (hall i h1) h1]
          have := sm_nn (f := fun l => if act l = true ∧ ¬ T l = true then (g i l : Int) else 0) n (fun l hl => by
            show (0 : Int) ≤ if act l = true ∧ ¬ T l = true then (g i l : Int) else 0
            split <;> omega)
          omega
        · refine ⟨i, h1, ?_⟩
          have hi := (hT i h1).2
          rw [mA_row hi (h0 i hi) (hall i h1) h1]
          have := sm_ge1 (f := fun l => if act l = true ∧ ¬ T l = true then (g i l : Int) else 0) (j := j) n (fun l hl => by
            show (0 : Int) ≤ if act l = true ∧ ¬ T l = true then (g i l : Int) else 0
            split <;> omega) h2
          have h6 : (if act j = true ∧ ¬ T j = true then (g i j : Int) else 0) = g i j := if_pos ⟨h3, h4⟩
          rw [h6] at this
          omega
      · have : ∃ i, T i = true ∧ ¬ act i = true := by
          apply Classical.byContradiction
          intro q
          exact hall (fun i hi => Classical.byContradiction (fun z => q ⟨i, hi, z⟩))
        obtain ⟨i, h1, h2⟩ := this
        exact ⟨i, h1, by rw [mA_row1 (hT i h1).2 h2 h1]; decide⟩
    obtain ⟨i, h1, h2⟩ := key
    have := sm_ge1 (f := fun i => if T i = true then sT T (mA act g e n i) n else 0) (j := i) n (fun l hl => by
      show (0 : Int) ≤ if T l = true then sT T (mA act g e n l) n else 0
      by_cases t : T l = true
      · rw [if_pos t]; exact nn T l hl t
      · rw [if_neg t]; exact Int.le_refl 0) (hT i h1).2
    simp only [h1, if_true] at this
    show 0 < sm (fun i => if T i = true then sT T (mA act g e n i) n else 0) n
    omega
  · unfold mA
    rw [if_pos rfl, if_pos rfl]
    split
    · rename_i q
      have := hd i hi q
      omega
    · decide
end
/-! ===== the key of the balance ===== -/
def kg (k : Nat → Nat) (i j : Nat) : Nat := k (3 + 5 * i + j)
def dg (r p : Nat) : Nat := if p = 0 then r / 9 % 3 else if p = 1 then r / 3 % 3 else r % 3
def ksp (k : Nat → Nat) (r c : Nat) : Nat := (if c = k 1 then k 2 else 0) + (if k 28 = c then k (30 + dg r 0) else 0) + (if k 33 = c then k (35 + dg r 1) else 0) + (if k 38 = c then k (40 + dg r 2) else 0)
def kop (k : Nat → Nat) : Nat → Bool := fun t => decide (k (3 + t) ≠ 0)
def knet (k : Nat → Nat) (c : Nat) : Nat := gN (kop k) (fun t => t / 5) (fun t => t % 5) 25 c
def kFs (k : Nat → Nat) (r c : Nat) : Prop := ∃ o, o < 5 ∧ (knet k c).testBit o = true ∧ 0 < ksp k r o
noncomputable def kF (k : Nat → Nat) (r c : Nat) : Bool := @decide (kFs k r c) (Classical.propDecidable _)
noncomputable def kA (k : Nat → Nat) (r : Nat) : Nat → Nat → Int := mA (kF k r) (kg k) (ksp k r) 5
def kwt (k : Nat → Nat) (r i : Nat) : Nat := ksp k r i + (kg k i 0 + kg k i 1 + kg k i 2 + kg k i 3 + kg k i 4)
/-! a key as lines write it -/
def GK (k : Nat → Nat) : Prop := k 0 ≤ 5 ∧ (∀ i j, i < 5 → j < 5 → kg k i j = kg k j i) ∧ (∀ i, i < 5 → kg k i i = 0) ∧ (∀ i j, i < 5 → j < 5 → k 0 ≤ i → kg k i j = 0) ∧ (k 2 = 0 ∨ k 1 < k 0) ∧ (∀ p s, p < 3 → s < 3 → (k (28 + 5 * p + 2 + s) = 0 ∨ k (28 + 5 * p) < k 0) ∧ k (28 + 5 * p) < 5) ∧ (∀ r i, r < 27 → i < 5 → kwt k r i ≤ 160) ∧ (∀ p, p < 3 → k (28 + 5 * p + 1) ≠ 0 → k (28 + 5 * p) < k 0 ∧ 1 ≤ k (43 + 2 * p) ∧ k (43 + 2 * p) < k (43 + 2 * p + 1) ∧ k (43 + 2 * p + 1) ≤ 9999) ∧ (∀ c, c < 5 → k (49 + c) ≤ 2000) ∧ (∀ c, c < 5 → k 0 ≤ c → k (49 + c) = 0)
section
variable {k : Nat → Nat} {r : Nat}
theorem kF_iff {c : Nat} : kF k r c = true ↔ kFs k r c := @decide_eq_true_iff _ (Classical.propDecidable _)
theorem kends : ∀ t, t < 25 → kop k t = true → t / 5 < 5 ∧ t % 5 < 5 := fun t ht _ => by omega
theorem knet_self {c : Nat} : (knet k c).testBit c = true := gN_self
theorem knet_in {c i : Nat} (hc : c < 5) (h : (knet k c).testBit i = true) : i < 5 := gN_in kends hc h
theorem knet_eq {c i : Nat} (hc : c < 5) (h : (knet k c).testBit i = true) : knet k i = knet k c := gN_trans kends hc h
set_option maxRecDepth 20000 in
theorem knet_g {i j : Nat} (hi : i < 5) (hj : j < 5) (h : kg k i j ≠ 0) : knet k i = knet k j := by
  have := gN_tube (op := kop k) (f := fun t => t / 5) (g := fun t => t % 5) (t := 5 * i + j) kends (by omega) (by unfold kop; exact decide_eq_true (by rw [← Nat.add_assoc]; exact h))
  simp only [show (5 * i + j) / 5 = i by omega, show (5 * i + j) % 5 = j by omega] at this
  exact this
set_option maxRecDepth 20000 in
theorem kF_net {c i : Nat} (h : knet k c = knet k i) : kF k r c = kF k r i := by
  rw [Bool.eq_iff_iff, kF_iff, kF_iff]
  unfold kFs
  rw [h]
set_option maxRecDepth 20000 in
theorem kA_good (h : GK k) (hr : r < 27) : gGI 5 0 1 (kA k r) := by
  obtain ⟨h1, h2, h3, h4, h5, h6, h7, -⟩ := h
  refine mA_gi h2 h3 (fun i hi ha => ?_) (fun T hT hne => ?_)
  · have a := h7 r i hr hi
    have b := sm_le (f := fun l => if kF k r l = true then (kg k i l : Int) else 0) (g := fun l => (kg k i l : Int)) 5 (fun l _ => by
      show (if kF k r l = true then (kg k i l : Int) else 0) ≤ (kg k i l : Int)
      split <;> omega)
    have c := sm5 (fun l => (kg k i l : Int))
    unfold kwt at a
    omega
  · obtain ⟨i, hi⟩ := hne
    apply Classical.byContradiction
    intro q
    have q1 : ∀ j, T j = true → ksp k r j = 0 := fun j hj => by
      apply Classical.byContradiction
      intro z
      exact q (Or.inl ⟨j, hj, by omega⟩)
    have q2 : ∀ a b, a < 5 → b < 5 → T a = true → kg k a b ≠ 0 → T b = true := fun a b ha hb ta hg => by
      apply Classical.byContradiction
      intro z
      exact q (Or.inr ⟨a, b, ta, hb, by rw [kF_net (knet_g ha hb hg).symm]; exact (hT a ta).2, z, by omega⟩)
    have cl : gCl (kop k) (fun t => t / 5) (fun t => t % 5) 25 (fun j => T j = true) := fun t ht ho => by
      have hg : kg k (t / 5) (t % 5) ≠ 0 := by
        have := of_decide_eq_true ho
        unfold kg
        rw [show 3 + 5 * (t / 5) + t % 5 = 3 + t by omega]
        exact this
      show T (t / 5) = true ↔ T (t % 5) = true
      exact ⟨fun z => q2 _ _ (by omega) (by omega) z hg, fun z => q2 _ _ (by omega) (by omega) z (by rw [h2 _ _ (by omega) (by omega)]; exact hg)⟩
    obtain ⟨o, o1, o2, o3⟩ := kF_iff.mp (hT i hi).2
    have := q1 o (gN_min cl hi o2)
    omega
end
