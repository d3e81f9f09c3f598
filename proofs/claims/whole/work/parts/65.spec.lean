/-! ===== what the pressures are, by the key ===== -/
set_option maxRecDepth 20000 in
theorem fourI_congr {u v : Nat → Int} (h : ∀ q, q < 16 → u q = v q) : fourI u = fourI v := by
  unfold fourI
  rw [h 0 (by decide), h 1 (by decide), h 2 (by decide), h 3 (by decide), h 4 (by decide), h 5 (by decide), h 6 (by decide), h 7 (by decide), h 8 (by decide), h 9 (by decide), h 10 (by decide), h 11 (by decide), h 12 (by decide), h 13 (by decide), h 14 (by decide), h 15 (by decide)]
section
variable {B C : Nat → Nat → Int}
set_option maxRecDepth 20000 in
theorem cofI_congr (h : ∀ i j, i < 5 → j < 5 → B i j = C i j) {i j : Nat} (hi : i < 5) (hj : j < 5) : cofI B i j = cofI C i j := by
  have : fourI (mnI B i j) = fourI (mnI C i j) := fourI_congr (fun q hq => by
    unfold mnI
    refine h _ _ ?_ ?_
    · unfold sk; split <;> omega
    · unfold sk; split <;> omega)
  unfold cofI
  rw [this]
set_option maxRecDepth 20000 in
theorem detI_congr (h : ∀ i j, i < 5 → j < 5 → B i j = C i j) : detI B = detI C := by
  unfold detI
  exact sm_congr 5 (fun l hl => by rw [h 0 l (by decide) hl, cofI_congr h (by decide) hl])
/-! what stands in different blocks -/
set_option maxRecDepth 20000 in
theorem cof_block {N : Nat → Nat} (hz : ∀ i l, i < 5 → l < 5 → N i ≠ N l → B i l = 0) (hd : detI B ≠ 0) {o c : Nat} (ho : o < 5) (hc : c < 5) (h : N c ≠ N o) : cofI B o c = 0 := by
  obtain ⟨x, ex⟩ : ∃ x : Nat → Int, x = fun l => if N l = N o then 0 else cofI B o l := ⟨_, rfl⟩
  have z : ∀ i, i < 5 → sm (fun l => B i l * x l) 5 = 0 := fun i hi => by
    by_cases q : N i = N o
    · refine sm_zero 5 (fun l hl => ?_)
      rw [ex]
      simp only
      by_cases p : N l = N o
      · rw [if_pos p, Int.mul_zero]
      · rw [hz i l hi hl (fun y => p (y ▸ q)), Int.zero_mul]
    · have := lap_row B hi ho
      rw [if_neg (fun y => q (by rw [y]))] at this
      rw [← this]
      refine sm_congr 5 (fun l hl => ?_)
      rw [ex]
      simp only
      by_cases p : N l = N o
      · rw [hz i l hi hl (fun y => q (y.trans p)), Int.zero_mul, Int.zero_mul]
      · rw [if_neg p]
  have e1 : sm (fun i => cofI B i c * sm (fun l => B i l * x l) 5) 5 = 0 := sm_zero 5 (fun i hi => by rw [z i hi, Int.mul_zero])
  have e2 : sm (fun i => cofI B i c * sm (fun l => B i l * x l) 5) 5 = sm (fun l => sm (fun i => B i l * cofI B i c) 5 * x l) 5 := by
    rw [sm_congr (g := fun i => sm (fun l => B i l * cofI B i c * x l) 5) 5 (fun i _ => by rw [← sm_mul]; exact sm_congr 5 (fun l _ => by grind)), sm_swap]
    exact sm_congr 5 (fun l _ => sm_mulr 5)
  rw [e2, sm_congr (g := fun l => if l = c then detI B * x l else 0) 5 (fun l hl => by
    rw [lap_col B hl hc]
    by_cases q : l = c
    · rw [if_pos q, if_pos q]
    · rw [if_neg q, if_neg q, Int.zero_mul]), sm_delta 5 hc] at e1
  rcases Int.mul_eq_zero.mp e1 with q | q
  · exact absurd q hd
  · rw [ex] at q
    simp only at q
    rwa [if_neg h] at q
set_option maxRecDepth 20000 in
theorem gi_sub {n : Nat} (hn : n ≤ 5) (hz : ∀ i j, i < n → n ≤ j → j < 5 → B i j = 0) (h : gGI 5 0 1 B) : gGI n 0 1 B := by
  obtain ⟨h1, h2, h3, h4, h5, h6, h7, h8⟩ := h
  have cut : ∀ (T : Nat → Bool) i, i < n → sT T (B i) n = sT T (B i) 5 := fun T i hi => by
    unfold sT
    rw [sm_cut5 hn (fun j a b => by rw [hz i j hi a b]; split <;> rfl)]
  refine ⟨h1, fun i j hi hj => h2 i j (by omega) (by omega), fun i j hi hj => h3 i j (by omega) (by omega), fun i hi => ?_, fun T hT hne => ?_, h6, fun i a b => h7 i a (by omega), fun i j a b c d => h8 i j a b (by omega) (by omega)⟩
  · rw [cut _ i hi]; exact h4 i (by omega)
  · have := h5 T (fun i hi => by have := hT i hi; omega) hne
    have e : sT T (fun i => sT T (B i) 5) 5 = sT T (fun i => sT T (B i) n) n := by
      unfold sT
      rw [sm_cut5 hn (fun i a b => by
        have : ¬ T i = true := fun z => by have := hT i z; omega
        rw [if_neg this])]
      exact sm_congr n (fun i hi => by
        by_cases q : T i = true
        · rw [if_pos q, if_pos q]
          exact (cut T i hi).symm
        · rw [if_neg q, if_neg q])
    rwa [e] at this
theorem eK_full : ∀ i j, i < 5 → j < 5 → eK B 5 i j = B i j := fun i j hi hj => eK_in hi hj
set_option maxRecDepth 20000 in
theorem gi_det (h : gGI 5 0 1 B) : 0 < detI B ∧ detI B ≤ 104857600000 ∧ ∀ i j, i < 5 → j < 5 → 0 ≤ cofI B i j ∧ cofI B i j ≤ 3276800000 := by
  have g := gi_all (by decide) h 5 (by decide)
  have e1 : dK B 5 = detI B := detI_congr eK_full
  have e2 : ∀ i j, i < 5 → j < 5 → sK B 5 j i = cofI B i j := fun i j hi hj => by
    unfold sK
    rw [if_pos hj, if_pos hi]
    exact cofI_congr eK_full hi hj
  rw [e1] at g
  have p5 : pw 5 = 104857600000 := by decide
  refine ⟨g.1, ?_, fun i j hi hj => ?_⟩
  · have := g.2.2.2.2.2.1
    omega
  · have := (gi_abs g (by decide) (i := j) (j := i) hj hi).2.2.1 hj hi
    rw [e2 i j hi hj, p5] at this
    omega
end
section
variable {k : Nat → Nat} {r : Nat}
set_option maxRecDepth 20000 in
theorem ksp_out (h : GK k) {i : Nat} (hi : k 0 ≤ i) : ksp k r i = 0 := by
  obtain ⟨-, -, -, -, h5, h6, -⟩ := h
  have e : ∀ p, p < 3 → (if k (28 + 5 * p) = i then k (28 + 5 * p + 2 + dg r p) else 0) = 0 := fun p hp => by
    have := h6 p (dg r p) hp (by unfold dg; (repeat' split) <;> omega)
    by_cases q : k (28 + 5 * p) = i
    · rw [if_pos q]; omega
    · rw [if_neg q]
  have e0 := e 0 (by decide)
  have e1 := e 1 (by decide)
  have e2 := e 2 (by decide)
  simp only [Nat.mul_zero, Nat.add_zero, Nat.mul_one, show 28 + 5 * 2 = 38 from rfl, show 28 + 2 = 30 from rfl, show 28 + 5 = 33 from rfl, show 33 + 2 = 35 from rfl, show 38 + 2 = 40 from rfl] at e0 e1 e2
  unfold ksp
  rw [e0, e1, e2]
  by_cases q : i = k 1
  · rw [if_pos q]; omega
  · rw [if_neg q]
set_option maxRecDepth 20000 in
theorem knet_out (h : GK k) {i j : Nat} (hi : k 0 ≤ i) (h5 : i < 5) (hj : (knet k i).testBit j = true) : j = i := by
  have cl : gCl (kop k) (fun t => t / 5) (fun t => t % 5) 25 (fun j => j = i) := fun t ht ho => by
    have hg : kg k (t / 5) (t % 5) ≠ 0 := by
      have := of_decide_eq_true ho
      unfold kg
      rw [show 3 + 5 * (t / 5) + t % 5 = 3 + t by omega]
      exact this
    show t / 5 = i ↔ t % 5 = i
    constructor
    · intro q
      rw [q] at hg
      exact absurd (h.2.2.2.1 i _ h5 (by omega) hi) hg
    · intro q
      rw [q, h.2.1 _ _ (by omega) h5] at hg
      exact absurd (h.2.2.2.1 i _ h5 (by omega) hi) hg
  exact gN_min cl rfl hj
set_option maxRecDepth 20000 in
theorem kF_out (h : GK k) {i : Nat} (hi : k 0 ≤ i) (h5 : i < 5) : kF k r i = false := by
  cases e : kF k r i with
  | false => rfl
  | true =>
    obtain ⟨o, o1, o2, o3⟩ := kF_iff.mp e
    have := knet_out h hi h5 o2
    subst this
    rw [ksp_out h hi] at o3
    omega
set_option maxRecDepth 20000 in
theorem kA_zero {i l : Nat} (hi : i < 5) (hl : l < 5) (h : knet k i ≠ knet k l) : kA k r i l = 0 := by
  have e : ¬ i = l := fun q => h (by rw [q])
  have g : kg k i l = 0 := Classical.byContradiction (fun q => h (knet_g hi hl q))
  unfold kA mA
  rw [if_neg e, if_neg e, g]
  (repeat' split) <;> rfl
set_option maxRecDepth 20000 in
theorem kA_out (h : GK k) {i j : Nat} (hi : i < k 0) (hj : k 0 ≤ j) (h5 : j < 5) : kA k r i j = 0 := by
  have e : ¬ i = j := by omega
  unfold kA mA
  rw [if_neg e, if_neg e, kF_out h hj h5]
  (repeat' split) <;> first | rfl | contradiction
set_option maxRecDepth 20000 in
theorem kA_eK (h : GK k) : ∀ i j, i < 5 → j < 5 → eK (kA k r) (k 0) i j = kA k r i j := fun i j hi hj => by
  by_cases q : i < k 0 ∧ j < k 0
  · exact eK_in q.1 q.2
  · unfold eK
    rw [if_neg q]
    by_cases e : i = j
    · subst e
      have : kF k r i = false := kF_out h (by omega) hi
      unfold kA mA
      rw [if_pos rfl, if_pos rfl, if_neg (by rw [this]; decide)]
    · rw [if_neg e]
      by_cases q1 : i < k 0
      · exact (kA_out h q1 (by omega) hj).symm
      · have : kF k r i = false := kF_out h (by omega) hi
        unfold kA mA
        rw [if_neg (by rw [this]; decide), if_neg e]
theorem kA_n (h : GK k) (hr : r < 27) : gGI (k 0) 0 1 (kA k r) := gi_sub h.1 (fun i j a b c => kA_out h a b c) (kA_good h hr)
theorem kA_d (h : GK k) : dK (kA k r) (k 0) = detI (kA k r) := detI_congr (kA_eK h)
theorem kA_x (h : GK k) {p q : Nat} (hp : p < 5) (hq : q < 5) : xK (kA k r) (k 0) p q = cofI (kA k r) q p := cofI_congr (kA_eK h) hq hp
noncomputable def kdet (k : Nat → Nat) (r : Nat) : Int := detI (kA k r)
noncomputable def kcof (k : Nat → Nat) (r o c : Nat) : Int := cofI (kA k r) o c
/-! twice what flows in by the cofactors -/
noncomputable def kup (k : Nat → Nat) (r c : Nat) : Int := if kF k r c = true then sm (fun o => (k (49 + o) : Int) * kcof k r o c) 5 else 0
def kCs (k : Nat → Nat) (c : Nat) : Prop := ∃ o, o < 5 ∧ (knet k c).testBit o = true ∧ 0 < k (49 + o)
noncomputable def kC (k : Nat → Nat) (c : Nat) : Bool := @decide (kCs k c) (Classical.propDecidable _)
noncomputable def kEn (k : Nat → Nat) (r c : Nat) : Bool := !kF k r c && kC k c
theorem kC_iff {c : Nat} : kC k c = true ↔ kCs k c := @decide_eq_true_iff _ (Classical.propDecidable _)
theorem kdet_b (h : GK k) (hr : r < 27) : 0 < kdet k r ∧ kdet k r ≤ 104857600000 := ⟨(gi_det (kA_good h hr)).1, (gi_det (kA_good h hr)).2.1⟩
theorem kcof_b (h : GK k) (hr : r < 27) {o c : Nat} (ho : o < 5) (hc : c < 5) : 0 ≤ kcof k r o c ∧ kcof k r o c ≤ 3276800000 := (gi_det (kA_good h hr)).2.2 o c ho hc
set_option maxRecDepth 20000 in
theorem kup_b (h : GK k) (hr : r < 27) {c : Nat} (hc : c < 5) : 0 ≤ kup k r c ∧ kup k r c ≤ 32768000000000 := by
  unfold kup
  split
  · have key : ∀ o, o < 5 → 0 ≤ (k (49 + o) : Int) * kcof k r o c ∧ (k (49 + o) : Int) * kcof k r o c ≤ 6553600000000 := fun o ho => by
      have a := kcof_b h hr ho hc
      have b := h.2.2.2.2.2.2.2.2.1 o ho
      have y1 := nonneg_mul (by omega : (0 : Int) ≤ (k (49 + o) : Int)) a.1
      have y2 := Int.mul_le_mul (by omega : (k (49 + o) : Int) ≤ 2000) a.2 a.1 (by decide)
      omega
    rw [sm5]
    have k0 := key 0 (by decide)
    have k1 := key 1 (by decide)
    have k2 := key 2 (by decide)
    have k3 := key 3 (by decide)
    have k4 := key 4 (by decide)
    omega
  · omega
set_option maxRecDepth 20000 in
theorem kcof_0 (h : GK k) (hr : r < 27) {o c : Nat} (ho : o < 5) (hc : c < 5) (hn : knet k c ≠ knet k o) : kcof k r o c = 0 :=
  cof_block (N := knet k) (fun i l hi hl q => kA_zero hi hl q) (Int.ne_of_gt (kdet_b h hr).1) ho hc hn
/-! what the reference sums -/
set_option maxRecDepth 20000 in
theorem kup_ref (h : GK k) (hr : r < 27) {c : Nat} (hc : c < 5) : sm (fun o => if (knet k c).testBit o = true ∧ kEn k r c = false then (k (49 + o) : Int) * kcof k r o c else 0) 5 = kup k r c := by
  unfold kup
  by_cases f : kF k r c = true
  · rw [if_pos f]
    refine sm_congr 5 (fun o ho => ?_)
    have e : kEn k r c = false := by unfold kEn; rw [f]; rfl
    by_cases q : (knet k c).testBit o = true
    · rw [if_pos ⟨q, e⟩]
    · rw [if_neg (fun z => q z.1), kcof_0 h hr ho hc (fun z => q (by rw [z]; exact knet_self)), Int.mul_zero]
  · rw [if_neg f]
    refine sm_zero 5 (fun o ho => ?_)
    by_cases q : (knet k c).testBit o = true ∧ kEn k r c = false
    · rw [if_pos q]
      have f' : kF k r c = false := by simpa using f
      have e := q.2
      unfold kEn at e
      rw [f'] at e
      have : ¬ kCs k c := fun z => by rw [kC_iff.mpr z] at e; cases e
      have z : k (49 + o) = 0 := Classical.byContradiction (fun y => this ⟨o, ho, q.1, by omega⟩)
      rw [z]
      exact Int.zero_mul _
    · rw [if_neg q]
/-! what the class sums -/
set_option maxRecDepth 20000 in
theorem kup_cls (h : GK k) {c : Nat} (f : kF k r c = true) : sm (fun j => kcof k r j c * (k (49 + j) : Int)) (k 0) = kup k r c := by
  unfold kup
  rw [if_pos f, sm_cut5 h.1 (fun o a b => by rw [h.2.2.2.2.2.2.2.2.2 o b a]; exact Int.zero_mul _)]
  exact sm_congr (k 0) (fun o _ => Int.mul_comm _ _)
/-! rows of stages -/
noncomputable def kst (k : Nat → Nat) (r p : Nat) : Nat :=
  if kEn k r (k (28 + 5 * p)) = true ∨ (k (43 + 2 * p + 1) : Int) * (2 * kdet k r) ≤ kup k r (k (28 + 5 * p)) then 2 else if (k (43 + 2 * p) : Int) * (2 * kdet k r) ≤ kup k r (k (28 + 5 * p)) then 1 else 0
def krn (k : Nat → Nat) (p : Nat) : Bool := decide (k (28 + 5 * p + 1) ≠ 0)
def kcb (k : Nat → Nat) (r : Nat) : Bool := (krn k 0 || decide (dg r 0 = 0)) && (krn k 1 || decide (dg r 1 = 0)) && (krn k 2 || decide (dg r 2 = 0))
noncomputable def kag (k : Nat → Nat) (r : Nat) : Bool := (!krn k 0 || decide (kst k r 0 = dg r 0)) && (!krn k 1 || decide (kst k r 1 = dg r 1)) && (!krn k 2 || decide (kst k r 2 = dg r 2))
noncomputable def kok (k : Nat → Nat) (r : Nat) : Bool := kcb k r && kag k r
def fR (P : Nat → Bool) : Nat → Option Nat
  | 0 => none
  | n + 1 => match fR P n with
    | some r => some r
    | none => if P n = true then some n else none
def cR (P : Nat → Bool) : Nat → Nat
  | 0 => 0
  | n + 1 => cR P n + if P n = true then 1 else 0
set_option maxRecDepth 20000 in
theorem fR_none {P : Nat → Bool} : ∀ n, fR P n = none → ∀ q, q < n → P q = false
  | 0, _, q, hq => by omega
  | n + 1, h, q, hq => by
    unfold fR at h
    cases e : fR P n with
    | some x => rw [e] at h; cases h
    | none =>
      rw [e] at h
      simp only at h
      split at h
      · cases h
      · rename_i z
        by_cases y : q = n
        · subst y; simpa using z
        · exact fR_none n e q (by omega)
set_option maxRecDepth 20000 in
theorem fR_some {P : Nat → Bool} {r : Nat} : ∀ n, fR P n = some r → r < n ∧ P r = true ∧ ∀ q, q < r → P q = false
  | 0, h => by cases h
  | n + 1, h => by
    unfold fR at h
    cases e : fR P n with
    | some x =>
      rw [e] at h
      have hx := Option.some.inj h
      subst hx
      have := fR_some n e
      exact ⟨by omega, this.2⟩
    | none =>
      rw [e] at h
      simp only at h
      split at h
      · rename_i q
        have hx := Option.some.inj h
        subst hx
        exact ⟨by omega, q, fun x hx => fR_none n e x hx⟩
      · cases h
set_option maxRecDepth 20000 in
theorem fR_of {P : Nat → Bool} {r n : Nat} (hr : r < n) (h : P r = true) (hq : ∀ q, q < r → P q = false) : fR P n = some r := by
  cases e : fR P n with
  | none => rw [fR_none n e r hr] at h; cases h
  | some x =>
    obtain ⟨a, b, c⟩ := fR_some n e
    rcases Nat.lt_trichotomy x r with z | z | z
    · rw [hq x z] at b; cases b
    · rw [z]
    · rw [c r z] at h; cases h
set_option maxRecDepth 20000 in
theorem fR_no {P : Nat → Bool} {n : Nat} (hq : ∀ q, q < n → P q = false) : fR P n = none := by
  cases e : fR P n with
  | none => rfl
  | some x =>
    obtain ⟨a, b, c⟩ := fR_some n e
    rw [hq x a] at b; cases b
end
