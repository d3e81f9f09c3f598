/-! ===== between: the matrices ===== -/
def bM (act : Nat → Bool) (X : Nat → Int32) (nt i j : Nat) : Int := if act i = true ∧ act j = true then lpT X nt i j else if i = j then 1 else 0
def bE1 (act : Nat → Bool) (X : Nat → Int32) (nt i l : Nat) : Nat := if act l = true then 0 else gsm X i l nt
def bE (act : Nat → Bool) (X : Nat → Int32) (nt i : Nat) : Nat := bE1 act X nt i 0 + bE1 act X nt i 1 + bE1 act X nt i 2 + bE1 act X nt i 3 + bE1 act X nt i 4
section
variable {act : Nat → Bool} {X : Nat → Int32} {B : Nat → Nat → Int} {nc nt np nw tm tB n i j fr t : Nat}
set_option maxRecDepth 20000 in
theorem gsm_ii (hv : VxB X nc nt np nw tm tB) : gsm X i i nt = 0 := gsm_zero nt (fun t ht q => by
  obtain ⟨d, oo, -, -, -, -, a, -⟩ := tubeX hv.2.1.1 (hv.2.2.2.2.1 t ht)
  omega)
set_option maxRecDepth 20000 in
theorem bE_sum : bE act X nt i + ((if act 0 = true then gsm X i 0 nt else 0) + (if act 1 = true then gsm X i 1 nt else 0) + (if act 2 = true then gsm X i 2 nt else 0) + (if act 3 = true then gsm X i 3 nt else 0) + (if act 4 = true then gsm X i 4 nt else 0)) = dgS X i nt := by
  unfold bE bE1 dgS
  have e : ∀ l, (if act l = true then 0 else gsm X i l nt) + (if act l = true then gsm X i l nt else 0) = gsm X i l nt := fun l => by
    by_cases z : act l = true
    · rw [if_pos z, if_pos z]; omega
    · rw [if_neg z, if_neg z]; omega
  have e0 := e 0
  have e1 := e 1
  have e2 := e 2
  have e3 := e 3
  have e4 := e 4
  omega
set_option maxRecDepth 20000 in
theorem b_sm (ha : ∀ c, act c = true → c < n) (hn : n ≤ 5) : sm (fun l => if act l = true then (gsm X i l nt : Int) else 0) n = (((if act 0 = true then gsm X i 0 nt else 0) + (if act 1 = true then gsm X i 1 nt else 0) + (if act 2 = true then gsm X i 2 nt else 0) + (if act 3 = true then gsm X i 3 nt else 0) + (if act 4 = true then gsm X i 4 nt else 0) : Nat) : Int) := by
  rw [← sm_cut5 hn (fun l h1 h2 => if_neg (fun z => by have := ha l z; omega)), sm5]
  have e : ∀ l, (if act l = true then (gsm X i l nt : Int) else 0) = ((if act l = true then gsm X i l nt else 0 : Nat) : Int) := fun l => by split <;> rfl
  simp only [e]
  omega
set_option maxRecDepth 20000 in
theorem bM_mA (ha : ∀ c, act c = true → c < n) (hn : n ≤ 5) : mA act (fun i l => gsm X i l nt) (bE act X nt) n i j = bM act X nt i j := by
  unfold mA bM
  by_cases a1 : act i = true
  · rw [if_pos a1]
    by_cases e : i = j
    · subst e
      rw [if_pos rfl, if_pos ⟨a1, a1⟩]
      unfold lpT
      rw [if_pos rfl, b_sm ha hn, ← bE_sum (act := act)]
      omega
    · rw [if_neg e]
      by_cases a2 : act j = true
      · rw [if_pos a2, if_pos ⟨a1, a2⟩]
        unfold lpT
        rw [if_neg e]
      · rw [if_neg a2, if_neg (fun z => a2 z.2), if_neg e]
  · have z : ¬ (act i = true ∧ act j = true) := fun z => a1 z.1
    rw [if_neg a1, if_neg z]
set_option maxRecDepth 20000 in
theorem b_gi (hv : VxB X nc nt np nw tm tB) (hfr : fr < nc) (ha : ∀ c, act c = true → c < nc ∧ (nX X nt fr).testBit c = true ∧ c ≠ t) (ht : (nX X nt fr).testBit t = true) (hn1 : nc ≤ n) (hn : n ≤ 5) : gGI n 0 1 (mA act (fun i l => gsm X i l nt) (bE act X nt) n) := by
  have hb := hv.2.1
  have e5 := ends_5 hv
  refine mA_gi (fun i j _ _ => gsm_symm nt) (fun i _ => gsm_ii hv) (fun i hi h => ?_) (fun T h1 h2 => ?_)
  · rw [b_sm (fun c hc => by have := (ha c hc).1; omega) hn]
    have s := bE_sum (act := act) (X := X) (nt := nt) (i := i)
    have s2 := gsm_sum (X := X) (i := i) hb.1 nt hv.2.2.2.2.1
    have s3 := (wt_le hv (ha i h).1).2
    unfold dgS at s
    omega
  · by_cases q : (∃ i, T i = true ∧ 0 < bE act X nt i) ∨ ∃ i j, T i = true ∧ j < n ∧ act j = true ∧ ¬ T j = true ∧ 0 < gsm X i j nt
    · exact q
    · exfalso
      have z : ∀ i l, T i = true → l < 5 → ¬ T l = true → gsm X i l nt = 0 := fun i l hT hl hn2 => by
        by_cases al : act l = true
        · by_cases g0 : gsm X i l nt = 0
          · exact g0
          · exact absurd (Or.inr ⟨i, l, hT, by have := (ha l al).1; omega, al, hn2, by omega⟩) q
        · by_cases g0 : bE act X nt i = 0
          · have e1 : bE1 act X nt i l = gsm X i l nt := if_neg al
            unfold bE at g0
            rcases (by omega : l = 0 ∨ l = 1 ∨ l = 2 ∨ l = 3 ∨ l = 4) with rfl | rfl | rfl | rfl | rfl <;> omega
          · exact absurd (Or.inl ⟨i, hT, by omega⟩) q
      have cl : gCl (oX X) (fX X) (gX X) nt (fun c => T c = true) := fun s hs ho => by
        obtain ⟨d, oo, -, -, w3, w4, -⟩ := tubeX hb.1 (hv.2.2.2.2.1 s hs)
        have dd := (dX_e hb.1 (hv.2.2.2.2.1 s hs)).2.1
        constructor
        · intro h
          by_cases h9 : T (gX X s) = true
          · exact h9
          · exact absurd (z _ _ h (by omega) h9) (gsm_pos dd ⟨ho, Or.inl ⟨rfl, rfl⟩⟩ nt hs)
        · intro h
          by_cases h9 : T (fX X s) = true
          · exact h9
          · exact absurd (z _ _ h (by omega) h9) (gsm_pos dd ⟨ho, Or.inr ⟨rfl, rfl⟩⟩ nt hs)
      obtain ⟨i0, hi0⟩ := h2
      have a0 := ha i0 (h1 i0 hi0).2
      have en : nX X nt i0 = nX X nt fr := gN_trans e5 (by omega) a0.2.1
      have tt : T t = true := gN_min (Z := fun c => T c = true) cl hi0 (i := t) (by
        show (nX X nt i0).testBit t = true
        rw [en]; exact ht)
      exact (ha t (h1 t tt).2).2.2 rfl
def unM (B : Nat → Nat → Int) (c i j : Nat) : Int := if i = c ∨ j = c then (if i = j then 1 else 0) else B i j
set_option maxRecDepth 20000 in
theorem unM_det {c : Nat} (hc : c < 5) : detI (unM B c) = cofI B c c := by
  have l := lap_row (unM B c) hc hc
  rw [if_pos rfl] at l
  rw [← l]
  have e1 : sm (fun l => unM B c c l * cofI (unM B c) c l) 5 = sm (fun l => if l = c then cofI (unM B c) c l else 0) 5 := sm_congr 5 (fun l hl => by
    show unM B c c l * _ = _
    by_cases q : l = c
    · rw [if_pos q]
      unfold unM
      rw [if_pos (Or.inl rfl), if_pos q.symm, Int.one_mul]
    · rw [if_neg q]
      have z : unM B c c l = 0 := by unfold unM; rw [if_pos (Or.inl rfl), if_neg (fun w => q w.symm)]
      rw [z, Int.zero_mul])
  rw [e1, sm_delta (f := fun l => cofI (unM B c) c l) 5 hc]
  unfold cofI
  have e2 : fourI (mnI (unM B c) c c) = fourI (mnI B c c) := fourI_congr (fun q hq => by
    unfold mnI unM
    have s : ∀ a, sk c a ≠ c := fun a => by unfold sk; split <;> omega
    rw [if_neg (fun w => by
      rcases w with w | w
      · exact s _ w
      · exact s _ w)])
  rw [e2]
set_option maxRecDepth 20000 in
theorem unM_bM {c : Nat} : unM (bM act X nt) c i j = bM (fun q => act q && decide (q ≠ c)) X nt i j := by
  unfold unM bM
  by_cases q : i = c ∨ j = c
  · have z : ¬ ((act i && decide (i ≠ c)) = true ∧ (act j && decide (j ≠ c)) = true) := fun z => by
      simp only [Bool.and_eq_true, decide_eq_true_eq] at z
      rcases q with q | q
      · exact z.1.2 q
      · exact z.2.2 q
    rw [if_pos q]
    exact (if_neg z).symm
  · have q1 : i ≠ c := fun w => q (Or.inl w)
    have q2 : j ≠ c := fun w => q (Or.inr w)
    have e1 : (act i && decide (i ≠ c)) = act i := by rw [decide_eq_true q1, Bool.and_true]
    have e2 : (act j && decide (j ≠ c)) = act j := by rw [decide_eq_true q2, Bool.and_true]
    rw [if_neg q]
    show _ = if (act i && decide (i ≠ c)) = true ∧ (act j && decide (j ≠ c)) = true then lpT X nt i j else if i = j then 1 else 0
    rw [e1, e2]
/-! what the determinants are, and how large -/
set_option maxRecDepth 20000 in
theorem b_det (hv : VxB X nc nt np nw tm tB) (hfr : fr < nc) (ha : ∀ c, act c = true → c < nc ∧ (nX X nt fr).testBit c = true ∧ c ≠ t) (ht : (nX X nt fr).testBit t = true) : 0 < detI (bM act X nt) ∧ detI (bM act X nt) ≤ 104857600000 := by
  have hb := hv.2.1
  have g := gi_det (b_gi (n := 5) hv hfr ha ht hb.1 (by decide))
  have e : detI (mA act (fun i l => gsm X i l nt) (bE act X nt) 5) = detI (bM act X nt) := detI_congr (fun i j _ _ => bM_mA (fun c hc => by have := (ha c hc).1; omega) (by decide))
  rw [e] at g
  exact ⟨g.1, g.2.1⟩
set_option maxRecDepth 20000 in
theorem b_eK (ha : ∀ c, act c = true → c < nc) (hn : nc ≤ 5) : ∀ i j, i < 5 → j < 5 → eK (mA act (fun i l => gsm X i l nt) (bE act X nt) nc) nc i j = bM act X nt i j := fun i j _ _ => by
  unfold eK
  by_cases q : i < nc ∧ j < nc
  · rw [if_pos q]; exact bM_mA ha hn
  · have z : ¬ (act i = true ∧ act j = true) := fun z => q ⟨ha i z.1, ha j z.2⟩
    unfold bM
    rw [if_neg q, if_neg z]
end
