/-! ===== cells that are made ===== -/
def wn (h0 : Nat) (g : Nat → va_E) (n : Nat) : va_W := (List.range n).map (fun a => (h0 + a, g a))
section
variable {h0 n a : Nat} {g g' : Nat → va_E} {e : va_E}
set_option maxRecDepth 20000 in
theorem wn_get (h : a < n) : (wn h0 g n)[a]? = some (h0 + a, g a) := by
  unfold wn
  rw [List.getElem?_map, List.getElem?_range h]
  rfl
set_option maxRecDepth 20000 in
theorem wn_none (h : ¬ a < n) : (wn h0 g n)[a]? = none := by
  unfold wn
  rw [List.getElem?_map, List.getElem?_eq_none (by rw [List.length_range]; omega)]
  rfl
set_option maxRecDepth 20000 in
theorem wn_at {q : Nat × va_E} (h : (wn h0 g n)[a]? = some q) : a < n ∧ q = (h0 + a, g a) := by
  by_cases ha : a < n
  · rw [wn_get ha] at h
    exact ⟨ha, (Option.some.inj h).symm⟩
  · rw [wn_none ha] at h
    cases h
set_option maxRecDepth 20000 in
theorem wn_D : va_D (aw h0) (wn h0 g n) := by
  refine ⟨fun i j x y hi hj hxy => ?_, fun k q hk => ?_⟩
  · obtain ⟨-, rfl⟩ := wn_at hi
    obtain ⟨-, rfl⟩ := wn_at hj
    exact Nat.add_left_cancel hxy
  · obtain ⟨-, rfl⟩ := wn_at hk
    exact Nat.le_add_right h0 k
theorem wn_len : (wn h0 g n).length = n := by unfold wn; rw [List.length_map, List.length_range]
set_option maxRecDepth 20000 in
theorem wn_set (h1 : g' a = e) (h2 : ∀ b, b < n → b ≠ a → g' b = g b) : (wn h0 g n).set a (h0 + a, e) = wn h0 g' n := by
  apply List.ext_getElem?
  intro i
  by_cases hi : i < n
  · have hl : i < (wn h0 g n).length := by rw [wn_len]; exact hi
    by_cases e1 : i = a
    · subst e1
      rw [List.getElem?_set_self hl, wn_get hi, h1]
    · rw [List.getElem?_set_ne (Ne.symm e1), wn_get hi, wn_get hi, h2 i hi e1]
  · have hl : ¬ i < ((wn h0 g n).set a (h0 + a, e)).length := by rw [List.length_set, wn_len]; exact hi
    rw [wn_none hi, List.getElem?_eq_none (by omega)]
set_option maxRecDepth 20000 in
theorem wn_app : wn h0 g n ++ [(h0 + n, g n)] = wn h0 g (n + 1) := by
  unfold wn
  rw [List.range_succ, List.map_append]
  rfl
set_option maxRecDepth 20000 in
theorem wn_congr (h : ∀ b, b < n → g b = g' b) : wn h0 g n = wn h0 g' n := by
  apply List.ext_getElem?
  intro i
  by_cases hi : i < n
  · rw [wn_get hi, wn_get hi, h i hi]
  · rw [wn_none hi, wn_none hi]
end
def ov (g : Nat → va_E) (a : Nat) (e : va_E) : Nat → va_E := fun b => if b = a then e else g b
theorem ov_s {g : Nat → va_E} {a : Nat} {e : va_E} : ov g a e a = e := if_pos rfl
theorem ov_n {g : Nat → va_E} {a b : Nat} {e : va_E} (h : b ≠ a) : ov g a e b = g b := if_neg h
set_option maxRecDepth 20000 in
theorem ov_ov {g : Nat → va_E} {a : Nat} {e e2 : va_E} : ov (ov g a e) a e2 = ov g a e2 := by
  funext b
  unfold ov
  by_cases h : b = a
  · rw [if_pos h, if_pos h]
  · rw [if_neg h, if_neg h, if_neg h]
set_option maxRecDepth 20000 in
theorem ov_sw {g : Nat → va_E} {a b : Nat} {x y x2 : va_E} (h : a ≠ b) : ov (ov (ov g a x) b y) a x2 = ov (ov g a x2) b y := by
  funext q
  unfold ov
  by_cases h1 : q = a
  · subst h1; rw [if_pos rfl, if_neg h, if_pos rfl]
  · rw [if_neg h1]
    by_cases h2 : q = b
    · rw [if_pos h2, if_pos h2]
    · rw [if_neg h2, if_neg h2, if_neg h1, if_neg h1]
set_option maxRecDepth 20000 in
theorem ov_id {g : Nat → va_E} {a : Nat} {e : va_E} (h : g a = e) : ov g a e = g := by
  funext q
  unfold ov
  by_cases h1 : q = a
  · rw [if_pos h1, h1, h]
  · rw [if_neg h1]
def Kg (R : Room) (p : Program) (l : Launch) (e : Env) (s : State) (m : MethodId) (args : Array Value) (below : List Frame) (meth : Method) (c : Code) (h0 : Nat) (D : va_G) (cells slots : Nat) (Q : State → Prop) (pc : Nat) (ls : Array Slot) (st : List Value) (g : Nat → va_E) (n : Nat) : Prop := ∀ (H : Heap) (locs : List Loc), va_P D vwCl (wn h0 g n) H → H.size = h0 + n → va_S (aw h0) s.heap H locs → W p l e R s m args below meth c H locs cells slots Q (F0 m pc ls st)
/-! the memory behind both constructors -/
def M0 : Me := (fun a i => if (kd a = 1 ∧ (i = 5 ∨ i = 7)) ∨ (a = 61 ∧ i = 8) ∨ (a = 62 ∧ i = 0) ∨ (a = 494 ∧ i = 5) then -1 else 0, fun a i => if a = 61 ∧ i = 11 then 1 else 0)
section
variable {h0 a : Nat} {cy : Nat → ClassId}
set_option maxRecDepth 20000 in
theorem m0_z (h : ¬ kd a = 1) (h1 : a ≠ 61) (h2 : a ≠ 62) (h3 : a ≠ 494) : M0.1 a = fun _ => 0 := by
  funext i
  simp [M0, h, h1, h2, h3]
set_option maxRecDepth 20000 in
theorem m0_j (h1 : a ≠ 61) : M0.2 a = fun _ => 0 := by
  funext i
  simp [M0, h1]
set_option maxRecDepth 20000 in
theorem z_int (h : kd a = 8) (h2 : a ≠ 62) (h3 : a ≠ 494) {n : Nat} (hn : ln a = n) : ce h0 cy M0 a = .inl (cy 8, n, .inl (fun _ => 0)) := by
  have h1 : a ≠ 61 := fun q => by subst q; exact absurd h (by decide)
  rw [ce_int h, m0_z (by omega) h1 h2 h3, hn]
set_option maxRecDepth 20000 in
theorem z_bool (h : kd a = 10) {n : Nat} (hn : ln a = n) : ce h0 cy M0 a = .inl (cy 10, n, .inl (fun _ => 0)) := by
  have h1 : a ≠ 61 := fun q => by subst q; exact absurd h (by decide)
  have h2 : a ≠ 62 := fun q => by subst q; exact absurd h (by decide)
  have h3 : a ≠ 494 := fun q => by subst q; exact absurd h (by decide)
  rw [ce_bool h, m0_z (by omega) h1 h2 h3, hn]
set_option maxRecDepth 20000 in
theorem z_long (h : kd a = 9) {n : Nat} (hn : ln a = n) : ce h0 cy M0 a = .inl (cy 9, n, .inr (.inl (fun _ => 0))) := by
  have h1 : a ≠ 61 := fun q => by subst q; exact absurd h (by decide)
  rw [ce_long h, m0_j h1, hn]
end
