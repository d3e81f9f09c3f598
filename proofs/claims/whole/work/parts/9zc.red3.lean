/-! ===== reduced: rounds of the class ===== -/
def sw1 (f t : Nat) (w : Nat → Nat → Rat) : Nat → (Nat → Nat → Rat)
  | 0 => w
  | c + 1 => if c ≠ f ∧ c ≠ t then eO c (sw1 f t w c) else sw1 f t w c
def swR (f t nc : Nat) (w : Nat → Nat → Rat) : Nat → (Nat → Nat → Rat)
  | 0 => w
  | r + 1 => sw1 f t (swR f t nc w r) nc
def Pq (f t : Nat) (w0 w : Nat → Nat → Rat) : Prop := (∃ l, okP (Inn f t) w0 l ∧ ruP w0 l = w) ∧ Gw w ∧ (∀ c, c < 5 → rs w c ≤ 120) ∧ Bdd f t w0 w
def zc (f t : Nat) (w : Nat → Nat → Rat) (c : Nat) : Nat := if rs w c = 0 ∨ c = f ∨ c = t then 0 else 1
def zA (f t : Nat) (w : Nat → Nat → Rat) : Nat := zc f t w 0 + zc f t w 1 + zc f t w 2 + zc f t w 3 + zc f t w 4
section
variable {M : Me} {w w0 : Nat → Nat → Rat} {f t c a nc n x y : Nat}
theorem pq_0 (h : W0 w0) : Pq f t w0 w0 := ⟨⟨[], trivial, rfl⟩, h.1, h.2.2, Or.inl rfl⟩
set_option maxRecDepth 20000 in
theorem pq_kr (h0 : W0 w0) (h1 : f ≠ t) (hf : f < 5) (ht : t < 5) (h : Pq f t w0 w) (hc : Inn f t c) (h2 : T2 w c) : Pq f t w0 (kr c w) := by
  obtain ⟨⟨l, l1, l2⟩, g, b, bd⟩ := h
  refine ⟨⟨l ++ [c], ok_app l w0 l1 hc (by rw [l2]; exact h2), by rw [ru_app, l2]⟩, kr_gw g, fun a ha => Rat.le_trans (kr_le g ha hc.1) (b a ha), bd_step h0 h1 hf ht g b bd hc h2⟩
set_option maxRecDepth 20000 in
theorem pq_eO (h0 : W0 w0) (h1 : f ≠ t) (hf : f < 5) (ht : t < 5) (h : Pq f t w0 w) (hc : Inn f t c) : Pq f t w0 (eO c w) := by
  unfold eO
  by_cases z : tE w c 5 ≤ 2
  · rw [if_pos z]; exact pq_kr h0 h1 hf ht h hc ((tE_T2 h.2.1).mp z)
  · rw [if_neg z]; exact h
set_option maxRecDepth 20000 in
theorem pq_sw1 (h0 : W0 w0) (h1 : f ≠ t) (hf : f < 5) (ht : t < 5) (h : Pq f t w0 w) : ∀ n, n ≤ 5 → Pq f t w0 (sw1 f t w n)
  | 0, _ => h
  | n + 1, hn => by
    have ih := pq_sw1 h0 h1 hf ht h n (by omega)
    simp only [sw1]
    split
    · next z => exact pq_eO h0 h1 hf ht ih ⟨by omega, z.1, z.2⟩
    · exact ih
set_option maxRecDepth 20000 in
theorem pq_swR (h0 : W0 w0) (h1 : f ≠ t) (hf : f < 5) (ht : t < 5) (hn : nc ≤ 5) : ∀ r, Pq f t w0 (swR f t nc w0 r)
  | 0 => pq_0 h0
  | r + 1 => pq_sw1 h0 h1 hf ht (pq_swR h0 h1 hf ht hn r) nc hn
set_option maxRecDepth 20000 in
theorem pq_le (h : Pq f t w0 w) : w x y ≤ 120 := by
  by_cases hx : x < 5
  · exact Rat.le_trans (rs_ge h.2.1) (h.2.2.1 x hx)
  · rw [h.2.1.2.2.2 x y (by omega)]; decide
set_option maxRecDepth 20000 in
theorem pq_nu (h0 : W0 w0) (h : Pq f t w0 w) : nu (w x y) ≤ 9000000000000000000 := by
  have a := nu_le (k := 120) (h.2.1.2.2.1 x y) (pq_le h)
  have b := bd_fin h0 h.2.1 h.2.2.2 x y
  omega
set_option maxRecDepth 20000 in
theorem pq_d (h0 : W0 w0) (h : Pq f t w0 w) (hc : Inn f t c) : rs w c ≠ 0 → ∃ d, 0 < d ∧ d ≤ 14400 ∧ Dn d w := fun z => by
  rcases bd_use h0 h.2.2.2 with k | k
  · exact k
  · exact absurd (k.1 c hc) z
set_option maxRecDepth 20000 in
theorem zc_kr (g : Gw w) : zc f t (kr c w) a ≤ zc f t w a := by
  unfold zc
  by_cases z : rs w a = 0 ∨ a = f ∨ a = t
  · have z2 : rs (kr c w) a = 0 ∨ a = f ∨ a = t := z.imp (fun k => kr_keep g k) id
    rw [if_pos z2]; exact Nat.zero_le _
  · rw [if_neg z]; split <;> omega
set_option maxRecDepth 20000 in
theorem zA_drop (g : Gw w) (hc : Inn f t c) (h : rs w c ≠ 0) : zA f t (kr c w) + 1 ≤ zA f t w := by
  have k0 := zc_kr (f := f) (t := t) (c := c) (a := 0) g
  have k1 := zc_kr (f := f) (t := t) (c := c) (a := 1) g
  have k2 := zc_kr (f := f) (t := t) (c := c) (a := 2) g
  have k3 := zc_kr (f := f) (t := t) (c := c) (a := 3) g
  have k4 := zc_kr (f := f) (t := t) (c := c) (a := 4) g
  have e1 : zc f t (kr c w) c = 0 := by unfold zc; rw [if_pos (Or.inl (rs_of0 (kr_c g)))]
  have e2 : zc f t w c = 1 := by
    unfold zc
    rw [if_neg (fun z => by
      rcases z with z | z | z
      · exact h z
      · exact hc.2.1 z
      · exact hc.2.2 z)]
  unfold zA
  rcases (by have := hc.1; omega : c = 0 ∨ c = 1 ∨ c = 2 ∨ c = 3 ∨ c = 4) with rfl | rfl | rfl | rfl | rfl <;> omega
set_option maxRecDepth 20000 in
theorem sw1_irr (g : Gw w) (h : Irr (Inn f t) w) : ∀ n, n ≤ 5 → sw1 f t w n = w
  | 0, _ => rfl
  | n + 1, hn => by
    simp only [sw1]
    rw [sw1_irr g h n (by omega)]
    split
    · next z =>
      unfold eO
      split
      · next k => exact kr_0 g (h n ⟨by omega, z.1, z.2⟩ ((tE_T2 g).mp k))
      · rfl
    · rfl
set_option maxRecDepth 20000 in
theorem sw1_z (h0 : W0 w0) (h1 : f ≠ t) (hf : f < 5) (ht : t < 5) (h : Pq f t w0 w) : ∀ n, n ≤ 5 → (sw1 f t w n = w ∧ ∀ c, c < n → Inn f t c → T2 w c → rs w c = 0) ∨ zA f t (sw1 f t w n) + 1 ≤ zA f t w
  | 0, _ => Or.inl ⟨rfl, fun c hc => by omega⟩
  | n + 1, hn => by
    have ih := sw1_z h0 h1 hf ht h n (by omega)
    have pn := pq_sw1 h0 h1 hf ht h n (by omega)
    simp only [sw1]
    by_cases z : n ≠ f ∧ n ≠ t
    · rw [if_pos z]
      have hI : Inn f t n := ⟨by omega, z.1, z.2⟩
      rcases ih with ⟨e, k⟩ | ih
      · rw [e]
        unfold eO
        by_cases q : tE w n 5 ≤ 2
        · rw [if_pos q]
          by_cases r : rs w n = 0
          · refine Or.inl ⟨kr_0 h.2.1 r, fun c hc i1 i2 => ?_⟩
            by_cases d : c = n
            · rw [d]; exact r
            · exact k c (by omega) i1 i2
          · exact Or.inr (zA_drop h.2.1 hI r)
        · rw [if_neg q]
          refine Or.inl ⟨rfl, fun c hc i1 i2 => ?_⟩
          by_cases d : c = n
          · rw [d] at i2; exact absurd ((tE_T2 h.2.1).mpr i2) q
          · exact k c (by omega) i1 i2
      · right
        unfold eO
        split
        · by_cases r : rs (sw1 f t w n) n = 0
          · rw [kr_0 pn.2.1 r]; exact ih
          · have := zA_drop pn.2.1 hI r
            omega
        · exact ih
    · rw [if_neg z]
      rcases ih with ⟨e, k⟩ | ih
      · refine Or.inl ⟨e, fun c hc i1 i2 => ?_⟩
        by_cases d : c = n
        · rw [d] at i1; exact absurd ⟨i1.2.1, i1.2.2⟩ z
        · exact k c (by omega) i1 i2
      · exact Or.inr ih
set_option maxRecDepth 20000 in
theorem ru_keep : ∀ (l : List Nat) (w : Nat → Nat → Rat), Gw w → rs w c = 0 → rs (ruP w l) c = 0
  | [], _, _, h => h
  | _ :: l, _, g, h => ru_keep l _ (kr_gw g) (kr_keep g h)
set_option maxRecDepth 20000 in
theorem swR_irr (h0 : W0 w0) (h1 : f ≠ t) (hf : f < 5) (ht : t < 5) (hn : nc ≤ 5) (hz : ∀ c, nc ≤ c → rs w0 c = 0) : Irr (Inn f t) (swR f t nc w0 nc) := by
  have hz2 : ∀ r c, nc ≤ c → rs (swR f t nc w0 r) c = 0 := fun r c hc => by
    obtain ⟨⟨l, -, l2⟩, -⟩ := pq_swR h0 h1 hf ht hn r
    rw [← l2]
    exact ru_keep l w0 h0.1 (hz c hc)
  have key : ∀ r, Irr (Inn f t) (swR f t nc w0 r) ∨ zA f t (swR f t nc w0 r) + r ≤ zA f t w0 := fun r => by
    induction r with
    | zero => exact Or.inr (Nat.le_refl _)
    | succ r ih =>
      have pr := pq_swR h0 h1 hf ht hn r
      have e : swR f t nc w0 (r + 1) = sw1 f t (swR f t nc w0 r) nc := rfl
      have i2 : (sw1 f t (swR f t nc w0 r) nc = swR f t nc w0 r ∧ ∀ c, c < nc → Inn f t c → T2 (swR f t nc w0 r) c → rs (swR f t nc w0 r) c = 0) → Irr (Inn f t) (swR f t nc w0 (r + 1)) := fun ⟨k1, k2⟩ => by
        rw [e, k1]
        intro c i1 i2
        by_cases q : c < nc
        · exact k2 c q i1 i2
        · exact hz2 r c (by omega)
      rcases ih with ih | ih
      · left
        rw [e, sw1_irr pr.2.1 ih nc hn]
        exact ih
      · rcases sw1_z h0 h1 hf ht pr nc hn with k | k
        · exact Or.inl (i2 k)
        · right
          rw [e]
          omega
  rcases key nc with k | k
  · exact k
  · have le1 : ∀ c, zc f t w0 c ≤ 1 := fun c => by unfold zc; split <;> omega
    have le0 : ∀ c, nc ≤ c → zc f t w0 c = 0 := fun c hc => by unfold zc; rw [if_pos (Or.inl (hz c hc))]
    have hA : zA f t w0 ≤ nc := by
      have a0 := le1 0
      have a1 := le1 1
      have a2 := le1 2
      have a3 := le1 3
      have a4 := le1 4
      have b0 := le0 0
      have b1 := le0 1
      have b2 := le0 2
      have b3 := le0 3
      have b4 := le0 4
      unfold zA
      omega
    have z0 : zA f t (swR f t nc w0 nc) = 0 := by omega
    intro c i1 _
    have zz : zc f t (swR f t nc w0 nc) c = 0 := by
      unfold zA at z0
      rcases (by have := i1.1; omega : c = 0 ∨ c = 1 ∨ c = 2 ∨ c = 3 ∨ c = 4) with rfl | rfl | rfl | rfl | rfl <;> omega
    unfold zc at zz
    by_cases q : rs (swR f t nc w0 nc) c = 0 ∨ c = f ∨ c = t
    · rcases q with q | q | q
      · exact q
      · exact absurd q i1.2.1
      · exact absurd q i1.2.2
    · rw [if_neg q] at zz
      omega
end
