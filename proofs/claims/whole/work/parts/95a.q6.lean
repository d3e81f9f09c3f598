/-! ===== what a step of the reference leaves ===== -/
def Q6 (M N : Me) : Prop := (∀ a, a < 492 ∨ (493 ≤ a ∧ a ≤ 499 ∧ a ≠ 494) → N.1 a = M.1 a) ∧ (∀ j, j < 20 → N.1 492 j = M.1 492 j) ∧ ∀ a, a < 492 → N.2 a = M.2 a
theorem Q6.refl {M : Me} : Q6 M M := ⟨fun _ _ => rfl, fun _ _ => rfl, fun _ _ => rfl⟩
theorem Q6.trans {M N O : Me} (h : Q6 M N) (g : Q6 N O) : Q6 M O := ⟨fun a ha => (g.1 a ha).trans (h.1 a ha), fun j hj => (g.2.1 j hj).trans (h.2.1 j hj), fun a ha => (g.2.2 a ha).trans (h.2.2 a ha)⟩
theorem QR.q6 {M N : Me} (h : QR M N) : Q6 M N := ⟨fun a ha => h.1 a (by omega), h.2.1, h.2.2⟩
theorem q6_w {M : Me} {i : Nat} {v : Int32} : Q6 M (wi M 494 i v) := ⟨fun a ha => wi_ne (by omega), fun j _ => by rw [wi_ne (by decide)], fun _ _ => rfl⟩
theorem Q6.q5 {M N : Me} (h : Q6 M N) : Q5 M N := ⟨fun a ha => h.1 a (by omega), h.2.1, h.2.2⟩
