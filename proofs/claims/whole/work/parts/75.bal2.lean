/-! ===== the balance of a line ===== -/
section
variable {M : Me} {b : Nat} {X : Nat → Int32} {nc nt np nw tm hA hB : Nat}
set_option maxRecDepth 20000 in
theorem gsm_le {i j : Nat} (hc : nc ≤ 5) : ∀ n, (∀ t, t < n → VxT X nc t) → gsm X i j n ≤ 12 * n
  | 0, _ => Nat.le_refl 0
  | n + 1, h => by
    have ih := gsm_le (i := i) (j := j) hc n (fun t ht => h t (by omega))
    have d := (dX_e hc (h n (by omega))).2.2
    simp only [gsm]
    split <;> omega
/-! the helper of a line -/
def HlM (M : Me) (b : Nat) (nc hA hB : Nat) : Prop := (M.1 b 7 = -(nI 1) ∧ M.1 b 8 = nI 0 ∧ hA = 9 ∧ hB = 0) ∨ (M.1 b 7 = nI hA ∧ M.1 b 8 = nI hB ∧ hA < nc)
set_option maxRecDepth 20000 in
theorem ky_kv {tB : Nat} (hv : VxB X nc nt np nw tm tB) (hh : Hl X nc nt np hA hB) (hm : HlM M b nc hA hB) : KV (kyC X nc nt np (M.1 b 7) (M.1 b 8) nc) (kyN X nc nt np hA hB) := by
  have hb := hv.2.1
  have m8 : M.1 b 8 = nI hB := by
    rcases hm with ⟨-, h, -, h2⟩ | ⟨-, h, -⟩
    · rw [h2]; exact h
    · exact h
  have hB40 : hB ≤ 40 := by
    rcases hh with ⟨-, h⟩ | ⟨-, h, -⟩ <;> omega
  refine ⟨fun i hi h1 => ?_, ?_, fun i hi => ky_o hi⟩
  · unfold kyC kyN
    by_cases a0 : i = 0
    · subst a0
      refine ⟨rfl, ?_⟩
      rw [if_pos rfl]; omega
    rw [if_neg a0, if_neg h1]
    by_cases a2 : i = 2
    · subst a2
      refine ⟨m8, ?_⟩
      rw [if_pos rfl]; omega
    rw [if_neg a2]
    by_cases a3 : i < 28
    · rw [if_pos a3]
      refine ⟨?_, by have := gsm_le (X := X) (i := (i - 3) / 5) (j := (i - 3) % 5) hb.1 nt hv.2.2.2.2.1; omega⟩
      unfold kyP kyT
      rw [if_pos (by omega), if_pos a3, if_neg a0, if_neg h1, if_neg a2, if_pos a3]
    rw [if_neg a3]
    by_cases a4 : i < 43
    · rw [if_pos a4]
      refine ⟨?_, ?_⟩
      · unfold kyP
        rw [if_pos (by omega), if_neg a3, if_pos a4]
      · split
        · rename_i q
          have := ((pumpX hb.1 hb.2.2.2.2 (hv.2.2.2.2.2.1 _ q.1)).1 ((i - 28) % 5) (by omega)).2
          omega
        · omega
    rw [if_neg a4]
    by_cases a5 : i < 49
    · rw [if_pos a5, if_pos a5]
      refine ⟨?_, ?_⟩
      · unfold kyP
        rw [if_neg a3, if_neg a4, if_pos a5]
      · split
        · rename_i q
          have := ((pumpX hb.1 hb.2.2.2.2 (hv.2.2.2.2.2.1 _ q.1)).1 (5 + (i - 43) % 2) (by omega)).2
          omega
        · omega
    rw [if_neg a5, if_neg a5, if_pos hi]
    refine ⟨rfl, ?_⟩
    split
    · rename_i q
      have := (ldX_e hv q).2
      have := lkX_le hv (c := i - 49)
      omega
    · omega
  · rw [show kyC X nc nt np (M.1 b 7) (M.1 b 8) nc 1 = M.1 b 7 from rfl, ky_0, ky_1, ky_2]
    rcases hm with ⟨h1, h2, h3, h4⟩ | ⟨h1, h2, h3⟩
    · exact Or.inl ⟨h1, h3, h4⟩
    · exact Or.inr ⟨h1, h3⟩
set_option maxRecDepth 20000 in
theorem c_bal {tB : Nat} (hL : Lr M b X nc nt np nw tm) (hv : VxB X nc nt np nw tm tB) (hb63 : b + 30 ≤ 61 ∨ 96 < b) (hh : Hl X nc nt np hA hB) (hm : HlM M b nc hA hB) (hI : BInv M) : ∃ N, DX0_solve [.ref 61, .ref b] M = some N ∧ BAt N (kyN X nc nt np hA hB) ∧ SF M N := by
  have hb := hL.1
  have hB' := hv.2.1
  refine c_solve (a_kb hb) (by omega) (c_write hL hv hb63) (ky_kv hv hh hm) (ky_good hv hh) (fun N hN c hc => ?_) ?_ hI
  · have hL2 : Lr N b X nc nt np nw tm := hL.frame hB'.1 hB'.2.1 hB'.2.2.1 hB'.2.2.2.1 (fun a z1 z2 => (hN a (by omega)).1)
    rw [ky_0] at hc
    rw [ky_net hv (by omega)]
    exact c_net hL2 hv hc
  · rw [ky_0]; exact hL.2.1.1
end
