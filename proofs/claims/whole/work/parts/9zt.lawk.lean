/-! ===== the start ===== -/
set_option maxRecDepth 20000 in
theorem inv0 : Inv M0 := by
  refine ⟨⟨0, 0, 0, 0, 0, 0, 0, ⟨by decide +kernel, by decide, Or.inl (by decide +kernel), fun c h => absurd h (Nat.not_lt_zero c), fun c h => absurd h (Nat.not_lt_zero c), fun c h => absurd h (Nat.not_lt_zero c), fun c h => absurd h (Nat.not_lt_zero c), fun c h => absurd h (Nat.not_lt_zero c), fun k h => absurd (show k < 0 from h) (Nat.not_lt_zero k)⟩, ⟨List.mem_of_getElem? (i := 0) rfl, by decide +kernel, fun c h => absurd h (Nat.not_lt_zero c), fun c h => absurd h (Nat.not_lt_zero c), fun c h => absurd h (Nat.not_lt_zero c), fun c h => absurd h (Nat.not_lt_zero c), fun c h => absurd h (Nat.not_lt_zero c), fun k h => absurd (show k < 0 from h) (Nat.not_lt_zero k)⟩, by unfold Nh; decide +kernel, ⟨by decide +kernel, by decide +kernel, by decide +kernel, by decide, by decide, fun c h => absurd h (Nat.not_lt_zero c)⟩, ?_, by unfold StI; decide +kernel⟩, Or.inl (by decide +kernel)⟩
  intro k hk
  have : k = 0 ∨ k = 1 := by omega
  rcases this with rfl | rfl
  · exact ⟨by decide +kernel, Or.inl (by decide +kernel)⟩
  · exact ⟨by decide +kernel, Or.inl (by decide +kernel)⟩
/-! ===== rules of the law's walk ===== -/
section
variable {own : String} {cc : ByteArray} {nL : Nat} {R : Room} {p : Program} {l : Launch} {e : Env} {s : State} {m : MethodId} {args : Array Value} {below : List Frame} {meth : Method} {c : Code} {h0 : Nat} {D : va_G} {cy : Nat → ClassId} {tt : Nat → Nat} {cells slots : Nat} {Q : State → Prop} {pc p1 : Nat} {ls : Array Slot} {st st0 : List Value} {M M2 : Me}
variable {ci N : Nat} {C : String} {T : u_T} {ty : Nat → FieldType} {ix n : Nat} {y : MethodName} {bytes : ByteArray} {maxL fr lo : Nat}
theorem kc_w {pc2 : Nat} {ls2 : Array Slot} {st2 : List Value} (h : ∀ (H : Heap) (locs : List Loc), W p l e R s m args below meth c H locs cells slots Q (F0 m pc2 ls2 st2) → W p l e R s m args below meth c H locs cells slots Q (F0 m pc ls st)) (kk : Kc R p l e s m args below meth c h0 D cy cells slots Q pc2 ls2 st2 M) : Kc R p l e s m args below meth c h0 D cy cells slots Q pc ls st M := fun H locs hP hS => h H locs (kk H locs hP hS)
set_option maxRecDepth 20000 in
theorem kc_i {F : Fi} {w : List Value} {a : Nat} {x : Int32} (ok : Okk own cc nL R p m c s args h0 D cy tt cells slots) (hsz : ls.size = nL) (hc : Cls ci C T N ty) (hM : Mi y bytes maxL (rmk fr lo) F) (hm : Mth y C bytes maxL (some .int) n) (hw : Cond.methodLink own ix y ∈ lw_g) (hR : fr + 1 ≤ R.frames ∧ 8 + (maxL + 11) + lo ≤ R.locals) (ha : kd a = ci) (hf : F (.ref a :: w) M = some (x, M2)) (hn : w.length = n) (hst : st0 = (w.map (tv h0)).reverse ++ .ref (h0 + a) :: st) (hb : wds st ≤ 8) (hd : decode cc pc = .ok (.invokevirtual ix, 3)) (hp : pc + 3 = p1) (kk : Kc R p l e s m args below meth c h0 D cy cells slots Q p1 ls (.int x :: st) M2) : Kc R p l e s m args below meth c h0 D cy cells slots Q pc ls st0 M := by
  intro H locs hP hS
  subst hp
  subst hst
  refine va_calli (va_runV (As := w.map (tv h0)) (rest := st) ⟨ok.1.1, ok.1.2.1, ok.1.2.2.1, ok.1.2.2.2.1, ok.1.2.2.2.2⟩ (hM l h0 D cy tt (.ref a :: w) M M2 x hf) (cwV n ok.1.2.2.2.2 (hm.good hw) rfl rfl rfl hm.2 hR) ⟨Wr_blind, va_recv ok.2.1 hP hc.1 (wl_obj ha hc.2.2.2.1), fun U hU hW => ⟨rfl, Wr_at hU hW ok.2.1 ok.2.2.1 hP hS⟩⟩ rfl (by rw [List.length_map]; exact hn) hsz rfl (lv_room hb) hd ⟨ok.2.2.2.1, ok.2.2.2.2⟩) hS (fun q _ h => h) (fun q h => h) (fun r2 u t H1 locs1 ht hvm hq hB hz1 hk1 hS1 => ?_)
  subst hq
  exact kk H1 locs1 (by rw [← ht]; exact hB.1) hS1
set_option maxRecDepth 20000 in
theorem kc_j {F : Fj} {w : List Value} {a : Nat} {x : Int64} (ok : Okk own cc nL R p m c s args h0 D cy tt cells slots) (hsz : ls.size = nL) (hc : Cls ci C T N ty) (hM : Mj y bytes maxL (rmk fr lo) F) (hm : Mth y C bytes maxL (some .long) n) (hw : Cond.methodLink own ix y ∈ lw_g) (hR : fr + 1 ≤ R.frames ∧ 8 + (maxL + 11) + lo ≤ R.locals) (ha : kd a = ci) (hf : F (.ref a :: w) M = some (x, M2)) (hn : w.length = n) (hst : st0 = (w.map (tv h0)).reverse ++ .ref (h0 + a) :: st) (hb : wds st ≤ 8) (hd : decode cc pc = .ok (.invokevirtual ix, 3)) (hp : pc + 3 = p1) (kk : Kc R p l e s m args below meth c h0 D cy cells slots Q p1 ls (.long x :: st) M2) : Kc R p l e s m args below meth c h0 D cy cells slots Q pc ls st0 M := by
  intro H locs hP hS
  subst hp
  subst hst
  refine va_calll (va_runV (As := w.map (tv h0)) (rest := st) ⟨ok.1.1, ok.1.2.1, ok.1.2.2.1, ok.1.2.2.2.1, ok.1.2.2.2.2⟩ (hM l h0 D cy tt (.ref a :: w) M M2 x hf) (cwV n ok.1.2.2.2.2 (hm.good hw) rfl rfl rfl hm.2 hR) ⟨Wr_blind, va_recv ok.2.1 hP hc.1 (wl_obj ha hc.2.2.2.1), fun U hU hW => ⟨rfl, Wr_at hU hW ok.2.1 ok.2.2.1 hP hS⟩⟩ rfl (by rw [List.length_map]; exact hn) hsz rfl (lv_room hb) hd ⟨ok.2.2.2.1, ok.2.2.2.2⟩) hS (fun q _ h => h) (fun q h => h) (fun r2 u t H1 locs1 ht hvm hq hB hz1 hk1 hS1 => ?_)
  subst hq
  exact kk H1 locs1 (by rw [← ht]; exact hB.1) hS1
end
/-! what stands through the law's loop -/
def Lx (p : Program) (s : State) (m : MethodId) (c : Code) (b L : Nat) (xs : Nat → Int32) (h0 : Nat) (D : va_G) (cy : Nat → ClassId) (tt : Nat → Nat) (cells slots : Nat) : Prop := Okk RL cL_law 4 room_1 p m c s #[Value.ref b] h0 D cy tt cells slots ∧ va_X b L xs s s.heap ∧ b < s.heap.size ∧ s.heap.size = h0 ∧ L ≤ 3072
def Ll (ls : Array Slot) (b h0 k : Nat) : Prop := lv_has ls 4 [(3, .int (nI k)), (2, .ref (h0 + 492)), (1, .ref (h0 + 0)), (0, .ref b)]
section
variable {p : Program} {l : Launch} {e : Env} {s : State} {m : MethodId} {below : List Frame} {meth : Method} {c : Code} {b L : Nat} {xs : Nat → Int32} {h0 : Nat} {D : va_G} {cy : Nat → ClassId} {tt : Nat → Nat} {cells slots : Nat} {Q : State → Prop} {pc p1 k : Nat} {ls : Array Slot} {st : List Value} {M : Me}
set_option maxRecDepth 20000 in
theorem nI_inL {q : Nat} (h : q < L) (hL : L ≤ 3072) : vp_in (nI q) L := by
  intro z
  rcases z with z | z
  · rw [Int32.lt_iff_toInt_lt, nI_toInt (by omega)] at z
    have : (0 : Int32).toInt = 0 := rfl
    omega
  · rw [nI_clamp (by omega)] at z
    omega
/-! an argument of a call: a place of the script behind the row's first -/
set_option maxRecDepth 20000 in
theorem k_arg {j : Int} {q : Nat} (X : Lx p s m c b L xs h0 D cy tt cells slots) (hl : Ll ls b h0 k) (hk : k + 6 ≤ L) (hq : Int32.ofInt j = nI q) (h6 : q < 6) (d0 : decode cL_law pc = .ok (.aload_n 0, 1)) (d1 : decode cL_law (pc + 1) = .ok (.iload_n 3, 1)) (d2 : decode cL_law (pc + 2) = .ok (.iconst j, 1)) (d3 : decode cL_law (pc + 3) = .ok (.iadd, 1)) (d4 : decode cL_law (pc + 4) = .ok (.iaload, 1)) (hp : pc + 5 = p1) (kk : Kc room_1 p l e s m #[Value.ref b] below meth c h0 D cy cells slots Q p1 ls (.int (xs (k + q)) :: st) M) : Kc room_1 p l e s m #[Value.ref b] below meth c h0 D cy cells slots Q pc ls st M := by
  obtain ⟨ok, hX, hbl, hz, hL⟩ := X
  subst hp
  intro H locs hP hS
  refine lv_aload_n ok.1.1 ok.1.2.1 d0 rfl (lv_at hl 3 rfl) ?_
  refine lv_iload_n ok.1.1 ok.1.2.1 d1 rfl (lv_at hl 0 rfl) ?_
  refine lv_iconst ok.1.1 ok.1.2.1 d2 hq ?_
  refine lv_iadd ok.1.1 ok.1.2.1 d3 ?_
  rw [nI_add]
  refine va_sld ok.1.1 ok.1.2.1 hX hbl (by rw [← hz]; exact Nat.not_le.mpr hbl) hS (nI_inL (show k + q < L by omega) hL) d4 ?_
  rw [nI_clamp (by omega)]
  exact kk H locs hP hS
end
