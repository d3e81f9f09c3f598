/-! the start of the law -/
theorem kc_L_7 : Cond.classLink RL 7 RX7 ∈ lw_g := lw_gm (tb1 (List.mem_of_getElem? (i := 14) rfl)) rfl
theorem ki_X7 : Cond.instantiable RX7 11 ∈ lw_g := lw_gm (tb1 (List.mem_of_getElem? (i := 15) rfl)) rfl
theorem kn_X7 : Cond.initialized RX7 ∈ lw_g := lw_gm (tb1 (List.mem_of_getElem? (i := 1) rfl)) rfl
theorem km_L_9 : Cond.methodLink RL 9 yX7_init ∈ lw_g := lw_gm (tb1 (List.mem_of_getElem? (i := 16) rfl)) rfl
theorem kc_L_10 : Cond.classLink RL 10 RX8 ∈ lw_g := lw_gm (tb4 (List.mem_of_getElem? (i := 177) rfl)) rfl
theorem ki_X8 : Cond.instantiable RX8 35 ∈ lw_g := lw_gm (tb4 (List.mem_of_getElem? (i := 178) rfl)) rfl
theorem kn_X8 : Cond.initialized RX8 ∈ lw_g := lw_gm (tb1 (List.mem_of_getElem? (i := 8) rfl)) rfl
theorem km_L_12 : Cond.methodLink RL 12 yX8_init ∈ lw_g := lw_gm (tb4 (List.mem_of_getElem? (i := 179) rfl)) rfl
theorem kv_int : Cond.arrayOver (.array .int) ∈ lw_tbl := (tb1 (List.mem_of_getElem? (i := 29) rfl))
theorem kv_long : Cond.arrayOver (.array .long) ∈ lw_tbl := (tb1 (List.mem_of_getElem? (i := 113) rfl))
theorem kv_obj : Cond.arrayOver (.object "VacuumDesk$Line") ∈ lw_tbl := (tb2 (List.mem_of_getElem? (i := 3) rfl))
theorem ks_0 : Cond.laysStatic "VacuumDesk" "TOP_OF_CHAMBER" "[I" ∈ lw_tbl := (tb2 (List.mem_of_getElem? (i := 59) rfl))
theorem ar_of {s : State} {cA comp : ClassId} {k : Class} {ty : FieldType} (h1 : s.vm.classes[cA]? = some k) (h2 : k.kind = .array comp ty) : ArrOfT s cA ty := fun n z => ⟨fun q h => (by cases h), k, h1, comp, h2⟩
set_option maxRecDepth 20000 in
theorem ar_kn {args : Array Value} {s : State} (hg : ∀ w ∈ lw_g, w.before args s = true) (ht : ∀ w ∈ lw_tbl, w.before args s = true) : ∃ cy : Nat → ClassId, ∀ (k : Nat) (q : ClassId × FieldType), (tys cy)[k]? = some q → ArrOfT s q.1 q.2 ∧ va_RA s q.1 q.2 := by
  obtain ⟨c8, k8, m8, a1, a2, a3⟩ := Cond.arrayClass_spec (hg _ ka_int)
  obtain ⟨c9, k9, m9, b1, b2, b3⟩ := Cond.arrayClass_spec (hg _ ka_long)
  obtain ⟨c10, k10, m10, d1, d2, d3⟩ := Cond.arrayClass_spec (hg _ ka_boolean)
  obtain ⟨m11, c11, k11, e1, e2, e3, e4, e5⟩ := Cond.arrayOver_spec (ht _ kv_obj)
  obtain ⟨m12, c12, k12, f1, f2, f3, f4⟩ := ov_rows (ht _ kv_int)
  obtain ⟨m13, c13, k13, g1, g2, g3, g4⟩ := ov_rows (ht _ kv_long)
  refine ⟨fun k => if k = 8 then c8 else if k = 9 then c9 else if k = 10 then c10 else if k = 11 then c11 else if k = 12 then c12 else c13, fun k q hq => ?_⟩
  match k, hq with
  | 0, hq => cases hq; exact ⟨ar_of a2 a3, a1⟩
  | 1, hq => cases hq; exact ⟨ar_of b2 b3, b1⟩
  | 2, hq => cases hq; exact ⟨ar_of d2 d3, d1⟩
  | 3, hq => cases hq; exact ⟨ar_of e3 e4, k11, m11, e3, e4, e1, e5⟩
  | 4, hq => cases hq; exact ⟨ar_of f2 f3, f4⟩
  | 5, hq => cases hq; exact ⟨ar_of g2 g3, g4⟩
  | k + 6, hq => simp [tys] at hq
set_option maxRecDepth 20000 in
theorem cl_kn {args : Array Value} {s : State} (hg : ∀ w ∈ lw_g, w.before args s = true) : ∃ D : va_G, ∀ (k : Nat) (q : vw_C), vwCl[k]? = some q → u_Kn s q.1 q.2.1 q.2.2 (D.1 k) (D.2 k) := by
  obtain ⟨c0, i0, h0⟩ := u_known hg uX0 (hg _ ki_X0)
  obtain ⟨c1, i1, h1⟩ := u_known hg uX1 (hg _ ki_X1)
  obtain ⟨c2, i2, h2⟩ := u_known hg uX3 (hg _ ki_X3)
  obtain ⟨c3, i3, h3⟩ := u_known hg uX4 (hg _ ki_X4)
  obtain ⟨c4, i4, h4⟩ := u_known hg uX5 (hg _ ki_X5)
  obtain ⟨c5, i5, h5⟩ := u_known hg uX6 (hg _ ki_X6)
  obtain ⟨c6, i6, h6⟩ := u_known hg uX7 (hg _ ki_X7)
  obtain ⟨c7, i7, h7⟩ := u_known hg uX8 (hg _ ki_X8)
  refine ⟨(fun k => match k with | 0 => c0 | 1 => c1 | 2 => c2 | 3 => c3 | 4 => c4 | 5 => c5 | 6 => c6 | _ => c7, fun k => match k with | 0 => i0 | 1 => i1 | 2 => i2 | 3 => i3 | 4 => i4 | 5 => i5 | 6 => i6 | _ => i7), fun k q hq => ?_⟩
  match k, hq with
  | 0, hq => cases hq; exact h0
  | 1, hq => cases hq; exact h1
  | 2, hq => cases hq; exact h2
  | 3, hq => cases hq; exact h3
  | 4, hq => cases hq; exact h4
  | 5, hq => cases hq; exact h5
  | 6, hq => cases hq; exact h6
  | 7, hq => cases hq; exact h7
  | k + 8, hq => simp [vwCl] at hq
set_option maxRecDepth 20000 in
theorem st_kn {b : Nat} {s : State} (hg : ∀ w ∈ lw_g, w.before #[Value.ref b] s = true) (ht : ∀ w ∈ lw_tbl, w.before #[Value.ref b] s = true) (h : (Jvm.Cond.and given_1 narrow_1).before #[Value.ref b] s = true) : ∃ tt : Nat → Nat, Sta s.heap.size tt s s.heap := by
  have hs := flat_of_before _ h
  have hA : ∀ a : Nat, a < s.heap.size → ¬ aw s.heap.size a := fun a ha => Nat.not_le.mpr ha
  obtain ⟨t0, e0, v0⟩ := va_Tof (N := 3) (f := fun i => .int (stab 0 i)) (A := aw s.heap.size) (by decide) (hs (Cond.arrayOf (.static "VacuumDesk" "TOP_OF_CHAMBER" "[I") .int) (by decide +kernel)) (va_eqt (hs (Cond.eq (.length (.static "VacuumDesk" "TOP_OF_CHAMBER" "[I")) (.int 3)) (by decide +kernel))) (fun j hj => by
    match j, hj with
    | 0, _ => exact va_eqt (hs (Cond.eq (.elem (.static "VacuumDesk" "TOP_OF_CHAMBER" "[I") (.int 0)) (.int 99)) (by decide +kernel))
    | 1, _ => exact va_eqt (hs (Cond.eq (.elem (.static "VacuumDesk" "TOP_OF_CHAMBER" "[I") (.int 1)) (.int 4999)) (by decide +kernel))
    | 2, _ => exact va_eqt (hs (Cond.eq (.elem (.static "VacuumDesk" "TOP_OF_CHAMBER" "[I") (.int 2)) (.int 9)) (by decide +kernel))) hA
  exact ⟨fun _ => t0, va_Zof (ht _ ks_0) (hg _ kn_X7) e0 hA, v0⟩
section
variable {p : Program} {l : Launch} {e : Env} {s : State} {m : MethodId} {below : List Frame} {meth : Method} {c : Code} {b : Nat} {h0 : Nat} {D : va_G} {cy : Nat → ClassId} {tt : Nat → Nat} {Q : State → Prop} {ls : Array Slot}
set_option maxRecDepth 20000 in
theorem lw_begin (ok : CallFix p m c cL_law 4 s #[Value.ref b] lw_g RL) (hK : va_K D vwCl (tys cy) s) (hZ : Sta h0 tt s s.heap) (hO : Ovs s) (hl : lv_has ls 4 [(0, .ref b)]) (kk : ∀ ls, Ll ls b h0 0 → Kg room_1 p l e s m #[Value.ref b] below meth c h0 D (0 + 1 + 491 + 1 + 24) (0 + 11 + 6249 + 35 + 4949) Q 18 ls [] (ce h0 cy M0) 517) : Kg room_1 p l e s m #[Value.ref b] below meth c h0 D 0 0 Q 0 ls [] (ce h0 cy M0) 0 := by
  refine g_new ok hK kX7 kc_L_7 ki_X7 kn_X7 dfX7 dL_law_0 (rfl : 0 + 3 = 3) (rfl : 0 + 1 = 1) (Nat.le_of_ble_eq_true rfl) (Nat.le_of_ble_eq_true rfl) ?_
  refine g_w (pc2 := 4) (fun _ _ => lv_dup ok.1 ok.2.1 dL_law_3 rfl) ?_
  refine g_call (As := []) (st := [.ref (h0 + 0)]) ok hK hZ hO hl.1 hk_X7 km_L_9 (k_desk (fun _ _ => rfl)) rfl (Nat.le_of_ble_eq_true rfl) dL_law_4 (rfl : 4 + 3 = 7) ⟨Nat.le_of_ble_eq_true rfl, Nat.le_of_ble_eq_true rfl⟩ ⟨Nat.le_of_ble_eq_true rfl, Nat.le_of_ble_eq_true rfl⟩ ?_
  refine g_ws (pc2 := 8) (lv2 := [(1, .ref (h0 + 0)), (0, .ref b)]) (fun _ _ => lv_astore_n ok.1 ok.2.1 dL_law_7 rfl hl (by decide) rfl) (fun ls hl => ?_)
  refine g_new ok hK kX8 kc_L_10 ki_X8 kn_X8 dfX8 dL_law_8 (rfl : 8 + 3 = 11) (rfl : 492 + 1 = 493) (Nat.le_of_ble_eq_true rfl) (Nat.le_of_ble_eq_true rfl) ?_
  refine g_w (pc2 := 12) (fun _ _ => lv_dup ok.1 ok.2.1 dL_law_11 rfl) ?_
  refine g_call (As := []) (st := [.ref (h0 + 492)]) ok hK hZ hO hl.1 hk_X8 km_L_12 (k_model (fun _ _ => rfl)) rfl (Nat.le_of_ble_eq_true rfl) dL_law_12 (rfl : 12 + 3 = 15) ⟨Nat.le_of_ble_eq_true rfl, Nat.le_of_ble_eq_true rfl⟩ ⟨Nat.le_of_ble_eq_true rfl, Nat.le_of_ble_eq_true rfl⟩ ?_
  refine g_ws (pc2 := 16) (lv2 := [(2, .ref (h0 + 492)), (1, .ref (h0 + 0)), (0, .ref b)]) (fun _ _ => lv_astore_n ok.1 ok.2.1 dL_law_15 rfl hl (by decide) rfl) (fun ls hl => ?_)
  refine g_w (pc2 := 17) (fun _ _ => lv_iconst (v := nI 0) ok.1 ok.2.1 dL_law_16 (by decide)) ?_
  refine g_ws (pc2 := 18) (lv2 := [(3, .int (nI 0)), (2, .ref (h0 + 492)), (1, .ref (h0 + 0)), (0, .ref b)]) (fun _ _ => lv_istore_n ok.1 ok.2.1 dL_law_17 rfl hl (by decide) rfl) (fun ls hl => ?_)
  exact kk ls hl
end
