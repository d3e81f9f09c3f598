/-! ===== cells that are made ===== -/
def wn (h0 : Nat) (g : Nat → va_E) (n : Nat) : va_W := (List.range n).map (fun a => (h0 + a, g a))
section
variable {h0 n a : Nat} {g g' : Nat → va_E} {e : va_E}
set_option maxRecDepth 20000 in
theorem wn_get (h : a < n) : (wn h0 g n)[a]? = some (h0 + a, g a) := by
  unfold wn
  rw [List.getElem?_map, List.getElem?_range h]
  rfl
set_option maxRecDepth 20000 in
theorem wn_none (h : ¬ a < n) : (wn h0 g n)[a]? = none := by
  unfold wn
  rw [List.getElem?_map, List.getElem?_eq_none (by rw [List.length_range]; omega)]
  rfl
set_option maxRecDepth 20000 in
theorem wn_at {q : Nat × va_E} (h : (wn h0 g n)[a]? = some q) : a < n ∧ q = (h0 + a, g a) := by
  by_cases ha : a < n
  · rw [wn_get ha] at h
    exact ⟨ha, (Option.some.inj h).symm⟩
  · rw [wn_none ha] at h
    cases h
set_option maxRecDepth 20000 in
theorem wn_D : va_D (aw h0) (wn h0 g n) := by
  refine ⟨fun i j x y hi hj hxy => ?_, fun k q hk => ?_⟩
  · obtain ⟨-, rfl⟩ := wn_at hi
    obtain ⟨-, rfl⟩ := wn_at hj
    exact Nat.add_left_cancel hxy
  · obtain ⟨-, rfl⟩ := wn_at hk
    exact Nat.le_add_right h0 k
theorem wn_len : (wn h0 g n).length = n := by unfold wn; rw [List.length_map, List.length_range]
set_option maxRecDepth 20000 in
theorem wn_set (h1 : g' a = e) (h2 : ∀ b, b < n → b ≠ a → g' b = g b) : (wn h0 g n).set a (h0 + a, e) = wn h0 g' n := by
  apply List.ext_getElem?
  intro i
  by_cases hi : i < n
  · have hl : i < (wn h0 g n).length := by rw [wn_len]; exact hi
    by_cases e1 : i = a
    · subst e1
      rw [List.getElem?_set_self hl, wn_get hi, h1]
    · rw [List.getElem?_set_ne (Ne.symm e1), wn_get hi, wn_get hi, h2 i hi e1]
  · have hl : ¬ i < ((wn h0 g n).set a (h0 + a, e)).length := by rw [List.length_set, wn_len]; exact hi
    rw [wn_none hi, List.getElem?_eq_none (by omega)]
set_option maxRecDepth 20000 in
theorem wn_app : wn h0 g n ++ [(h0 + n, g n)] = wn h0 g (n + 1) := by
  unfold wn
  rw [List.range_succ, List.map_append]
  rfl
set_option maxRecDepth 20000 in
theorem wn_congr (h : ∀ b, b < n → g b = g' b) : wn h0 g n = wn h0 g' n := by
  apply List.ext_getElem?
  intro i
  by_cases hi : i < n
  · rw [wn_get hi, wn_get hi, h i hi]
  · rw [wn_none hi, wn_none hi]
end
def Kg (R : Room) (p : Program) (l : Launch) (e : Env) (s : State) (m : MethodId) (args : Array Value) (below : List Frame) (meth : Method) (c : Code) (h0 : Nat) (D : va_G) (cells slots : Nat) (Q : State → Prop) (pc : Nat) (ls : Array Slot) (st : List Value) (g : Nat → va_E) (n : Nat) : Prop := ∀ (H : Heap) (locs : List Loc), va_P D vwCl (wn h0 g n) H → H.size = h0 + n → va_S (aw h0) s.heap H locs → W p l e R s m args below meth c H locs cells slots Q (F0 m pc ls st)
section
variable {own : String} {cc : ByteArray} {nL : Nat} {R : Room} {p : Program} {l : Launch} {e : Env} {s : State} {m : MethodId} {args : Array Value} {below : List Frame} {meth : Method} {c : Code} {h0 : Nat} {D : va_G} {cy : Nat → ClassId} {cells slots : Nat} {Q : State → Prop} {pc p1 : Nat} {ls : Array Slot} {st : List Value} {g g' : Nat → va_E} {n ix : Nat}
variable {ci N : Nat} {C : String} {T : u_T} {ty : Nat → FieldType}
set_option maxRecDepth 20000 in
theorem g_congr (h : ∀ b, b < n → g b = g' b) (kk : Kg R p l e s m args below meth c h0 D cells slots Q pc ls st g' n) : Kg R p l e s m args below meth c h0 D cells slots Q pc ls st g n := by
  intro H locs hP hz hS
  rw [wn_congr h] at hP
  exact kk H locs hP hz hS
/-! what a new cell leaves -/
set_option maxRecDepth 20000 in
theorem g_push {H H1 : Heap} {locs : List Loc} (hP : va_P D vwCl (wn h0 g n) H) (hz : H.size = h0 + n) (hS : va_S (aw h0) s.heap H locs) (z1 : H1.size = h0 + n + 1) (o1 : ∀ q, q < h0 + n → H1[q]? = H[q]?) (hn : va_at D vwCl (h0 + n, g n) H1) : va_P D vwCl (wn h0 g (n + 1)) H1 ∧ H1.size = h0 + (n + 1) ∧ va_S (aw h0) s.heap H1 locs := by
  refine ⟨?_, by omega, ⟨by have := hS.1; omega, fun x h1 h2 => (o1 x (by have := hS.1; omega)).trans (hS.2.1 x h1 h2), hS.2.2⟩⟩
  rw [← wn_app]
  refine (hP.kept (fun k x hx => o1 x.1 (by have := (hP k x hx).lt; omega))).app (fun k x hx => ?_)
  have hz : k < 1 := (List.getElem?_eq_some_iff.mp hx).1
  rw [show k = 0 by omega] at hx
  cases hx
  exact hn
set_option maxRecDepth 20000 in
theorem g_new (ok : CallFix p m c cc nL s args lw_g own) (hK : va_K D vwCl (tys cy) s) (hc : Cls ci C T N ty) (hcl : Cond.classLink own ix C ∈ lw_g) (hin : Cond.instantiable C N ∈ lw_g) (hni : Cond.initialized C ∈ lw_g) {fs : List Value} (hg : g n = .inr (ci, fs)) (hfs : ∀ j, j < N → defaultValue (ty j) = vp_V fs j) (h1 : cells + 1 ≤ R.cells) (h2 : slots + N ≤ R.slots) (hd : decode cc pc = .ok (.new ix, 3)) (hp : pc + 3 = p1) (kk : Kg R p l e s m args below meth c h0 D (cells + 1) (slots + N) Q p1 ls (.ref (h0 + n) :: st) g (n + 1)) : Kg R p l e s m args below meth c h0 D cells slots Q pc ls st g n := by
  intro H locs hP hz hS
  subst hp
  have hKn := hK.1 ci _ hc.1
  refine W.newcK ok.1 ok.2.1 ok.2.2.2.1 (ok.2.2.2.2 _ hcl) (ok.2.2.2.2 _ hin) (ok.2.2.2.2 _ hni) rfl hd h1 h2 hKn.2.1 hz fun H1 kC hkC e1 z1 o1 => ?_
  obtain ⟨a1, a2, a3⟩ := g_push (g := g) (s := s) hP hz hS z1 o1 (by rw [hg]; exact ⟨_, hc.1, (u_born ty ok.2.2.2.2 hc.2.1 hKn hkC e1 hc.2.2.2.2.1).to hfs⟩)
  exact kk H1 locs a1 a2 a3
set_option maxRecDepth 20000 in
theorem g_newa (ok : CallFix p m c cc nL s args lw_g own) (hK : va_K D vwCl (tys cy) s) {atype : ArrayType} (harr : Cond.arrayClass (newarray.typeOf atype) ∈ lw_g) {cA0 : ClassId} (t0 : Nat) (ht : (tys cy)[t0]? = some (cA0, newarray.typeOf atype)) {a0 : vp_A} {i : Int32} {N' : Nat} (hg : g n = .inl (cA0, a0)) (ha : vp_cell cA0 a0 = arrV cA0 N' (fun _ => defaultValue (newarray.typeOf atype))) (hn : ¬ i < 0) (hN : i.toNatClampNeg = N') (hb : N' * componentBytes (newarray.typeOf atype) ≤ 536870912) (h1 : cells + 1 ≤ R.cells) (h2 : slots + N' ≤ R.slots) (hd : decode cc pc = .ok (.newarray atype, 2)) (hp : pc + 2 = p1) (kk : Kg R p l e s m args below meth c h0 D (cells + 1) (slots + N') Q p1 ls (.ref (h0 + n) :: st) g (n + 1)) : Kg R p l e s m args below meth c h0 D cells slots Q pc ls (.int i :: st) g n := by
  intro H locs hP hz hS
  subst hp
  have hr : s.vm.findClass ("[" ++ (newarray.typeOf atype).toString) = some cA0 := by
    have := (hK.2 t0 _ ht).2
    cases atype <;> exact this
  refine va_newaK ok.1 ok.2.1 (ok.2.2.2.2 _ harr) rfl hd rfl hn hN hb h1 h2 hz fun H1 cA e1 z1 o1 hAr hNm => ?_
  have ec : cA = cA0 := Option.some.inj (hNm.symm.trans hr)
  subst ec
  obtain ⟨a1, a2, a3⟩ := g_push (g := g) (s := s) hP hz hS z1 o1 (by rw [hg]; show H1[h0 + n]? = some (vp_cell _ _); rw [ha]; exact e1)
  exact kk H1 locs a1 a2 a3
set_option maxRecDepth 20000 in
theorem g_anew (ok : CallFix p m c cc nL s args lw_g own) (hK : va_K D vwCl (tys cy) s) (hcl : Cond.classLink own ix C ∈ lw_g) (hov : Cond.arrayOver (.object C) ∈ lw_g) {cA0 : ClassId} (t0 : Nat) (ht : (tys cy)[t0]? = some (cA0, .object C)) {a0 : vp_A} {i : Int32} {N' : Nat} (hg : g n = .inl (cA0, a0)) (ha : vp_cell cA0 a0 = arrV cA0 N' (fun _ => .null)) (hn : ¬ i < 0) (hN : i.toNatClampNeg = N') (hb : N' * 4 ≤ 536870912) (h1 : cells + 1 ≤ R.cells) (h2 : slots + N' ≤ R.slots) (hd : decode cc pc = .ok (.anewarray ix, 3)) (hp : pc + 3 = p1) (kk : Kg R p l e s m args below meth c h0 D (cells + 1) (slots + N') Q p1 ls (.ref (h0 + n) :: st) g (n + 1)) : Kg R p l e s m args below meth c h0 D cells slots Q pc ls (.int i :: st) g n := by
  intro H locs hP hz hS
  subst hp
  subst hN
  obtain ⟨kA0, comp0, r1, r2, r3, r4⟩ := (hK.2 t0 _ ht).2
  refine W.anew ok.1 ok.2.1 ok.2.2.2.1 (ok.2.2.2.2 _ hcl) (ok.2.2.2.2 _ hov) rfl hd rfl hn hb h1 h2 fun cA kA comp f1 f2 f3 f4 => ?_
  have ec : cA = cA0 := Option.some.inj (f1.symm.trans r4)
  subst ec
  obtain ⟨a1, a2, a3⟩ := g_push (g := g) (s := s) (H1 := H.push ({ cls := cA, slots := Array.replicate i.toNatClampNeg .null, vm := .none } : Cell)) hP hz hS (by rw [Array.size_push, hz]) (fun q hq => by rw [Array.getElem?_push, if_neg (by omega)]) (by
    rw [hg]
    show _ = some (vp_cell _ _)
    rw [ha, ← hz, Array.getElem?_push_size, ← arrV_new])
  have := kk _ locs a1 a2 a3
  rw [← hz] at this
  exact this
end
