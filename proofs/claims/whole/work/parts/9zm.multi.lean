/-! ===== rows of rows: the machine makes the outer one, then each row and its place ===== -/
set_option maxRecDepth 20000 in
theorem ov_rows {args : Array Value} {s : State} {t : FieldType} (h : (Cond.arrayOver (.array t)).before args s = true) : ∃ (cB cA : ClassId) (kA : Class), s.vm.findClass (FieldType.array t).toString = some cB ∧ s.vm.classes[cA]? = some kA ∧ kA.kind = .array cB (.array t) ∧ s.vm.findClass ("[" ++ (FieldType.array t).toString) = some cA := by
  have h1 : (Cond.arrayOver (.array t)).value args s none s [] = some true := beq_iff_eq.mp h
  simp only [Cond.value] at h1
  obtain ⟨cB, e1, h2⟩ := Option.bind_eq_some_iff.mp h1
  obtain ⟨cA, e2, h3⟩ := Option.bind_eq_some_iff.mp h2
  obtain ⟨kA, e3, h4⟩ := Option.map_eq_some_iff.mp h3
  obtain ⟨hlt, e5, -⟩ := Array.findIdx?_eq_some_iff_getElem.mp e2
  rw [(Array.getElem?_eq_some_iff.mp e3).2] at e5
  match hk : kA.kind with
  | .array q ty =>
    rw [hk] at h4 e5
    simp only [Bool.and_eq_true, decide_eq_true_eq] at h4
    have e6 : q = cB := beq_iff_eq.mp e5
    exact ⟨cB, cA, kA, e1, e3, by rw [hk, e6, h4.1], h4.2⟩
  | .ordinary => rw [hk] at h4; cases h4
  | .primitive _ => rw [hk] at h4; cases h4
def rwU (h i : Nat) : Nat → Value := fun j => if j < i then .ref (h + 1 + j) else .null
set_option maxRecDepth 20000 in
theorem rwU_up (h i : Nat) : updV (rwU h i) i (.ref (h + 1 + i)) = rwU h (i + 1) := by
  funext j
  unfold updV rwU
  by_cases e : j = i
  · subst e; rw [if_pos rfl, if_pos (by omega)]
  · rw [if_neg e]
    by_cases e2 : j < i
    · rw [if_pos e2, if_pos (by omega)]
    · rw [if_neg e2, if_neg (by omega)]
section
variable {p : Program} {l : Launch} {e : Env} {R : Room} {s : State} {m : MethodId} {args : Array Value} {below : List Frame} {meth : Method} {c : Code}
/-! i of the rows lie there: the state behind it, its frame apart -/
def RwI (p : Program) (l : Launch) (e : Env) (R : Room) (s : State) (m : MethodId) (args : Array Value) (below : List Frame) (meth : Method) (c : Code) (locs : List Loc) (cells slots : Nat) (T0 : State) (vm1 : Vm) (cA cB : ClassId) (N K : Nat) (dv : Value) (i : Nat) (T : State) : Prop :=
  ∃ lo : List Loc, (∀ q ∈ lo, q ∈ locs ∨ q.base = T0.heap.size) ∧ Stand p l e R s m args below meth c T lo (cells + 1 + i) (slots + N + i * K) ∧ T.vm = vm1 ∧ T.heap.size = T0.heap.size + 1 + i ∧ T.heap[T0.heap.size]? = some (arrV cA N (rwU T0.heap.size i)) ∧ (∀ j, j < i → T.heap[T0.heap.size + 1 + j]? = some (arrV cB K (fun _ => dv))) ∧ ∀ q, q < T0.heap.size → T.heap[q]? = T0.heap[q]?
set_option maxRecDepth 20000 in
theorem rw_start {locs : List Loc} {cells slots : Nat} {T0 T1 : State} {cA cB : ClassId} {N K : Nat} {dv : Value} (X : Stand p l e R s m args below meth c T1 locs cells slots) (hh : T1.heap = T0.heap) : RwI p l e R s m args below meth c locs cells slots T0 T1.vm cA cB N K dv 0 (T1.pushCell (arrV cA N (fun _ => .null))) := by
  have h := X.pushed (arrV cA N (fun _ => .null))
  rw [arrV_size] at h
  refine ⟨locs, fun q hq => Or.inl hq, by rw [Nat.zero_mul]; exact h, rfl, ?_, ?_, fun j hj => absurd hj (Nat.not_lt_zero j), fun q hq => ?_⟩
  · rw [← hh]; show (T1.heap.push _).size = _; rw [Array.size_push]
  · rw [← hh, show rwU T1.heap.size 0 = fun _ => Value.null from funext (fun j => if_neg (Nat.not_lt_zero j))]; exact State.heap_pushCell_size _ _
  · rw [← hh] at hq ⊢; exact State.heap_pushCell_of_lt _ _ hq
set_option maxRecDepth 20000 in
theorem rw_next {locs : List Loc} {cells slots : Nat} {T0 T : State} {vm1 : Vm} {cA cB : ClassId} {N K i : Nat} {dv : Value} (h : RwI p l e R s m args below meth c locs cells slots T0 vm1 cA cB N K dv i T) : RwI p l e R s m args below meth c locs cells slots T0 vm1 cA cB N K dv (i + 1) ((T.pushCell (arrV cB K (fun _ => dv))).setCell T0.heap.size ((arrV cA N (rwU T0.heap.size i)).setSlot i (.ref T.heap.size))) := by
  obtain ⟨lo, a1, X, a3, a4, a5, a6, a7⟩ := h
  have hlt : T0.heap.size < T.heap.size := by omega
  have hc : (T.pushCell (arrV cB K (fun _ => dv))).heap[T0.heap.size]? = some (arrV cA N (rwU T0.heap.size i)) := by rw [State.heap_pushCell_of_lt _ _ hlt]; exact a5
  have Y := (X.pushed (arrV cB K (fun _ => dv))).stored hc i (.ref T.heap.size)
  rw [arrV_size, show slots + N + i * K + K = slots + N + (i + 1) * K by rw [Nat.succ_mul]; omega, show cells + 1 + i + 1 = cells + 1 + (i + 1) by omega] at Y
  refine ⟨_, fun q hq => ?_, Y, a3, ?_, ?_, fun j hj => ?_, fun q hq => ?_⟩
  · rcases List.mem_append.mp hq with z | z
    · exact a1 q z
    · rw [List.mem_singleton.mp z]; exact Or.inr rfl
  · show ((T.heap.push _).setIfInBounds _ _).size = _
    rw [Array.size_setIfInBounds, Array.size_push, a4]
    omega
  · show ((T.heap.push _).setIfInBounds _ _)[_]? = _
    rw [Array.getElem?_setIfInBounds_self, Array.size_push, if_pos (by omega), arrV_store, a4, rwU_up]
  · show ((T.heap.push _).setIfInBounds _ _)[_]? = _
    rw [Array.getElem?_setIfInBounds_ne (by omega)]
    by_cases z : j = i
    · rw [z, ← a4, Array.getElem?_push_size]
    · rw [Array.getElem?_push, if_neg (by omega)]
      exact a6 j (by omega)
  · show ((T.heap.push _).setIfInBounds _ _)[_]? = _
    rw [Array.getElem?_setIfInBounds_ne (by omega), Array.getElem?_push, if_neg (by omega)]
    exact a7 q hq
/-! the words of the machine -/
set_option maxRecDepth 20000 in
theorem wp_row {E : CtlPost} {d : Bool} {acts : List Action} {S : State} {cB cc : ClassId} {kB : Class} {ty : FieldType} {k : Int32} {K : Nat} (hk : S.vm.classes[cB]? = some kB) (hkind : kB.kind = .array cc ty) (hneg : ¬ k < 0) (hK : k.toNatClampNeg = K) (h1 : ¬ K > e.platform.arrayLengthLimit) (h2 : ¬ K * componentBytes ty > e.platform.maxHeapBytes) (h3 : S.heap.size < e.platform.maxCells) (h4 : S.slotsUsed + K ≤ e.platform.maxSlots) (hf : fits ty (defaultValue ty) = true) {Q : Addr → Pre} (hq : ∀ ac, Q S.heap.size d ac (S.pushCell (arrV cB K (fun _ => defaultValue ty)))) : wp (multianewarray.make cB [k]) Q E e d acts S := by
  subst hK
  rw [multianewarray.make]
  simp only [wp_bind', Jvm.W.ite, hneg, if_false, wp_pure', Jvm.W.theClass, hk, Option.some.injEq, exists_eq_left', hkind]
  refine Jvm.W.newArray_of hk hkind h1 h2 h3 h4 hf (fun ac => ?_)
  rw [arrV_new]
  exact hq ac
set_option maxRecDepth 20000 in
theorem wp_rows {E : CtlPost} {d : Bool} {acts : List Action} {locs : List Loc} {cells slots : Nat} {T0 T1 : State} {f : JFrame} {cA cB cc : ClassId} {kA kB : Class} {ty : FieldType} {n k : Int32} {N K : Nat} (X : Stand p l e R s m args below meth c T1 locs cells slots) (hh : T1.heap = T0.heap) (hkA : T1.vm.classes[cA]? = some kA) (hA : kA.kind = .array cB (.array ty)) (hkB : T1.vm.classes[cB]? = some kB) (hB : kB.kind = .array cc ty) (hn : ¬ n < 0) (hneg : ¬ k < 0) (hN : n.toNatClampNeg = N) (hK : k.toNatClampNeg = K) (hb1 : N * 4 ≤ 536870912) (hb2 : K * componentBytes ty ≤ 536870912) (hb3 : K ≤ 536870912) (hf : fits ty (defaultValue ty) = true) (hc : cells + (1 + N) ≤ R.cells) (hs : slots + (N + N * K) ≤ R.slots)
    {Q : Addr → Pre} (hq : ∀ d' ac T, RwI p l e R s m args below meth c locs cells slots T0 T1.vm cA cB N K (defaultValue ty) N T → Q T0.heap.size d' ac (T.setTop f)) : wp (multianewarray.make cA [n, k]) Q E e d acts (T1.setTop f) := by
  have l1 : ¬ N > e.platform.arrayLengthLimit := by rw [Launch.admits_arrayLengthLimit X.admits]; omega
  have l2 : ¬ N * componentBytes (.array ty) > e.platform.maxHeapBytes := by rw [Launch.admits_maxHeapBytes X.admits]; show ¬ N * 4 > 536870912; omega
  have l3 : ¬ K > e.platform.arrayLengthLimit := by rw [Launch.admits_arrayLengthLimit X.admits]; omega
  have l4 : ¬ K * componentBytes ty > e.platform.maxHeapBytes := by rw [Launch.admits_maxHeapBytes X.admits]; omega
  obtain ⟨r1, r2⟩ := X.roomAbove hc hs
  subst hN
  rw [multianewarray.make]
  simp only [wp_bind', Jvm.W.ite, hn, if_false, wp_pure', Jvm.W.theClass, State.vm_setTop, hkA, Option.some.injEq, exists_eq_left', hA]
  refine Jvm.W.newArray_of (s := T1.setTop f) hkA hA l1 l2 (by show T1.heap.size < _; omega) (by show T1.slotsUsed + _ ≤ _; omega) rfl (fun ac => ?_)
  rw [arrV_new, State.pushCell_setTop]
  have hnone : ([k].find? (· < 0)) = none := by simp [hneg]
  simp only [hnone]
  rw [ite_self, wp_bind', Std.Legacy.Range.forIn_eq_forIn_range']
  rw [show ([:n.toNatClampNeg] : Std.Legacy.Range).size = n.toNatClampNeg by simp [Std.Legacy.Range.size]]
  refine wp_forIn_inv (fun rest S => ∃ i T, rest = List.range' i (n.toNatClampNeg - i) ∧ i ≤ n.toNatClampNeg ∧ S = T.setTop f ∧ RwI p l e R s m args below meth c locs cells slots T0 T1.vm cA cB n.toNatClampNeg K (defaultValue ty) i T) _ _ ⟨0, _, rfl, Nat.zero_le _, rfl, rw_start X hh⟩ (fun x rest S d2 ac2 Q2 hI next => ?_) (fun S d2 ac2 hI => ?_)
  · obtain ⟨i, T, z1, z2, z3, z4⟩ := hI
    subst z3
    have hlt : i < n.toNatClampNeg := by
      rcases Nat.lt_or_ge i n.toNatClampNeg with q | q
      · exact q
      · rw [Nat.sub_eq_zero_of_le q] at z1; cases z1
    rw [show n.toNatClampNeg - i = n.toNatClampNeg - (i + 1) + 1 by omega, List.range'_succ] at z1
    obtain ⟨rfl, z5⟩ := List.cons.inj z1
    have z6 := rw_next z4
    obtain ⟨lo, -, Y, a3, a4, a5, -, -⟩ := z4
    have hm : x * K + K ≤ n.toNatClampNeg * K := by rw [← Nat.succ_mul]; exact Nat.mul_le_mul_right K hlt
    obtain ⟨y1, y2⟩ := Y.roomAbove (a := 1) (b := K) (by omega) (by omega)
    have hlt0 : T0.heap.size < T.heap.size := by omega
    simp only [wp_bind']
    refine wp_row (S := T.setTop f) (kB := kB) (by show T.vm.classes[cB]? = _; rw [a3]; exact hkB) hB hneg hK l3 l4 (by show T.heap.size < _; omega) y2 hf (fun ac3 => ?_)
    simp only [wp_bind', Jvm.W.writeLoc, wp_pure', State.heap_setTop, State.pushCell_setTop, State.setCell_setTop]
    rw [show T1.heap.size = T0.heap.size by rw [hh]]
    refine ⟨arrV cA _ (rwU T0.heap.size x), by rw [State.heap_pushCell_of_lt _ _ hlt0]; exact a5, by simp [arrV], by rw [arrV_size]; exact hlt, ?_, next _ _ _ ⟨x + 1, _, z5, hlt, rfl, z6⟩⟩
    show State.fitsSlot (T.pushCell (arrV cB K (fun _ => defaultValue ty))) cA .none x (.ref T.heap.size) = true
    have hv : (T.pushCell (arrV cB K (fun _ => defaultValue ty))).vm = T1.vm := a3
    first
      | (simp [State.fitsSlot, State.slotType?, a3, hkA, hA]; done)
      | (simp [State.fitsSlot, State.slotType?, a3, hkA, hA]; rfl)
  · obtain ⟨i, T, z1, z2, z3, z4⟩ := hI
    subst z3
    have hi : i = n.toNatClampNeg := by
      rcases Nat.lt_or_ge i n.toNatClampNeg with q | q
      · rw [show n.toNatClampNeg - i = n.toNatClampNeg - (i + 1) + 1 by omega, List.range'_succ] at z1; cases z1
      · omega
    subst hi
    simp only [wp_pure', State.heap_setTop]
    rw [show T1.heap.size = T0.heap.size by rw [hh]]
    exact hq _ _ T z4
end
set_option maxRecDepth 20000 in
theorem st_ex {p : Program} {e : Env} {below : List Frame} {T : State} {f : JFrame} {c : Code} {i : Instr} {len : Nat} {P Q : State → Prop} (h : At T f.method c below) (hd : decode c.code f.pc = .ok (i, len)) (hw : wpRun (p.tables.exec i) (fun _ s₁ _ => P s₁) (fun _ _ _ => False) e (T.setTop f)) (hP : ∀ s₁, P s₁ → ∃ t, (∀ acts, Steps p.tables e below (afterInstr e len (.ok () s₁ acts)).1 t) ∧ Q t) : ∃ t, Steps p.tables e below (T.setTop f) t ∧ Q t := by
  have h1 := (wpRun_iff_run _ _ _ _ _).mp hw
  cases hr : (p.tables.exec i).run e (T.setTop f) with
  | ok a s₁ acts =>
    rw [hr] at h1
    obtain ⟨t, h2, h3⟩ := hP s₁ h1
    refine ⟨t, Steps.instr h ?_, h3⟩
    rw [hd]
    exact (wpRun_iff_run _ _ _ _ _).mpr (by rw [hr]; exact h2)
  | ctl x s₁ acts => rw [hr] at h1; cases x <;> exact h1.elim
section
variable {p : Program} {l : Launch} {e : Env} {R : Room} {s : State} {m : MethodId} {args : Array Value} {below : List Frame} {meth : Method} {c : Code} {H : Heap} {locs : List Loc} {cells slots : Nat} {Q : State → Prop} {cc : ByteArray} {pc : Nat} {ls : Array Slot} {st : List Value}
set_option maxRecDepth 20000 in
theorem w_multi (hexec : p.tables.exec = Jvm.exec) (hb : c.code = cc) {own : String} {ix : Nat} {ty : FieldType} (hown : s.vm.findClass own = some m.cls) (hl : (Cond.classLink own ix ("[" ++ (FieldType.array ty).toString)).before args s = true) (ho : (Cond.arrayOver (.array ty)).before args s = true) (ha : (Cond.arrayClass ty).before args s = true) {n k : Int32} {N K : Nat} (hn : ¬ n < 0) (hneg : ¬ k < 0) (hN : n.toNatClampNeg = N) (hK : k.toNatClampNeg = K) (hb1 : N * 4 ≤ 536870912) (hb2 : K * componentBytes ty ≤ 536870912) (hb3 : K ≤ 536870912) (hf : fits ty (defaultValue ty) = true) (hc : cells + (1 + N) ≤ R.cells) (hs : slots + (N + N * K) ≤ R.slots) (hdg : decode cc pc = .ok (.multianewarray ix 2, 4))
    (kk : ∀ (H1 : Heap) (lo : List Loc) (cA cB : ClassId), s.vm.findClass ("[" ++ (FieldType.array ty).toString) = some cA → s.vm.findClass ("[" ++ ty.toString) = some cB → (∀ q ∈ lo, q ∈ locs ∨ q.base = H.size) → H1.size = H.size + 1 + N → H1[H.size]? = some (arrV cA N (fun j => .ref (H.size + 1 + j))) → (∀ j, j < N → H1[H.size + 1 + j]? = some (arrV cB K (fun _ => defaultValue ty))) → (∀ q, q < H.size → H1[q]? = H[q]?) → W p l e R s m args below meth c H1 lo (cells + (1 + N)) (slots + (N + N * K)) Q (F0 m (pc + 4) ls (.ref H.size :: st))) : W p l e R s m args below meth c H locs cells slots Q (F0 m pc ls (.int k :: .int n :: st)) := by
  intro T hT X
  subst hT
  subst hb
  have hpl : e.platform.magicAccessors = ({} : Platform).magicAccessors := by rw [X.admits.platform]
  obtain ⟨cB, cA, kA, q1, q2, q3, q4⟩ := ov_rows ho
  obtain ⟨cB', kB, cc, q5, q6, q7⟩ := Cond.arrayClass_spec ha
  have eB : cB' = cB := Option.some.inj (q5.symm.trans q1)
  subst eB
  obtain ⟨cA', q8, q9⟩ := Cond.classLink_spec hown hl e.platform hpl
  have eA : cA' = cA := Option.some.inj (q8.symm.trans q4)
  subst eA
  obtain ⟨g1, g2, g3⟩ := State.classEntry (e := e) X.warmed q9
  generalize T.vm.noted m.cls ix (.cls cA') = vm1 at g1 g2 g3
  obtain ⟨kA1, u1, u2⟩ := g2.alike.2.2 _ _ q2
  obtain ⟨kB1, u3, u4⟩ := g2.alike.2.2 _ _ q6
  have X1 := X.noted g2
  have key : ∀ T2, RwI p l e R s m args below meth c locs cells slots T vm1 cA' cB' N K (defaultValue ty) N T2 → ∃ t, Steps p.tables e below (T2.setTop (F0 m (pc + 4) ls (.ref T.heap.size :: st))) t ∧ Q t := fun T2 h2 => by
    obtain ⟨lo, a1, Y, a3, a4, a5, a6, a7⟩ := h2
    refine kk T2.heap lo cA' cB' q4 q5 a1 a4 ?_ a6 a7 T2 rfl ?_
    · rw [a5, show arrV cA' N (rwU T.heap.size N) = arrV cA' N (fun j => .ref (T.heap.size + 1 + j)) from ?_]
      unfold arrV
      congr 1
      congr 1
      funext j
      unfold rwU
      rw [if_pos j.isLt]
    · rw [show cells + (1 + N) = cells + 1 + N by omega, show slots + (N + N * K) = slots + N + N * K by omega]
      exact Y
  refine st_ex (i := .multianewarray ix 2) (len := 4) (P := fun s₁ => ∃ T2, RwI p l e R s m args below meth c locs cells slots T vm1 cA' cB' N K (defaultValue ty) N T2 ∧ s₁ = T2.setTop (F0 m pc ls (.ref T.heap.size :: st))) X.here hdg ?_ ?_
  · rw [hexec]
    show wp (multianewarray.sem ix 2) _ _ _ _ _ _
    simp only [multianewarray.sem, wp_bind', Jvm.W.resolveClassAt_links (State.method?_setTop (F0 m pc ls (.int k :: .int n :: st)) X.here.top) g1]
    rw [Jvm.W.popN, if_neg (by decide)]
    refine ⟨_, State.topJava?_setTop' (s := T.setVm vm1) (F0 m pc ls (.int k :: .int n :: st)) X.here.top, [.int n, .int k], st, rfl, rfl, ?_⟩
    simp only [List.mapM_cons, List.mapM_nil, wp_bind', wp_pure']
    rw [State.setVm_setTop, State.setTop_setTop]
    refine wp_rows (T0 := T) X1 rfl u1 (by rw [u2]; exact q3) u3 (by rw [u4]; exact q7) hn hneg hN hK hb1 hb2 hb3 hf hc hs (fun d2 ac2 T2 h2 => ?_)
    obtain ⟨lo, -, Y, -⟩ := id h2
    simp only [wp_bind', Jvm.W.mark, Jvm.W.pushRef, State.topJava?_setTop' _ Y.here.top, Option.some.injEq, exists_eq_left', State.setTop_setTop, State.heap_setTop]
    exact ⟨T2, h2, rfl⟩
  · rintro s₁ ⟨T2, h2, rfl⟩
    obtain ⟨t, w1, w2⟩ := key T2 h2
    exact ⟨t, fun acts => by rw [afterInstr_ok]; exact w1, w2⟩
end
