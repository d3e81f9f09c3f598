/-! the words on arrays of references, by the tables alone -/
set_option maxRecDepth 20000 in
theorem ovr_moved {u U : State} {t : FieldType} {a a2 : Array Value} (h : u.vm.Alike U.vm) (q : (Cond.arrayOver t).before a u = true) : (Cond.arrayOver t).before a2 U = true := by
  have h1 : (Cond.arrayOver t).value a u none u [] = some true := beq_iff_eq.mp q
  refine beq_iff_eq.mpr ?_
  simp only [Cond.value] at h1 ⊢
  obtain ⟨cB, e1, h2⟩ := Option.bind_eq_some_iff.mp h1
  obtain ⟨cA, e2, h3⟩ := Option.bind_eq_some_iff.mp h2
  obtain ⟨kA, e3, h4⟩ := Option.map_eq_some_iff.mp h3
  obtain ⟨k2, f1, f2⟩ := h.2.2 _ _ e3
  have hkd : k2.kind = kA.kind := by rw [f2]
  refine Option.bind_eq_some_iff.mpr ⟨cB, ?_, Option.bind_eq_some_iff.mpr ⟨cA, (h.findIdx?_eq _ (fun _ => rfl)).trans e2, Option.map_eq_some_iff.mpr ⟨k2, f1, ?_⟩⟩⟩
  · cases t <;> simp only [h.findClass] at e1 ⊢ <;> exact e1
  · rw [hkd]
    simp only [h.findClass]
    exact h4
def Ovs (U : State) : Prop := (Cond.arrayOver (.array .int)).before #[] U = true ∧ (Cond.arrayOver (.array .long)).before #[] U = true ∧ (Cond.arrayOver (.object "VacuumDesk$Line")).before #[] U = true
theorem Ovs.moved {u U : State} (h : u.vm.Alike U.vm) (q : Ovs u) : Ovs U := ⟨ovr_moved h q.1, ovr_moved h q.2.1, ovr_moved h q.2.2⟩
theorem ov_a {u : State} {t : FieldType} {a : Array Value} (q : (Cond.arrayOver t).before #[] u = true) : (Cond.arrayOver t).before a u = true := ovr_moved (Vm.Alike.refl u.vm) q
/-! ===== code that makes cells, by instruction ===== -/
section
variable {own : String} {cc : ByteArray} {nL : Nat} {R : Room} {p : Program} {l : Launch} {e : Env} {s : State} {m : MethodId} {args : Array Value} {below : List Frame} {meth : Method} {c : Code} {h0 : Nat} {D : va_G} {cy : Nat → ClassId} {tt : Nat → Nat} {cells slots : Nat} {Q : State → Prop} {pc p1 : Nat} {ls : Array Slot} {st : List Value} {g g2 : Nat → va_E} {n n2 ix : Nat}
variable {ci N k : Nat} {C : String} {T : u_T} {ty : Nat → FieldType}
set_option maxRecDepth 20000 in
theorem g_congr (h : ∀ b, b < n → g b = g2 b) (kk : Kg R p l e s m args below meth c h0 D cells slots Q pc ls st g2 n) : Kg R p l e s m args below meth c h0 D cells slots Q pc ls st g n := by
  intro H locs hP hz hS
  rw [wn_congr h] at hP
  exact kk H locs hP hz hS
theorem g_eq (h : g = g2) (kk : Kg R p l e s m args below meth c h0 D cells slots Q pc ls st g2 n) : Kg R p l e s m args below meth c h0 D cells slots Q pc ls st g n := h ▸ kk
/-! one cell told otherwise -/
set_option maxRecDepth 20000 in
theorem g_as {a : Nat} {x : va_E} (h : ∀ H : Heap, va_at D vwCl (h0 + a, g a) H → va_at D vwCl (h0 + a, x) H) (h2 : g2 a = x) (h3 : ∀ b, b < n → b ≠ a → g b = g2 b) (kk : Kg R p l e s m args below meth c h0 D cells slots Q pc ls st g2 n) : Kg R p l e s m args below meth c h0 D cells slots Q pc ls st g n := by
  intro H locs hP hz hS
  refine kk H locs (fun k q hk => ?_) hz hS
  obtain ⟨h4, rfl⟩ := wn_at hk
  by_cases e1 : k = a
  · subst e1
    rw [h2]
    exact h H (hP k _ (wn_get h4))
  · rw [← h3 k h4 e1]
    exact hP k _ (wn_get h4)
theorem g_w {pc2 : Nat} {ls2 : Array Slot} {st2 : List Value} (h : ∀ (H : Heap) (locs : List Loc), W p l e R s m args below meth c H locs cells slots Q (F0 m pc2 ls2 st2) → W p l e R s m args below meth c H locs cells slots Q (F0 m pc ls st)) (kk : Kg R p l e s m args below meth c h0 D cells slots Q pc2 ls2 st2 g n) : Kg R p l e s m args below meth c h0 D cells slots Q pc ls st g n := fun H locs hP hz hS => h H locs (kk H locs hP hz hS)
theorem g_ws {pc2 : Nat} {st2 : List Value} {lv2 : List (Nat × Value)} (h : ∀ (H : Heap) (locs : List Loc), (∀ ls2, lv_has ls2 nL lv2 → W p l e R s m args below meth c H locs cells slots Q (F0 m pc2 ls2 st2)) → W p l e R s m args below meth c H locs cells slots Q (F0 m pc ls st)) (kk : ∀ ls2, lv_has ls2 nL lv2 → Kg R p l e s m args below meth c h0 D cells slots Q pc2 ls2 st2 g n) : Kg R p l e s m args below meth c h0 D cells slots Q pc ls st g n := fun H locs hP hz hS => h H locs (fun ls2 hl2 => kk ls2 hl2 H locs hP hz hS)
theorem g_widen {c2 s2 : Nat} (h1 : cells ≤ c2) (h2 : slots ≤ s2) (kk : Kg R p l e s m args below meth c h0 D c2 s2 Q pc ls st g n) : Kg R p l e s m args below meth c h0 D cells slots Q pc ls st g n := fun H locs hP hz hS => W.widen h1 h2 (kk H locs hP hz hS)
/-! what a new cell leaves -/
set_option maxRecDepth 20000 in
theorem g_push {H H1 : Heap} {locs : List Loc} (hP : va_P D vwCl (wn h0 g n) H) (hz : H.size = h0 + n) (hS : va_S (aw h0) s.heap H locs) (z1 : H1.size = h0 + n + 1) (o1 : ∀ q, q < h0 + n → H1[q]? = H[q]?) (hn : va_at D vwCl (h0 + n, g n) H1) : va_P D vwCl (wn h0 g (n + 1)) H1 ∧ H1.size = h0 + (n + 1) ∧ va_S (aw h0) s.heap H1 locs := by
  refine ⟨?_, by omega, ⟨by have := hS.1; omega, fun x h1 h2 => (o1 x (by have := hS.1; omega)).trans (hS.2.1 x h1 h2), hS.2.2⟩⟩
  rw [← wn_app]
  refine (hP.kept (fun k x hx => o1 x.1 (by have := (hP k x hx).lt; omega))).app (fun k x hx => ?_)
  have hz : k < 1 := (List.getElem?_eq_some_iff.mp hx).1
  rw [show k = 0 by omega] at hx
  cases hx
  exact hn
set_option maxRecDepth 20000 in
theorem g_new (ok : CallFix p m c cc nL s args lw_g own) (hK : va_K D vwCl (tys cy) s) (hc : Cls ci C T N ty) (hcl : Cond.classLink own ix C ∈ lw_g) (hin : Cond.instantiable C N ∈ lw_g) (hni : Cond.initialized C ∈ lw_g) {fs : List Value} (hfs : ∀ j, j < N → defaultValue (ty j) = vp_V fs j) (hd : decode cc pc = .ok (.new ix, 3)) (hp : pc + 3 = p1) (hq : n + 1 = n2) (h1 : cells + 1 ≤ R.cells) (h2 : slots + N ≤ R.slots) (kk : Kg R p l e s m args below meth c h0 D (cells + 1) (slots + N) Q p1 ls (.ref (h0 + n) :: st) (ov g n (.inr (ci, fs))) n2) : Kg R p l e s m args below meth c h0 D cells slots Q pc ls st g n := by
  intro H locs hP hz hS
  subst hp
  subst hq
  have hKn := hK.1 ci _ hc.1
  rw [wn_congr (g' := ov g n (.inr (ci, fs))) (fun b hb => (ov_n (by omega)).symm)] at hP
  refine W.newcK ok.1 ok.2.1 ok.2.2.2.1 (ok.2.2.2.2 _ hcl) (ok.2.2.2.2 _ hin) (ok.2.2.2.2 _ hni) rfl hd h1 h2 hKn.2.1 hz fun H1 kC hkC e1 z1 o1 => ?_
  obtain ⟨a1, a2, a3⟩ := g_push (g := ov g n (.inr (ci, fs))) (s := s) hP hz hS z1 o1 (by rw [ov_s]; exact ⟨_, hc.1, (u_born ty ok.2.2.2.2 hc.2.1 hKn hkC e1 hc.2.2.2.2.1).to hfs⟩)
  exact kk H1 locs a1 a2 a3
set_option maxRecDepth 20000 in
theorem g_newa (ok : CallFix p m c cc nL s args lw_g own) {atype : ArrayType} (harr : Cond.arrayClass (newarray.typeOf atype) ∈ lw_g) {cA0 : ClassId} (hr : s.vm.findClass ("[" ++ (newarray.typeOf atype).toString) = some cA0) {a0 : vp_A} {i : Int32} {N2 : Nat} (hg : g n = .inl (cA0, a0)) (ha : vp_cell cA0 a0 = arrV cA0 N2 (fun _ => defaultValue (newarray.typeOf atype))) (hn : ¬ i < 0) (hN : i.toNatClampNeg = N2) (hb : N2 * componentBytes (newarray.typeOf atype) ≤ 536870912) (hd : decode cc pc = .ok (.newarray atype, 2)) (hp : pc + 2 = p1) (hq : n + 1 = n2) (h1 : cells + 1 ≤ R.cells) (h2 : slots + N2 ≤ R.slots) (kk : Kg R p l e s m args below meth c h0 D (cells + 1) (slots + N2) Q p1 ls (.ref (h0 + n) :: st) g n2) : Kg R p l e s m args below meth c h0 D cells slots Q pc ls (.int i :: st) g n := by
  intro H locs hP hz hS
  subst hp
  subst hq
  refine va_newaK ok.1 ok.2.1 (ok.2.2.2.2 _ harr) rfl hd rfl hn hN hb h1 h2 hz fun H1 cA e1 z1 o1 hAr hNm => ?_
  have ec : cA = cA0 := Option.some.inj (hNm.symm.trans hr)
  subst ec
  obtain ⟨a1, a2, a3⟩ := g_push (g := g) (s := s) hP hz hS z1 o1 (by rw [hg]; show H1[h0 + n]? = some (vp_cell _ _); rw [ha]; exact e1)
  exact kk H1 locs a1 a2 a3
set_option maxRecDepth 20000 in
theorem g_newi (ok : CallFix p m c cc nL s args lw_g own) (hK : va_K D vwCl (tys cy) s) (harr : Cond.arrayClass .int ∈ lw_g) {i : Int32} {N2 : Nat} (hd : decode cc pc = .ok (.newarray .int, 2)) (hp : pc + 2 = p1) (hq : n + 1 = n2) (hg : g n = .inl (cy 8, N2, .inl (fun _ => 0))) (hn : ¬ i < 0) (hN : i.toNatClampNeg = N2) (hb : N2 ≤ 10000) (h1 : cells + 1 ≤ R.cells) (h2 : slots + N2 ≤ R.slots) (kk : Kg R p l e s m args below meth c h0 D (cells + 1) (slots + N2) Q p1 ls (.ref (h0 + n) :: st) g n2) : Kg R p l e s m args below meth c h0 D cells slots Q pc ls (.int i :: st) g n :=
  g_newa (atype := .int) ok harr (hK.2 0 _ rfl).2 hg rfl hn hN (by show N2 * 4 ≤ _; omega) hd hp hq h1 h2 kk
set_option maxRecDepth 20000 in
theorem g_newj (ok : CallFix p m c cc nL s args lw_g own) (hK : va_K D vwCl (tys cy) s) (harr : Cond.arrayClass .long ∈ lw_g) {i : Int32} {N2 : Nat} (hd : decode cc pc = .ok (.newarray .long, 2)) (hp : pc + 2 = p1) (hq : n + 1 = n2) (hg : g n = .inl (cy 9, N2, .inr (.inl (fun _ => 0)))) (hn : ¬ i < 0) (hN : i.toNatClampNeg = N2) (hb : N2 ≤ 10000) (h1 : cells + 1 ≤ R.cells) (h2 : slots + N2 ≤ R.slots) (kk : Kg R p l e s m args below meth c h0 D (cells + 1) (slots + N2) Q p1 ls (.ref (h0 + n) :: st) g n2) : Kg R p l e s m args below meth c h0 D cells slots Q pc ls (.int i :: st) g n :=
  g_newa (atype := .long) ok harr (hK.2 1 _ rfl).2 hg rfl hn hN (by show N2 * 8 ≤ _; omega) hd hp hq h1 h2 kk
set_option maxRecDepth 20000 in
theorem g_newz (ok : CallFix p m c cc nL s args lw_g own) (hK : va_K D vwCl (tys cy) s) (harr : Cond.arrayClass .boolean ∈ lw_g) {i : Int32} {N2 : Nat} (hd : decode cc pc = .ok (.newarray .boolean, 2)) (hp : pc + 2 = p1) (hq : n + 1 = n2) (hg : g n = .inl (cy 10, N2, .inl (fun _ => 0))) (hn : ¬ i < 0) (hN : i.toNatClampNeg = N2) (hb : N2 ≤ 10000) (h1 : cells + 1 ≤ R.cells) (h2 : slots + N2 ≤ R.slots) (kk : Kg R p l e s m args below meth c h0 D (cells + 1) (slots + N2) Q p1 ls (.ref (h0 + n) :: st) g n2) : Kg R p l e s m args below meth c h0 D cells slots Q pc ls (.int i :: st) g n :=
  g_newa (atype := .boolean) ok harr (hK.2 2 _ rfl).2 hg rfl hn hN (by show N2 * 1 ≤ _; omega) hd hp hq h1 h2 kk
/-! an array whose cells are told otherwise at once -/
theorem g_ov {x : va_E} (kk : Kg R p l e s m args below meth c h0 D cells slots Q pc ls st (ov g n x) n) : Kg R p l e s m args below meth c h0 D cells slots Q pc ls st g n := g_congr (fun b hb => (ov_n (by omega)).symm) kk
set_option maxRecDepth 20000 in
theorem g_anew (ok : CallFix p m c cc nL s args lw_g own) (hK : va_K D vwCl (tys cy) s) (hcl : Cond.classLink own ix "VacuumDesk$Line" ∈ lw_g) (hov : (Cond.arrayOver (.object "VacuumDesk$Line")).before args s = true) {i : Int32} {N2 : Nat} (hd : decode cc pc = .ok (.anewarray ix, 3)) (hp : pc + 3 = p1) (hq : n + 1 = n2) (hn : ¬ i < 0) (hN : i.toNatClampNeg = N2) (hb : N2 ≤ 10000) (h1 : cells + 1 ≤ R.cells) (h2 : slots + N2 ≤ R.slots) (kk : Kg R p l e s m args below meth c h0 D (cells + 1) (slots + N2) Q p1 ls (.ref (h0 + n) :: st) (ov g n (.inl (cy 11, N2, .inr (.inr (.inr (.inr (fun _ => none))))))) n2) : Kg R p l e s m args below meth c h0 D cells slots Q pc ls (.int i :: st) g n := by
  refine g_ov (x := .inl (cy 11, N2, .inr (.inr (.inr (.inr (fun _ => none)))))) ?_
  intro H locs hP hz hS
  subst hp
  subst hq
  subst hN
  obtain ⟨kA0, comp0, r1, r2, r3, r4⟩ := (hK.2 3 _ rfl).2
  refine W.anew ok.1 ok.2.1 ok.2.2.2.1 (ok.2.2.2.2 _ hcl) hov rfl hd rfl hn (by omega) h1 h2 fun cA kA comp f1 f2 f3 f4 => ?_
  have ec : cA = cy 11 := Option.some.inj (f1.symm.trans r4)
  subst ec
  obtain ⟨a1, a2, a3⟩ := g_push (g := ov g n (.inl (cy 11, i.toNatClampNeg, .inr (.inr (.inr (.inr (fun _ => none))))))) (s := s) (H1 := H.push ({ cls := cy 11, slots := Array.replicate i.toNatClampNeg .null, vm := .none } : Cell)) hP hz hS (by rw [Array.size_push, hz]) (fun q hq => by rw [Array.getElem?_push, if_neg (by omega)]) (by
    rw [ov_s]
    show _ = some (vp_cell _ _)
    rw [← hz, Array.getElem?_push_size, arrV_new]
    rfl)
  have := kk _ locs a1 a2 a3
  rw [← hz] at this
  exact this
set_option maxRecDepth 20000 in
theorem g_multi (ok : CallFix p m c cc nL s args lw_g own) {tI : FieldType} {cA cB : ClassId} (hA : s.vm.findClass ("[" ++ (FieldType.array tI).toString) = some cA) (hB : s.vm.findClass ("[" ++ tI.toString) = some cB) (hl : Cond.classLink own ix ("[" ++ (FieldType.array tI).toString) ∈ lw_g) (ho : (Cond.arrayOver (.array tI)).before args s = true) (ha : Cond.arrayClass tI ∈ lw_g) {i j : Int32} {N2 K : Nat} {f : Nat → Option Nat} {a0 : vp_A} (hf : fits tI (defaultValue tI) = true) (hb : componentBytes tI ≤ 8) (hd : decode cc pc = .ok (.multianewarray ix 2, 4)) (hp : pc + 4 = p1) (hq : n + 1 + N2 = n2) (hg : g n = .inl (cA, N2, .inr (.inr (.inr (.inr f))))) (hf2 : ∀ q, q < N2 → f q = some (h0 + (n + 1 + q))) (hr : ∀ q, q < N2 → g (n + 1 + q) = .inl (cB, a0)) (hc : vp_cell cB a0 = arrV cB K (fun _ => defaultValue tI)) (hn : ¬ i < 0) (hneg : ¬ j < 0) (hN : i.toNatClampNeg = N2) (hK : j.toNatClampNeg = K) (hb1 : N2 ≤ 1000) (hb2 : K ≤ 1000) (h1 : cells + (1 + N2) ≤ R.cells) (h2 : slots + (N2 + N2 * K) ≤ R.slots) (kk : Kg R p l e s m args below meth c h0 D (cells + (1 + N2)) (slots + (N2 + N2 * K)) Q p1 ls (.ref (h0 + n) :: st) g n2) : Kg R p l e s m args below meth c h0 D cells slots Q pc ls (.int j :: .int i :: st) g n := by
  intro H locs hP hz hS
  subst hp
  subst hq
  refine w_multi ok.1 ok.2.1 ok.2.2.2.1 (ok.2.2.2.2 _ hl) ho (ok.2.2.2.2 _ ha) hn hneg hN hK (by omega) (Nat.le_trans (Nat.mul_le_mul hb2 hb) (by decide)) (by omega) hf h1 h2 hd fun H1 lo cA2 cB2 f1 f2 f3 z1 e1 e2 o1 => ?_
  have ec : cA2 = cA := Option.some.inj (f1.symm.trans hA)
  subst ec
  have ed : cB2 = cB := Option.some.inj (f2.symm.trans hB)
  subst ed
  have := kk H1 lo (fun k q hk => ?_) (by omega) ⟨by have := hS.1; omega, fun x q1 q2 => (o1 x (by have := hS.1; omega)).trans (hS.2.1 x q1 q2), fun q hq => ?_⟩
  · rw [← hz] at this
    exact this
  · obtain ⟨h4, rfl⟩ := wn_at hk
    by_cases q1 : k < n
    · exact (hP k _ (wn_get q1)).kept (o1 _ (by show h0 + k < _; omega))
    · by_cases q2 : k = n
      · subst q2
        rw [hg]
        show H1[h0 + k]? = some (vp_cell _ _)
        rw [vp_cell_q, ← hz, e1]
        congr 1
        unfold arrV
        congr 1
        congr 1
        funext q
        show Value.ref (H.size + 1 + q.val) = va_rf (f q.val)
        rw [hf2 _ q.isLt, hz]
        exact congrArg Value.ref (show h0 + k + 1 + q.val = h0 + (k + 1 + q.val) by omega)
      · obtain ⟨q, rfl⟩ : ∃ q, k = n + 1 + q := ⟨k - (n + 1), by omega⟩
        rw [hr q (by omega)]
        show H1[h0 + (n + 1 + q)]? = some (vp_cell _ _)
        rw [hc, show h0 + (n + 1 + q) = H.size + 1 + q by omega]
        exact e2 q (by omega)
  · rcases f3 q hq with z | z
    · exact hS.2.2 q z
    · show h0 ≤ q.base
      rw [z, hz]
      exact Nat.le_add_right _ _
/-! how many cells lie there, by the count of those that were made -/
set_option maxRecDepth 20000 in
theorem g_size {H : Heap} {locs : List Loc} (hP : va_P D vwCl (wn h0 g n) H) (hS : va_S (aw h0) s.heap H locs) (hsz : s.heap.size + cells = h0 + n) (hn : 0 < n) {f : JFrame} (kk : H.size = h0 + n → W p l e R s m args below meth c H locs cells slots Q f) : W p l e R s m args below meth c H locs cells slots Q f := by
  intro T hT X
  refine kk ?_ T hT X
  have h1 := X.heapSize
  rw [hT] at h1
  have h2 : h0 + n ≤ H.size := by
    have := (hP (n - 1) _ (wn_get (by omega))).lt
    have : h0 + (n - 1) < H.size := this
    omega
  omega
set_option maxRecDepth 20000 in
theorem g_put (ok : CallFix p m c cc nL s args lw_g own) (hK : va_K D vwCl (tys cy) s) (hin : meth.name = "<init>") (hc : Cls ci C T N ty) (hw : Fld own ix T k) (hk : k < N) (hdl : (T k).1 = own) {tyk : FieldType} (hpd : parseFieldDescriptor (T k).2.2.1 = some tyk) {a : Nat} {fs fs2 : List Value} {v : Value} (hd : decode cc pc = .ok (.putfield ix, 3)) (hp : pc + 3 = p1) (hsz : s.heap.size + cells = h0 + n) (ha : a < n) (hg : g a = .inr (ci, fs)) (hl : k < fs.length) (hn : narrow tyk v = v) (hfit : fits tyk v = true) (hs : fs.set k v = fs2) (hg2 : ov g a (.inr (ci, fs2)) = g2) (kk : Kg R p l e s m args below meth c h0 D cells slots Q p1 ls st g2 n) : Kg R p l e s m args below meth c h0 D cells slots Q pc ls (v :: .ref (h0 + a) :: st) g n := by
  intro H locs hP hz hS
  subst hp
  subst hs
  subst hg2
  have hget : (wn h0 g n)[a]? = some (h0 + a, .inr (ci, fs)) := by rw [wn_get ha, hg]
  have hset : (wn h0 g n).set a (h0 + a, .inr (ci, fs.set k v)) = wn h0 (ov g a (.inr (ci, fs.set k v))) n := wn_set ov_s (fun b _ hb => ov_n hb)
  have key : ∀ (H1 : Heap) (locs1 : List Loc), va_P D vwCl ((wn h0 g n).set a (h0 + a, .inr (ci, fs.set k v))) H1 → va_D (aw h0) ((wn h0 g n).set a (h0 + a, .inr (ci, fs.set k v))) → va_S (aw h0) s.heap H1 locs1 → W p l e R s m args below meth c H1 locs1 cells slots Q (F0 m (pc + 3) ls st) := fun H1 locs1 hP1 _ hS1 => by
    rw [hset] at hP1
    exact g_size hP1 hS1 hsz (by omega) (fun z => kk H1 locs1 hP1 z hS1)
  by_cases hfin : (T k).2.2.2 = true
  · exact va_putF ok.1 ok.2.1 ok.2.2.2.2 hc.2.1 ty hc.2.2.2.2.1 hc.2.2.2.2.2 ok.2.2.2.1 hK hP wn_D hS a hget hc.1 k hk (ok.2.2.2.2 _ hw) (fun _ q => q) hfin hin hdl hpd hn hfit hl hd key
  · exact va_put ok.1 ok.2.1 ok.2.2.2.2 hc.2.1 ty hc.2.2.2.2.1 hc.2.2.2.2.2 ok.2.2.2.1 hK hP wn_D hS a hget hc.1 k hk (ok.2.2.2.2 _ hw) (fun _ q => q) (by simpa using hfin) hpd hn hfit hl hd key
set_option maxRecDepth 20000 in
theorem g_get (ok : CallFix p m c cc nL s args lw_g own) (hK : va_K D vwCl (tys cy) s) (hc : Cls ci C T N ty) (hw : Fld own ix T k) (hk : k < N) {a : Nat} {fs : List Value} {v : Value} (hd : decode cc pc = .ok (.getfield ix, 3)) (hp : pc + 3 = p1) (ha : a < n) (hg : g a = .inr (ci, fs)) (hv : fs[k]? = some v) (kk : Kg R p l e s m args below meth c h0 D cells slots Q p1 ls (v :: st) g n) : Kg R p l e s m args below meth c h0 D cells slots Q pc ls (.ref (h0 + a) :: st) g n := by
  intro H locs hP hz hS
  subst hp
  exact va_get ok.1 ok.2.1 ok.2.2.2.2 hc.2.1 ok.2.2.2.1 hK hP a (by rw [wn_get ha, hg]) hc.1 k hk (ok.2.2.2.2 _ hw) (fun _ q => q) hv hd (kk H locs hP hz hS)
set_option maxRecDepth 20000 in
theorem g_iast (ok : CallFix p m c cc nL s args lw_g own) (hK : va_K D vwCl (tys cy) s) {a N2 : Nat} {f : Nat → Int32} {i x : Int32} (hd : decode cc pc = .ok (.iastore, 1)) (hp : pc + 1 = p1) (hsz : s.heap.size + cells = h0 + n) (ha : a < n) (hg : g a = .inl (cy 8, N2, .inl f)) (hi : vp_in i N2) (hg2 : ov g a (.inl (cy 8, N2, .inl (upd f i.toNatClampNeg x))) = g2) (kk : Kg R p l e s m args below meth c h0 D cells slots Q p1 ls st g2 n) : Kg R p l e s m args below meth c h0 D cells slots Q pc ls (.int x :: .int i :: .ref (h0 + a) :: st) g n := by
  intro H locs hP hz hS
  subst hp
  subst hg2
  have hset : (wn h0 g n).set a (h0 + a, .inl (cy 8, N2, .inl (upd f i.toNatClampNeg x))) = wn h0 (ov g a (.inl (cy 8, N2, .inl (upd f i.toNatClampNeg x)))) n := wn_set ov_s (fun b _ hb => ov_n hb)
  refine va_iast ok.1 ok.2.1 hK hP wn_D hS a 0 (by rw [wn_get ha, hg]) rfl hi hd (fun H1 locs1 hP1 _ hS1 => ?_)
  rw [hset] at hP1
  exact g_size hP1 hS1 hsz (by omega) (fun z => kk H1 locs1 hP1 z hS1)
set_option maxRecDepth 20000 in
theorem g_aast (ok : CallFix p m c cc nL s args lw_g own) (hK : va_K D vwCl (tys cy) s) {a b N2 : Nat} {f : Nat → Option Nat} {vs : List Value} {i : Int32} (hd : decode cc pc = .ok (.aastore, 1)) (hp : pc + 1 = p1) (hsz : s.heap.size + cells = h0 + n) (ha : a < n) (hg : g a = .inl (cy 11, N2, .inr (.inr (.inr (.inr f))))) (hb : b < n) (hv : g b = .inr (1, vs)) (hi : vp_in i N2) (hg2 : ov g a (.inl (cy 11, N2, .inr (.inr (.inr (.inr (va_up f i.toNatClampNeg (some (h0 + b)))))))) = g2) (kk : Kg R p l e s m args below meth c h0 D cells slots Q p1 ls st g2 n) : Kg R p l e s m args below meth c h0 D cells slots Q pc ls (.ref (h0 + b) :: .int i :: .ref (h0 + a) :: st) g n := by
  intro H locs hP hz hS
  subst hp
  subst hg2
  have hset : (wn h0 g n).set a (h0 + a, .inl (cy 11, N2, .inr (.inr (.inr (.inr (va_up f i.toNatClampNeg (some (h0 + b)))))))) = wn h0 (ov g a (.inl (cy 11, N2, .inr (.inr (.inr (.inr (va_up f i.toNatClampNeg (some (h0 + b))))))))) n := wn_set ov_s (fun b _ hb => ov_n hb)
  refine va_astq (r := (RX1, TX1, 14)) ok.1 ok.2.1 hK hP wn_D hS a 3 b 1 (by rw [wn_get ha, hg]) rfl (by rw [wn_get hb, hv]) rfl hi hd (fun H1 locs1 hP1 _ hS1 => ?_)
  rw [hset] at hP1
  exact g_size hP1 hS1 hsz (by omega) (fun z => kk H1 locs1 hP1 z hS1)
set_option maxRecDepth 20000 in
theorem g_obj (ok : CallFix p m c cc nL s args lw_g own) (hsz : ls.size = nL) (h1 : Cond.methodLink own ix Lib.objectInit ∈ lw_g) (h2 : Cond.instanceMethod Lib.objectInit ∈ lw_g) (h3 : Cond.code Lib.objectInit ⟨#[0xb1]⟩ 1 none ∈ lw_g) {a : Nat} (hd : decode cc pc = .ok (.invokespecial ix, 3)) (hp : pc + 3 = p1) (hf : 1 ≤ R.frames) (hl : wds st + 12 ≤ R.locals) (kk : Kg R p l e s m args below meth c h0 D cells slots Q p1 ls st g n) : Kg R p l e s m args below meth c h0 D cells slots Q pc ls (.ref a :: st) g n := by
  intro H locs hP hz hS
  subst hp
  exact W.objInit ok.1 ok.2.1 ok.2.2.2.1 (ok.2.2.2.2 _ h1) (ok.2.2.2.2 _ h2) (ok.2.2.2.2 _ h3) rfl (hsz.trans ok.2.2.1.symm) rfl hd hf (by show 2 * 0 + _ + 12 ≤ _; unfold wds at hl; omega) (kk H locs hP hz hS)
end
/-! a constructor, told by its world before and behind -/
def Wg (h0 : Nat) (D : va_G) (cy : Nat → ClassId) (tt : Nat → Nat) (g : Nat → va_E) (n : Nat) (U : State) : Prop := (va_P D vwCl (wn h0 g n) U.heap ∧ U.heap.size = h0 + n) ∧ va_K D vwCl (tys cy) U ∧ Sta h0 tt U U.heap ∧ Ovs U
def Mtk (y : MethodName) (bytes : ByteArray) (maxL n : Nat) : Prop := (Cond.instanceMethod y ∈ lw_g ∧ Cond.initialized y.cls ∈ lw_g ∧ Cond.code y bytes maxL none ∈ lw_g) ∧ y.name = "<init>" ∧ y.cls ≠ "java/lang/invoke/MethodHandle" ∧ y.cls ≠ "java/lang/invoke/VarHandle" ∧ (parseMethodDescriptor y.desc).map (fun d => d.parameters.length) = some n
set_option maxRecDepth 20000 in
theorem Mtk.good {y : MethodName} {bytes : ByteArray} {maxL n : Nat} (h : Mtk y bytes maxL n) : GoodIn lw_g (Cond.code y bytes maxL none :: lw_g) := by
  intro w hm
  rcases List.mem_cons.mp hm with rfl | q
  · exact lw_gd h.1.2.2
  · exact lw_gd q
def rmc (fr mc ms lo : Nat) : Room := { frames := fr, cells := mc, slots := ms, locals := lo }
def Mk (l : Launch) (y : MethodName) (bytes : ByteArray) (maxL fr mc ms lo : Nat) (h0 : Nat) (D : va_G) (cy : Nat → ClassId) (tt : Nat → Nat) (vs : List Value) (g : Nat → va_E) (n : Nat) (g2 : Nat → va_E) (n2 : Nat) : Prop := Met l y (Cond.code y bytes maxL none :: lw_g) (rmc fr mc ms lo) (va_Pc vs (Wg h0 D cy tt g n)) (va_Qv (S := Unit) (fun _ => True) (fun _ t => Wg h0 D cy tt g2 n2 t) (aw h0)) mc ms (aw h0)
section
variable {own : String} {cc : ByteArray} {nL : Nat} {R : Room} {p : Program} {l : Launch} {e : Env} {s : State} {m : MethodId} {args : Array Value} {below : List Frame} {meth : Method} {c : Code} {h0 : Nat} {D : va_G} {cy : Nat → ClassId} {tt : Nat → Nat} {cells slots : Nat} {Q : State → Prop} {pc p1 : Nat} {ls : Array Slot} {st : List Value} {g g2 : Nat → va_E} {n n2 ix nA : Nat}
theorem Wg_blind {av : List Value} : FrameBlind (va_Pc av (Wg h0 D cy tt g n)) := fun a U g mk q => ⟨q.1, q.2.1, va_K.moved (u := U) (U := U.calling g mk a) (Vm.Alike.refl U.vm) q.2.2.1, Sta.moved (u := U) (U := U.calling g mk a) (Vm.Alike.refl U.vm) q.2.2.2.1, Ovs.moved (u := U) (U := U.calling g mk a) (Vm.Alike.refl U.vm) q.2.2.2.2⟩
set_option maxRecDepth 20000 in
theorem g_call (ok : CallFix p m c cc nL s args lw_g own) (hK : va_K D vwCl (tys cy) s) (hZ : Sta h0 tt s s.heap) (hO : Ovs s) (hsz : ls.size = nL) {y : MethodName} {bytes : ByteArray} {maxL fr mc ms lo : Nat} {a : Nat} {As : List Value} (hm : Mtk y bytes maxL nA) (hw : Cond.methodLink own ix y ∈ lw_g) (hM : Mk l y bytes maxL fr mc ms lo h0 D cy tt (.ref a :: As) g n g2 n2) (hA : As.length = nA) (hst : wds st ≤ 8) (hd : decode cc pc = .ok (.invokespecial ix, 3)) (hp : pc + 3 = p1) (hR : fr + 1 ≤ R.frames ∧ 8 + (maxL + 11) + lo ≤ R.locals) (hf : cells + mc ≤ R.cells ∧ slots + ms ≤ R.slots) (kk : Kg R p l e s m args below meth c h0 D (cells + mc) (slots + ms) Q p1 ls st g2 n2) : Kg R p l e s m args below meth c h0 D cells slots Q pc ls (As.reverse ++ .ref a :: st) g n := by
  intro H locs hP hz hS
  subst hp
  refine va_callv (va_runI (As := As) (rest := st) ok hM (cwI nA ok.2.2.2.2 hm.good rfl rfl rfl (ok.2.2.2.2 _ hm.1.2.1) (ok.2.2.2.2 _ hw) (ok.2.2.2.2 _ hm.1.1) hm.2.1 hm.2.2 hR) ⟨Wg_blind, fun U hU hW => ⟨rfl, ⟨by rw [hU]; exact hP, by rw [hU]; exact hz⟩, va_K.moved hW.alike hK, by rw [hU]; exact Sta.kept (Sta.moved hW.alike hZ) (fun a h1 h2 => hS.2.1 a h1 h2), Ovs.moved hW.alike hO⟩⟩ rfl hA hsz rfl (lv_room hst) hd hf) hS (fun q _ h => h) (fun q h => h) (fun u t H1 locs1 ht hvm hq hB hz1 hk1 hS1 => ?_)
  exact kk H1 locs1 (by rw [← ht]; exact hB.1.1) (by rw [← ht]; exact hB.1.2) hS1
set_option maxRecDepth 20000 in
theorem mk_k {y : MethodName} {fr mc ms lo : Nat} {vs : List Value} (hy : plainName y.cls = true) (hin : y.name = "<init>") (hlen : (lg_sl vs).length ≤ nL)
    (hb : ∀ (p : Program) (e : Env) (s : State) (m : MethodId) (args : Array Value) (below : List Frame) (meth : Method) (c : Code) (Q : State → Prop) (ls : Array Slot), CallFix p m c cc nL s args lw_g y.cls → va_K D vwCl (tys cy) s → Sta h0 tt s s.heap → Ovs s → meth.name = "<init>" → s.heap.size = h0 + n → lv_has ls nL (lv_args 0 vs) → (∀ (pc : Nat) (ls : Array Slot), decode cc pc = .ok (.return_, 1) → Kg (rmc fr mc ms lo) p l e s m args below meth c h0 D mc ms Q pc ls [] g2 n2) → Kg (rmc fr mc ms lo) p l e s m args below meth c h0 D 0 0 Q 0 ls [] g n) : Mk l y cc nL fr mc ms lo h0 D cy tt vs g n g2 n2 := by
  refine Met.ofW (cc := cc) (maxL := nL) (ret := none) hy rfl ?_
  intro p e s m args below meth c s₁ B hml hv
  obtain ⟨rfl, ⟨hP, hz⟩, hK, hZ, hO⟩ := hv
  have hts := atoms_spec (ws := Cond.code y cc nL none :: lw_g) B.pre
  have hown : s.vm.findClass y.cls = some m.cls := findClass_of_methodNamed B.named
  have hlocks := B.notSynchronized
  have hr := B.returns
  have hnm : meth.name = "<init>" := ((name_of_methodNamed B.named B.method).1).trans hin
  rw [lg_entry_eq]
  refine hb p e s m _ below meth c _ _ ⟨B.exec, B.bytes, hml, hown, fun w hw => hts w (List.mem_cons_of_mem _ hw)⟩ hK hZ hO hnm hz (lv_entry vs hlen) (fun pc ls hd => ?_) s.heap [] hP hz va_S.rf
  intro H locs hP1 hz1 hS1
  exact W.vret B.exec B.bytes hr (fun t ht hW => ⟨⟨(), rfl, trivial, ⟨by rw [ht]; exact hP1, by rw [ht]; exact hz1⟩, va_K.moved hW.alike hK, by rw [ht]; exact Sta.kept (Sta.moved hW.alike hZ) (fun a h1 h2 => hS1.2.1 a h1 h2), Ovs.moved hW.alike hO⟩, hS1.F ht⟩) hS1.2.2 hd
end
