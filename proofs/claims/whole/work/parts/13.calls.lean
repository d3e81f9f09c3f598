def rmk (fr lo : Nat) : Room := { frames := fr, cells := 0, slots := 0, locals := lo }
def Wr (h0 : Nat) (D : va_G) (cy : Nat → ClassId) (tt : Nat → Nat) (M : Me) (U : State) : Prop := va_P D vwCl (wl h0 cy M) U.heap ∧ va_K D vwCl (tys cy) U ∧ Sta h0 tt U U.heap
def Mi (y : MethodName) (cc : ByteArray) (nL : Nat) (rm : Room) (F : Fi) : Prop := ∀ (l : Launch) (h0 : Nat) (D : va_G) (cy : Nat → ClassId) (tt : Nat → Nat) (vs : List Value) (M M' : Me) (x : Int32), F vs M = some (x, M') → Met l y (Cond.code y cc nL (some .int) :: lw_g) rm (va_Pc (vs.map (tv h0)) (Wr h0 D cy tt M)) (va_Qi (S := Unit) (fun r _ => r = x) (fun _ t => Wr h0 D cy tt M' t) (aw h0)) 0 0 (aw h0)
def Mj (y : MethodName) (cc : ByteArray) (nL : Nat) (rm : Room) (F : Fj) : Prop := ∀ (l : Launch) (h0 : Nat) (D : va_G) (cy : Nat → ClassId) (tt : Nat → Nat) (vs : List Value) (M M' : Me) (x : Int64), F vs M = some (x, M') → Met l y (Cond.code y cc nL (some .long) :: lw_g) rm (va_Pc (vs.map (tv h0)) (Wr h0 D cy tt M)) (va_Ql (S := Unit) (fun r _ => r = x) (fun _ t => Wr h0 D cy tt M' t) (aw h0)) 0 0 (aw h0)
def Mz (y : MethodName) (cc : ByteArray) (nL : Nat) (rm : Room) (F : Fz) : Prop := ∀ (l : Launch) (h0 : Nat) (D : va_G) (cy : Nat → ClassId) (tt : Nat → Nat) (vs : List Value) (M M' : Me) (x : Bool), F vs M = some (x, M') → Met l y (Cond.code y cc nL (some .boolean) :: lw_g) rm (va_Pc (vs.map (tv h0)) (Wr h0 D cy tt M)) (va_Qi (S := Unit) (fun r _ => r = b2i x) (fun _ t => Wr h0 D cy tt M' t) (aw h0)) 0 0 (aw h0)
def Mv (y : MethodName) (cc : ByteArray) (nL : Nat) (rm : Room) (F : Fu) : Prop := ∀ (l : Launch) (h0 : Nat) (D : va_G) (cy : Nat → ClassId) (tt : Nat → Nat) (vs : List Value) (M M' : Me), F vs M = some M' → Met l y (Cond.code y cc nL none :: lw_g) rm (va_Pc (vs.map (tv h0)) (Wr h0 D cy tt M)) (va_Qv (S := Unit) (fun _ => True) (fun _ t => Wr h0 D cy tt M' t) (aw h0)) 0 0 (aw h0)
theorem lw_gd {w : Cond} (h : w ∈ lw_g) : w ∈ lw_g ∧ ((w.onTables && w.keeps) = true ∨ ∃ ty, w = .arrayClass ty) := ⟨h, good_of_word (List.mem_filter.mp h).2⟩
def Mth (y : MethodName) (C : String) (bytes : ByteArray) (maxL : Nat) (ret : Option FieldType) (n : Nat) : Prop := (Cond.instanceMethod y ∈ lw_g ∧ Cond.selects C y y ∈ lw_g ∧ Cond.initialized C ∈ lw_g ∧ Cond.code y bytes maxL ret ∈ lw_g) ∧ y.cls = C ∧ y.cls ≠ "java/lang/invoke/MethodHandle" ∧ y.cls ≠ "java/lang/invoke/VarHandle" ∧ (parseMethodDescriptor y.desc).map (fun d => d.parameters.length) = some n
def Mts (y : MethodName) (bytes : ByteArray) (maxL : Nat) (ret : Option FieldType) (n : Nat) : Prop := (Cond.static y ∈ lw_g ∧ Cond.initialized y.cls ∈ lw_g ∧ Cond.code y bytes maxL ret ∈ lw_g) ∧ y.cls ≠ "java/lang/invoke/MethodHandle" ∧ y.cls ≠ "java/lang/invoke/VarHandle" ∧ (parseMethodDescriptor y.desc).map (fun d => d.parameters.length) = some n
theorem Mth.good {y : MethodName} {C own : String} {bytes : ByteArray} {maxL n ix : Nat} {ret : Option FieldType} (h : Mth y C bytes maxL ret n) (hw : Cond.methodLink own ix y ∈ lw_g) : GoodIn lw_g (wsV own ix C y (Cond.code y bytes maxL ret :: lw_g)) := by
  intro w hm
  rcases List.mem_append.mp hm with q | q
  · simp only [List.mem_cons, List.not_mem_nil, or_false] at q
    rcases q with rfl | rfl | rfl | rfl
    · exact lw_gd hw
    · exact lw_gd h.1.1
    · exact lw_gd h.1.2.1
    · exact lw_gd h.1.2.2.1
  · rcases List.mem_cons.mp q with rfl | q
    · exact lw_gd h.1.2.2.2
    · exact lw_gd q
theorem Mts.good {y : MethodName} {own : String} {bytes : ByteArray} {maxL n ix : Nat} {ret : Option FieldType} (h : Mts y bytes maxL ret n) (hw : Cond.methodLink own ix y ∈ lw_g) : GoodIn lw_g (va_wsS own ix y (Cond.code y bytes maxL ret :: lw_g)) := by
  intro w hm
  rcases List.mem_append.mp hm with q | q
  · simp only [List.mem_cons, List.not_mem_nil, or_false] at q
    rcases q with rfl | rfl | rfl
    · exact lw_gd hw
    · exact lw_gd h.1.1
    · exact lw_gd h.1.2.1
  · rcases List.mem_cons.mp q with rfl | q
    · exact lw_gd h.1.2.2
    · exact lw_gd q
theorem Sta.moved {h0 : Nat} {tt : Nat → Nat} {u U : State} {H : Heap} (hvm : u.vm.Alike U.vm) (h : Sta h0 tt u H) : Sta h0 tt U H := ⟨h.1.moved hvm, h.2.moved hvm⟩
theorem Sta.kept {h0 : Nat} {tt : Nat → Nat} {U : State} {H H1 : Heap} (h : Sta h0 tt U H) (hq : ∀ a : Nat, a < H.size → ¬ aw h0 a → H1[a]? = H[a]?) : Sta h0 tt U H1 := ⟨h.1.kept hq, h.2.kept hq⟩
theorem Wr_blind {h0 : Nat} {D : va_G} {cy : Nat → ClassId} {tt : Nat → Nat} {M : Me} {av : List Value} : FrameBlind (va_Pc av (Wr h0 D cy tt M)) := fun a U g mk q => ⟨q.1, q.2.1, va_K.moved (u := U) (U := U.calling g mk a) (Vm.Alike.refl U.vm) q.2.2.1, Sta.moved (u := U) (U := U.calling g mk a) (Vm.Alike.refl U.vm) q.2.2.2⟩
theorem Wr_at {h0 : Nat} {D : va_G} {cy : Nat → ClassId} {tt : Nat → Nat} {M : Me} {s U : State} {H : Heap} {locs : List Loc} (hU : U.heap = H) (hW : s.WarmedH U.vm) (hK : va_K D vwCl (tys cy) s) (hZ : Sta h0 tt s s.heap) (hP : va_P D vwCl (wl h0 cy M) H) (hS : va_S (aw h0) s.heap H locs) : Wr h0 D cy tt M U := ⟨by rw [hU]; exact hP, va_K.moved hW.alike hK, by rw [hU]; exact Sta.kept (Sta.moved hW.alike hZ) (fun a h1 h2 => hS.2.1 a h1 h2)⟩
section
variable {own : String} {cc : ByteArray} {nL : Nat} {R : Room} {b pc p1 p2 p3 p4 p5 p6 p7 pT pF : Nat}
variable {ci N : Nat} {C : String} {T : u_T} {ty : Nat → FieldType} {ix k n : Nat} {y : MethodName} {bytes : ByteArray} {maxL fr lo : Nat}
theorem v_cvi {F : Fi} {f : Rx} {g : Ax} (hc : Cls ci C T N ty) (hM : Mi y bytes maxL (rmk fr lo) F) (hm : Mth y C bytes maxL (some .int) n) (hw : Cond.methodLink own ix y ∈ lw_g) (hR : fr + 1 ≤ R.frames ∧ 8 + (maxL + 11) + lo ≤ R.locals) (hb8 : b ≤ 8) (h1 : Vr own cc nL R b pc p1 f) (h2 : Va own cc nL R n (b + 1) p1 p2 g) (hd : decode cc p2 = .ok (.invokevirtual ix, 3)) (hp : p2 + 3 = p3) : Vi own cc nL R b pc p3 (cvi ci F f g) := by
  intro p l e s m args below meth c h0 D cy tt cells slots Q ok ls st r M M' x hl hb hf kk
  obtain ⟨⟨a, M1⟩, e1, hf⟩ := bind2 hf
  obtain ⟨⟨w, M2⟩, e2, hf⟩ := bind2 hf
  subst hp
  by_cases ha : kd a = ci
  · simp only [if_pos ha] at hf
    skip
    skip
    refine h1 p l e s m args below meth c h0 D cy tt cells slots Q ok ls st r M M1 a hl hb e1 (h2.2 p l e s m args below meth c h0 D cy tt cells slots Q ok ls _ r M1 M2 w hl (by rw [wds_c]; simp only [Value.category]; omega) e2 ?_)
    intro H locs hP hS
    refine va_calli (va_runV (As := w.map (tv h0)) (rest := st) ⟨ok.1.1, ok.1.2.1, ok.1.2.2.1, ok.1.2.2.2.1, ok.1.2.2.2.2⟩ (hM l h0 D cy tt (.ref a :: w) M2 M' x hf) (cwV n ok.1.2.2.2.2 (hm.good hw) rfl rfl rfl hm.2 hR) ⟨Wr_blind, va_recv ok.2.1 hP hc.1 (wl_obj ha hc.2.2.2.1), fun U hU hW => ⟨rfl, Wr_at hU hW ok.2.1 ok.2.2.1 hP hS⟩⟩ rfl (by rw [List.length_map]; exact h2.1 _ _ _ e2) hl.1 rfl (lv_room (Nat.le_trans hb hb8)) hd ⟨ok.2.2.2.1, ok.2.2.2.2⟩) hS (fun q _ h => h) (fun q h => h) (fun r2 u t H1 locs1 ht hvm hq hB hz1 hk1 hS1 => ?_)
    subst hq
    exact kk H1 locs1 (by rw [← ht]; exact hB.1) hS1
  · simp only [if_neg ha] at hf
    cases hf
theorem v_cvj {F : Fj} {f : Rx} {g : Ax} (hc : Cls ci C T N ty) (hM : Mj y bytes maxL (rmk fr lo) F) (hm : Mth y C bytes maxL (some .long) n) (hw : Cond.methodLink own ix y ∈ lw_g) (hR : fr + 1 ≤ R.frames ∧ 8 + (maxL + 11) + lo ≤ R.locals) (hb8 : b ≤ 8) (h1 : Vr own cc nL R b pc p1 f) (h2 : Va own cc nL R n (b + 1) p1 p2 g) (hd : decode cc p2 = .ok (.invokevirtual ix, 3)) (hp : p2 + 3 = p3) : Vj own cc nL R b pc p3 (cvj ci F f g) := by
  intro p l e s m args below meth c h0 D cy tt cells slots Q ok ls st r M M' x hl hb hf kk
  obtain ⟨⟨a, M1⟩, e1, hf⟩ := bind2 hf
  obtain ⟨⟨w, M2⟩, e2, hf⟩ := bind2 hf
  subst hp
  by_cases ha : kd a = ci
  · simp only [if_pos ha] at hf
    skip
    skip
    refine h1 p l e s m args below meth c h0 D cy tt cells slots Q ok ls st r M M1 a hl hb e1 (h2.2 p l e s m args below meth c h0 D cy tt cells slots Q ok ls _ r M1 M2 w hl (by rw [wds_c]; simp only [Value.category]; omega) e2 ?_)
    intro H locs hP hS
    refine va_calll (va_runV (As := w.map (tv h0)) (rest := st) ⟨ok.1.1, ok.1.2.1, ok.1.2.2.1, ok.1.2.2.2.1, ok.1.2.2.2.2⟩ (hM l h0 D cy tt (.ref a :: w) M2 M' x hf) (cwV n ok.1.2.2.2.2 (hm.good hw) rfl rfl rfl hm.2 hR) ⟨Wr_blind, va_recv ok.2.1 hP hc.1 (wl_obj ha hc.2.2.2.1), fun U hU hW => ⟨rfl, Wr_at hU hW ok.2.1 ok.2.2.1 hP hS⟩⟩ rfl (by rw [List.length_map]; exact h2.1 _ _ _ e2) hl.1 rfl (lv_room (Nat.le_trans hb hb8)) hd ⟨ok.2.2.2.1, ok.2.2.2.2⟩) hS (fun q _ h => h) (fun q h => h) (fun r2 u t H1 locs1 ht hvm hq hB hz1 hk1 hS1 => ?_)
    subst hq
    exact kk H1 locs1 (by rw [← ht]; exact hB.1) hS1
  · simp only [if_neg ha] at hf
    cases hf
theorem v_cvz {F : Fz} {f : Rx} {g : Ax} (hc : Cls ci C T N ty) (hM : Mz y bytes maxL (rmk fr lo) F) (hm : Mth y C bytes maxL (some .boolean) n) (hw : Cond.methodLink own ix y ∈ lw_g) (hR : fr + 1 ≤ R.frames ∧ 8 + (maxL + 11) + lo ≤ R.locals) (hb8 : b ≤ 8) (h1 : Vr own cc nL R b pc p1 f) (h2 : Va own cc nL R n (b + 1) p1 p2 g) (hd : decode cc p2 = .ok (.invokevirtual ix, 3)) (hp : p2 + 3 = p3) : Vi own cc nL R b pc p3 (cvz ci F f g) := by
  intro p l e s m args below meth c h0 D cy tt cells slots Q ok ls st r M M' x hl hb hf kk
  obtain ⟨⟨a, M1⟩, e1, hf⟩ := bind2 hf
  obtain ⟨⟨w, M2⟩, e2, hf⟩ := bind2 hf
  subst hp
  by_cases ha : kd a = ci
  · simp only [if_pos ha] at hf
    obtain ⟨⟨zb, M3⟩, e3, hf⟩ := bind2 hf
    cases hf
    refine h1 p l e s m args below meth c h0 D cy tt cells slots Q ok ls st r M M1 a hl hb e1 (h2.2 p l e s m args below meth c h0 D cy tt cells slots Q ok ls _ r M1 M2 w hl (by rw [wds_c]; simp only [Value.category]; omega) e2 ?_)
    intro H locs hP hS
    refine va_calli (va_runV (As := w.map (tv h0)) (rest := st) ⟨ok.1.1, ok.1.2.1, ok.1.2.2.1, ok.1.2.2.2.1, ok.1.2.2.2.2⟩ (hM l h0 D cy tt (.ref a :: w) M2 M3 zb e3) (cwV n ok.1.2.2.2.2 (hm.good hw) rfl rfl rfl hm.2 hR) ⟨Wr_blind, va_recv ok.2.1 hP hc.1 (wl_obj ha hc.2.2.2.1), fun U hU hW => ⟨rfl, Wr_at hU hW ok.2.1 ok.2.2.1 hP hS⟩⟩ rfl (by rw [List.length_map]; exact h2.1 _ _ _ e2) hl.1 rfl (lv_room (Nat.le_trans hb hb8)) hd ⟨ok.2.2.2.1, ok.2.2.2.2⟩) hS (fun q _ h => h) (fun q h => h) (fun r2 u t H1 locs1 ht hvm hq hB hz1 hk1 hS1 => ?_)
    subst hq
    exact kk H1 locs1 (by rw [← ht]; exact hB.1) hS1
  · simp only [if_neg ha] at hf
    cases hf
theorem v_csi {F : Fi} {g : Ax} (hM : Mi y bytes maxL (rmk fr lo) F) (hm : Mts y bytes maxL (some .int) n) (hw : Cond.methodLink own ix y ∈ lw_g) (hR : fr + 1 ≤ R.frames ∧ 8 + (maxL + 11) + lo ≤ R.locals) (hb8 : b ≤ 8) (h2 : Va own cc nL R n b pc p2 g) (hd : decode cc p2 = .ok (.invokestatic ix, 3)) (hp : p2 + 3 = p3) : Vi own cc nL R b pc p3 (csi F g) := by
  intro p l e s m args below meth c h0 D cy tt cells slots Q ok ls st r M M' x hl hb hf kk
  obtain ⟨⟨w, M2⟩, e2, hf⟩ := bind2 hf
  subst hp
  skip
  skip
  refine h2.2 p l e s m args below meth c h0 D cy tt cells slots Q ok ls st r M M2 w hl hb e2 ?_
  intro H locs hP hS
  refine va_calli (va_runS (As := w.map (tv h0)) (rest := st) ⟨ok.1.1, ok.1.2.1, ok.1.2.2.1, ok.1.2.2.2.1, ok.1.2.2.2.2⟩ (hM l h0 D cy tt w M2 M' x hf) (va_cwS n ok.1.2.2.2.2 (hm.good hw) rfl rfl rfl hm.2 hR) ⟨Wr_blind, fun U hU hW => ⟨rfl, Wr_at hU hW ok.2.1 ok.2.2.1 hP hS⟩⟩ rfl (by rw [List.length_map]; exact h2.1 _ _ _ e2) hl.1 rfl (lv_room (Nat.le_trans hb hb8)) hd ⟨ok.2.2.2.1, ok.2.2.2.2⟩) hS (fun q _ h => h) (fun q h => h) (fun r2 u t H1 locs1 ht hvm hq hB hz1 hk1 hS1 => ?_)
  subst hq
  exact kk H1 locs1 (by rw [← ht]; exact hB.1) hS1
theorem v_csj {F : Fj} {g : Ax} (hM : Mj y bytes maxL (rmk fr lo) F) (hm : Mts y bytes maxL (some .long) n) (hw : Cond.methodLink own ix y ∈ lw_g) (hR : fr + 1 ≤ R.frames ∧ 8 + (maxL + 11) + lo ≤ R.locals) (hb8 : b ≤ 8) (h2 : Va own cc nL R n b pc p2 g) (hd : decode cc p2 = .ok (.invokestatic ix, 3)) (hp : p2 + 3 = p3) : Vj own cc nL R b pc p3 (csj F g) := by
  intro p l e s m args below meth c h0 D cy tt cells slots Q ok ls st r M M' x hl hb hf kk
  obtain ⟨⟨w, M2⟩, e2, hf⟩ := bind2 hf
  subst hp
  skip
  skip
  refine h2.2 p l e s m args below meth c h0 D cy tt cells slots Q ok ls st r M M2 w hl hb e2 ?_
  intro H locs hP hS
  refine va_calll (va_runS (As := w.map (tv h0)) (rest := st) ⟨ok.1.1, ok.1.2.1, ok.1.2.2.1, ok.1.2.2.2.1, ok.1.2.2.2.2⟩ (hM l h0 D cy tt w M2 M' x hf) (va_cwS n ok.1.2.2.2.2 (hm.good hw) rfl rfl rfl hm.2 hR) ⟨Wr_blind, fun U hU hW => ⟨rfl, Wr_at hU hW ok.2.1 ok.2.2.1 hP hS⟩⟩ rfl (by rw [List.length_map]; exact h2.1 _ _ _ e2) hl.1 rfl (lv_room (Nat.le_trans hb hb8)) hd ⟨ok.2.2.2.1, ok.2.2.2.2⟩) hS (fun q _ h => h) (fun q h => h) (fun r2 u t H1 locs1 ht hvm hq hB hz1 hk1 hS1 => ?_)
  subst hq
  exact kk H1 locs1 (by rw [← ht]; exact hB.1) hS1
theorem v_csz {F : Fz} {g : Ax} (hM : Mz y bytes maxL (rmk fr lo) F) (hm : Mts y bytes maxL (some .boolean) n) (hw : Cond.methodLink own ix y ∈ lw_g) (hR : fr + 1 ≤ R.frames ∧ 8 + (maxL + 11) + lo ≤ R.locals) (hb8 : b ≤ 8) (h2 : Va own cc nL R n b pc p2 g) (hd : decode cc p2 = .ok (.invokestatic ix, 3)) (hp : p2 + 3 = p3) : Vi own cc nL R b pc p3 (csz F g) := by
  intro p l e s m args below meth c h0 D cy tt cells slots Q ok ls st r M M' x hl hb hf kk
  obtain ⟨⟨w, M2⟩, e2, hf⟩ := bind2 hf
  subst hp
  obtain ⟨⟨zb, M3⟩, e3, hf⟩ := bind2 hf
  cases hf
  refine h2.2 p l e s m args below meth c h0 D cy tt cells slots Q ok ls st r M M2 w hl hb e2 ?_
  intro H locs hP hS
  refine va_calli (va_runS (As := w.map (tv h0)) (rest := st) ⟨ok.1.1, ok.1.2.1, ok.1.2.2.1, ok.1.2.2.2.1, ok.1.2.2.2.2⟩ (hM l h0 D cy tt w M2 M3 zb e3) (va_cwS n ok.1.2.2.2.2 (hm.good hw) rfl rfl rfl hm.2 hR) ⟨Wr_blind, fun U hU hW => ⟨rfl, Wr_at hU hW ok.2.1 ok.2.2.1 hP hS⟩⟩ rfl (by rw [List.length_map]; exact h2.1 _ _ _ e2) hl.1 rfl (lv_room (Nat.le_trans hb hb8)) hd ⟨ok.2.2.2.1, ok.2.2.2.2⟩) hS (fun q _ h => h) (fun q h => h) (fun r2 u t H1 locs1 ht hvm hq hB hz1 hk1 hS1 => ?_)
  subst hq
  exact kk H1 locs1 (by rw [← ht]; exact hB.1) hS1
theorem v_scv {F : Fu} {f : Rx} {g : Ax} (hc : Cls ci C T N ty) (hM : Mv y bytes maxL (rmk fr lo) F) (hm : Mth y C bytes maxL none n) (hw : Cond.methodLink own ix y ∈ lw_g) (hR : fr + 1 ≤ R.frames ∧ 8 + (maxL + 11) + lo ≤ R.locals) (h1 : Vr own cc nL R 0 pc p1 f) (h2 : Va own cc nL R n 1 p1 p2 g) (hd : decode cc p2 = .ok (.invokevirtual ix, 3)) (hp : p2 + 3 = p3) : Vs own cc nL R pc p3 (scv ci F f g) := by
  intro p l e s m args below meth c h0 D cy tt cells slots Q ok ls r r' M M' x hl hf kk kr
  obtain ⟨⟨a, M1⟩, e1, hf⟩ := bind2 hf
  obtain ⟨⟨w, M2⟩, e2, hf⟩ := bind2 hf
  subst hp
  by_cases ha : kd a = ci
  · simp only [if_pos ha] at hf
    obtain ⟨M3, e3, hf⟩ := bind2 hf
    simp only [Option.some.injEq, Prod.mk.injEq] at hf
    obtain ⟨h5, h6, h7⟩ := hf
    subst h5; subst h6; subst h7
    refine h1 p l e s m args below meth c h0 D cy tt cells slots Q ok ls [] r M M1 a hl (Nat.le_refl 0) e1 (h2.2 p l e s m args below meth c h0 D cy tt cells slots Q ok ls _ r M1 M2 w hl (Nat.le_refl 1) e2 ?_)
    intro H locs hP hS
    refine va_callv (va_runV (As := w.map (tv h0)) (rest := []) ⟨ok.1.1, ok.1.2.1, ok.1.2.2.1, ok.1.2.2.2.1, ok.1.2.2.2.2⟩ (hM l h0 D cy tt (.ref a :: w) M2 M3 e3) (cwV n ok.1.2.2.2.2 (hm.good hw) rfl rfl rfl hm.2 hR) ⟨Wr_blind, va_recv ok.2.1 hP hc.1 (wl_obj ha hc.2.2.2.1), fun U hU hW => ⟨rfl, Wr_at hU hW ok.2.1 ok.2.2.1 hP hS⟩⟩ rfl (by rw [List.length_map]; exact h2.1 _ _ _ e2) hl.1 rfl (lv_room (Nat.zero_le 8)) hd ⟨ok.2.2.2.1, ok.2.2.2.2⟩) hS (fun q _ h => h) (fun q h => h) (fun u t H1 locs1 ht hvm hq hB hz1 hk1 hS1 => ?_)
    exact kk rfl ls hl H1 locs1 (by rw [← ht]; exact hB.1) hS1
  · simp only [if_neg ha] at hf
    cases hf
theorem v_scs {F : Fu} {g : Ax} (hM : Mv y bytes maxL (rmk fr lo) F) (hm : Mts y bytes maxL none n) (hw : Cond.methodLink own ix y ∈ lw_g) (hR : fr + 1 ≤ R.frames ∧ 8 + (maxL + 11) + lo ≤ R.locals) (h2 : Va own cc nL R n 0 pc p2 g) (hd : decode cc p2 = .ok (.invokestatic ix, 3)) (hp : p2 + 3 = p3) : Vs own cc nL R pc p3 (scs F g) := by
  intro p l e s m args below meth c h0 D cy tt cells slots Q ok ls r r' M M' x hl hf kk kr
  obtain ⟨⟨w, M2⟩, e2, hf⟩ := bind2 hf
  subst hp
  obtain ⟨M3, e3, hf⟩ := bind2 hf
  simp only [Option.some.injEq, Prod.mk.injEq] at hf
  obtain ⟨h5, h6, h7⟩ := hf
  subst h5; subst h6; subst h7
  refine h2.2 p l e s m args below meth c h0 D cy tt cells slots Q ok ls [] r M M2 w hl (Nat.le_refl 0) e2 ?_
  intro H locs hP hS
  refine va_callv (va_runS (As := w.map (tv h0)) (rest := []) ⟨ok.1.1, ok.1.2.1, ok.1.2.2.1, ok.1.2.2.2.1, ok.1.2.2.2.2⟩ (hM l h0 D cy tt w M2 M3 e3) (va_cwS n ok.1.2.2.2.2 (hm.good hw) rfl rfl rfl hm.2 hR) ⟨Wr_blind, fun U hU hW => ⟨rfl, Wr_at hU hW ok.2.1 ok.2.2.1 hP hS⟩⟩ rfl (by rw [List.length_map]; exact h2.1 _ _ _ e2) hl.1 rfl (lv_room (Nat.zero_le 8)) hd ⟨ok.2.2.2.1, ok.2.2.2.2⟩) hS (fun q _ h => h) (fun q h => h) (fun u t H1 locs1 ht hvm hq hB hz1 hk1 hS1 => ?_)
  exact kk rfl ls hl H1 locs1 (by rw [← ht]; exact hB.1) hS1
theorem wl_cp {h0 : Nat} {cy : Nat → ClassId} {M : Me} {a b sp dp n : Nat} (h : kd b = 8) : (wl h0 cy M).set b (h0 + b, .inl (cy 8, ln b, .inl (va_cpy (M.1 a) (M.1 b) sp dp n))) = wl h0 cy (cpi M a sp b dp n) := wl_set (by rw [ce_int h]; congr 1; congr 1; congr 1; congr 1; funext j; simp [cpi]) (fun x hx => ce_congr (by funext j; simp [cpi, hx]) rfl)
theorem v_scopy {f g : Rx} {sp dp nn : Ix} (hw : Cond.methodLink own ix arraycopyName ∈ lw_g) (hw2 : Cond.native arraycopyName ∈ lw_g) (hw3 : Cond.static arraycopyName ∈ lw_g) (hw4 : Cond.initialized "java/lang/System" ∈ lw_g) (hR : 1 ≤ R.frames ∧ nativeFrameWords "java/lang/System" "arraycopy" 5 + 11 ≤ R.locals) (h1 : Vr own cc nL R 0 pc p1 f) (h2 : Vi own cc nL R 1 p1 p2 sp) (h3 : Vr own cc nL R 2 p2 p3 g) (h4 : Vi own cc nL R 3 p3 p4 dp) (h5 : Vi own cc nL R 4 p4 p5 nn) (hd : decode cc p5 = .ok (.invokestatic ix, 3)) (hp : p5 + 3 = p6) : Vs own cc nL R pc p6 (scopy f sp g dp nn) := by
  intro p l e s m args below meth c h0 D cy tt cells slots Q ok ls r r' M M' x hl hf kk kr
  obtain ⟨⟨a, M1⟩, e1, hf⟩ := bind2 hf
  obtain ⟨⟨s1, M2⟩, e2, hf⟩ := bind2 hf
  obtain ⟨⟨d, M3⟩, e3, hf⟩ := bind2 hf
  obtain ⟨⟨d1, M4⟩, e4, hf⟩ := bind2 hf
  obtain ⟨⟨z, M5⟩, e5, hf⟩ := bind2 hf
  subst hp
  by_cases ha : kd a = 8 ∧ kd d = 8 ∧ ¬ s1 < 0 ∧ ¬ d1 < 0 ∧ ¬ z < 0 ∧ s1.toNatClampNeg + z.toNatClampNeg ≤ ln a ∧ d1.toNatClampNeg + z.toNatClampNeg ≤ ln d
  · rw [if_pos ha] at hf
    cases hf
    refine h1 p l e s m args below meth c h0 D cy tt cells slots Q ok ls [] r M M1 a hl (Nat.le_refl 0) e1 (h2 p l e s m args below meth c h0 D cy tt cells slots Q ok ls _ r M1 M2 s1 hl (Nat.le_refl 1) e2 (h3 p l e s m args below meth c h0 D cy tt cells slots Q ok ls _ r M2 M3 d hl (Nat.le_refl 2) e3 (h4 p l e s m args below meth c h0 D cy tt cells slots Q ok ls _ r M3 M4 d1 hl (Nat.le_refl 3) e4 (h5 p l e s m args below meth c h0 D cy tt cells slots Q ok ls _ r M4 M5 z hl (Nat.le_refl 4) e5 ?_))))
    intro H locs hP hS
    refine va_copyi ok.1.1 ok.1.2.1 (ok.1.2.2.1.trans hl.1.symm) ok.1.2.2.2.1 (ok.1.2.2.2.2 _ hw) (ok.1.2.2.2.2 _ hw2) (ok.1.2.2.2.2 _ hw3) (ok.1.2.2.2.2 _ hw4) ok.2.1 hP wl_D hS a d 0 0 (wl_int ha.1) (wl_int ha.2.1) rfl rfl rfl ha.2.2.1 ha.2.2.2.1 ha.2.2.2.2.1 ha.2.2.2.2.2.1 ha.2.2.2.2.2.2 (fun i hi => rfl) hR.1 (by simpa using hR.2) hd (fun H1 locs1 hP1 hD1 hS1 => ?_)
    rw [wl_cp ha.2.1] at hP1
    exact kk rfl ls hl H1 locs1 hP1 hS1
  · rw [if_neg ha] at hf
    cases hf
theorem v_sw {f : Ix} {cs : List (Int × Sx)} {d : Sx} {dflt lo hi : Int} {offs : Array Int} {len : Nat} (h1 : Vi own cc nL R 0 pc p1 f) (hd : decode cc p1 = .ok (.tableswitch dflt lo hi offs, len)) (hin : ∀ j : Nat, j < (hi - lo + 1).toNat → ∃ (off : Int) (tg : Nat), offs[j]? = some off ∧ (p1 : Int) + off = (tg : Int) ∧ Vs own cc nL R tg p2 (sel cs d (lo + j))) (hout : ∃ tg : Nat, (p1 : Int) + dflt = (tg : Int) ∧ ∀ x : Int, x < lo ∨ hi < x → Vs own cc nL R tg p2 (sel cs d x)) : Vs own cc nL R pc p2 (ssw f cs d) := by
  intro p l e s m args below meth c h0 D cy tt cells slots Q ok ls r r' M M' x hl hf kk kr
  obtain ⟨⟨y, M1⟩, e1, hf⟩ := bind2 hf
  refine h1 p l e s m args below meth c h0 D cy tt cells slots Q ok ls [] r M M1 y hl (Nat.le_refl 0) e1 ?_
  by_cases hx : y.toInt < lo ∨ hi < y.toInt
  · obtain ⟨tg, ht, hs⟩ := hout
    have key := hs y.toInt hx p l e s m args below meth c h0 D cy tt cells slots Q ok ls r r' M1 M' x hl hf kk kr
    intro H locs hP hS
    exact lv_tableOut ok.1.1 ok.1.2.1 hd hx ht (key H locs hP hS)
  · obtain ⟨off, tg, ho, ht, hs⟩ := hin (y.toInt - lo).toNat (by omega)
    rw [show lo + ((y.toInt - lo).toNat : Int) = y.toInt by omega] at hs
    have key := hs p l e s m args below meth c h0 D cy tt cells slots Q ok ls r r' M1 M' x hl hf kk kr
    intro H locs hP hS
    exact lv_tableIn ok.1.1 ok.1.2.1 hd (fun q => hx (Or.inl q)) (fun q => hx (Or.inr q)) ho ht (key H locs hP hS)
end
section
variable {own : String} {cc : ByteArray} {nL : Nat} {R : Room} {b pc p1 p2 p3 : Nat} {ix : Nat}
theorem v_mxi {f g : Ix} (hw : Cond.methodLink own ix Lib.Math.max.name ∈ lw_g) (hst : Cond.static Lib.Math.max.name ∈ lw_g) (hni : Cond.initialized "java/lang/Math" ∈ lw_g) (hcd : Cond.code Lib.Math.max.name Lib.Math.max.code 2 (some .int) ∈ lw_g) (hR : 1 ≤ R.frames ∧ b + 13 ≤ R.locals) (h1 : Vi own cc nL R b pc p1 f) (h2 : Vi own cc nL R (b + 1) p1 p2 g) (hd : decode cc p2 = .ok (.invokestatic ix, 3)) (hp : p2 + 3 = p3) : Vi own cc nL R b pc p3 (i2 mxi f g) := by
  intro p l e s m args below meth c h0 D cy tt cells slots Q ok ls st r M M' x hl hb hf kk
  obtain ⟨⟨y, M1⟩, e1, hf⟩ := bind2 hf
  obtain ⟨⟨z, M2⟩, e2, hf⟩ := bind2 hf
  subst hp
  cases hf
  refine h1 p l e s m args below meth c h0 D cy tt cells slots Q ok ls st r M M1 y hl hb e1 (h2 p l e s m args below meth c h0 D cy tt cells slots Q ok ls _ r M1 M2 z hl (by rw [wds_c]; simp only [Value.category]; omega) e2 ?_)
  intro H locs hP hS
  exact va_mmax ok.1.1 ok.1.2.1 (ok.1.2.2.1.trans hl.1.symm) ok.1.2.2.2.1 (ok.1.2.2.2.2 _ hw) (ok.1.2.2.2.2 _ hst) (ok.1.2.2.2.2 _ hni) (ok.1.2.2.2.2 _ hcd) hR.1 (by have := hR.2; unfold wds at hb; omega) ok.2.2.2.1 ok.2.2.2.2 hd (kk H locs hP hS)
theorem v_mni {f g : Ix} (hw : Cond.methodLink own ix Lib.Math.min.name ∈ lw_g) (hst : Cond.static Lib.Math.min.name ∈ lw_g) (hni : Cond.initialized "java/lang/Math" ∈ lw_g) (hcd : Cond.code Lib.Math.min.name Lib.Math.min.code 2 (some .int) ∈ lw_g) (hR : 1 ≤ R.frames ∧ b + 13 ≤ R.locals) (h1 : Vi own cc nL R b pc p1 f) (h2 : Vi own cc nL R (b + 1) p1 p2 g) (hd : decode cc p2 = .ok (.invokestatic ix, 3)) (hp : p2 + 3 = p3) : Vi own cc nL R b pc p3 (i2 mni f g) := by
  intro p l e s m args below meth c h0 D cy tt cells slots Q ok ls st r M M' x hl hb hf kk
  obtain ⟨⟨y, M1⟩, e1, hf⟩ := bind2 hf
  obtain ⟨⟨z, M2⟩, e2, hf⟩ := bind2 hf
  subst hp
  cases hf
  refine h1 p l e s m args below meth c h0 D cy tt cells slots Q ok ls st r M M1 y hl hb e1 (h2 p l e s m args below meth c h0 D cy tt cells slots Q ok ls _ r M1 M2 z hl (by rw [wds_c]; simp only [Value.category]; omega) e2 ?_)
  intro H locs hP hS
  exact va_mmin ok.1.1 ok.1.2.1 (ok.1.2.2.1.trans hl.1.symm) ok.1.2.2.2.1 (ok.1.2.2.2.2 _ hw) (ok.1.2.2.2.2 _ hst) (ok.1.2.2.2.2 _ hni) (ok.1.2.2.2.2 _ hcd) hR.1 (by have := hR.2; unfold wds at hb; omega) ok.2.2.2.1 ok.2.2.2.2 hd (kk H locs hP hS)
theorem v_mxj {f g : Jx} (hw : Cond.methodLink own ix Lib.MathLoose.max_long.x ∈ lw_g) (hst : Cond.static Lib.MathLoose.max_long.x ∈ lw_g) (hni : Cond.initialized "java/lang/Math" ∈ lw_g) (hcd : Cond.code Lib.MathLoose.max_long.x Lib.MathLoose.max_long.code 4 (some .long) ∈ lw_g) (hR : 1 ≤ R.frames ∧ b + 15 ≤ R.locals) (h1 : Vj own cc nL R b pc p1 f) (h2 : Vj own cc nL R (b + 2) p1 p2 g) (hd : decode cc p2 = .ok (.invokestatic ix, 3)) (hp : p2 + 3 = p3) : Vj own cc nL R b pc p3 (j2 mxj f g) := by
  intro p l e s m args below meth c h0 D cy tt cells slots Q ok ls st r M M' x hl hb hf kk
  obtain ⟨⟨y, M1⟩, e1, hf⟩ := bind2 hf
  obtain ⟨⟨z, M2⟩, e2, hf⟩ := bind2 hf
  subst hp
  cases hf
  refine h1 p l e s m args below meth c h0 D cy tt cells slots Q ok ls st r M M1 y hl hb e1 (h2 p l e s m args below meth c h0 D cy tt cells slots Q ok ls _ r M1 M2 z hl (by rw [wds_c]; simp only [Value.category]; omega) e2 ?_)
  intro H locs hP hS
  exact va_mmax_long ok.1.1 ok.1.2.1 (ok.1.2.2.1.trans hl.1.symm) ok.1.2.2.2.1 (ok.1.2.2.2.2 _ hw) (ok.1.2.2.2.2 _ hst) (ok.1.2.2.2.2 _ hni) (ok.1.2.2.2.2 _ hcd) hR.1 (by have := hR.2; unfold wds at hb; omega) ok.2.2.2.1 ok.2.2.2.2 hd (kk H locs hP hS)
theorem v_mnj {f g : Jx} (hw : Cond.methodLink own ix Lib.MathLoose.min_long.x ∈ lw_g) (hst : Cond.static Lib.MathLoose.min_long.x ∈ lw_g) (hni : Cond.initialized "java/lang/Math" ∈ lw_g) (hcd : Cond.code Lib.MathLoose.min_long.x Lib.MathLoose.min_long.code 4 (some .long) ∈ lw_g) (hR : 1 ≤ R.frames ∧ b + 15 ≤ R.locals) (h1 : Vj own cc nL R b pc p1 f) (h2 : Vj own cc nL R (b + 2) p1 p2 g) (hd : decode cc p2 = .ok (.invokestatic ix, 3)) (hp : p2 + 3 = p3) : Vj own cc nL R b pc p3 (j2 mnj f g) := by
  intro p l e s m args below meth c h0 D cy tt cells slots Q ok ls st r M M' x hl hb hf kk
  obtain ⟨⟨y, M1⟩, e1, hf⟩ := bind2 hf
  obtain ⟨⟨z, M2⟩, e2, hf⟩ := bind2 hf
  subst hp
  cases hf
  refine h1 p l e s m args below meth c h0 D cy tt cells slots Q ok ls st r M M1 y hl hb e1 (h2 p l e s m args below meth c h0 D cy tt cells slots Q ok ls _ r M1 M2 z hl (by rw [wds_c]; simp only [Value.category]; omega) e2 ?_)
  intro H locs hP hS
  exact va_mmin_long ok.1.1 ok.1.2.1 (ok.1.2.2.1.trans hl.1.symm) ok.1.2.2.2.1 (ok.1.2.2.2.2 _ hw) (ok.1.2.2.2.2 _ hst) (ok.1.2.2.2.2 _ hni) (ok.1.2.2.2.2 _ hcd) hR.1 (by have := hR.2; unfold wds at hb; omega) ok.2.2.2.1 ok.2.2.2.2 hd (kk H locs hP hS)
theorem v_abj {f : Jx} (hw : Cond.methodLink own ix Lib.MathLoose.abs_long.x ∈ lw_g) (hst : Cond.static Lib.MathLoose.abs_long.x ∈ lw_g) (hni : Cond.initialized "java/lang/Math" ∈ lw_g) (hcd : Cond.code Lib.MathLoose.abs_long.x Lib.MathLoose.abs_long.code 2 (some .long) ∈ lw_g) (hR : 1 ≤ R.frames ∧ b + 13 ≤ R.locals) (h1 : Vj own cc nL R b pc p1 f) (hd : decode cc p1 = .ok (.invokestatic ix, 3)) (hp : p1 + 3 = p3) : Vj own cc nL R b pc p3 (j1 abj f) := by
  intro p l e s m args below meth c h0 D cy tt cells slots Q ok ls st r M M' x hl hb hf kk
  obtain ⟨⟨y, M1⟩, e1, hf⟩ := bind2 hf
  subst hp
  cases hf
  refine h1 p l e s m args below meth c h0 D cy tt cells slots Q ok ls st r M M1 y hl hb e1 ?_
  intro H locs hP hS
  exact va_mabs_long ok.1.1 ok.1.2.1 (ok.1.2.2.1.trans hl.1.symm) ok.1.2.2.2.1 (ok.1.2.2.2.2 _ hw) (ok.1.2.2.2.2 _ hst) (ok.1.2.2.2.2 _ hni) (ok.1.2.2.2.2 _ hcd) hR.1 (by have := hR.2; unfold wds at hb; omega) ok.2.2.2.1 ok.2.2.2.2 hd (kk H locs hP hS)
end
theorem mk_i {y : MethodName} {cc : ByteArray} {nL fr lo pE : Nat} {body : Sx} (hy : plainName y.cls = true) (hb : Vs y.cls cc nL (rmk fr lo) 0 pE body) : Mi y cc nL (rmk fr lo) (mfi nL body) := by
  intro l h0 D cy tt vs M M' x hF
  refine Met.ofW (cc := cc) (maxL := nL) (ret := some .int) hy rfl ?_
  intro p e s m args below meth c s₁ B hml hv
  obtain ⟨rfl, hP, hK, hZ⟩ := hv
  have hts := atoms_spec (ws := Cond.code y cc nL (some .int) :: lw_g) B.pre
  have hown : s.vm.findClass y.cls = some m.cls := findClass_of_methodNamed B.named
  have hlocks := B.notSynchronized
  have hr := B.returns
  unfold mfi at hF
  by_cases hen : (ent vs).length ≤ nL
  · rw [if_pos hen] at hF
    obtain ⟨⟨o, r', M1⟩, e1, hF⟩ := bind2 hF
    obtain ⟨z, e2, hF⟩ := bind2 hF
    cases hF
    have e3 := gi_some e2
    simp only at e3
    subst e3
    rw [lg_entry_eq]
    have ok : Okk y.cls cc nL (rmk fr lo) p m c s ((vs.map (tv h0)).toArray) h0 D cy tt 0 0 := ⟨⟨B.exec, B.bytes, hml, hown, fun w hw => hts w (List.mem_cons_of_mem _ hw)⟩, hK, hZ, Nat.le_refl 0, Nat.le_refl 0⟩
    refine hb p l e s m _ below meth c h0 D cy tt 0 0 _ ok _ _ r' M M1 _ (lr_entry hen) e1 (fun q => by cases q) (fun v hv => ?_) s.heap [] hP va_S.rf
    cases hv
    intro pc ls hd H locs hP1 hS1
    exact W.iret B.exec B.bytes hr (fun t ht hW => ⟨⟨_, (), rfl, rfl, by rw [ht]; exact hP1, va_K.moved hW.alike hK, by rw [ht]; exact Sta.kept (Sta.moved hW.alike hZ) (fun a h1 h2 => hS1.2.1 a h1 h2)⟩, hS1.F ht⟩) hS1.2.2 hd
  · rw [if_neg hen] at hF
    cases hF
theorem mk_j {y : MethodName} {cc : ByteArray} {nL fr lo pE : Nat} {body : Sx} (hy : plainName y.cls = true) (hb : Vs y.cls cc nL (rmk fr lo) 0 pE body) : Mj y cc nL (rmk fr lo) (mfj nL body) := by
  intro l h0 D cy tt vs M M' x hF
  refine Met.ofW (cc := cc) (maxL := nL) (ret := some .long) hy rfl ?_
  intro p e s m args below meth c s₁ B hml hv
  obtain ⟨rfl, hP, hK, hZ⟩ := hv
  have hts := atoms_spec (ws := Cond.code y cc nL (some .long) :: lw_g) B.pre
  have hown : s.vm.findClass y.cls = some m.cls := findClass_of_methodNamed B.named
  have hlocks := B.notSynchronized
  have hr := B.returns
  unfold mfj at hF
  by_cases hen : (ent vs).length ≤ nL
  · rw [if_pos hen] at hF
    obtain ⟨⟨o, r', M1⟩, e1, hF⟩ := bind2 hF
    obtain ⟨z, e2, hF⟩ := bind2 hF
    cases hF
    have e3 := gj_some e2
    simp only at e3
    subst e3
    rw [lg_entry_eq]
    have ok : Okk y.cls cc nL (rmk fr lo) p m c s ((vs.map (tv h0)).toArray) h0 D cy tt 0 0 := ⟨⟨B.exec, B.bytes, hml, hown, fun w hw => hts w (List.mem_cons_of_mem _ hw)⟩, hK, hZ, Nat.le_refl 0, Nat.le_refl 0⟩
    refine hb p l e s m _ below meth c h0 D cy tt 0 0 _ ok _ _ r' M M1 _ (lr_entry hen) e1 (fun q => by cases q) (fun v hv => ?_) s.heap [] hP va_S.rf
    cases hv
    intro pc ls hd H locs hP1 hS1
    exact W.lret B.exec B.bytes hr (fun t ht hW => ⟨⟨_, (), rfl, rfl, by rw [ht]; exact hP1, va_K.moved hW.alike hK, by rw [ht]; exact Sta.kept (Sta.moved hW.alike hZ) (fun a h1 h2 => hS1.2.1 a h1 h2)⟩, hS1.F ht⟩) hS1.2.2 hd
  · rw [if_neg hen] at hF
    cases hF
theorem gz_some {v : Option Value} {x : Bool} (h : gz v = some x) : v = some (.int (b2i x)) := by
  obtain ⟨y, e1, h⟩ := bind2 h
  rw [gi_some e1]
  by_cases h1 : y = 1
  · simp [h1] at h; subst h; rw [h1]; rfl
  · by_cases h2 : y = 0
    · simp [h2] at h; subst h; rw [h2]; rfl
    · simp [h1, h2] at h
theorem b2i_nar (x : Bool) : narrow .boolean (.int (b2i x)) = .int (b2i x) := by cases x <;> decide
theorem gv_some {v : Option Value} {x : Unit} (h : gv v = some x) : v = some .null := by
  match v, h with
  | some .null, _ => rfl
theorem mk_z {y : MethodName} {cc : ByteArray} {nL fr lo pE : Nat} {body : Sx} (hy : plainName y.cls = true) (hb : Vs y.cls cc nL (rmk fr lo) 0 pE body) : Mz y cc nL (rmk fr lo) (mfz nL body) := by
  intro l h0 D cy tt vs M M' x hF
  refine Met.ofW (cc := cc) (maxL := nL) (ret := some .boolean) hy rfl ?_
  intro p e s m args below meth c s₁ B hml hv
  obtain ⟨rfl, hP, hK, hZ⟩ := hv
  have hts := atoms_spec (ws := Cond.code y cc nL (some .boolean) :: lw_g) B.pre
  have hown : s.vm.findClass y.cls = some m.cls := findClass_of_methodNamed B.named
  have hlocks := B.notSynchronized
  have hr := B.returns
  unfold mfz at hF
  by_cases hen : (ent vs).length ≤ nL
  · rw [if_pos hen] at hF
    obtain ⟨⟨o, r', M1⟩, e1, hF⟩ := bind2 hF
    obtain ⟨z, e2, hF⟩ := bind2 hF
    cases hF
    have e3 := gz_some e2
    simp only at e3
    subst e3
    rw [lg_entry_eq]
    have ok : Okk y.cls cc nL (rmk fr lo) p m c s ((vs.map (tv h0)).toArray) h0 D cy tt 0 0 := ⟨⟨B.exec, B.bytes, hml, hown, fun w hw => hts w (List.mem_cons_of_mem _ hw)⟩, hK, hZ, Nat.le_refl 0, Nat.le_refl 0⟩
    refine hb p l e s m _ below meth c h0 D cy tt 0 0 _ ok _ _ r' M M1 _ (lr_entry hen) e1 (fun q => by cases q) (fun v hv => ?_) s.heap [] hP va_S.rf
    cases hv
    intro pc ls hd H locs hP1 hS1
    exact W.zret B.exec B.bytes hr (b2i_nar _) (fun t ht hW => ⟨⟨_, (), rfl, rfl, by rw [ht]; exact hP1, va_K.moved hW.alike hK, by rw [ht]; exact Sta.kept (Sta.moved hW.alike hZ) (fun a h1 h2 => hS1.2.1 a h1 h2)⟩, hS1.F ht⟩) hS1.2.2 hd
  · rw [if_neg hen] at hF
    cases hF
theorem mk_v {y : MethodName} {cc : ByteArray} {nL fr lo pE : Nat} {body : Sx} (hy : plainName y.cls = true) (hb : Vs y.cls cc nL (rmk fr lo) 0 pE body) : Mv y cc nL (rmk fr lo) (mfv nL body) := by
  intro l h0 D cy tt vs M M' hF
  refine Met.ofW (cc := cc) (maxL := nL) (ret := none) hy rfl ?_
  intro p e s m args below meth c s₁ B hml hv
  obtain ⟨rfl, hP, hK, hZ⟩ := hv
  have hts := atoms_spec (ws := Cond.code y cc nL (none) :: lw_g) B.pre
  have hown : s.vm.findClass y.cls = some m.cls := findClass_of_methodNamed B.named
  have hlocks := B.notSynchronized
  have hr := B.returns
  unfold mfv at hF
  by_cases hen : (ent vs).length ≤ nL
  · rw [if_pos hen] at hF
    obtain ⟨⟨o, r', M1⟩, e1, hF⟩ := bind2 hF
    obtain ⟨z, e2, hF⟩ := bind2 hF
    cases hF
    have e3 := gv_some e2
    simp only at e3
    subst e3
    rw [lg_entry_eq]
    have ok : Okk y.cls cc nL (rmk fr lo) p m c s ((vs.map (tv h0)).toArray) h0 D cy tt 0 0 := ⟨⟨B.exec, B.bytes, hml, hown, fun w hw => hts w (List.mem_cons_of_mem _ hw)⟩, hK, hZ, Nat.le_refl 0, Nat.le_refl 0⟩
    refine hb p l e s m _ below meth c h0 D cy tt 0 0 _ ok _ _ r' M M1 _ (lr_entry hen) e1 (fun q => by cases q) (fun v hv => ?_) s.heap [] hP va_S.rf
    cases hv
    intro pc ls hd H locs hP1 hS1
    exact W.vret B.exec B.bytes hr (fun t ht hW => ⟨⟨(), rfl, trivial, by rw [ht]; exact hP1, va_K.moved hW.alike hK, by rw [ht]; exact Sta.kept (Sta.moved hW.alike hZ) (fun a h1 h2 => hS1.2.1 a h1 h2)⟩, hS1.F ht⟩) hS1.2.2 hd
  · rw [if_neg hen] at hF
    cases hF
