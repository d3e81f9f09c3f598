def Cls (ci : Nat) (C : String) (T : u_T) (N : Nat) (ty : Nat → FieldType) : Prop := vwCl[ci]? = some (C, T, N) ∧ (∀ w ∈ u_ws C T N, w ∈ lw_g) ∧ nf ci = N ∧ ci < 8 ∧ (∀ k, k < N → parseFieldDescriptor (T k).2.2.1 = some (ty k)) ∧ ∀ a, a < N → ∀ b, b < N → a ≠ b → (T a).2.1 ≠ (T b).2.1
def Fld (own : String) (ix : Nat) (T : u_T) (k : Nat) : Prop := Cond.fieldLink own ix (T k).1 (T k).2.1 (T k).2.2.1 ∈ lw_g
theorem inr_in {i : Int32} {n : Nat} (h : inr i n = true) : vp_in i n := by
  unfold inr at h
  simp only [Bool.and_eq_true, decide_eq_true_eq] at h
  rintro (q | q)
  · exact h.1 q
  · omega
theorem wl_obj {h0 : Nat} {cy : Nat → ClassId} {M : Me} {a ci : Nat} (h : kd a = ci) (hc : ci < 8) : (wl h0 cy M)[a]? = some (h0 + a, .inr (ci, (List.range (nf ci)).map (fv h0 M a ci))) := by
  rw [wl_get (kd_lt (by omega)), ce_obj h hc]
theorem wl_int {h0 : Nat} {cy : Nat → ClassId} {M : Me} {a : Nat} (h : kd a = 8) : (wl h0 cy M)[a]? = some (h0 + a, .inl (cy 8, ln a, .inl (M.1 a))) := by
  rw [wl_get (kd_lt (by omega)), ce_int h]
theorem wl_bool {h0 : Nat} {cy : Nat → ClassId} {M : Me} {a : Nat} (h : kd a = 10) : (wl h0 cy M)[a]? = some (h0 + a, .inl (cy 10, ln a, .inl (M.1 a))) := by
  rw [wl_get (kd_lt (by omega)), ce_bool h]
theorem wl_long {h0 : Nat} {cy : Nat → ClassId} {M : Me} {a : Nat} (h : kd a = 9) : (wl h0 cy M)[a]? = some (h0 + a, .inl (cy 9, ln a, .inr (.inl (M.2 a)))) := by
  rw [wl_get (kd_lt (by omega)), ce_long h]
theorem wl_ref {h0 : Nat} {cy : Nat → ClassId} {M : Me} {a q : Nat} (h : kd a = q) (hq : 11 ≤ q) (hq2 : q < 99) : (wl h0 cy M)[a]? = some (h0 + a, .inl (cy q, ln a, .inr (.inr (.inr (.inr (fun i => some (h0 + rf a i))))))) := by
  rw [wl_get (kd_lt (by omega)), ce_ref (by omega), h]
theorem wl_si {h0 : Nat} {cy : Nat → ClassId} {M : Me} {a i : Nat} {x : Int32} (h : kd a = 8) : (wl h0 cy M).set a (h0 + a, .inl (cy 8, ln a, .inl (upd (M.1 a) i x))) = wl h0 cy (wi M a i x) := wl_set (by rw [ce_int h, wi_same]) (fun b hb => ce_wi hb)
theorem wl_sz {h0 : Nat} {cy : Nat → ClassId} {M : Me} {a i : Nat} {x : Int32} (h : kd a = 10) : (wl h0 cy M).set a (h0 + a, .inl (cy 10, ln a, .inl (upd (M.1 a) i x))) = wl h0 cy (wi M a i x) := wl_set (by rw [ce_bool h, wi_same]) (fun b hb => ce_wi hb)
theorem wl_sj {h0 : Nat} {cy : Nat → ClassId} {M : Me} {a i : Nat} {x : Int64} (h : kd a = 9) : (wl h0 cy M).set a (h0 + a, .inl (cy 9, ln a, .inr (.inl (vp_updL (M.2 a) i x)))) = wl h0 cy (wj M a i x) := wl_set (by rw [ce_long h, wj_same]) (fun b hb => ce_wj hb)
theorem wl_fi {h0 : Nat} {cy : Nat → ClassId} {M : Me} {a ci k : Nat} {x : Int32} (h : kd a = ci) (hc : ci < 8) (hk : k < nf ci) (hf : ft ci k = 0) : (wl h0 cy M).set a (h0 + a, .inr (ci, ((List.range (nf ci)).map (fv h0 M a ci)).set k (.int x))) = wl h0 cy (wi M a k x) := by
  refine wl_set ?_ (fun b hb => ce_wi hb)
  rw [ce_obj h hc, fv_set hk (fv_wi hf) (fun j hj => fv_wi_ne hj)]
theorem wl_fj {h0 : Nat} {cy : Nat → ClassId} {M : Me} {a ci k : Nat} {x : Int64} (h : kd a = ci) (hc : ci < 8) (hk : k < nf ci) (hf : ft ci k = 1) : (wl h0 cy M).set a (h0 + a, .inr (ci, ((List.range (nf ci)).map (fv h0 M a ci)).set k (.long x))) = wl h0 cy (wj M a k x) := by
  refine wl_set ?_ (fun b hb => ce_wj hb)
  rw [ce_obj h hc, fv_set hk (fv_wj hf) (fun j hj => fv_wj_ne hj)]
section
variable {own : String} {cc : ByteArray} {nL : Nat} {R : Room} {b pc p1 p2 p3 p4 p5 p6 p7 pT pF : Nat}
variable {ci N : Nat} {C : String} {T : u_T} {ty : Nat → FieldType} {ix k : Nat}
theorem v_gfi {f : Rx} (hc : Cls ci C T N ty) (hw : Fld own ix T k) (hk : k < N) (ht : ft ci k = 0) (h1 : Vr own cc nL R b pc p1 f) (hd : decode cc p1 = .ok (.getfield ix, 3)) (hp : p1 + 3 = p2) : Vi own cc nL R b pc p2 (fgi ci k f) := by
  intro p l e s m args below meth c h0 D cy tt cells slots Q ok ls st r M M' x hl hb hf kk
  obtain ⟨⟨a, M1⟩, e1, hf⟩ := bind2 hf
  subst hp
  by_cases ha : kd a = ci
  · rw [if_pos ha] at hf
    cases hf
    refine h1 p l e s m args below meth c h0 D cy tt cells slots Q ok ls st r M M1 a hl hb e1 ?_
    intro H locs hP hS
    exact va_get ok.1.1 ok.1.2.1 ok.1.2.2.2.2 hc.2.1 ok.1.2.2.2.1 ok.2.1 hP a (wl_obj ha hc.2.2.2.1) hc.1 k hk (ok.1.2.2.2.2 _ hw) (fun x h => h) (by rw [fv_at (by rw [hc.2.2.1]; exact hk)]; simp [fv, ht]) hd (kk H locs hP hS)
  · rw [if_neg ha] at hf
    cases hf
theorem v_gfj {f : Rx} (hc : Cls ci C T N ty) (hw : Fld own ix T k) (hk : k < N) (ht : ft ci k = 1) (h1 : Vr own cc nL R b pc p1 f) (hd : decode cc p1 = .ok (.getfield ix, 3)) (hp : p1 + 3 = p2) : Vj own cc nL R b pc p2 (fgj ci k f) := by
  intro p l e s m args below meth c h0 D cy tt cells slots Q ok ls st r M M' x hl hb hf kk
  obtain ⟨⟨a, M1⟩, e1, hf⟩ := bind2 hf
  subst hp
  by_cases ha : kd a = ci
  · rw [if_pos ha] at hf
    cases hf
    refine h1 p l e s m args below meth c h0 D cy tt cells slots Q ok ls st r M M1 a hl hb e1 ?_
    intro H locs hP hS
    exact va_get ok.1.1 ok.1.2.1 ok.1.2.2.2.2 hc.2.1 ok.1.2.2.2.1 ok.2.1 hP a (wl_obj ha hc.2.2.2.1) hc.1 k hk (ok.1.2.2.2.2 _ hw) (fun x h => h) (by rw [fv_at (by rw [hc.2.2.1]; exact hk)]; simp [fv, ht]) hd (kk H locs hP hS)
  · rw [if_neg ha] at hf
    cases hf
theorem v_gfr {f : Rx} (hc : Cls ci C T N ty) (hw : Fld own ix T k) (hk : k < N) (ht : ft ci k = 2) (h1 : Vr own cc nL R b pc p1 f) (hd : decode cc p1 = .ok (.getfield ix, 3)) (hp : p1 + 3 = p2) : Vr own cc nL R b pc p2 (fgr ci k f) := by
  intro p l e s m args below meth c h0 D cy tt cells slots Q ok ls st r M M' x hl hb hf kk
  obtain ⟨⟨a, M1⟩, e1, hf⟩ := bind2 hf
  subst hp
  by_cases ha : kd a = ci
  · rw [if_pos ha] at hf
    cases hf
    refine h1 p l e s m args below meth c h0 D cy tt cells slots Q ok ls st r M M1 a hl hb e1 ?_
    intro H locs hP hS
    exact va_get ok.1.1 ok.1.2.1 ok.1.2.2.2.2 hc.2.1 ok.1.2.2.2.1 ok.2.1 hP a (wl_obj ha hc.2.2.2.1) hc.1 k hk (ok.1.2.2.2.2 _ hw) (fun x h => h) (by rw [fv_at (by rw [hc.2.2.1]; exact hk)]; simp [fv, ht]) hd (kk H locs hP hS)
  · rw [if_neg ha] at hf
    cases hf
theorem v_iald {f : Rx} {g : Ix} (h1 : Vr own cc nL R b pc p1 f) (h2 : Vi own cc nL R (b + 1) p1 p2 g) (hd : decode cc p2 = .ok (.iaload, 1)) (hp : p2 + 1 = p3) : Vi own cc nL R b pc p3 (iald f g) := by
  intro p l e s m args below meth c h0 D cy tt cells slots Q ok ls st r M M' x hl hb hf kk
  obtain ⟨⟨a, M1⟩, e1, hf⟩ := bind2 hf
  obtain ⟨⟨i, M2⟩, e2, hf⟩ := bind2 hf
  subst hp
  by_cases ha : kd a = 8 ∧ inr i (ln a) = true
  · rw [if_pos ha] at hf
    cases hf
    refine h1 p l e s m args below meth c h0 D cy tt cells slots Q ok ls st r M M1 a hl hb e1 (h2 p l e s m args below meth c h0 D cy tt cells slots Q ok ls _ r M1 M2 i hl (by rw [wds_c]; simp only [Value.category]; omega) e2 ?_)
    intro H locs hP hS
    exact va_iald ok.1.1 ok.1.2.1 ok.2.1 hP a 0 (wl_int ha.1) rfl (inr_in ha.2) hd (kk H locs hP hS)
  · rw [if_neg ha] at hf
    cases hf
theorem v_zald {f : Rx} {g : Ix} (h1 : Vr own cc nL R b pc p1 f) (h2 : Vi own cc nL R (b + 1) p1 p2 g) (hd : decode cc p2 = .ok (.baload, 1)) (hp : p2 + 1 = p3) : Vi own cc nL R b pc p3 (zald f g) := by
  intro p l e s m args below meth c h0 D cy tt cells slots Q ok ls st r M M' x hl hb hf kk
  obtain ⟨⟨a, M1⟩, e1, hf⟩ := bind2 hf
  obtain ⟨⟨i, M2⟩, e2, hf⟩ := bind2 hf
  subst hp
  by_cases ha : kd a = 10 ∧ inr i (ln a) = true
  · rw [if_pos ha] at hf
    cases hf
    refine h1 p l e s m args below meth c h0 D cy tt cells slots Q ok ls st r M M1 a hl hb e1 (h2 p l e s m args below meth c h0 D cy tt cells slots Q ok ls _ r M1 M2 i hl (by rw [wds_c]; simp only [Value.category]; omega) e2 ?_)
    intro H locs hP hS
    exact va_zald ok.1.1 ok.1.2.1 ok.2.1 hP a 2 (wl_bool ha.1) rfl (inr_in ha.2) hd (kk H locs hP hS)
  · rw [if_neg ha] at hf
    cases hf
theorem v_jald {f : Rx} {g : Ix} (h1 : Vr own cc nL R b pc p1 f) (h2 : Vi own cc nL R (b + 1) p1 p2 g) (hd : decode cc p2 = .ok (.laload, 1)) (hp : p2 + 1 = p3) : Vj own cc nL R b pc p3 (jald f g) := by
  intro p l e s m args below meth c h0 D cy tt cells slots Q ok ls st r M M' x hl hb hf kk
  obtain ⟨⟨a, M1⟩, e1, hf⟩ := bind2 hf
  obtain ⟨⟨i, M2⟩, e2, hf⟩ := bind2 hf
  subst hp
  by_cases ha : kd a = 9 ∧ inr i (ln a) = true
  · rw [if_pos ha] at hf
    cases hf
    refine h1 p l e s m args below meth c h0 D cy tt cells slots Q ok ls st r M M1 a hl hb e1 (h2 p l e s m args below meth c h0 D cy tt cells slots Q ok ls _ r M1 M2 i hl (by rw [wds_c]; simp only [Value.category]; omega) e2 ?_)
    intro H locs hP hS
    exact va_lald ok.1.1 ok.1.2.1 ok.2.1 hP a 1 (wl_long ha.1) rfl (inr_in ha.2) hd (kk H locs hP hS)
  · rw [if_neg ha] at hf
    cases hf
theorem v_rald {q : Nat} {ty0 : FieldType} {t0 : Nat} {f : Rx} {g : Ix} (hq : 11 ≤ q ∧ q < 99) (hty : ∀ cy, (tys cy)[t0]? = some (cy q, ty0)) (hr : ty0.isReference = true) (h1 : Vr own cc nL R b pc p1 f) (h2 : Vi own cc nL R (b + 1) p1 p2 g) (hd : decode cc p2 = .ok (.aaload, 1)) (hp : p2 + 1 = p3) : Vr own cc nL R b pc p3 (rald q f g) := by
  intro p l e s m args below meth c h0 D cy tt cells slots Q ok ls st r M M' x hl hb hf kk
  obtain ⟨⟨a, M1⟩, e1, hf⟩ := bind2 hf
  obtain ⟨⟨i, M2⟩, e2, hf⟩ := bind2 hf
  subst hp
  by_cases ha : kd a = q ∧ inr i (ln a) = true
  · rw [if_pos ha] at hf
    cases hf
    refine h1 p l e s m args below meth c h0 D cy tt cells slots Q ok ls st r M M1 a hl hb e1 (h2 p l e s m args below meth c h0 D cy tt cells slots Q ok ls _ r M1 M2 i hl (by rw [wds_c]; simp only [Value.category]; omega) e2 ?_)
    intro H locs hP hS
    have hin := inr_in ha.2
    have hlt : i.toNatClampNeg < ln a := Nat.not_le.mp fun q => hin (Or.inr q)
    exact W.aald (v := .ref (h0 + rf a i.toNatClampNeg)) (ty := ty0) ok.1.1 ok.1.2.1 (hP a _ (wl_ref ha.1 hq.1 hq.2)) ((ok.2.1.2 t0 _ (hty cy)).1 (ln a) (fun j => va_rf (some (h0 + rf a j)))) hr (fun q => by cases q) (by show ¬ (i < 0 ∨ (arrV _ _ _).slots.size ≤ _); rw [arrV_size]; exact hin) (by show (arrV _ _ _).slots[_]? = _; rw [arrV_read _ _ hlt]; rfl) rfl rfl hd (kk H locs hP hS)
  · rw [if_neg ha] at hf
    cases hf
theorem v_alen {q : Nat} {ty0 : FieldType} {t0 : Nat} {f : Rx} (hq : 8 ≤ q ∧ q < 99) (hty : ∀ cy, (tys cy)[t0]? = some (cy q, ty0)) (h1 : Vr own cc nL R b pc p1 f) (hd : decode cc p1 = .ok (.arraylength, 1)) (hp : p1 + 1 = p2) : Vi own cc nL R b pc p2 (alen q f) := by
  intro p l e s m args below meth c h0 D cy tt cells slots Q ok ls st r M M' x hl hb hf kk
  obtain ⟨⟨a, M1⟩, e1, hf⟩ := bind2 hf
  subst hp
  by_cases ha : kd a = q
  · rw [if_pos ha] at hf
    cases hf
    refine h1 p l e s m args below meth c h0 D cy tt cells slots Q ok ls st r M M1 a hl hb e1 ?_
    intro H locs hP hS
    have hex : ∃ z : vp_A, (wl h0 cy M1)[a]? = some (h0 + a, .inl (cy q, z)) ∧ z.1 = ln a := by
      rcases (by omega : q = 8 ∨ q = 9 ∨ q = 10 ∨ 11 ≤ q) with e | e | e | e
      · subst e; exact ⟨_, wl_int ha, rfl⟩
      · subst e; exact ⟨_, wl_long ha, rfl⟩
      · subst e; exact ⟨_, wl_bool ha, rfl⟩
      · exact ⟨_, wl_ref ha e hq.2, rfl⟩
    obtain ⟨z, hz, hn⟩ := hex
    exact va_alen ok.1.1 ok.1.2.1 ok.2.1 hP a t0 hz (hty cy) (by rw [hn]) hd (kk H locs hP hS)
  · rw [if_neg ha] at hf
    cases hf
theorem v_sald0 {g : Ix} (hw : Cond.fieldLink own ix "VacuumDesk" "TOP_OF_CHAMBER" "[I" ∈ lw_g) (hd0 : decode cc pc = .ok (.getstatic ix, 3)) (hp0 : pc + 3 = p1) (h2 : Vi own cc nL R (b + 1) p1 p2 g) (hd : decode cc p2 = .ok (.iaload, 1)) (hp : p2 + 1 = p3) : Vi own cc nL R b pc p3 (sald 0 g) := by
  intro p l e s m args below meth c h0 D cy tt cells slots Q ok ls st r M M' x hl hb hf kk
  obtain ⟨⟨i, M2⟩, e2, hf⟩ := bind2 hf
  subst hp; subst hp0
  by_cases ha : inr i 3 = true
  · rw [if_pos ha] at hf
    cases hf
    have key := h2 p l e s m args below meth c h0 D cy tt cells slots Q ok ls (.ref (tt 0) :: st) r M M2 i hl (by rw [wds_c]; simp only [Value.category]; omega) e2 (fun H locs hP hS => va_ti ok.1.1 ok.1.2.1 ok.2.2.1.2 hS (inr_in ha) rfl hd (kk H locs hP hS))
    intro H locs hP hS
    exact va_gets ok.1.1 ok.1.2.1 ok.2.2.1.1 hS ok.1.2.2.2.1 (ok.1.2.2.2.2 _ hw) (fun x h => h) hd0 (key H locs hP hS)
  · rw [if_neg ha] at hf
    cases hf
theorem v_anil : Va own cc nL R 0 b pc pc anil := by
  refine ⟨fun r M x h => by cases h; rfl, ?_⟩
  intro p l e s m args below meth c h0 D cy tt cells slots Q ok ls st r M M' x hl hb hf kk
  cases hf
  exact kk
theorem v_ai {n : Nat} {f : Ix} {g : Ax} (h1 : Vi own cc nL R b pc p1 f) (h2 : Va own cc nL R n (b + 1) p1 p2 g) : Va own cc nL R (n + 1) b pc p2 (ai f g) := by
  refine ⟨fun r M x h => ?_, ?_⟩
  · obtain ⟨y, -, h⟩ := bind2 h
    obtain ⟨z, e2, h⟩ := bind2 h
    cases h
    simp [h2.1 _ _ _ e2]
  intro p l e s m args below meth c h0 D cy tt cells slots Q ok ls st r M M' x hl hb hf kk
  obtain ⟨⟨y, M1⟩, e1, hf⟩ := bind2 hf
  obtain ⟨⟨z, M2⟩, e2, hf⟩ := bind2 hf
  cases hf
  refine h1 p l e s m args below meth c h0 D cy tt cells slots Q ok ls st r M M1 y hl hb e1 (h2.2 p l e s m args below meth c h0 D cy tt cells slots Q ok ls _ r M1 M2 z hl (by rw [wds_c]; simp only [Value.category]; omega) e2 ?_)
  have e3 : (z.map (tv h0)).reverse ++ tv h0 (.int y) :: st = (((.int y :: z : List Value).map (tv h0)).reverse ++ st) := by simp
  show Kc R p l e s m args below meth c h0 D cy cells slots Q p2 ls ((z.map (tv h0)).reverse ++ tv h0 (.int y) :: st) M2
  rw [e3]
  exact kk
theorem v_aj {n : Nat} {f : Jx} {g : Ax} (h1 : Vj own cc nL R b pc p1 f) (h2 : Va own cc nL R n (b + 2) p1 p2 g) : Va own cc nL R (n + 1) b pc p2 (aj f g) := by
  refine ⟨fun r M x h => ?_, ?_⟩
  · obtain ⟨y, -, h⟩ := bind2 h
    obtain ⟨z, e2, h⟩ := bind2 h
    cases h
    simp [h2.1 _ _ _ e2]
  intro p l e s m args below meth c h0 D cy tt cells slots Q ok ls st r M M' x hl hb hf kk
  obtain ⟨⟨y, M1⟩, e1, hf⟩ := bind2 hf
  obtain ⟨⟨z, M2⟩, e2, hf⟩ := bind2 hf
  cases hf
  refine h1 p l e s m args below meth c h0 D cy tt cells slots Q ok ls st r M M1 y hl hb e1 (h2.2 p l e s m args below meth c h0 D cy tt cells slots Q ok ls _ r M1 M2 z hl (by rw [wds_c]; simp only [Value.category]; omega) e2 ?_)
  have e3 : (z.map (tv h0)).reverse ++ tv h0 (.long y) :: st = (((.long y :: z : List Value).map (tv h0)).reverse ++ st) := by simp
  show Kc R p l e s m args below meth c h0 D cy cells slots Q p2 ls ((z.map (tv h0)).reverse ++ tv h0 (.long y) :: st) M2
  rw [e3]
  exact kk
theorem v_ar {n : Nat} {f : Rx} {g : Ax} (h1 : Vr own cc nL R b pc p1 f) (h2 : Va own cc nL R n (b + 1) p1 p2 g) : Va own cc nL R (n + 1) b pc p2 (ar f g) := by
  refine ⟨fun r M x h => ?_, ?_⟩
  · obtain ⟨y, -, h⟩ := bind2 h
    obtain ⟨z, e2, h⟩ := bind2 h
    cases h
    simp [h2.1 _ _ _ e2]
  intro p l e s m args below meth c h0 D cy tt cells slots Q ok ls st r M M' x hl hb hf kk
  obtain ⟨⟨y, M1⟩, e1, hf⟩ := bind2 hf
  obtain ⟨⟨z, M2⟩, e2, hf⟩ := bind2 hf
  cases hf
  refine h1 p l e s m args below meth c h0 D cy tt cells slots Q ok ls st r M M1 y hl hb e1 (h2.2 p l e s m args below meth c h0 D cy tt cells slots Q ok ls _ r M1 M2 z hl (by rw [wds_c]; simp only [Value.category]; omega) e2 ?_)
  have e3 : (z.map (tv h0)).reverse ++ tv h0 (.ref y) :: st = (((.ref y :: z : List Value).map (tv h0)).reverse ++ st) := by simp
  show Kc R p l e s m args below meth c h0 D cy cells slots Q p2 ls ((z.map (tv h0)).reverse ++ tv h0 (.ref y) :: st) M2
  rw [e3]
  exact kk
theorem v_nop : Vs own cc nL R pc pc snop := by
  intro p l e s m args below meth c h0 D cy tt cells slots Q ok ls r r' M M' x hl hf kk kr
  cases hf
  exact kk rfl ls hl
theorem v_seq {f g : Sx} (h1 : Vs own cc nL R pc p1 f) (h2 : Vs own cc nL R p1 p2 g) : Vs own cc nL R pc p2 (sseq f g) := by
  intro p l e s m args below meth c h0 D cy tt cells slots Q ok ls r r' M M' x hl hf kk kr
  obtain ⟨⟨o, r1, M1⟩, e1, hf⟩ := bind2 hf
  cases o with
  | none => exact h1 p l e s m args below meth c h0 D cy tt cells slots Q ok ls r r1 M M1 none hl e1 (fun _ ls' hl' => h2 p l e s m args below meth c h0 D cy tt cells slots Q ok ls' r1 r' M1 M' x hl' hf kk kr) (fun v hv => by cases hv)
  | some v =>
    cases hf
    exact h1 p l e s m args below meth c h0 D cy tt cells slots Q ok ls r r1 M M1 (some v) hl e1 (fun hv => by cases hv) kr
theorem v_if {c0 : Bx} {f g : Sx} (h1 : Vb own cc nL R 0 pc pT pF c0) (h2 : Vs own cc nL R pT p1 f) (h3 : Vs own cc nL R pF p1 g) : Vs own cc nL R pc p1 (sif c0 f g) := by
  intro p l e s m args below meth c h0 D cy tt cells slots Q ok ls r r' M M' x hl hf kk kr
  obtain ⟨⟨y, M1⟩, e1, hf⟩ := bind2 hf
  refine h1 p l e s m args below meth c h0 D cy tt cells slots Q ok ls [] r M M1 y hl (Nat.le_refl 0) e1 (fun hy => ?_) (fun hy => ?_)
  · subst hy
    exact h2 p l e s m args below meth c h0 D cy tt cells slots Q ok ls r r' M1 M' x hl hf kk kr
  · subst hy
    exact h3 p l e s m args below meth c h0 D cy tt cells slots Q ok ls r r' M1 M' x hl hf kk kr
theorem v_wh {c0 : Bx} {f : Sx} (h1 : Vb own cc nL R 0 pc pT pF c0) (h2 : Vs own cc nL R pT pc f) : Vs own cc nL R pc pF (swh c0 f) := by
  intro p l e s m args below meth c h0 D cy tt cells slots Q ok ls r r' M M' x hl hf kk kr
  obtain ⟨n, hn⟩ := swh_some hf
  clear hf
  induction n generalizing ls r M with
  | zero => cases hn
  | succ n ih =>
    obtain ⟨⟨y, M1⟩, e1, hn⟩ := bind2 hn
    refine h1 p l e s m args below meth c h0 D cy tt cells slots Q ok ls [] r M M1 y hl (Nat.le_refl 0) e1 (fun hy => ?_) (fun hy => ?_)
    · subst hy
      obtain ⟨⟨o, r1, M2⟩, e2, hn⟩ := bind2 hn
      cases o with
      | none => exact h2 p l e s m args below meth c h0 D cy tt cells slots Q ok ls r r1 M1 M2 none hl e2 (fun _ ls' hl' => ih ls' r1 M2 hl' hn) (fun v hv => by cases hv)
      | some v =>
        cases hn
        exact h2 p l e s m args below meth c h0 D cy tt cells slots Q ok ls r r1 M1 M2 (some v) hl e2 (fun hv => by cases hv) kr
    · subst hy
      cases hn
      exact kk rfl ls hl
theorem cut_get {n j : Nat} {r : Lo} {w : Value} (h : (cut n r)[j]? = some w) (hw : w ≠ .null) : r[j]? = some w := by
  unfold cut at h
  by_cases hj : j < (r.take n).length
  · rw [List.getElem?_append_left hj, List.getElem?_take] at h
    split at h
    · exact h
    · cases h
  · rw [List.getElem?_append_right (by omega)] at h
    exact absurd (List.eq_of_mem_replicate (List.mem_of_getElem? h)) hw
theorem lr_cut {h0 n : Nat} {ls : Array Slot} {r : Lo} (h : lr h0 nL ls r) : lr h0 nL ls (cut n r) := by
  refine ⟨h.1, h.2.1, ?_, fun i w hi hw => h.2.2.2 i w (cut_get hi hw) hw⟩
  unfold cut
  rw [List.length_append, List.length_take, List.length_replicate]
  have := h.2.2.1
  omega
theorem v_cut {n : Nat} {f : Sx} (h1 : Vs own cc nL R pc p1 f) : Vs own cc nL R pc p1 (scut n f) := by
  intro p l e s m args below meth c h0 D cy tt cells slots Q ok ls r r' M M' x hl hf kk kr
  obtain ⟨⟨o, r1, M1⟩, e1, hf⟩ := bind2 hf
  cases hf
  exact h1 p l e s m args below meth c h0 D cy tt cells slots Q ok ls r r1 M M1 o hl e1 (fun ho ls' hl' => kk ho ls' (lr_cut hl')) kr
theorem v_istore_n {i : Nat} {q : Fin 4} {f : Ix} (h1 : Vi own cc nL R 0 pc p1 f) (hd : decode cc p1 = .ok (.istore_n q, 1)) (hi : (q : Nat) = i) (hn : i < nL) (hp : p1 + 1 = p2) : Vs own cc nL R pc p2 (ssi i f) := by
  intro p l e s m args below meth c h0 D cy tt cells slots Q ok ls r r' M M' x hl hf kk kr
  obtain ⟨⟨y, M1⟩, e1, hf⟩ := bind2 hf
  cases hf
  subst hp
  refine h1 p l e s m args below meth c h0 D cy tt cells slots Q ok ls [] r M M1 y hl (Nat.le_refl 0) e1 ?_
  intro H locs hP hS
  exact lv_istore_n ok.1.1 ok.1.2.1 hd hi (lr_has hl) hn rfl (fun ls' hl' => kk rfl ls' (lr_set (v := .int y) hl.2.2.1 hl') H locs hP hS)
theorem v_istore {i : Nat} {f : Ix} (h1 : Vi own cc nL R 0 pc p1 f) (hd : decode cc p1 = .ok (.istore i, 2)) (hn : i < nL) (hp : p1 + 2 = p2) : Vs own cc nL R pc p2 (ssi i f) := by
  intro p l e s m args below meth c h0 D cy tt cells slots Q ok ls r r' M M' x hl hf kk kr
  obtain ⟨⟨y, M1⟩, e1, hf⟩ := bind2 hf
  cases hf
  subst hp
  refine h1 p l e s m args below meth c h0 D cy tt cells slots Q ok ls [] r M M1 y hl (Nat.le_refl 0) e1 ?_
  intro H locs hP hS
  exact lv_istore ok.1.1 ok.1.2.1 hd (lr_has hl) hn rfl (fun ls' hl' => kk rfl ls' (lr_set (v := .int y) hl.2.2.1 hl') H locs hP hS)
theorem v_lstore_n {i : Nat} {q : Fin 4} {f : Jx} (h1 : Vj own cc nL R 0 pc p1 f) (hd : decode cc p1 = .ok (.lstore_n q, 1)) (hi : (q : Nat) = i) (hn : i + 1 < nL) (hp : p1 + 1 = p2) : Vs own cc nL R pc p2 (ssj i f) := by
  intro p l e s m args below meth c h0 D cy tt cells slots Q ok ls r r' M M' x hl hf kk kr
  obtain ⟨⟨y, M1⟩, e1, hf⟩ := bind2 hf
  cases hf
  subst hp
  refine h1 p l e s m args below meth c h0 D cy tt cells slots Q ok ls [] r M M1 y hl (Nat.le_refl 0) e1 ?_
  intro H locs hP hS
  exact lv_lstore_n ok.1.1 ok.1.2.1 hd hi (lr_has hl) hn rfl (fun ls' hl' => kk rfl ls' (lr_set2 (v := .long y) hl.2.2.1 hl') H locs hP hS)
theorem v_lstore {i : Nat} {f : Jx} (h1 : Vj own cc nL R 0 pc p1 f) (hd : decode cc p1 = .ok (.lstore i, 2)) (hn : i + 1 < nL) (hp : p1 + 2 = p2) : Vs own cc nL R pc p2 (ssj i f) := by
  intro p l e s m args below meth c h0 D cy tt cells slots Q ok ls r r' M M' x hl hf kk kr
  obtain ⟨⟨y, M1⟩, e1, hf⟩ := bind2 hf
  cases hf
  subst hp
  refine h1 p l e s m args below meth c h0 D cy tt cells slots Q ok ls [] r M M1 y hl (Nat.le_refl 0) e1 ?_
  intro H locs hP hS
  exact lv_lstore ok.1.1 ok.1.2.1 hd (lr_has hl) hn rfl (fun ls' hl' => kk rfl ls' (lr_set2 (v := .long y) hl.2.2.1 hl') H locs hP hS)
theorem v_astore_n {i : Nat} {q : Fin 4} {f : Rx} (h1 : Vr own cc nL R 0 pc p1 f) (hd : decode cc p1 = .ok (.astore_n q, 1)) (hi : (q : Nat) = i) (hn : i < nL) (hp : p1 + 1 = p2) : Vs own cc nL R pc p2 (ssr i f) := by
  intro p l e s m args below meth c h0 D cy tt cells slots Q ok ls r r' M M' x hl hf kk kr
  obtain ⟨⟨y, M1⟩, e1, hf⟩ := bind2 hf
  cases hf
  subst hp
  refine h1 p l e s m args below meth c h0 D cy tt cells slots Q ok ls [] r M M1 y hl (Nat.le_refl 0) e1 ?_
  intro H locs hP hS
  exact lv_astore_n ok.1.1 ok.1.2.1 hd hi (lr_has hl) hn rfl (fun ls' hl' => kk rfl ls' (lr_set (v := .ref y) hl.2.2.1 hl') H locs hP hS)
theorem v_astore {i : Nat} {f : Rx} (h1 : Vr own cc nL R 0 pc p1 f) (hd : decode cc p1 = .ok (.astore i, 2)) (hn : i < nL) (hp : p1 + 2 = p2) : Vs own cc nL R pc p2 (ssr i f) := by
  intro p l e s m args below meth c h0 D cy tt cells slots Q ok ls r r' M M' x hl hf kk kr
  obtain ⟨⟨y, M1⟩, e1, hf⟩ := bind2 hf
  cases hf
  subst hp
  refine h1 p l e s m args below meth c h0 D cy tt cells slots Q ok ls [] r M M1 y hl (Nat.le_refl 0) e1 ?_
  intro H locs hP hS
  exact lv_astore ok.1.1 ok.1.2.1 hd (lr_has hl) hn rfl (fun ls' hl' => kk rfl ls' (lr_set (v := .ref y) hl.2.2.1 hl') H locs hP hS)
theorem v_iinc {i : Nat} {n : Int} {v : Int32} (hd : decode cc pc = .ok (.iinc i n, 3)) (hv : Int32.ofInt n = v) (hn : i < nL) (hp : pc + 3 = p1) : Vs own cc nL R pc p1 (sinc i v) := by
  intro p l e s m args below meth c h0 D cy tt cells slots Q ok ls r r' M M' x hl hf kk kr
  obtain ⟨y, e1, hf⟩ := bind2 hf
  cases hf
  subst hp
  subst hv
  intro H locs hP hS
  have hm : (i, Value.int y) ∈ lvof h0 r := lvof_mem.mpr ⟨_, gi_some e1, (fun q => by cases q), rfl⟩
  obtain ⟨kq, hkq⟩ := List.getElem?_of_mem hm
  exact lv_iinc ok.1.1 ok.1.2.1 hd (lr_has hl) hkq rfl hn rfl (fun ls' hl' => kk rfl ls' (lr_set (v := .int (y + Int32.ofInt n)) hl.2.2.1 hl') H locs hP hS)
theorem v_ret {f : Ix} (h1 : Vi own cc nL R 0 pc p1 f) (hd : decode cc p1 = .ok (.ireturn, 1)) : Vs own cc nL R pc p2 (sret f) := by
  intro p l e s m args below meth c h0 D cy tt cells slots Q ok ls r r' M M' x hl hf kk kr
  obtain ⟨⟨y, M1⟩, e1, hf⟩ := bind2 hf
  cases hf
  exact h1 p l e s m args below meth c h0 D cy tt cells slots Q ok ls [] r M M1 y hl (Nat.le_refl 0) e1 (kr _ rfl p1 ls hd)
theorem v_retj {f : Jx} (h1 : Vj own cc nL R 0 pc p1 f) (hd : decode cc p1 = .ok (.lreturn, 1)) : Vs own cc nL R pc p2 (sretj f) := by
  intro p l e s m args below meth c h0 D cy tt cells slots Q ok ls r r' M M' x hl hf kk kr
  obtain ⟨⟨y, M1⟩, e1, hf⟩ := bind2 hf
  cases hf
  exact h1 p l e s m args below meth c h0 D cy tt cells slots Q ok ls [] r M M1 y hl (Nat.le_refl 0) e1 (kr _ rfl p1 ls hd)
theorem v_retv (hd : decode cc pc = .ok (.return_, 1)) : Vs own cc nL R pc p2 sretv := by
  intro p l e s m args below meth c h0 D cy tt cells slots Q ok ls r r' M M' x hl hf kk kr
  cases hf
  exact kr _ rfl pc ls hd
theorem v_pop {f : Ix} (h1 : Vi own cc nL R 0 pc p1 f) (hd : decode cc p1 = .ok (.pop, 1)) (hp : p1 + 1 = p2) : Vs own cc nL R pc p2 (spop f) := by
  intro p l e s m args below meth c h0 D cy tt cells slots Q ok ls r r' M M' x hl hf kk kr
  obtain ⟨⟨y, M1⟩, e1, hf⟩ := bind2 hf
  cases hf
  subst hp
  refine h1 p l e s m args below meth c h0 D cy tt cells slots Q ok ls [] r M M1 y hl (Nat.le_refl 0) e1 ?_
  intro H locs hP hS
  exact lv_pop ok.1.1 ok.1.2.1 hd rfl (kk rfl ls hl H locs hP hS)
theorem v_fpi {f : Rx} {g : Ix} (hc : Cls ci C T N ty) (hw : Fld own ix T k) (hk : k < N) (ht : ft ci k = 0) (hfin : (T k).2.2.2 = false) (hpd : parseFieldDescriptor (T k).2.2.1 = some .int) (h1 : Vr own cc nL R 0 pc p1 f) (h2 : Vi own cc nL R 1 p1 p2 g) (hd : decode cc p2 = .ok (.putfield ix, 3)) (hp : p2 + 3 = p3) : Vs own cc nL R pc p3 (fpi ci k f g) := by
  intro p l e s m args below meth c h0 D cy tt cells slots Q ok ls r r' M M' x hl hf kk kr
  obtain ⟨⟨a, M1⟩, e1, hf⟩ := bind2 hf
  obtain ⟨⟨z, M2⟩, e2, hf⟩ := bind2 hf
  subst hp
  by_cases ha : kd a = ci
  · rw [if_pos ha] at hf
    cases hf
    refine h1 p l e s m args below meth c h0 D cy tt cells slots Q ok ls [] r M M1 a hl (Nat.le_refl 0) e1 (h2 p l e s m args below meth c h0 D cy tt cells slots Q ok ls _ r M1 M2 z hl (Nat.le_refl 1) e2 ?_)
    intro H locs hP hS
    refine va_put ok.1.1 ok.1.2.1 ok.1.2.2.2.2 hc.2.1 ty hc.2.2.2.2.1 hc.2.2.2.2.2 ok.1.2.2.2.1 ok.2.1 hP wl_D hS a (wl_obj ha hc.2.2.2.1) hc.1 k hk (ok.1.2.2.2.2 _ hw) (fun x h => h) hfin hpd rfl rfl (by rw [List.length_map, List.length_range, hc.2.2.1]; exact hk) hd (fun H1 locs1 hP1 hD1 hS1 => ?_)
    rw [wl_fi ha hc.2.2.2.1 (by rw [hc.2.2.1]; exact hk) ht] at hP1
    exact kk rfl ls hl H1 locs1 hP1 hS1
  · rw [if_neg ha] at hf
    cases hf
theorem v_fpj {f : Rx} {g : Jx} (hc : Cls ci C T N ty) (hw : Fld own ix T k) (hk : k < N) (ht : ft ci k = 1) (hfin : (T k).2.2.2 = false) (hpd : parseFieldDescriptor (T k).2.2.1 = some .long) (h1 : Vr own cc nL R 0 pc p1 f) (h2 : Vj own cc nL R 1 p1 p2 g) (hd : decode cc p2 = .ok (.putfield ix, 3)) (hp : p2 + 3 = p3) : Vs own cc nL R pc p3 (fpj ci k f g) := by
  intro p l e s m args below meth c h0 D cy tt cells slots Q ok ls r r' M M' x hl hf kk kr
  obtain ⟨⟨a, M1⟩, e1, hf⟩ := bind2 hf
  obtain ⟨⟨z, M2⟩, e2, hf⟩ := bind2 hf
  subst hp
  by_cases ha : kd a = ci
  · rw [if_pos ha] at hf
    cases hf
    refine h1 p l e s m args below meth c h0 D cy tt cells slots Q ok ls [] r M M1 a hl (Nat.le_refl 0) e1 (h2 p l e s m args below meth c h0 D cy tt cells slots Q ok ls _ r M1 M2 z hl (Nat.le_refl 1) e2 ?_)
    intro H locs hP hS
    refine va_put ok.1.1 ok.1.2.1 ok.1.2.2.2.2 hc.2.1 ty hc.2.2.2.2.1 hc.2.2.2.2.2 ok.1.2.2.2.1 ok.2.1 hP wl_D hS a (wl_obj ha hc.2.2.2.1) hc.1 k hk (ok.1.2.2.2.2 _ hw) (fun x h => h) hfin hpd rfl rfl (by rw [List.length_map, List.length_range, hc.2.2.1]; exact hk) hd (fun H1 locs1 hP1 hD1 hS1 => ?_)
    rw [wl_fj ha hc.2.2.2.1 (by rw [hc.2.2.1]; exact hk) ht] at hP1
    exact kk rfl ls hl H1 locs1 hP1 hS1
  · rw [if_neg ha] at hf
    cases hf
theorem v_foi_iadd {f : Rx} {g : Ix} (hc : Cls ci C T N ty) (hw : Fld own ix T k) (hk : k < N) (ht : ft ci k = 0) (hfin : (T k).2.2.2 = false) (hpd : parseFieldDescriptor (T k).2.2.1 = some .int) (h1 : Vr own cc nL R 0 pc p1 f) (hd1 : decode cc p1 = .ok (.dup, 1)) (hd2 : decode cc (p1 + 1) = .ok (.getfield ix, 3)) (hp2 : p1 + 1 + 3 = p2) (h2 : Vi own cc nL R 2 p2 p3 g) (hd3 : decode cc p3 = .ok (.iadd, 1)) (hd : decode cc (p3 + 1) = .ok (.putfield ix, 3)) (hp : p3 + 1 + 3 = p4) : Vs own cc nL R pc p4 (foi (· + ·) ci k f g) := by
  intro p l e s m args below meth c h0 D cy tt cells slots Q ok ls r r' M M' x hl hf kk kr
  obtain ⟨⟨a, M1⟩, e1, hf⟩ := bind2 hf
  subst hp; subst hp2
  by_cases ha : kd a = ci
  · simp only [if_pos ha] at hf
    obtain ⟨⟨z, M2⟩, e2, hf⟩ := bind2 hf
    cases hf
    refine h1 p l e s m args below meth c h0 D cy tt cells slots Q ok ls [] r M M1 a hl (Nat.le_refl 0) e1 ?_
    have key := h2 p l e s m args below meth c h0 D cy tt cells slots Q ok ls [.int (M1.1 a k), .ref (h0 + a)] r M1 M2 z hl (Nat.le_refl 2) e2 (fun H locs hP hS => lv_iadd ok.1.1 ok.1.2.1 hd3 (va_put ok.1.1 ok.1.2.1 ok.1.2.2.2.2 hc.2.1 ty hc.2.2.2.2.1 hc.2.2.2.2.2 ok.1.2.2.2.1 ok.2.1 hP wl_D hS a (wl_obj ha hc.2.2.2.1) hc.1 k hk (ok.1.2.2.2.2 _ hw) (fun x h => h) hfin hpd rfl rfl (by rw [List.length_map, List.length_range, hc.2.2.1]; exact hk) hd (fun H1 locs1 hP1 hD1 hS1 => by
      rw [wl_fi ha hc.2.2.2.1 (by rw [hc.2.2.1]; exact hk) ht] at hP1
      exact kk rfl ls hl H1 locs1 hP1 hS1)))
    intro H locs hP hS
    refine lv_dup ok.1.1 ok.1.2.1 hd1 rfl ?_
    exact va_get ok.1.1 ok.1.2.1 ok.1.2.2.2.2 hc.2.1 ok.1.2.2.2.1 ok.2.1 hP a (wl_obj ha hc.2.2.2.1) hc.1 k hk (ok.1.2.2.2.2 _ hw) (fun x h => h) (by rw [fv_at (by rw [hc.2.2.1]; exact hk)]; simp [fv, ht]) hd2 (key H locs hP hS)
  · simp only [if_neg ha] at hf
    cases hf
theorem v_foi_isub {f : Rx} {g : Ix} (hc : Cls ci C T N ty) (hw : Fld own ix T k) (hk : k < N) (ht : ft ci k = 0) (hfin : (T k).2.2.2 = false) (hpd : parseFieldDescriptor (T k).2.2.1 = some .int) (h1 : Vr own cc nL R 0 pc p1 f) (hd1 : decode cc p1 = .ok (.dup, 1)) (hd2 : decode cc (p1 + 1) = .ok (.getfield ix, 3)) (hp2 : p1 + 1 + 3 = p2) (h2 : Vi own cc nL R 2 p2 p3 g) (hd3 : decode cc p3 = .ok (.isub, 1)) (hd : decode cc (p3 + 1) = .ok (.putfield ix, 3)) (hp : p3 + 1 + 3 = p4) : Vs own cc nL R pc p4 (foi (· - ·) ci k f g) := by
  intro p l e s m args below meth c h0 D cy tt cells slots Q ok ls r r' M M' x hl hf kk kr
  obtain ⟨⟨a, M1⟩, e1, hf⟩ := bind2 hf
  subst hp; subst hp2
  by_cases ha : kd a = ci
  · simp only [if_pos ha] at hf
    obtain ⟨⟨z, M2⟩, e2, hf⟩ := bind2 hf
    cases hf
    refine h1 p l e s m args below meth c h0 D cy tt cells slots Q ok ls [] r M M1 a hl (Nat.le_refl 0) e1 ?_
    have key := h2 p l e s m args below meth c h0 D cy tt cells slots Q ok ls [.int (M1.1 a k), .ref (h0 + a)] r M1 M2 z hl (Nat.le_refl 2) e2 (fun H locs hP hS => lv_isub ok.1.1 ok.1.2.1 hd3 (va_put ok.1.1 ok.1.2.1 ok.1.2.2.2.2 hc.2.1 ty hc.2.2.2.2.1 hc.2.2.2.2.2 ok.1.2.2.2.1 ok.2.1 hP wl_D hS a (wl_obj ha hc.2.2.2.1) hc.1 k hk (ok.1.2.2.2.2 _ hw) (fun x h => h) hfin hpd rfl rfl (by rw [List.length_map, List.length_range, hc.2.2.1]; exact hk) hd (fun H1 locs1 hP1 hD1 hS1 => by
      rw [wl_fi ha hc.2.2.2.1 (by rw [hc.2.2.1]; exact hk) ht] at hP1
      exact kk rfl ls hl H1 locs1 hP1 hS1)))
    intro H locs hP hS
    refine lv_dup ok.1.1 ok.1.2.1 hd1 rfl ?_
    exact va_get ok.1.1 ok.1.2.1 ok.1.2.2.2.2 hc.2.1 ok.1.2.2.2.1 ok.2.1 hP a (wl_obj ha hc.2.2.2.1) hc.1 k hk (ok.1.2.2.2.2 _ hw) (fun x h => h) (by rw [fv_at (by rw [hc.2.2.1]; exact hk)]; simp [fv, ht]) hd2 (key H locs hP hS)
  · simp only [if_neg ha] at hf
    cases hf
theorem v_foi_ior {f : Rx} {g : Ix} (hc : Cls ci C T N ty) (hw : Fld own ix T k) (hk : k < N) (ht : ft ci k = 0) (hfin : (T k).2.2.2 = false) (hpd : parseFieldDescriptor (T k).2.2.1 = some .int) (h1 : Vr own cc nL R 0 pc p1 f) (hd1 : decode cc p1 = .ok (.dup, 1)) (hd2 : decode cc (p1 + 1) = .ok (.getfield ix, 3)) (hp2 : p1 + 1 + 3 = p2) (h2 : Vi own cc nL R 2 p2 p3 g) (hd3 : decode cc p3 = .ok (.ior, 1)) (hd : decode cc (p3 + 1) = .ok (.putfield ix, 3)) (hp : p3 + 1 + 3 = p4) : Vs own cc nL R pc p4 (foi (· ||| ·) ci k f g) := by
  intro p l e s m args below meth c h0 D cy tt cells slots Q ok ls r r' M M' x hl hf kk kr
  obtain ⟨⟨a, M1⟩, e1, hf⟩ := bind2 hf
  subst hp; subst hp2
  by_cases ha : kd a = ci
  · simp only [if_pos ha] at hf
    obtain ⟨⟨z, M2⟩, e2, hf⟩ := bind2 hf
    cases hf
    refine h1 p l e s m args below meth c h0 D cy tt cells slots Q ok ls [] r M M1 a hl (Nat.le_refl 0) e1 ?_
    have key := h2 p l e s m args below meth c h0 D cy tt cells slots Q ok ls [.int (M1.1 a k), .ref (h0 + a)] r M1 M2 z hl (Nat.le_refl 2) e2 (fun H locs hP hS => lv_ior ok.1.1 ok.1.2.1 hd3 (va_put ok.1.1 ok.1.2.1 ok.1.2.2.2.2 hc.2.1 ty hc.2.2.2.2.1 hc.2.2.2.2.2 ok.1.2.2.2.1 ok.2.1 hP wl_D hS a (wl_obj ha hc.2.2.2.1) hc.1 k hk (ok.1.2.2.2.2 _ hw) (fun x h => h) hfin hpd rfl rfl (by rw [List.length_map, List.length_range, hc.2.2.1]; exact hk) hd (fun H1 locs1 hP1 hD1 hS1 => by
      rw [wl_fi ha hc.2.2.2.1 (by rw [hc.2.2.1]; exact hk) ht] at hP1
      exact kk rfl ls hl H1 locs1 hP1 hS1)))
    intro H locs hP hS
    refine lv_dup ok.1.1 ok.1.2.1 hd1 rfl ?_
    exact va_get ok.1.1 ok.1.2.1 ok.1.2.2.2.2 hc.2.1 ok.1.2.2.2.1 ok.2.1 hP a (wl_obj ha hc.2.2.2.1) hc.1 k hk (ok.1.2.2.2.2 _ hw) (fun x h => h) (by rw [fv_at (by rw [hc.2.2.1]; exact hk)]; simp [fv, ht]) hd2 (key H locs hP hS)
  · simp only [if_neg ha] at hf
    cases hf
theorem v_foj_ladd {f : Rx} {g : Jx} (hc : Cls ci C T N ty) (hw : Fld own ix T k) (hk : k < N) (ht : ft ci k = 1) (hfin : (T k).2.2.2 = false) (hpd : parseFieldDescriptor (T k).2.2.1 = some .long) (h1 : Vr own cc nL R 0 pc p1 f) (hd1 : decode cc p1 = .ok (.dup, 1)) (hd2 : decode cc (p1 + 1) = .ok (.getfield ix, 3)) (hp2 : p1 + 1 + 3 = p2) (h2 : Vj own cc nL R 3 p2 p3 g) (hd3 : decode cc p3 = .ok (.ladd, 1)) (hd : decode cc (p3 + 1) = .ok (.putfield ix, 3)) (hp : p3 + 1 + 3 = p4) : Vs own cc nL R pc p4 (foj (· + ·) ci k f g) := by
  intro p l e s m args below meth c h0 D cy tt cells slots Q ok ls r r' M M' x hl hf kk kr
  obtain ⟨⟨a, M1⟩, e1, hf⟩ := bind2 hf
  subst hp; subst hp2
  by_cases ha : kd a = ci
  · simp only [if_pos ha] at hf
    obtain ⟨⟨z, M2⟩, e2, hf⟩ := bind2 hf
    cases hf
    refine h1 p l e s m args below meth c h0 D cy tt cells slots Q ok ls [] r M M1 a hl (Nat.le_refl 0) e1 ?_
    have key := h2 p l e s m args below meth c h0 D cy tt cells slots Q ok ls [.long (M1.2 a k), .ref (h0 + a)] r M1 M2 z hl (Nat.le_refl 3) e2 (fun H locs hP hS => lv_ladd ok.1.1 ok.1.2.1 hd3 (va_put ok.1.1 ok.1.2.1 ok.1.2.2.2.2 hc.2.1 ty hc.2.2.2.2.1 hc.2.2.2.2.2 ok.1.2.2.2.1 ok.2.1 hP wl_D hS a (wl_obj ha hc.2.2.2.1) hc.1 k hk (ok.1.2.2.2.2 _ hw) (fun x h => h) hfin hpd rfl rfl (by rw [List.length_map, List.length_range, hc.2.2.1]; exact hk) hd (fun H1 locs1 hP1 hD1 hS1 => by
      rw [wl_fj ha hc.2.2.2.1 (by rw [hc.2.2.1]; exact hk) ht] at hP1
      exact kk rfl ls hl H1 locs1 hP1 hS1)))
    intro H locs hP hS
    refine lv_dup ok.1.1 ok.1.2.1 hd1 rfl ?_
    exact va_get ok.1.1 ok.1.2.1 ok.1.2.2.2.2 hc.2.1 ok.1.2.2.2.1 ok.2.1 hP a (wl_obj ha hc.2.2.2.1) hc.1 k hk (ok.1.2.2.2.2 _ hw) (fun x h => h) (by rw [fv_at (by rw [hc.2.2.1]; exact hk)]; simp [fv, ht]) hd2 (key H locs hP hS)
  · simp only [if_neg ha] at hf
    cases hf
theorem v_aii {f : Rx} {g : Ix} {h : Ix} (h1 : Vr own cc nL R 0 pc p1 f) (h2 : Vi own cc nL R 1 p1 p2 g) (h3 : Vi own cc nL R 2 p2 p3 h) (hd : decode cc p3 = .ok (.iastore, 1)) (hp : p3 + 1 = p4) : Vs own cc nL R pc p4 (aii f g h) := by
  intro p l e s m args below meth c h0 D cy tt cells slots Q ok ls r r' M M' x hl hf kk kr
  obtain ⟨⟨a, M1⟩, e1, hf⟩ := bind2 hf
  obtain ⟨⟨i, M2⟩, e2, hf⟩ := bind2 hf
  obtain ⟨⟨z, M3⟩, e3, hf⟩ := bind2 hf
  subst hp
  by_cases ha : kd a = 8 ∧ inr i (ln a) = true
  · rw [if_pos ha] at hf
    cases hf
    refine h1 p l e s m args below meth c h0 D cy tt cells slots Q ok ls [] r M M1 a hl (Nat.le_refl 0) e1 (h2 p l e s m args below meth c h0 D cy tt cells slots Q ok ls _ r M1 M2 i hl (Nat.le_refl 1) e2 (h3 p l e s m args below meth c h0 D cy tt cells slots Q ok ls _ r M2 M3 z hl (Nat.le_refl 2) e3 ?_))
    intro H locs hP hS
    refine va_iast ok.1.1 ok.1.2.1 ok.2.1 hP wl_D hS a 0 (wl_int ha.1) rfl (inr_in ha.2) hd (fun H1 locs1 hP1 hD1 hS1 => ?_)
    rw [wl_si ha.1] at hP1
    exact kk rfl ls hl H1 locs1 hP1 hS1
  · rw [if_neg ha] at hf
    cases hf
theorem v_aiz {f : Rx} {g : Ix} {h : Ix} (h1 : Vr own cc nL R 0 pc p1 f) (h2 : Vi own cc nL R 1 p1 p2 g) (h3 : Vi own cc nL R 2 p2 p3 h) (hd : decode cc p3 = .ok (.bastore, 1)) (hp : p3 + 1 = p4) : Vs own cc nL R pc p4 (aiz f g h) := by
  intro p l e s m args below meth c h0 D cy tt cells slots Q ok ls r r' M M' x hl hf kk kr
  obtain ⟨⟨a, M1⟩, e1, hf⟩ := bind2 hf
  obtain ⟨⟨i, M2⟩, e2, hf⟩ := bind2 hf
  obtain ⟨⟨z, M3⟩, e3, hf⟩ := bind2 hf
  subst hp
  by_cases ha : kd a = 10 ∧ inr i (ln a) = true
  · rw [if_pos ha] at hf
    cases hf
    refine h1 p l e s m args below meth c h0 D cy tt cells slots Q ok ls [] r M M1 a hl (Nat.le_refl 0) e1 (h2 p l e s m args below meth c h0 D cy tt cells slots Q ok ls _ r M1 M2 i hl (Nat.le_refl 1) e2 (h3 p l e s m args below meth c h0 D cy tt cells slots Q ok ls _ r M2 M3 z hl (Nat.le_refl 2) e3 ?_))
    intro H locs hP hS
    refine va_zast ok.1.1 ok.1.2.1 ok.2.1 hP wl_D hS a 2 (wl_bool ha.1) rfl (inr_in ha.2) hd (fun H1 locs1 hP1 hD1 hS1 => ?_)
    rw [wl_sz ha.1] at hP1
    exact kk rfl ls hl H1 locs1 hP1 hS1
  · rw [if_neg ha] at hf
    cases hf
theorem v_aij {f : Rx} {g : Ix} {h : Jx} (h1 : Vr own cc nL R 0 pc p1 f) (h2 : Vi own cc nL R 1 p1 p2 g) (h3 : Vj own cc nL R 2 p2 p3 h) (hd : decode cc p3 = .ok (.lastore, 1)) (hp : p3 + 1 = p4) : Vs own cc nL R pc p4 (aij f g h) := by
  intro p l e s m args below meth c h0 D cy tt cells slots Q ok ls r r' M M' x hl hf kk kr
  obtain ⟨⟨a, M1⟩, e1, hf⟩ := bind2 hf
  obtain ⟨⟨i, M2⟩, e2, hf⟩ := bind2 hf
  obtain ⟨⟨z, M3⟩, e3, hf⟩ := bind2 hf
  subst hp
  by_cases ha : kd a = 9 ∧ inr i (ln a) = true
  · rw [if_pos ha] at hf
    cases hf
    refine h1 p l e s m args below meth c h0 D cy tt cells slots Q ok ls [] r M M1 a hl (Nat.le_refl 0) e1 (h2 p l e s m args below meth c h0 D cy tt cells slots Q ok ls _ r M1 M2 i hl (Nat.le_refl 1) e2 (h3 p l e s m args below meth c h0 D cy tt cells slots Q ok ls _ r M2 M3 z hl (Nat.le_refl 2) e3 ?_))
    intro H locs hP hS
    refine va_last ok.1.1 ok.1.2.1 ok.2.1 hP wl_D hS a 1 (wl_long ha.1) rfl (inr_in ha.2) hd (fun H1 locs1 hP1 hD1 hS1 => ?_)
    rw [wl_sj ha.1] at hP1
    exact kk rfl ls hl H1 locs1 hP1 hS1
  · rw [if_neg ha] at hf
    cases hf
theorem v_aoi_iadd {f : Rx} {g : Ix} {h : Ix} (h1 : Vr own cc nL R 0 pc p1 f) (h2 : Vi own cc nL R 1 p1 p2 g) (hd1 : decode cc p2 = .ok (.dup2, 1)) (hd2 : decode cc (p2 + 1) = .ok (.iaload, 1)) (hp2 : p2 + 1 + 1 = p3) (h3 : Vi own cc nL R 3 p3 p4 h) (hd3 : decode cc p4 = .ok (.iadd, 1)) (hd : decode cc (p4 + 1) = .ok (.iastore, 1)) (hp : p4 + 1 + 1 = p5) : Vs own cc nL R pc p5 (aoi (· + ·) f g h) := by
  intro p l e s m args below meth c h0 D cy tt cells slots Q ok ls r r' M M' x hl hf kk kr
  obtain ⟨⟨a, M1⟩, e1, hf⟩ := bind2 hf
  obtain ⟨⟨i, M2⟩, e2, hf⟩ := bind2 hf
  subst hp; subst hp2
  by_cases ha : kd a = 8 ∧ inr i (ln a) = true
  · simp only [if_pos ha] at hf
    obtain ⟨⟨z, M3⟩, e3, hf⟩ := bind2 hf
    cases hf
    have key := h3 p l e s m args below meth c h0 D cy tt cells slots Q ok ls [.int (M2.1 a i.toNatClampNeg), .int i, .ref (h0 + a)] r M2 M3 z hl (Nat.le_refl 3) e3 (fun H locs hP hS => lv_iadd ok.1.1 ok.1.2.1 hd3 (va_iast ok.1.1 ok.1.2.1 ok.2.1 hP wl_D hS a 0 (wl_int ha.1) rfl (inr_in ha.2) hd (fun H1 locs1 hP1 hD1 hS1 => by
      rw [wl_si ha.1] at hP1
      exact kk rfl ls hl H1 locs1 hP1 hS1)))
    refine h1 p l e s m args below meth c h0 D cy tt cells slots Q ok ls [] r M M1 a hl (Nat.le_refl 0) e1 (h2 p l e s m args below meth c h0 D cy tt cells slots Q ok ls _ r M1 M2 i hl (Nat.le_refl 1) e2 ?_)
    intro H locs hP hS
    refine lv_dup2_11 ok.1.1 ok.1.2.1 hd1 rfl rfl ?_
    exact va_iald ok.1.1 ok.1.2.1 ok.2.1 hP a 0 (wl_int ha.1) rfl (inr_in ha.2) hd2 (key H locs hP hS)
  · simp only [if_neg ha] at hf
    cases hf
theorem v_aoi_isub {f : Rx} {g : Ix} {h : Ix} (h1 : Vr own cc nL R 0 pc p1 f) (h2 : Vi own cc nL R 1 p1 p2 g) (hd1 : decode cc p2 = .ok (.dup2, 1)) (hd2 : decode cc (p2 + 1) = .ok (.iaload, 1)) (hp2 : p2 + 1 + 1 = p3) (h3 : Vi own cc nL R 3 p3 p4 h) (hd3 : decode cc p4 = .ok (.isub, 1)) (hd : decode cc (p4 + 1) = .ok (.iastore, 1)) (hp : p4 + 1 + 1 = p5) : Vs own cc nL R pc p5 (aoi (· - ·) f g h) := by
  intro p l e s m args below meth c h0 D cy tt cells slots Q ok ls r r' M M' x hl hf kk kr
  obtain ⟨⟨a, M1⟩, e1, hf⟩ := bind2 hf
  obtain ⟨⟨i, M2⟩, e2, hf⟩ := bind2 hf
  subst hp; subst hp2
  by_cases ha : kd a = 8 ∧ inr i (ln a) = true
  · simp only [if_pos ha] at hf
    obtain ⟨⟨z, M3⟩, e3, hf⟩ := bind2 hf
    cases hf
    have key := h3 p l e s m args below meth c h0 D cy tt cells slots Q ok ls [.int (M2.1 a i.toNatClampNeg), .int i, .ref (h0 + a)] r M2 M3 z hl (Nat.le_refl 3) e3 (fun H locs hP hS => lv_isub ok.1.1 ok.1.2.1 hd3 (va_iast ok.1.1 ok.1.2.1 ok.2.1 hP wl_D hS a 0 (wl_int ha.1) rfl (inr_in ha.2) hd (fun H1 locs1 hP1 hD1 hS1 => by
      rw [wl_si ha.1] at hP1
      exact kk rfl ls hl H1 locs1 hP1 hS1)))
    refine h1 p l e s m args below meth c h0 D cy tt cells slots Q ok ls [] r M M1 a hl (Nat.le_refl 0) e1 (h2 p l e s m args below meth c h0 D cy tt cells slots Q ok ls _ r M1 M2 i hl (Nat.le_refl 1) e2 ?_)
    intro H locs hP hS
    refine lv_dup2_11 ok.1.1 ok.1.2.1 hd1 rfl rfl ?_
    exact va_iald ok.1.1 ok.1.2.1 ok.2.1 hP a 0 (wl_int ha.1) rfl (inr_in ha.2) hd2 (key H locs hP hS)
  · simp only [if_neg ha] at hf
    cases hf
theorem v_aoi_ixor {f : Rx} {g : Ix} {h : Ix} (h1 : Vr own cc nL R 0 pc p1 f) (h2 : Vi own cc nL R 1 p1 p2 g) (hd1 : decode cc p2 = .ok (.dup2, 1)) (hd2 : decode cc (p2 + 1) = .ok (.iaload, 1)) (hp2 : p2 + 1 + 1 = p3) (h3 : Vi own cc nL R 3 p3 p4 h) (hd3 : decode cc p4 = .ok (.ixor, 1)) (hd : decode cc (p4 + 1) = .ok (.iastore, 1)) (hp : p4 + 1 + 1 = p5) : Vs own cc nL R pc p5 (aoi (· ^^^ ·) f g h) := by
  intro p l e s m args below meth c h0 D cy tt cells slots Q ok ls r r' M M' x hl hf kk kr
  obtain ⟨⟨a, M1⟩, e1, hf⟩ := bind2 hf
  obtain ⟨⟨i, M2⟩, e2, hf⟩ := bind2 hf
  subst hp; subst hp2
  by_cases ha : kd a = 8 ∧ inr i (ln a) = true
  · simp only [if_pos ha] at hf
    obtain ⟨⟨z, M3⟩, e3, hf⟩ := bind2 hf
    cases hf
    have key := h3 p l e s m args below meth c h0 D cy tt cells slots Q ok ls [.int (M2.1 a i.toNatClampNeg), .int i, .ref (h0 + a)] r M2 M3 z hl (Nat.le_refl 3) e3 (fun H locs hP hS => lv_ixor ok.1.1 ok.1.2.1 hd3 (va_iast ok.1.1 ok.1.2.1 ok.2.1 hP wl_D hS a 0 (wl_int ha.1) rfl (inr_in ha.2) hd (fun H1 locs1 hP1 hD1 hS1 => by
      rw [wl_si ha.1] at hP1
      exact kk rfl ls hl H1 locs1 hP1 hS1)))
    refine h1 p l e s m args below meth c h0 D cy tt cells slots Q ok ls [] r M M1 a hl (Nat.le_refl 0) e1 (h2 p l e s m args below meth c h0 D cy tt cells slots Q ok ls _ r M1 M2 i hl (Nat.le_refl 1) e2 ?_)
    intro H locs hP hS
    refine lv_dup2_11 ok.1.1 ok.1.2.1 hd1 rfl rfl ?_
    exact va_iald ok.1.1 ok.1.2.1 ok.2.1 hP a 0 (wl_int ha.1) rfl (inr_in ha.2) hd2 (key H locs hP hS)
  · simp only [if_neg ha] at hf
    cases hf
theorem v_aoj_ladd {f : Rx} {g : Ix} {h : Jx} (h1 : Vr own cc nL R 0 pc p1 f) (h2 : Vi own cc nL R 1 p1 p2 g) (hd1 : decode cc p2 = .ok (.dup2, 1)) (hd2 : decode cc (p2 + 1) = .ok (.laload, 1)) (hp2 : p2 + 1 + 1 = p3) (h3 : Vj own cc nL R 4 p3 p4 h) (hd3 : decode cc p4 = .ok (.ladd, 1)) (hd : decode cc (p4 + 1) = .ok (.lastore, 1)) (hp : p4 + 1 + 1 = p5) : Vs own cc nL R pc p5 (aoj (· + ·) f g h) := by
  intro p l e s m args below meth c h0 D cy tt cells slots Q ok ls r r' M M' x hl hf kk kr
  obtain ⟨⟨a, M1⟩, e1, hf⟩ := bind2 hf
  obtain ⟨⟨i, M2⟩, e2, hf⟩ := bind2 hf
  subst hp; subst hp2
  by_cases ha : kd a = 9 ∧ inr i (ln a) = true
  · simp only [if_pos ha] at hf
    obtain ⟨⟨z, M3⟩, e3, hf⟩ := bind2 hf
    cases hf
    have key := h3 p l e s m args below meth c h0 D cy tt cells slots Q ok ls [.long (M2.2 a i.toNatClampNeg), .int i, .ref (h0 + a)] r M2 M3 z hl (Nat.le_refl 4) e3 (fun H locs hP hS => lv_ladd ok.1.1 ok.1.2.1 hd3 (va_last ok.1.1 ok.1.2.1 ok.2.1 hP wl_D hS a 1 (wl_long ha.1) rfl (inr_in ha.2) hd (fun H1 locs1 hP1 hD1 hS1 => by
      rw [wl_sj ha.1] at hP1
      exact kk rfl ls hl H1 locs1 hP1 hS1)))
    refine h1 p l e s m args below meth c h0 D cy tt cells slots Q ok ls [] r M M1 a hl (Nat.le_refl 0) e1 (h2 p l e s m args below meth c h0 D cy tt cells slots Q ok ls _ r M1 M2 i hl (Nat.le_refl 1) e2 ?_)
    intro H locs hP hS
    refine lv_dup2_11 ok.1.1 ok.1.2.1 hd1 rfl rfl ?_
    exact va_lald ok.1.1 ok.1.2.1 ok.2.1 hP a 1 (wl_long ha.1) rfl (inr_in ha.2) hd2 (key H locs hP hS)
  · simp only [if_neg ha] at hf
    cases hf
theorem v_aoj_lsub {f : Rx} {g : Ix} {h : Jx} (h1 : Vr own cc nL R 0 pc p1 f) (h2 : Vi own cc nL R 1 p1 p2 g) (hd1 : decode cc p2 = .ok (.dup2, 1)) (hd2 : decode cc (p2 + 1) = .ok (.laload, 1)) (hp2 : p2 + 1 + 1 = p3) (h3 : Vj own cc nL R 4 p3 p4 h) (hd3 : decode cc p4 = .ok (.lsub, 1)) (hd : decode cc (p4 + 1) = .ok (.lastore, 1)) (hp : p4 + 1 + 1 = p5) : Vs own cc nL R pc p5 (aoj (· - ·) f g h) := by
  intro p l e s m args below meth c h0 D cy tt cells slots Q ok ls r r' M M' x hl hf kk kr
  obtain ⟨⟨a, M1⟩, e1, hf⟩ := bind2 hf
  obtain ⟨⟨i, M2⟩, e2, hf⟩ := bind2 hf
  subst hp; subst hp2
  by_cases ha : kd a = 9 ∧ inr i (ln a) = true
  · simp only [if_pos ha] at hf
    obtain ⟨⟨z, M3⟩, e3, hf⟩ := bind2 hf
    cases hf
    have key := h3 p l e s m args below meth c h0 D cy tt cells slots Q ok ls [.long (M2.2 a i.toNatClampNeg), .int i, .ref (h0 + a)] r M2 M3 z hl (Nat.le_refl 4) e3 (fun H locs hP hS => lv_lsub ok.1.1 ok.1.2.1 hd3 (va_last ok.1.1 ok.1.2.1 ok.2.1 hP wl_D hS a 1 (wl_long ha.1) rfl (inr_in ha.2) hd (fun H1 locs1 hP1 hD1 hS1 => by
      rw [wl_sj ha.1] at hP1
      exact kk rfl ls hl H1 locs1 hP1 hS1)))
    refine h1 p l e s m args below meth c h0 D cy tt cells slots Q ok ls [] r M M1 a hl (Nat.le_refl 0) e1 (h2 p l e s m args below meth c h0 D cy tt cells slots Q ok ls _ r M1 M2 i hl (Nat.le_refl 1) e2 ?_)
    intro H locs hP hS
    refine lv_dup2_11 ok.1.1 ok.1.2.1 hd1 rfl rfl ?_
    exact va_lald ok.1.1 ok.1.2.1 ok.2.1 hP a 1 (wl_long ha.1) rfl (inr_in ha.2) hd2 (key H locs hP hS)
  · simp only [if_neg ha] at hf
    cases hf
end
