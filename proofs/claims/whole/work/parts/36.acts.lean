/-! ===== one number changes ===== -/
theorem upd_s {X : Nat → Int32} {k : Nat} {v : Int32} : upd X k v k = v := by simp [upd]
theorem upd_n {X : Nat → Int32} {k i : Nat} {v : Int32} (h : i ≠ k) : upd X k v i = X i := by simp [upd, h]
set_option maxRecDepth 20000 in
theorem wtT_c3 {X Y : Nat → Int32} {x : Int32} : ∀ n, (∀ t, t < n → Y (28 + 4 * t) = X (28 + 4 * t) ∧ Y (28 + 4 * t + 1) = X (28 + 4 * t + 1) ∧ Y (28 + 4 * t + 2) = X (28 + 4 * t + 2)) → wtT Y x n = wtT X x n
  | 0, _ => rfl
  | n + 1, h => by
    obtain ⟨a, b, c⟩ := h n (by omega)
    simp only [wtT]; rw [wtT_c3 n (fun t ht => h t (by omega)), a, b, c]
set_option maxRecDepth 20000 in
theorem gsp_c3 {X Y : Nat → Int32} {p : Nat} : ∀ n, (∀ k, k < n → Y (68 + 9 * p + 2 + k) = X (68 + 9 * p + 2 + k)) → gsp Y p n = gsp X p n
  | 0, _ => rfl
  | n + 1, h => by simp only [gsp]; rw [gsp_c3 n (fun t ht => h t (by omega)), h n (by omega)]
set_option maxRecDepth 20000 in
theorem wtP_c3 {X Y : Nat → Int32} {x z : Int32} : ∀ n, (∀ p, p < n → Y (68 + 9 * p) = X (68 + 9 * p) ∧ ∀ k, k < 3 → Y (68 + 9 * p + 2 + k) = X (68 + 9 * p + 2 + k)) → wtP Y x z n = wtP X x z n
  | 0, _ => rfl
  | n + 1, h => by
    obtain ⟨a, b⟩ := h n (by omega)
    simp only [wtP]; rw [wtP_c3 n (fun t ht => h t (by omega)), a, gsp_c3 3 b]
section
variable {M : Me} {b : Nat} {X : Nat → Int32} {nc nt np nw tm : Nat}
set_option maxRecDepth 20000 in
theorem Vx.opn (h : Vx X nc nt np nw tm) {t v : Nat} (ht : t < nt) (hv : v ≤ 1) : Vx (upd X (28 + 4 * t + 3) (nI v)) nc nt np nw tm := by
  have hb := h.2.1
  refine h.tu (fun i hi hn => upd_n (by omega)) (fun s hs => ?_) (fun c hc => ?_)
  · obtain ⟨f, g, d, oo, v1, v2, v3, v4, v5, v6, v7, v8, v9, v10⟩ := h.2.2.2.2.1 s hs
    by_cases e : s = t
    · subst e
      exact ⟨f, g, d, v, by rw [upd_n (by omega)]; exact v1, by rw [upd_n (by omega)]; exact v2, v3, v4, v5, by rw [upd_n (by omega)]; exact v6, v7, v8, upd_s, hv⟩
    · exact ⟨f, g, d, oo, by rw [upd_n (by omega)]; exact v1, by rw [upd_n (by omega)]; exact v2, v3, v4, v5, by rw [upd_n (by omega)]; exact v6, v7, v8, by rw [upd_n (by omega)]; exact v9, v10⟩
  · rw [wtT_c3 nt (fun s hs => ⟨upd_n (by omega), upd_n (by omega), upd_n (by omega)⟩), wtP_c3 np (fun p hp => ⟨upd_n (by omega), fun k hk => upd_n (by omega)⟩)]
    exact h.2.2.2.2.2.2.2.1 c hc
set_option maxRecDepth 20000 in
theorem Lr.opn (h : Lr M b X nc nt np nw tm) (hc : nc ≤ 5) (h2 : nt ≤ 10) (hp : np ≤ 3) (hw : nw ≤ 6) {t : Nat} {v : Int32} (ht : t < nt) : Lr (wi M (b + 8 + t) 3 v) b (upd X (28 + 4 * t + 3) v) nc nt np nw tm := by
  refine h.tu hc h2 hp hw (fun i hi hn => upd_n (by omega)) (fun a z1 z2 z3 => wi_ne (by omega)) (fun s hs j hj => ?_)
  by_cases e : s = t
  · subst e
    by_cases e2 : j = 3
    · subst e2
      rw [upd_s]; simp [wi]
    · rw [upd_n (by omega), wi_ns (by omega)]; exact h.2.2.2.2.1 s hs j hj
  · rw [upd_n (by omega), wi_ne (by omega)]; exact h.2.2.2.2.1 s hs j hj
set_option maxRecDepth 20000 in
theorem Vx.runs (h : Vx X nc nt np nw tm) {t v : Nat} (ht : t < np) (hv : v ≤ 1) : Vx (upd X (68 + 9 * t + 1) (nI v)) nc nt np nw tm := by
  have hb := h.2.1
  refine h.pu (fun i hi hn => upd_n (by omega)) (fun s hs => ?_) (fun c hc => ?_)
  · obtain ⟨f, oo, s0, s1, s2, b0, b1, tr, td, ⟨v1, v2, v3, v4, v5, v6, v7, v8, v9⟩, z⟩ := h.2.2.2.2.2.1 s hs
    by_cases e : s = t
    · subst e
      exact ⟨f, v, s0, s1, s2, b0, b1, tr, td, ⟨by rw [upd_n (by omega)]; exact v1, upd_s, by rw [upd_n (by omega)]; exact v3, by rw [upd_n (by omega)]; exact v4, by rw [upd_n (by omega)]; exact v5, by rw [upd_n (by omega)]; exact v6, by rw [upd_n (by omega)]; exact v7, by rw [upd_n (by omega)]; exact v8, by rw [upd_n (by omega)]; exact v9⟩, z.1, hv, z.2.2⟩
    · exact ⟨f, oo, s0, s1, s2, b0, b1, tr, td, ⟨by rw [upd_n (by omega)]; exact v1, by rw [upd_n (by omega)]; exact v2, by rw [upd_n (by omega)]; exact v3, by rw [upd_n (by omega)]; exact v4, by rw [upd_n (by omega)]; exact v5, by rw [upd_n (by omega)]; exact v6, by rw [upd_n (by omega)]; exact v7, by rw [upd_n (by omega)]; exact v8, by rw [upd_n (by omega)]; exact v9⟩, z⟩
  · rw [wtT_c3 nt (fun s hs => ⟨upd_n (by omega), upd_n (by omega), upd_n (by omega)⟩), wtP_c3 np (fun p hp => ⟨upd_n (by omega), fun k hk => upd_n (by omega)⟩)]
    exact h.2.2.2.2.2.2.2.1 c hc
set_option maxRecDepth 20000 in
theorem Lr.runs (h : Lr M b X nc nt np nw tm) (hc : nc ≤ 5) (h2 : nt ≤ 10) (hp : np ≤ 3) (hw : nw ≤ 6) {t : Nat} {v : Int32} (ht : t < np) (q : Nat) (hq : q < 9) : Lr (wi M (b + 19 + t) q v) b (upd X (68 + 9 * t + q) v) nc nt np nw tm := by
  refine h.pu hc h2 hp hw (fun i hi hn => upd_n (by omega)) (fun a z1 z2 z3 => wi_ne (by omega)) (fun s hs j hj => ?_)
  by_cases e : s = t
  · subst e
    by_cases e2 : j = q
    · subst e2
      rw [upd_s]; simp [wi]
    · rw [upd_n (by omega), wi_ns (by omega)]; exact h.2.2.2.2.2.1 s hs j hj
  · rw [upd_n (by omega), wi_ne (by omega)]; exact h.2.2.2.2.2.1 s hs j hj
def topC (j : Nat) : Nat := if j = 0 then 99 else if j = 1 then 4999 else if j = 2 then 9 else 100000000
set_option maxRecDepth 20000 in
theorem Vx.cham (h : Vx X nc nt np nw tm) {t j : Nat} {v : Int32} (ht : t < nc) (hj : j < 4) (hv : Bd v (topC j)) : Vx (upd X (8 + 4 * t + j) v) nc nt np nw tm := by
  have hb := h.2.1
  refine h.ch (fun i hi hn => upd_n (by omega)) (fun s hs => ?_)
  obtain ⟨v1, v2, v3, v4⟩ := h.2.2.2.1 s hs
  by_cases e : s = t
  · subst e
    rcases (by omega : j = 0 ∨ j = 1 ∨ j = 2 ∨ j = 3) with rfl | rfl | rfl | rfl
    · exact ⟨by rw [show 8 + 4 * s = 8 + 4 * s + 0 from rfl, upd_s]; exact hv, by rw [upd_n (by omega)]; exact v2, by rw [upd_n (by omega)]; exact v3, by rw [upd_n (by omega)]; exact v4⟩
    · exact ⟨by rw [upd_n (by omega)]; exact v1, by rw [upd_s]; exact hv, by rw [upd_n (by omega)]; exact v3, by rw [upd_n (by omega)]; exact v4⟩
    · exact ⟨by rw [upd_n (by omega)]; exact v1, by rw [upd_n (by omega)]; exact v2, by rw [upd_s]; exact hv, by rw [upd_n (by omega)]; exact v4⟩
    · exact ⟨by rw [upd_n (by omega)]; exact v1, by rw [upd_n (by omega)]; exact v2, by rw [upd_n (by omega)]; exact v3, by rw [upd_s]; exact hv⟩
  · exact ⟨by rw [upd_n (by omega)]; exact v1, by rw [upd_n (by omega)]; exact v2, by rw [upd_n (by omega)]; exact v3, by rw [upd_n (by omega)]; exact v4⟩
set_option maxRecDepth 20000 in
theorem Lr.cham (h : Lr M b X nc nt np nw tm) (hc : nc ≤ 5) (h2 : nt ≤ 10) (hp : np ≤ 3) (hw : nw ≤ 6) {t q : Nat} {v w : Int32} (ht : t < nc) (hq : q < 4) (hv : (q < 3 ∧ w = v) ∨ (q = 3 ∧ v + nI 1 = w)) : Lr (wi M (b + 2 + t) q v) b (upd X (8 + 4 * t + q) w) nc nt np nw tm := by
  refine h.ch hc h2 hp hw (fun i hi hn => upd_n (by omega)) (fun a z1 z2 z3 => wi_ne (by omega)) (fun s hs j hj => ?_) (fun s hs => ?_)
  · by_cases e : s = t
    · subst e
      by_cases e2 : j = q
      · subst e2
        rw [upd_s]
        rcases hv with ⟨-, rfl⟩ | ⟨z, -⟩
        · simp [wi]
        · omega
      · rw [upd_n (by omega), wi_ns (by omega)]; exact h.2.2.1 s hs j hj
    · rw [upd_n (by omega), wi_ne (by omega)]; exact h.2.2.1 s hs j hj
  · by_cases e : s = t
    · subst e
      by_cases e2 : 3 = q
      · subst e2
        rw [upd_s]
        rcases hv with ⟨z, -⟩ | ⟨-, z⟩
        · omega
        · rw [← z]; simp [wi]
      · rw [upd_n (by omega), wi_ns (by omega)]; exact h.2.2.2.1 s hs
    · rw [upd_n (by omega), wi_ne (by omega)]; exact h.2.2.2.1 s hs
end
/-! ===== the simple acts ===== -/
set_option maxRecDepth 20000 in
theorem r_rem {M Ma M1 : Me} {nc nt np nw tm o u : Nat} (k : Int32) (h : Core M nc nt np nw tm o u) (ha : ∀ a, ¬ (a = 0 ∨ a = 126 ∨ (128 ≤ a ∧ a ≤ 428)) → Ma.1 a = M.1 a) (h1 : ∀ a, ¬ (1 ≤ a ∧ a < 31) → M1.1 a = Ma.1 a) : ∃ Nz, DX8_remember [.ref 492, .int k] (wi M1 492 0 (nI 0)) = some Nz ∧ Nz.1 494 = M.1 494 ∧ (∀ a, a ≠ 492 → a ≠ 495 → a ≠ 496 → Nz.1 a = M1.1 a) ∧ M1.1 494 = M.1 494 := by
  have e6 : (wi M1 492 0 (nI 0)).1 492 6 = nI u := by rw [wi_ns (by decide), h1 492 (by omega), ha 492 (by omega)]; exact h.2.2.2.1.2.2.1
  have e495 : M1.1 494 = M.1 494 := by rw [h1 494 (by omega), ha 494 (by omega)]
  refine ⟨_, r_remember e6 h.2.2.2.1.2.2.2.2.1, ?_, fun a z1 z2 z3 => ?_, e495⟩
  · split
    · rw [wi_ne (by decide), wi_ne (by decide), cpR_ne (by decide), wi_ne (by decide), shR_ne (by decide), shR_ne (by decide), wi_ne (by decide), e495]
    · rw [wi_ne (by decide), wi_ne (by decide), cpR_ne (by decide), wi_ne (by decide), e495]
  · split
    · rw [wi_ne z1, wi_ne z3, cpR_ne z2, wi_ne z1, shR_ne z3, shR_ne z2, wi_ne z1]
    · rw [wi_ne z1, wi_ne z3, cpR_ne z2, wi_ne z1]
set_option maxRecDepth 20000 in
theorem act_rf2 {M : Me} {F G : Fi} {args : List Value} {nc nt np nw tm o u k i : Nat} (h : Core M nc nt np nw tm o u) (hk : (k = 1 ∧ i = 0) ∨ (k = 2 ∧ i = 1) ∨ (k = 4 ∧ i = 2) ∨ (k = 5 ∧ i = 3)) (hF : F (.ref 0 :: args) M = some (-(nI k), rfC M k i)) (hG : G (.ref 492 :: args) (rfC M k i) = some (-(nI k), rfR (wi (rfC M k i) 492 0 (nI 0)) k)) : Act F G args M := by
  obtain ⟨h1, h2⟩ := core_refuse h hk
  exact ⟨_, _, _, hF, hG, ⟨nc, nt, np, nw, tm, o, u, h1⟩, h2⟩
theorem rfC_r {M : Me} {k i a : Nat} (h : a ≠ 0) (h2 : a ≠ 491) : (rfC M k i).1 a = M.1 a := by unfold rfC; rw [wi_ne h2, wi_ne h]
set_option maxRecDepth 20000 in
theorem ac_turn {M : Me} {nc nt np nw tm o u : Nat} (h : Core M nc nt np nw tm o u) (x : Int32) : Act DX7_turn DX8_turn [.int x] M := by
  have hb := h.1.2.1
  have hn1 := h.2.1.2.1.2.1
  have hr1 := h.1.1.2.1
  by_cases hx : inr x nt = true
  · obtain ⟨t, ht, rfl⟩ := inr_ex hx
    have ht10 : t < 10 := by omega
    obtain ⟨f, g, d, oo, v1, v2, v3, v4, v5, v6, v7, v8, v9, v10⟩ := h.1.2.2.2.2.1 t ht
    have hc3 := h.2.1.2.2.2.2.1 t ht 3 (by decide)
    obtain ⟨Ma, Mk, a1, -, -, a4, a5, -⟩ := c_accept (nI 5) h
    have eT : Ma.1 (1 + 8 + t) = M.1 (1 + 8 + t) := a4 _ (by omega)
    have kT := a_kt m1_ t ht10
    have lT := a_lt m1_ t ht10
    have eT3 : Ma.1 (1 + 8 + t) 3 = nI oo := by rw [eT, hc3, v9]
    have e1 : nI 1 - nI oo = nI (1 - oo) := pk_sub (by omega)
    have cc := c_flip (M := Ma) (b := 1) (a := 1 + 8 + t) (i := 3) kT (by rw [lT]; decide) (by rw [lT]; decide)
    rw [eT3, e1] at cc
    obtain ⟨M1, eM1⟩ : ∃ M1 : Me, M1 = wi Ma (1 + 8 + t) 3 (nI (1 - oo)) := ⟨_, rfl⟩
    rw [← eM1] at cc
    obtain ⟨Nz, hr, n1, n2, n3⟩ := r_rem (M1 := M1) (nI 5) h a4 (fun a z => by rw [eM1, wi_ne (by omega)])
    have c : DX7_turn [.ref 0, .int (nI t)] M = some (nI (1 - oo), M1) := by
      simp -implicitDefEqProofs (disch := omega) [DX7_turn, EX7_turn, kp_, bsome, bnone, gi_s, gj_s, gr_s, gv_s, ik_, jk_, il_, jl_, rl_, i2_, i2_a, i2_b, j2_, j2_a, j2_b, i2d_, i2d_a, i2d_b, j2d_, j2d_a, j2d_b, i1_, i1_a, j1_, j1_a, i2l_, i2l_a, l2i_, l2i_a, fgi_, fgi_a, fgj_, fgj_a, fgr_, fgr_a, iald_, iald_a, iald_b, zald_, zald_a, zald_b, jald_, jald_a, jald_b, rald_, rald_a, rald_b, alen_, alen_a, sald_, sald_a, ic_, ic_a, jc_, jc_a, bc_, bc_a, bc_b, bj_, bj_a, bj_b, bz_, bz_a, band_, band_a, bor_, bor_a, bnot_, bnot_a, anil_, ai_, ai_a, ai_b, aj_, aj_a, aj_b, ar_, ar_a, ar_b, kb2i_, cvi_, cvi_a, cvi_b, cvj_, cvj_a, cvj_b, cvz_, cvz_a, cvz_b, csi_, csi_a, csj_, csj_a, csz_, csz_a, snop_, sseq_, sseq_n, sseq_s, sif_, sif_a, scut_, scut_a, ssi_, ssi_a, ssj_, ssj_a, ssr_, ssr_a, sinc_, sinc_a, sret_, sret_a, sretj_, sretj_a, sretv_, spop_, spop_a, kc_scv_, scv_, scv_a, scv_b, scs_, scs_a, fpi_, fpi_a, fpi_b, fpj_, fpj_a, fpj_b, foi_, foi_a, foi_b, foj_, foj_a, foj_b, aii_, aii_a, aii_b, aii_c, aiz_, aiz_a, aiz_b, aiz_c, aij_, aij_a, aij_b, aij_c, aoi_, aoi_a, aoi_b, aoi_c, aoj_, aoj_a, aoj_b, aoj_c, scopy_, scopy_a, scopy_b, scopy_c, scopy_d, scopy_e, ssw_, ssw_a, sel_n, sel_c, mfi_, mfi_a, mfj_, mfj_a, mfz_, mfz_a, kb_mfv_, mfv_, mfv_a, cut, lset, lset2, isL, Value.category, ent, entn, if_some, if_pair, if_cons, if_int, if_long, if_ref, ite_self, gz_b, ↓icb, ↓icb2, b2i_ne, ge0, ge1, ge2, ge3, ge4, ge5, ge6, ge7, ge8, ge9, ge10, ge11, ge12, ge13, ge14, lit32, nI_add, pk_mul, clt_nI, cle_nI, cgt_nI, cge_nI, ceq_nI, cne_nI, inr_nI, nI_clamp, nI_eq, nI_leI, nI_ltI, k0, f0_0, k1_, c_isTube hn1, hx, ht, a1, cc, a_10 m1_, a_k7 m1_, a_l7 m1_, a_rt m1_]
    have hq : (wi M1 492 0 (nI 0)).1 494 1 = nI nt := by rw [wi_ne (by decide), n3]; exact hr1
    have n1t : Nz.1 494 (28 + 4 * t + 3) = nI oo := by rw [n1, v9]
    have ex : nI oo ^^^ nI 1 = nI (1 - oo) := by rcases (by omega : oo = 0 ∨ oo = 1) with rfl | rfl <;> decide
    have ey : (wi Nz 494 (28 + 4 * t + 3) (nI (1 - oo))).1 494 (28 + 4 * t + 3) = nI (1 - oo) := by simp [wi]
    have r : DX8_turn [.ref 492, .int (nI t)] M1 = some (nI (1 - oo), wi (wi Nz 494 (28 + 4 * t + 3) (nI (1 - oo))) 492 1 (nI 0)) := by
      simp -implicitDefEqProofs (disch := omega) [DX8_turn, EX8_turn, kp_, bsome, bnone, gi_s, gj_s, gr_s, gv_s, ik_, jk_, il_, jl_, rl_, i2_, i2_a, i2_b, j2_, j2_a, j2_b, i2d_, i2d_a, i2d_b, j2d_, j2d_a, j2d_b, i1_, i1_a, j1_, j1_a, i2l_, i2l_a, l2i_, l2i_a, fgi_, fgi_a, fgj_, fgj_a, fgr_, fgr_a, iald_, iald_a, iald_b, zald_, zald_a, zald_b, jald_, jald_a, jald_b, rald_, rald_a, rald_b, alen_, alen_a, sald_, sald_a, ic_, ic_a, jc_, jc_a, bc_, bc_a, bc_b, bj_, bj_a, bj_b, bz_, bz_a, band_, band_a, bor_, bor_a, bnot_, bnot_a, anil_, ai_, ai_a, ai_b, aj_, aj_a, aj_b, ar_, ar_a, ar_b, kb2i_, cvi_, cvi_a, cvi_b, cvj_, cvj_a, cvj_b, cvz_, cvz_a, cvz_b, csi_, csi_a, csj_, csj_a, csz_, csz_a, snop_, sseq_, sseq_n, sseq_s, sif_, sif_a, scut_, scut_a, ssi_, ssi_a, ssj_, ssj_a, ssr_, ssr_a, sinc_, sinc_a, sret_, sret_a, sretj_, sretj_a, sretv_, spop_, spop_a, kc_scv_, scv_, scv_a, scv_b, scs_, scs_a, fpi_, fpi_a, fpi_b, fpj_, fpj_a, fpj_b, foi_, foi_a, foi_b, foj_, foj_a, foj_b, aii_, aii_a, aii_b, aii_c, aiz_, aiz_a, aiz_b, aiz_c, aij_, aij_a, aij_b, aij_c, aoi_, aoi_a, aoi_b, aoi_c, aoj_, aoj_a, aoj_b, aoj_c, scopy_, scopy_a, scopy_b, scopy_c, scopy_d, scopy_e, ssw_, ssw_a, sel_n, sel_c, mfi_, mfi_a, mfj_, mfj_a, mfz_, mfz_a, kb_mfv_, mfv_, mfv_a, cut, lset, lset2, isL, Value.category, ent, entn, if_some, if_pair, if_cons, if_int, if_long, if_ref, ite_self, gz_b, ↓icb, ↓icb2, b2i_ne, ge0, ge1, ge2, ge3, ge4, ge5, ge6, ge7, ge8, ge9, ge10, ge11, ge12, ge13, ge14, lit32, nI_add, pk_mul, clt_nI, cle_nI, cgt_nI, cge_nI, ceq_nI, cne_nI, inr_nI, nI_clamp, nI_eq, nI_leI, nI_ltI, k492, f492_2, f492_3, f492_4, f492_5, f492_7, f492_8, f492_9, f492_10, k493, k494, k495, k496, k497, k498, k499, k500, l493, l494, l495, l496, l497, l498, l499, l500, r_isTube hq, hx, ht, hr, r_tubeAt, n1t, ex, ey, r_tell]
    have hY : (wi (wi Nz 494 (28 + 4 * t + 3) (nI (1 - oo))) 492 1 (nI 0)).1 494 = upd (M.1 494) (28 + 4 * t + 3) (nI (1 - oo)) := by rw [wi_ne (by decide), wi_same, n1]
    have hLa : Lr Ma 1 (M.1 494) nc nt np nw tm := h.2.1.frame hb.1 hb.2.1 hb.2.2.1 hb.2.2.2.1 (fun a z1 z2 => a4 a (by omega))
    have cr := core_act h a1 (M1 := M1) (fun a z => by rw [eM1, wi_ne (by omega)]) (by rw [eM1]; rfl) hr (M2 := wi (wi Nz 494 (28 + 4 * t + 3) (nI (1 - oo))) 492 1 (nI 0)) (fun a z1 z2 => by rw [wi_ne z1, wi_ne z2]) rfl (by simp [wi]) (by simp [wi]) (by rw [hY]; exact h.1.opn ht (by omega)) (by rw [hY, eM1]; exact hLa.opn hb.1 hb.2.1 hb.2.2.1 hb.2.2.2.1 ht) (by unfold Nh; rw [eM1, wi_ne (by omega), a4 1 (by omega)]; exact h.2.2.1)
    obtain ⟨⟨o2, u2, k1⟩, k2⟩ := cr
    exact ⟨_, _, _, c, r, ⟨_, _, _, _, _, _, _, k1⟩, k2⟩
  · have hx : inr x nt = false := by simpa using hx
    refine act_rf2 (k := 2) (i := 1) h (by omega) ?_ ?_
    · simp -implicitDefEqProofs (disch := omega) [DX7_turn, EX7_turn, kp_, bsome, bnone, gi_s, gj_s, gr_s, gv_s, ik_, jk_, il_, jl_, rl_, i2_, i2_a, i2_b, j2_, j2_a, j2_b, i2d_, i2d_a, i2d_b, j2d_, j2d_a, j2d_b, i1_, i1_a, j1_, j1_a, i2l_, i2l_a, l2i_, l2i_a, fgi_, fgi_a, fgj_, fgj_a, fgr_, fgr_a, iald_, iald_a, iald_b, zald_, zald_a, zald_b, jald_, jald_a, jald_b, rald_, rald_a, rald_b, alen_, alen_a, sald_, sald_a, ic_, ic_a, jc_, jc_a, bc_, bc_a, bc_b, bj_, bj_a, bj_b, bz_, bz_a, band_, band_a, bor_, bor_a, bnot_, bnot_a, anil_, ai_, ai_a, ai_b, aj_, aj_a, aj_b, ar_, ar_a, ar_b, kb2i_, cvi_, cvi_a, cvi_b, cvj_, cvj_a, cvj_b, cvz_, cvz_a, cvz_b, csi_, csi_a, csj_, csj_a, csz_, csz_a, snop_, sseq_, sseq_n, sseq_s, sif_, sif_a, scut_, scut_a, ssi_, ssi_a, ssj_, ssj_a, ssr_, ssr_a, sinc_, sinc_a, sret_, sret_a, sretj_, sretj_a, sretv_, spop_, spop_a, kc_scv_, scv_, scv_a, scv_b, scs_, scs_a, fpi_, fpi_a, fpi_b, fpj_, fpj_a, fpj_b, foi_, foi_a, foi_b, foj_, foj_a, foj_b, aii_, aii_a, aii_b, aii_c, aiz_, aiz_a, aiz_b, aiz_c, aij_, aij_a, aij_b, aij_c, aoi_, aoi_a, aoi_b, aoi_c, aoj_, aoj_a, aoj_b, aoj_c, scopy_, scopy_a, scopy_b, scopy_c, scopy_d, scopy_e, ssw_, ssw_a, sel_n, sel_c, mfi_, mfi_a, mfj_, mfj_a, mfz_, mfz_a, kb_mfv_, mfv_, mfv_a, cut, lset, lset2, isL, Value.category, ent, entn, if_some, if_pair, if_cons, if_int, if_long, if_ref, ite_self, gz_b, ↓icb, ↓icb2, b2i_ne, ge0, ge1, ge2, ge3, ge4, ge5, ge6, ge7, ge8, ge9, ge10, ge11, ge12, ge13, ge14, lit32, nI_add, pk_mul, clt_nI, cle_nI, cgt_nI, cge_nI, ceq_nI, cne_nI, inr_nI, nI_clamp, nI_eq, nI_leI, nI_ltI, k0, f0_0, k1_, c_isTube hn1, hx, c_refuse2]
    · have hq : (wi (rfC M 2 1) 492 0 (nI 0)).1 494 1 = nI nt := by rw [wi_ne (by decide), rfC_r (by decide) (by decide)]; exact hr1
      simp -implicitDefEqProofs (disch := omega) [DX8_turn, EX8_turn, kp_, bsome, bnone, gi_s, gj_s, gr_s, gv_s, ik_, jk_, il_, jl_, rl_, i2_, i2_a, i2_b, j2_, j2_a, j2_b, i2d_, i2d_a, i2d_b, j2d_, j2d_a, j2d_b, i1_, i1_a, j1_, j1_a, i2l_, i2l_a, l2i_, l2i_a, fgi_, fgi_a, fgj_, fgj_a, fgr_, fgr_a, iald_, iald_a, iald_b, zald_, zald_a, zald_b, jald_, jald_a, jald_b, rald_, rald_a, rald_b, alen_, alen_a, sald_, sald_a, ic_, ic_a, jc_, jc_a, bc_, bc_a, bc_b, bj_, bj_a, bj_b, bz_, bz_a, band_, band_a, bor_, bor_a, bnot_, bnot_a, anil_, ai_, ai_a, ai_b, aj_, aj_a, aj_b, ar_, ar_a, ar_b, kb2i_, cvi_, cvi_a, cvi_b, cvj_, cvj_a, cvj_b, cvz_, cvz_a, cvz_b, csi_, csi_a, csj_, csj_a, csz_, csz_a, snop_, sseq_, sseq_n, sseq_s, sif_, sif_a, scut_, scut_a, ssi_, ssi_a, ssj_, ssj_a, ssr_, ssr_a, sinc_, sinc_a, sret_, sret_a, sretj_, sretj_a, sretv_, spop_, spop_a, kc_scv_, scv_, scv_a, scv_b, scs_, scs_a, fpi_, fpi_a, fpi_b, fpj_, fpj_a, fpj_b, foi_, foi_a, foi_b, foj_, foj_a, foj_b, aii_, aii_a, aii_b, aii_c, aiz_, aiz_a, aiz_b, aiz_c, aij_, aij_a, aij_b, aij_c, aoi_, aoi_a, aoi_b, aoi_c, aoj_, aoj_a, aoj_b, aoj_c, scopy_, scopy_a, scopy_b, scopy_c, scopy_d, scopy_e, ssw_, ssw_a, sel_n, sel_c, mfi_, mfi_a, mfj_, mfj_a, mfz_, mfz_a, kb_mfv_, mfv_, mfv_a, cut, lset, lset2, isL, Value.category, ent, entn, if_some, if_pair, if_cons, if_int, if_long, if_ref, ite_self, gz_b, ↓icb, ↓icb2, b2i_ne, ge0, ge1, ge2, ge3, ge4, ge5, ge6, ge7, ge8, ge9, ge10, ge11, ge12, ge13, ge14, lit32, nI_add, pk_mul, clt_nI, cle_nI, cgt_nI, cge_nI, ceq_nI, cne_nI, inr_nI, nI_clamp, nI_eq, nI_leI, nI_ltI, k492, f492_2, f492_3, f492_4, f492_5, f492_7, f492_8, f492_9, f492_10, k493, k494, k495, k496, k497, k498, k499, k500, l493, l494, l495, l496, l497, l498, l499, l500, r_isTube hq, hx, r_refuse2']
