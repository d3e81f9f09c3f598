/-! ===== reduced: the loop of the reference ===== -/
section
variable {M N P : Me} {X : Nat → Int32} {w0 : Nat → Nat → Rat} {T : Nat → Option (Nat × Nat × Rat)} {n s i j a b c d u l f t p k nc nt np nw tm tB : Nat} {q r z : Rat}
theorem b2i_f0 : b2i false = nI 0 := Eq.trans rfl rfl
theorem b2i_t1 : b2i true = nI 1 := Eq.trans rfl rfl
set_option maxRecDepth 20000 in
theorem uW_o (hG : uG T n) (hD : uD T n) (hi : i < n) (hA : uA (T i) c = true) : uW T n c (uO (T i) c) ≠ 0 := by
  obtain ⟨a, b, q, e, ab⟩ := uA_s hA
  have g := hG i hi a b q e
  have w := uW_at hD hi e
  have eo : uO (T i) c = if a = c then b else a := by rw [e]; rfl
  have wq : uW T n c (uO (T i) c) = q := by
    rw [eo]
    by_cases k : a = c
    · rw [if_pos k, ← k]; exact w
    · rw [if_neg k, uW_symm, show c = b by omega]; exact w
  rw [wq]
  grind
set_option maxRecDepth 20000 in
theorem uO_ne (hG : uG T n) (hD : uD T n) (hi : i < n) (hj : j < n) (hn : i ≠ j) (hA : uA (T i) c = true) (hB : uA (T j) c = true) : uO (T i) c ≠ uO (T j) c := by
  obtain ⟨a, b, q, e, ab⟩ := uA_s hA
  obtain ⟨a', b', q', e', ab'⟩ := uA_s hB
  have g := hG i hi a b q e
  have g' := hG j hj a' b' q' e'
  have nJ := hD i j hi hj hn a b q a' b' q' e e'
  have eo : uO (T i) c = if a = c then b else a := by rw [e]; rfl
  have eo' : uO (T j) c = if a' = c then b' else a' := by rw [e']; rfl
  rw [eo, eo']
  unfold uJ at nJ
  split <;> split <;> omega
set_option maxRecDepth 20000 in
theorem uIrr (hG : uG T n) (hD : uD T n) (h : ∀ d, Inn f t d → vN T d n = 0 ∨ 3 ≤ vN T d n) : Irr (Inn f t) (uW T n) := by
  intro c hc hT
  obtain ⟨h0, h1, h2, h3⟩ := vN_ok (T := T) (c := c) n
  rcases h c hc with k | k
  · refine rs_of0 (fun y => ?_)
    by_cases z : uW T n c y = 0
    · exact z
    · obtain ⟨i, i1, i2, -⟩ := uW_row hG z
      exact absurd i2 (h0 k i i1)
  · obtain ⟨x, y, z, x1, x2, x3, x4, x5, x6⟩ := h3 k
    obtain ⟨p, q, hT⟩ := hT
    have a1 := hT _ (uW_o hG hD (by omega) x4)
    have a2 := hT _ (uW_o hG hD (by omega) x5)
    have a3 := hT _ (uW_o hG hD x3 x6)
    have n1 := uO_ne hG hD (by omega) (by omega) (by omega : x ≠ y) x4 x5
    have n2 := uO_ne hG hD (by omega) x3 (by omega : x ≠ z) x4 x6
    have n3 := uO_ne hG hD (by omega) x3 (by omega : y ≠ z) x5 x6
    omega
set_option maxRecDepth 20000 in
theorem par_b (hG : uG T n) (hB : uB T n) (hP : Pq f t w0 (uW T n)) (s j a b : Nat) (q : Rat) (c d : Nat) (r : Rat) (hs : s < n) (hj : j < n) (hn : s ≠ j) (es : T s = some (a, b, q)) (ej : T j = some (c, d, r)) (hJ : uJ a b c d) : nu q * r.den + nu r * q.den ≤ 9000000000000000000 ∧ q.den * r.den < 562949953421312 := by
  have ub := uB_use hB hs hj hn es ej hJ
  have g1 := hG s hs a b q es
  have g2 := hG j hj c d r ej
  have l1 := nu_le (k := 120) (q := q) (by grind) (Rat.le_trans (uW_ge hG hs es) (pq_le hP))
  have l2 := nu_le (k := 120) (q := r) (by grind) (Rat.le_trans (uW_ge hG hj ej) (pq_le hP))
  have m1 : nu q * r.den ≤ 120 * q.den * r.den := Nat.mul_le_mul l1 (Nat.le_refl _)
  have m2 : nu r * q.den ≤ 120 * r.den * q.den := Nat.mul_le_mul l2 (Nat.le_refl _)
  have e1 : 120 * q.den * r.den = 120 * (q.den * r.den) := Nat.mul_assoc ..
  have e2 : 120 * r.den * q.den = 120 * (q.den * r.den) := by rw [Nat.mul_assoc, Nat.mul_comm r.den]
  omega
set_option maxRecDepth 20000 in
theorem ser_b (h0 : W0 w0) (hG : uG T n) (hD : uD T n) (hP : Pq f t w0 (uW T n)) (c i j a b : Nat) (q : Rat) (d s : Nat) (r : Rat) (hc : Inn f t c) (hv : v2 T n c i j) (ei : T i = some (a, b, q)) (ej : T j = some (d, s, r)) : (nu q * nu r ≤ 9000000000000000000 ∧ nu q * r.den + nu r * q.den < 562949953421312) ∧ nu q * r.den + nu r * q.den ≤ 24883200000 := by
  obtain ⟨v1, v2, v3, v4, v5⟩ := hv
  obtain ⟨a', b', q', e', f', r', k1, k2, k3, k4, k5, k6, k7, k8, k9, k10, k11, k12⟩ := uW_2 hG hD (by omega : i < n) v2 (by omega) v3 v4 v5
  rw [ei] at k1
  rw [ej] at k2
  simp only [Option.some.injEq, Prod.mk.injEq] at k1 k2
  obtain ⟨rfl, rfl, rfl⟩ := k1
  obtain ⟨rfl, rfl, rfl⟩ := k2
  obtain ⟨D, D0, D1, D2⟩ := pq_d h0 hP hc (by rw [k11]; grind)
  have d1 : q.den ≤ D := by rw [← k6]; exact dn_den D0 D2 hP.2.1
  have d2 : r.den ≤ D := by rw [← k7]; exact dn_den D0 D2 hP.2.1
  have sb := hP.2.2.1 c hc.1
  rw [k11] at sb
  have qb : q ≤ 120 := by rw [← k6]; exact pq_le hP
  obtain ⟨m1, m2, -, m4, -⟩ := tk_num D1 (p := q) (q := r) (r := q) (by grind) (by grind) (by grind) d1 d2 d1 sb qb
  have := Nat.mul_le_mul m1 m2
  exact ⟨⟨by omega, by omega⟩, m4⟩
def SI (f t : Nat) (w0 : Nat → Nat → Rat) (N : Me) (T : Nat → Option (Nat × Nat × Rat)) (n : Nat) : Prop := rlA N T n ∧ uG T n ∧ uB T n ∧ Pq f t w0 (uW T n)
set_option maxRecDepth 20000 in
theorem si_par (h : SI f t w0 N T n) (hi : i < n) (hj : j < n) (hn : i ≠ j) (ei : T i = some (a, b, q)) (ej : T j = some (c, d, r)) (hJ : uJ a b c d) : SI f t w0 (wi (bcN N i (q + r)) 510 j (-(nI 1))) (uU (uU T i (some (a, b, q + r))) j none) n ∧ uNn (uU (uU T i (some (a, b, q + r))) j none) n + 1 = uNn T n := by
  obtain ⟨hR, hG, hB, hP⟩ := h
  refine ⟨⟨rl_no (rl_bc hR hi ei), uG_par hG hi hj ei ej, uB_par hG hB hi hj hn ei ej hJ, by rw [uW_par hi hj hn ei ej hJ]; exact hP⟩, ?_⟩
  rw [← uN_some (T := T) (s := i) (v := (a, b, q + r)) n (by rw [ei]; rfl)]
  refine uN_none n hj ?_
  unfold uU
  rw [if_neg (fun z => hn z.symm), ej]
  rfl
set_option maxRecDepth 20000 in
theorem si_ser (h0 : W0 w0) (h1 : f ≠ t) (hf : f < 5) (ht : t < 5) (h : SI f t w0 N T n) (hD : uD T n) (hs : sOut N P T n f t) : ∃ S, SI f t w0 P S n ∧ uNn S n + 1 = uNn T n ∧ rlF N P := by
  obtain ⟨hR, hG, hB, hP⟩ := h
  obtain ⟨c, hc, hs⟩ := hs
  rcases hs with ⟨p, ⟨p1, p2, p3⟩, rfl⟩ | ⟨i, j, a, b, q, d, s, r, hv, ei, ej, rfl⟩
  · obtain ⟨k1, k2, k3⟩ := uW_1 hG hD p1 p2 p3
    refine ⟨uU T p none, ⟨rl_no hR, uG_1 hG, Or.inr (Or.inr (uD_1 hD)), by rw [k1]; exact pq_kr h0 h1 hf ht hP hc k3⟩, uN_none n p1 ?_, rlF_no⟩
    obtain ⟨a, b, q, e, -⟩ := uA_s p2
    rw [e]; rfl
  · obtain ⟨⟨-, -⟩, lb⟩ := ser_b h0 hG hD hP c i j a b q d s r hc hv ei ej
    have hv2 := hv
    obtain ⟨v1, v2, v3, v4, v5⟩ := hv2
    have hi : i < n := by omega
    obtain ⟨a', b', q', e', f', r', k1, k2, k3, k4, k5, k6, k7, k8, k9, k10, k11, k12⟩ := uW_2 hG hD hi v2 (by omega) v3 v4 v5
    rw [ei] at k1
    rw [ej] at k2
    simp only [Option.some.injEq, Prod.mk.injEq] at k1 k2
    obtain ⟨rfl, rfl, rfl⟩ := k1
    obtain ⟨rfl, rfl, rfl⟩ := k2
    have s0 : q + r ≠ 0 := by grind
    obtain ⟨D, D0, D1, D2⟩ := pq_d h0 hP hc (by rw [k11]; exact s0)
    have z0 : 0 ≤ q * r * (q + r)⁻¹ := tk_nn (by grind) (by grind)
    have tk := tk_ser (p := q) (q := r) (by grind) (by grind) s0
    have tp := tk_pos (p := q) (q := r) (by grind) (by grind) s0
    have zd : (q * r * (q + r)⁻¹).den ≤ 24883200000 := by
      have := Nat.le_of_dvd tp (low z0 tp tk).2.2
      omega
    have zp : 0 < q * r * (q + r)⁻¹ := by
      have e1 : q * r * (q + r)⁻¹ * (q + r) = q * r := by grind
      have qr : 0 < q * r := Rat.mul_pos k8 k9
      generalize q * r * (q + r)⁻¹ = z at *
      by_cases w : z = 0
      · rw [w] at e1; grind
      · grind
    refine ⟨uU (uU T j none) i (some (uO (T i) c, uO (T j) c, q * r * (q + r)⁻¹)), ⟨rl_le2 hR hi (by omega) ei, uG_2 (uG_1 hG) k4 k5 k3 zp, uB_2 (uD_1 hD) (fun m a b g hm e => ?_) zd, by rw [k10]; exact pq_kr h0 h1 hf ht hP hc k12⟩, ?_, ?_⟩
    · have e2 : T m = some (a, b, g) := by
        unfold uU at e
        by_cases w : m = j
        · rw [if_pos w] at e; cases e
        · rw [if_neg w] at e; exact e
      have w := uW_at hD hm e2
      rw [← w]
      exact Nat.le_trans (dn_den D0 D2 hP.2.1) D1
    · have e1 : uU T j none i = some (a, b, q) := by unfold uU; rw [if_neg (by omega)]; exact ei
      rw [uN_some (T := uU T j none) (s := i) n (by rw [e1]; rfl)]
      exact uN_none n v2 (by rw [ej]; rfl)
    · exact rlF_t (rlF_t (rlF_t rlF_no rlF_bc) rlF_no) rlF_no2
set_option maxRecDepth 20000 in
theorem r_main (h0 : W0 w0) (h1 : f ≠ t) (hf : f < 5) (ht : t < 5) {x : Int32} : ∀ k T N, uNn T n ≤ k → SI f t w0 N T n → ∃ S Q, swh qX8_reduced_2 wX8_reduced_2 [.ref 492, .int (nI f), .int (nI t), .int x, .int (nI 1), .null, .null, .null] N = some (none, [.ref 492, .int (nI f), .int (nI t), .int x, .int (nI 0), .null, .null, .null], Q) ∧ SI f t w0 Q S n ∧ uD S n ∧ Irr (Inn f t) (uW S n) ∧ rlF N Q := by
  intro k
  induction k with
  | zero =>
    intro T N hk hS
    have hS2 := hS
    obtain ⟨hR, hG, hB, hP⟩ := hS
    have cd : qX8_reduced_2 [.ref 492, .int (nI f), .int (nI t), .int x, .int (nI 1), .null, .null, .null] N = some (true, N) := by simp -implicitDefEqProofs (disch := omega) [qX8_reduced_2, kp_, bsome, bnone, gi_s, gj_s, gr_s, gv_s, ik_, jk_, il_, jl_, rl_, i2_, i2_a, i2_b, j2_, j2_a, j2_b, i2d_, i2d_a, i2d_b, j2d_, j2d_a, j2d_b, i1_, i1_a, j1_, j1_a, i2l_, i2l_a, l2i_, l2i_a, fgi_, fgi_a, fgj_, fgj_a, fgr_, fgr_a, iald_, iald_a, iald_b, zald_, zald_a, zald_b, jald_, jald_a, jald_b, rald_, rald_a, rald_b, alen_, alen_a, sald_, sald_a, ic_, ic_a, jc_, jc_a, bc_, bc_a, bc_b, bj_, bj_a, bj_b, bz_, bz_a, band_, band_a, bor_, bor_a, bnot_, bnot_a, anil_, ai_, ai_a, ai_b, aj_, aj_a, aj_b, ar_, ar_a, ar_b, kb2i_, cvi_, cvi_a, cvi_b, cvj_, cvj_a, cvj_b, cvz_, cvz_a, cvz_b, csi_, csi_a, csj_, csj_a, csz_, csz_a, snop_, sseq_, sseq_n, sseq_s, sif_, sif_a, scut_, scut_a, ssi_, ssi_a, ssj_, ssj_a, ssr_, ssr_a, sinc_, sinc_a, sret_, sret_a, sretj_, sretj_a, sretv_, spop_, spop_a, kc_scv_, scv_, scv_a, scv_b, scs_, scs_a, fpi_, fpi_a, fpi_b, fpj_, fpj_a, fpj_b, foi_, foi_a, foi_b, foj_, foj_a, foj_b, aii_, aii_a, aii_b, aii_c, aiz_, aiz_a, aiz_b, aiz_c, aij_, aij_a, aij_b, aij_c, aoi_, aoi_a, aoi_b, aoi_c, aoj_, aoj_a, aoj_b, aoj_c, scopy_, scopy_a, scopy_b, scopy_c, scopy_d, scopy_e, ssw_, ssw_a, sel_n, sel_c, mfi_, mfi_a, mfj_, mfj_a, mfz_, mfz_a, kb_mfv_, mfv_, mfv_a, cut, lset, lset2, isL, Value.category, ent, entn, if_some, if_pair, if_cons, if_int, if_long, if_ref, ite_self, gz_b, ↓icb, ↓icb2, b2i_ne, ge0, ge1, ge2, ge3, ge4, ge5, ge6, ge7, ge8, ge9, ge10, ge11, ge12, ge13, ge14, lit32, nI_add, pk_mul, clt_nI, cle_nI, cgt_nI, cge_nI, ceq_nI, cne_nI, inr_nI, nI_clamp, nI_eq, nI_leI, nI_ltI, k492, f492_2, f492_3, f492_4, f492_5, f492_7, f492_8, f492_9, f492_10, k493, k494, k495, k496, k497, k498, k499, k500, l493, l494, l495, l496, l497, l498, l499, l500]
    rcases r_parallel hR hG (par_b hG hB hP) with ⟨i, j, a, b, q, c, d, r, j1, j2, j3, j4, j5, j6, j7⟩ | ⟨pf, hD⟩
    · have := (si_par hS2 j1 j2 j3 j4 j5 j6).2
      omega
    · rcases r_series hR hG hD hf ht (fun c i j a b q d s r u1 u2 u3 u4 => (ser_b h0 hG hD hP c i j a b q d s r u1 u2 u3 u4).1) with ⟨P, s1, s2⟩ | ⟨s1, s2⟩
      · obtain ⟨S, -, e, -⟩ := si_ser h0 h1 hf ht hS2 hD s1
        omega
      · refine ⟨T, N, ?_, hS2, hD, uIrr hG hD s2, rlF_r⟩
        refine (swh_t (r' := [.ref 492, .int (nI f), .int (nI t), .int x, .int (nI 0), .null, .null, .null]) (M2 := N) cd ?_).trans (swh_f ?_)
        · simp -implicitDefEqProofs (disch := omega) [wX8_reduced_2, kp_, bsome, bnone, gi_s, gj_s, gr_s, gv_s, ik_, jk_, il_, jl_, rl_, i2_, i2_a, i2_b, j2_, j2_a, j2_b, i2d_, i2d_a, i2d_b, j2d_, j2d_a, j2d_b, i1_, i1_a, j1_, j1_a, i2l_, i2l_a, l2i_, l2i_a, fgi_, fgi_a, fgj_, fgj_a, fgr_, fgr_a, iald_, iald_a, iald_b, zald_, zald_a, zald_b, jald_, jald_a, jald_b, rald_, rald_a, rald_b, alen_, alen_a, sald_, sald_a, ic_, ic_a, jc_, jc_a, bc_, bc_a, bc_b, bj_, bj_a, bj_b, bz_, bz_a, band_, band_a, bor_, bor_a, bnot_, bnot_a, anil_, ai_, ai_a, ai_b, aj_, aj_a, aj_b, ar_, ar_a, ar_b, kb2i_, cvi_, cvi_a, cvi_b, cvj_, cvj_a, cvj_b, cvz_, cvz_a, cvz_b, csi_, csi_a, csj_, csj_a, csz_, csz_a, snop_, sseq_, sseq_n, sseq_s, sif_, sif_a, scut_, scut_a, ssi_, ssi_a, ssj_, ssj_a, ssr_, ssr_a, sinc_, sinc_a, sret_, sret_a, sretj_, sretj_a, sretv_, spop_, spop_a, kc_scv_, scv_, scv_a, scv_b, scs_, scs_a, fpi_, fpi_a, fpi_b, fpj_, fpj_a, fpj_b, foi_, foi_a, foi_b, foj_, foj_a, foj_b, aii_, aii_a, aii_b, aii_c, aiz_, aiz_a, aiz_b, aiz_c, aij_, aij_a, aij_b, aij_c, aoi_, aoi_a, aoi_b, aoi_c, aoj_, aoj_a, aoj_b, aoj_c, scopy_, scopy_a, scopy_b, scopy_c, scopy_d, scopy_e, ssw_, ssw_a, sel_n, sel_c, mfi_, mfi_a, mfj_, mfj_a, mfz_, mfz_a, kb_mfv_, mfv_, mfv_a, cut, lset, lset2, isL, Value.category, ent, entn, if_some, if_pair, if_cons, if_int, if_long, if_ref, ite_self, gz_b, ↓icb, ↓icb2, b2i_ne, ge0, ge1, ge2, ge3, ge4, ge5, ge6, ge7, ge8, ge9, ge10, ge11, ge12, ge13, ge14, lit32, nI_add, pk_mul, clt_nI, cle_nI, cgt_nI, cge_nI, ceq_nI, cne_nI, inr_nI, nI_clamp, nI_eq, nI_leI, nI_ltI, k492, f492_2, f492_3, f492_4, f492_5, f492_7, f492_8, f492_9, f492_10, k493, k494, k495, k496, k497, k498, k499, k500, l493, l494, l495, l496, l497, l498, l499, l500, pf, s1, b2i_f0]
        · simp -implicitDefEqProofs (disch := omega) [qX8_reduced_2, kp_, bsome, bnone, gi_s, gj_s, gr_s, gv_s, ik_, jk_, il_, jl_, rl_, i2_, i2_a, i2_b, j2_, j2_a, j2_b, i2d_, i2d_a, i2d_b, j2d_, j2d_a, j2d_b, i1_, i1_a, j1_, j1_a, i2l_, i2l_a, l2i_, l2i_a, fgi_, fgi_a, fgj_, fgj_a, fgr_, fgr_a, iald_, iald_a, iald_b, zald_, zald_a, zald_b, jald_, jald_a, jald_b, rald_, rald_a, rald_b, alen_, alen_a, sald_, sald_a, ic_, ic_a, jc_, jc_a, bc_, bc_a, bc_b, bj_, bj_a, bj_b, bz_, bz_a, band_, band_a, bor_, bor_a, bnot_, bnot_a, anil_, ai_, ai_a, ai_b, aj_, aj_a, aj_b, ar_, ar_a, ar_b, kb2i_, cvi_, cvi_a, cvi_b, cvj_, cvj_a, cvj_b, cvz_, cvz_a, cvz_b, csi_, csi_a, csj_, csj_a, csz_, csz_a, snop_, sseq_, sseq_n, sseq_s, sif_, sif_a, scut_, scut_a, ssi_, ssi_a, ssj_, ssj_a, ssr_, ssr_a, sinc_, sinc_a, sret_, sret_a, sretj_, sretj_a, sretv_, spop_, spop_a, kc_scv_, scv_, scv_a, scv_b, scs_, scs_a, fpi_, fpi_a, fpi_b, fpj_, fpj_a, fpj_b, foi_, foi_a, foi_b, foj_, foj_a, foj_b, aii_, aii_a, aii_b, aii_c, aiz_, aiz_a, aiz_b, aiz_c, aij_, aij_a, aij_b, aij_c, aoi_, aoi_a, aoi_b, aoi_c, aoj_, aoj_a, aoj_b, aoj_c, scopy_, scopy_a, scopy_b, scopy_c, scopy_d, scopy_e, ssw_, ssw_a, sel_n, sel_c, mfi_, mfi_a, mfj_, mfj_a, mfz_, mfz_a, kb_mfv_, mfv_, mfv_a, cut, lset, lset2, isL, Value.category, ent, entn, if_some, if_pair, if_cons, if_int, if_long, if_ref, ite_self, gz_b, ↓icb, ↓icb2, b2i_ne, ge0, ge1, ge2, ge3, ge4, ge5, ge6, ge7, ge8, ge9, ge10, ge11, ge12, ge13, ge14, lit32, nI_add, pk_mul, clt_nI, cle_nI, cgt_nI, cge_nI, ceq_nI, cne_nI, inr_nI, nI_clamp, nI_eq, nI_leI, nI_ltI, k492, f492_2, f492_3, f492_4, f492_5, f492_7, f492_8, f492_9, f492_10, k493, k494, k495, k496, k497, k498, k499, k500, l493, l494, l495, l496, l497, l498, l499, l500]
  | succ k ih =>
    intro T N hk hS
    have hS2 := hS
    obtain ⟨hR, hG, hB, hP⟩ := hS
    have cd : qX8_reduced_2 [.ref 492, .int (nI f), .int (nI t), .int x, .int (nI 1), .null, .null, .null] N = some (true, N) := by simp -implicitDefEqProofs (disch := omega) [qX8_reduced_2, kp_, bsome, bnone, gi_s, gj_s, gr_s, gv_s, ik_, jk_, il_, jl_, rl_, i2_, i2_a, i2_b, j2_, j2_a, j2_b, i2d_, i2d_a, i2d_b, j2d_, j2d_a, j2d_b, i1_, i1_a, j1_, j1_a, i2l_, i2l_a, l2i_, l2i_a, fgi_, fgi_a, fgj_, fgj_a, fgr_, fgr_a, iald_, iald_a, iald_b, zald_, zald_a, zald_b, jald_, jald_a, jald_b, rald_, rald_a, rald_b, alen_, alen_a, sald_, sald_a, ic_, ic_a, jc_, jc_a, bc_, bc_a, bc_b, bj_, bj_a, bj_b, bz_, bz_a, band_, band_a, bor_, bor_a, bnot_, bnot_a, anil_, ai_, ai_a, ai_b, aj_, aj_a, aj_b, ar_, ar_a, ar_b, kb2i_, cvi_, cvi_a, cvi_b, cvj_, cvj_a, cvj_b, cvz_, cvz_a, cvz_b, csi_, csi_a, csj_, csj_a, csz_, csz_a, snop_, sseq_, sseq_n, sseq_s, sif_, sif_a, scut_, scut_a, ssi_, ssi_a, ssj_, ssj_a, ssr_, ssr_a, sinc_, sinc_a, sret_, sret_a, sretj_, sretj_a, sretv_, spop_, spop_a, kc_scv_, scv_, scv_a, scv_b, scs_, scs_a, fpi_, fpi_a, fpi_b, fpj_, fpj_a, fpj_b, foi_, foi_a, foi_b, foj_, foj_a, foj_b, aii_, aii_a, aii_b, aii_c, aiz_, aiz_a, aiz_b, aiz_c, aij_, aij_a, aij_b, aij_c, aoi_, aoi_a, aoi_b, aoi_c, aoj_, aoj_a, aoj_b, aoj_c, scopy_, scopy_a, scopy_b, scopy_c, scopy_d, scopy_e, ssw_, ssw_a, sel_n, sel_c, mfi_, mfi_a, mfj_, mfj_a, mfz_, mfz_a, kb_mfv_, mfv_, mfv_a, cut, lset, lset2, isL, Value.category, ent, entn, if_some, if_pair, if_cons, if_int, if_long, if_ref, ite_self, gz_b, ↓icb, ↓icb2, b2i_ne, ge0, ge1, ge2, ge3, ge4, ge5, ge6, ge7, ge8, ge9, ge10, ge11, ge12, ge13, ge14, lit32, nI_add, pk_mul, clt_nI, cle_nI, cgt_nI, cge_nI, ceq_nI, cne_nI, inr_nI, nI_clamp, nI_eq, nI_leI, nI_ltI, k492, f492_2, f492_3, f492_4, f492_5, f492_7, f492_8, f492_9, f492_10, k493, k494, k495, k496, k497, k498, k499, k500, l493, l494, l495, l496, l497, l498, l499, l500]
    rcases r_parallel hR hG (par_b hG hB hP) with ⟨i, j, a, b, q, c, d, r, j1, j2, j3, j4, j5, j6, j7⟩ | ⟨pf, hD⟩
    · obtain ⟨g1, g2⟩ := si_par hS2 j1 j2 j3 j4 j5 j6
      obtain ⟨S, Q, e1, e2, e3, e4, e5⟩ := ih _ _ (by omega) g1
      refine ⟨S, Q, ?_, e2, e3, e4, rlF_t (rlF_t rlF_bc rlF_no) e5⟩
      refine (swh_t (r' := [.ref 492, .int (nI f), .int (nI t), .int x, .int (nI 1), .null, .null, .null]) (M2 := wi (bcN N i (q + r)) 510 j (-(nI 1))) cd ?_).trans e1
      simp -implicitDefEqProofs (disch := omega) [wX8_reduced_2, kp_, bsome, bnone, gi_s, gj_s, gr_s, gv_s, ik_, jk_, il_, jl_, rl_, i2_, i2_a, i2_b, j2_, j2_a, j2_b, i2d_, i2d_a, i2d_b, j2d_, j2d_a, j2d_b, i1_, i1_a, j1_, j1_a, i2l_, i2l_a, l2i_, l2i_a, fgi_, fgi_a, fgj_, fgj_a, fgr_, fgr_a, iald_, iald_a, iald_b, zald_, zald_a, zald_b, jald_, jald_a, jald_b, rald_, rald_a, rald_b, alen_, alen_a, sald_, sald_a, ic_, ic_a, jc_, jc_a, bc_, bc_a, bc_b, bj_, bj_a, bj_b, bz_, bz_a, band_, band_a, bor_, bor_a, bnot_, bnot_a, anil_, ai_, ai_a, ai_b, aj_, aj_a, aj_b, ar_, ar_a, ar_b, kb2i_, cvi_, cvi_a, cvi_b, cvj_, cvj_a, cvj_b, cvz_, cvz_a, cvz_b, csi_, csi_a, csj_, csj_a, csz_, csz_a, snop_, sseq_, sseq_n, sseq_s, sif_, sif_a, scut_, scut_a, ssi_, ssi_a, ssj_, ssj_a, ssr_, ssr_a, sinc_, sinc_a, sret_, sret_a, sretj_, sretj_a, sretv_, spop_, spop_a, kc_scv_, scv_, scv_a, scv_b, scs_, scs_a, fpi_, fpi_a, fpi_b, fpj_, fpj_a, fpj_b, foi_, foi_a, foi_b, foj_, foj_a, foj_b, aii_, aii_a, aii_b, aii_c, aiz_, aiz_a, aiz_b, aiz_c, aij_, aij_a, aij_b, aij_c, aoi_, aoi_a, aoi_b, aoi_c, aoj_, aoj_a, aoj_b, aoj_c, scopy_, scopy_a, scopy_b, scopy_c, scopy_d, scopy_e, ssw_, ssw_a, sel_n, sel_c, mfi_, mfi_a, mfj_, mfj_a, mfz_, mfz_a, kb_mfv_, mfv_, mfv_a, cut, lset, lset2, isL, Value.category, ent, entn, if_some, if_pair, if_cons, if_int, if_long, if_ref, ite_self, gz_b, ↓icb, ↓icb2, b2i_ne, ge0, ge1, ge2, ge3, ge4, ge5, ge6, ge7, ge8, ge9, ge10, ge11, ge12, ge13, ge14, lit32, nI_add, pk_mul, clt_nI, cle_nI, cgt_nI, cge_nI, ceq_nI, cne_nI, inr_nI, nI_clamp, nI_eq, nI_leI, nI_ltI, k492, f492_2, f492_3, f492_4, f492_5, f492_7, f492_8, f492_9, f492_10, k493, k494, k495, k496, k497, k498, k499, k500, l493, l494, l495, l496, l497, l498, l499, l500, j7, b2i_t1]
    · rcases r_series hR hG hD hf ht (fun c i j a b q d s r u1 u2 u3 u4 => (ser_b h0 hG hD hP c i j a b q d s r u1 u2 u3 u4).1) with ⟨P, s1, s2⟩ | ⟨s1, s2⟩
      · obtain ⟨R, g1, g2, g3⟩ := si_ser h0 h1 hf ht hS2 hD s1
        obtain ⟨S, Q, e1, e2, e3, e4, e5⟩ := ih _ _ (by omega) g1
        refine ⟨S, Q, ?_, e2, e3, e4, rlF_t g3 e5⟩
        refine (swh_t (r' := [.ref 492, .int (nI f), .int (nI t), .int x, .int (nI 1), .null, .null, .null]) (M2 := P) cd ?_).trans e1
        simp -implicitDefEqProofs (disch := omega) [wX8_reduced_2, kp_, bsome, bnone, gi_s, gj_s, gr_s, gv_s, ik_, jk_, il_, jl_, rl_, i2_, i2_a, i2_b, j2_, j2_a, j2_b, i2d_, i2d_a, i2d_b, j2d_, j2d_a, j2d_b, i1_, i1_a, j1_, j1_a, i2l_, i2l_a, l2i_, l2i_a, fgi_, fgi_a, fgj_, fgj_a, fgr_, fgr_a, iald_, iald_a, iald_b, zald_, zald_a, zald_b, jald_, jald_a, jald_b, rald_, rald_a, rald_b, alen_, alen_a, sald_, sald_a, ic_, ic_a, jc_, jc_a, bc_, bc_a, bc_b, bj_, bj_a, bj_b, bz_, bz_a, band_, band_a, bor_, bor_a, bnot_, bnot_a, anil_, ai_, ai_a, ai_b, aj_, aj_a, aj_b, ar_, ar_a, ar_b, kb2i_, cvi_, cvi_a, cvi_b, cvj_, cvj_a, cvj_b, cvz_, cvz_a, cvz_b, csi_, csi_a, csj_, csj_a, csz_, csz_a, snop_, sseq_, sseq_n, sseq_s, sif_, sif_a, scut_, scut_a, ssi_, ssi_a, ssj_, ssj_a, ssr_, ssr_a, sinc_, sinc_a, sret_, sret_a, sretj_, sretj_a, sretv_, spop_, spop_a, kc_scv_, scv_, scv_a, scv_b, scs_, scs_a, fpi_, fpi_a, fpi_b, fpj_, fpj_a, fpj_b, foi_, foi_a, foi_b, foj_, foj_a, foj_b, aii_, aii_a, aii_b, aii_c, aiz_, aiz_a, aiz_b, aiz_c, aij_, aij_a, aij_b, aij_c, aoi_, aoi_a, aoi_b, aoi_c, aoj_, aoj_a, aoj_b, aoj_c, scopy_, scopy_a, scopy_b, scopy_c, scopy_d, scopy_e, ssw_, ssw_a, sel_n, sel_c, mfi_, mfi_a, mfj_, mfj_a, mfz_, mfz_a, kb_mfv_, mfv_, mfv_a, cut, lset, lset2, isL, Value.category, ent, entn, if_some, if_pair, if_cons, if_int, if_long, if_ref, ite_self, gz_b, ↓icb, ↓icb2, b2i_ne, ge0, ge1, ge2, ge3, ge4, ge5, ge6, ge7, ge8, ge9, ge10, ge11, ge12, ge13, ge14, lit32, nI_add, pk_mul, clt_nI, cle_nI, cgt_nI, cge_nI, ceq_nI, cne_nI, inr_nI, nI_clamp, nI_eq, nI_leI, nI_ltI, k492, f492_2, f492_3, f492_4, f492_5, f492_7, f492_8, f492_9, f492_10, k493, k494, k495, k496, k497, k498, k499, k500, l493, l494, l495, l496, l497, l498, l499, l500, pf, s2, b2i_t1]
      · refine ⟨T, N, ?_, hS2, hD, uIrr hG hD s2, rlF_r⟩
        refine (swh_t (r' := [.ref 492, .int (nI f), .int (nI t), .int x, .int (nI 0), .null, .null, .null]) (M2 := N) cd ?_).trans (swh_f ?_)
        · simp -implicitDefEqProofs (disch := omega) [wX8_reduced_2, kp_, bsome, bnone, gi_s, gj_s, gr_s, gv_s, ik_, jk_, il_, jl_, rl_, i2_, i2_a, i2_b, j2_, j2_a, j2_b, i2d_, i2d_a, i2d_b, j2d_, j2d_a, j2d_b, i1_, i1_a, j1_, j1_a, i2l_, i2l_a, l2i_, l2i_a, fgi_, fgi_a, fgj_, fgj_a, fgr_, fgr_a, iald_, iald_a, iald_b, zald_, zald_a, zald_b, jald_, jald_a, jald_b, rald_, rald_a, rald_b, alen_, alen_a, sald_, sald_a, ic_, ic_a, jc_, jc_a, bc_, bc_a, bc_b, bj_, bj_a, bj_b, bz_, bz_a, band_, band_a, bor_, bor_a, bnot_, bnot_a, anil_, ai_, ai_a, ai_b, aj_, aj_a, aj_b, ar_, ar_a, ar_b, kb2i_, cvi_, cvi_a, cvi_b, cvj_, cvj_a, cvj_b, cvz_, cvz_a, cvz_b, csi_, csi_a, csj_, csj_a, csz_, csz_a, snop_, sseq_, sseq_n, sseq_s, sif_, sif_a, scut_, scut_a, ssi_, ssi_a, ssj_, ssj_a, ssr_, ssr_a, sinc_, sinc_a, sret_, sret_a, sretj_, sretj_a, sretv_, spop_, spop_a, kc_scv_, scv_, scv_a, scv_b, scs_, scs_a, fpi_, fpi_a, fpi_b, fpj_, fpj_a, fpj_b, foi_, foi_a, foi_b, foj_, foj_a, foj_b, aii_, aii_a, aii_b, aii_c, aiz_, aiz_a, aiz_b, aiz_c, aij_, aij_a, aij_b, aij_c, aoi_, aoi_a, aoi_b, aoi_c, aoj_, aoj_a, aoj_b, aoj_c, scopy_, scopy_a, scopy_b, scopy_c, scopy_d, scopy_e, ssw_, ssw_a, sel_n, sel_c, mfi_, mfi_a, mfj_, mfj_a, mfz_, mfz_a, kb_mfv_, mfv_, mfv_a, cut, lset, lset2, isL, Value.category, ent, entn, if_some, if_pair, if_cons, if_int, if_long, if_ref, ite_self, gz_b, ↓icb, ↓icb2, b2i_ne, ge0, ge1, ge2, ge3, ge4, ge5, ge6, ge7, ge8, ge9, ge10, ge11, ge12, ge13, ge14, lit32, nI_add, pk_mul, clt_nI, cle_nI, cgt_nI, cge_nI, ceq_nI, cne_nI, inr_nI, nI_clamp, nI_eq, nI_leI, nI_ltI, k492, f492_2, f492_3, f492_4, f492_5, f492_7, f492_8, f492_9, f492_10, k493, k494, k495, k496, k497, k498, k499, k500, l493, l494, l495, l496, l497, l498, l499, l500, pf, s1, b2i_f0]
        · simp -implicitDefEqProofs (disch := omega) [qX8_reduced_2, kp_, bsome, bnone, gi_s, gj_s, gr_s, gv_s, ik_, jk_, il_, jl_, rl_, i2_, i2_a, i2_b, j2_, j2_a, j2_b, i2d_, i2d_a, i2d_b, j2d_, j2d_a, j2d_b, i1_, i1_a, j1_, j1_a, i2l_, i2l_a, l2i_, l2i_a, fgi_, fgi_a, fgj_, fgj_a, fgr_, fgr_a, iald_, iald_a, iald_b, zald_, zald_a, zald_b, jald_, jald_a, jald_b, rald_, rald_a, rald_b, alen_, alen_a, sald_, sald_a, ic_, ic_a, jc_, jc_a, bc_, bc_a, bc_b, bj_, bj_a, bj_b, bz_, bz_a, band_, band_a, bor_, bor_a, bnot_, bnot_a, anil_, ai_, ai_a, ai_b, aj_, aj_a, aj_b, ar_, ar_a, ar_b, kb2i_, cvi_, cvi_a, cvi_b, cvj_, cvj_a, cvj_b, cvz_, cvz_a, cvz_b, csi_, csi_a, csj_, csj_a, csz_, csz_a, snop_, sseq_, sseq_n, sseq_s, sif_, sif_a, scut_, scut_a, ssi_, ssi_a, ssj_, ssj_a, ssr_, ssr_a, sinc_, sinc_a, sret_, sret_a, sretj_, sretj_a, sretv_, spop_, spop_a, kc_scv_, scv_, scv_a, scv_b, scs_, scs_a, fpi_, fpi_a, fpi_b, fpj_, fpj_a, fpj_b, foi_, foi_a, foi_b, foj_, foj_a, foj_b, aii_, aii_a, aii_b, aii_c, aiz_, aiz_a, aiz_b, aiz_c, aij_, aij_a, aij_b, aij_c, aoi_, aoi_a, aoi_b, aoi_c, aoj_, aoj_a, aoj_b, aoj_c, scopy_, scopy_a, scopy_b, scopy_c, scopy_d, scopy_e, ssw_, ssw_a, sel_n, sel_c, mfi_, mfi_a, mfj_, mfj_a, mfz_, mfz_a, kb_mfv_, mfv_, mfv_a, cut, lset, lset2, isL, Value.category, ent, entn, if_some, if_pair, if_cons, if_int, if_long, if_ref, ite_self, gz_b, ↓icb, ↓icb2, b2i_ne, ge0, ge1, ge2, ge3, ge4, ge5, ge6, ge7, ge8, ge9, ge10, ge11, ge12, ge13, ge14, lit32, nI_add, pk_mul, clt_nI, cle_nI, cgt_nI, cge_nI, ceq_nI, cne_nI, inr_nI, nI_clamp, nI_eq, nI_leI, nI_ltI, k492, f492_2, f492_3, f492_4, f492_5, f492_7, f492_8, f492_9, f492_10, k493, k494, k495, k496, k497, k498, k499, k500, l493, l494, l495, l496, l497, l498, l499, l500]
end
