/-! ===== solve ===== -/
section
variable {op op2 : Nat → Bool} {f g : Nat → Nat}
set_option maxRecDepth 20000 in
theorem gP_op {m : Nat} : ∀ n, (∀ t, t < n → op t = op2 t) → gP op f g m n = gP op2 f g m n
  | 0, _ => rfl
  | n + 1, h => by
    simp only [gP]
    rw [gP_op n (fun t ht => h t (by omega)), h n (by omega)]
set_option maxRecDepth 20000 in
theorem gR_op {nt m : Nat} (h : ∀ t, t < nt → op t = op2 t) : ∀ k, gR op f g nt m k = gR op2 f g nt m k
  | 0 => rfl
  | k + 1 => by
    simp only [gR]
    rw [gR_op h k, gP_op nt h]
end
section
variable {k k2 : Nat → Nat} {r : Nat}
theorem sh_net (h : ∀ i, i < 43 → k i = k2 i) (c : Nat) : knet k c = knet k2 c := gR_op (fun t ht => by unfold kop; rw [h _ (by omega)]) 4
set_option maxRecDepth 20000 in
theorem sh_sp (h : ∀ i, i < 43 → k i = k2 i) (c : Nat) : ksp k r c = ksp k2 r c := by
  have d0 := dg_lt (r := r) (p := 0)
  have d1 := dg_lt (r := r) (p := 1)
  have d2 := dg_lt (r := r) (p := 2)
  unfold ksp
  rw [h 1 (by decide), h 2 (by decide), h 28 (by decide), h 33 (by decide), h 38 (by decide), h (30 + dg r 0) (by omega), h (35 + dg r 1) (by omega), h (40 + dg r 2) (by omega)]
set_option maxRecDepth 20000 in
theorem sh_F (h : ∀ i, i < 43 → k i = k2 i) (c : Nat) : kF k r c = kF k2 r c := by
  rw [Bool.eq_iff_iff, kF_iff, kF_iff]
  unfold kFs
  rw [sh_net h]
  constructor
  · rintro ⟨o, a, b, d⟩; exact ⟨o, a, b, by rw [← sh_sp h]; exact d⟩
  · rintro ⟨o, a, b, d⟩; exact ⟨o, a, b, by rw [sh_sp h]; exact d⟩
set_option maxRecDepth 20000 in
theorem sh_A (h : ∀ i, i < 43 → k i = k2 i) : ∀ i j, i < 5 → j < 5 → kA k r i j = kA k2 r i j := fun i j hi hj => by
  have eg : ∀ j, j < 5 → kg k i j = kg k2 i j := fun j hj => h _ (by omega)
  have es : sm (fun l => if kF k r l = true then (kg k i l : Int) else 0) 5 = sm (fun l => if kF k2 r l = true then (kg k2 i l : Int) else 0) 5 := sm_congr 5 (fun l hl => by rw [sh_F h, eg l hl])
  unfold kA mA
  rw [sh_F h i, sh_F h j, sh_sp h, eg j hj, es]
theorem sh_det (h : ∀ i, i < 43 → k i = k2 i) : kdet k r = kdet k2 r := detI_congr (sh_A h)
theorem sh_cof (h : ∀ i, i < 43 → k i = k2 i) {o c : Nat} (ho : o < 5) (hc : c < 5) : kcof k r o c = kcof k2 r o c := cofI_congr (sh_A h) ho hc
set_option maxRecDepth 20000 in
theorem sh_cb (h : ∀ i, i < 43 → k i = k2 i) : kcb k r = kcb k2 r := by
  unfold kcb krn
  rw [h (28 + 5 * 0 + 1) (by decide), h (28 + 5 * 1 + 1) (by decide), h (28 + 5 * 2 + 1) (by decide)]
set_option maxRecDepth 20000 in
theorem sh_BI {M : Me} (h : ∀ i, i < 43 → k i = k2 i) (h5 : k 0 ≤ 5) (hb : BI M k r) : BI M k2 r := by
  rcases hb with h0 | ⟨h0, h1, h2, h3, h4⟩
  · exact Or.inl h0
  · refine Or.inr ⟨h0, by rw [← sh_cb h]; exact h1, ?_, by rw [← sh_det h]; exact h3, fun p q hp hq => ?_⟩
    · rw [← h 0 (by decide), h2]
      congr 2
      funext c
      rw [sh_F h]
    · rw [← h 0 (by decide)] at hp hq
      rw [← sh_cof h (by omega) (by omega)]
      exact h4 p q hp hq
set_option maxRecDepth 20000 in
theorem KV.eq {K K2 : Nat → Int32} (h : KV K k) (h2 : KV K2 k2) {n : Nat} (hn : n ≤ 54) (h3 : 3 ≤ n) (he : ∀ i, i < n → K i = K2 i) : ∀ i, i < n → k i = k2 i := by
  have base : ∀ i, i < n → i ≠ 1 → k i = k2 i := fun i hi h1 => by
    have a := h.1 i (by omega) h1
    have b := h2.1 i (by omega) h1
    have e := he i hi
    rw [a.1, b.1] at e
    exact (nI_eq (by omega) (by omega)).mp e
  have neg : ∀ x : Nat, x < 2 ^ 30 → ¬ nI x = -(nI 1) := fun x hx z => by
    have y := congrArg Int32.toInt z
    rw [nI_toInt (by omega)] at y
    have w : (-(nI 1)).toInt = -1 := by decide
    omega
  have b0 := (h.1 0 (by decide) (by decide)).2
  have c0 := (h2.1 0 (by decide) (by decide)).2
  intro i hi
  by_cases e1 : i = 1
  · subst e1
    have e := he 1 (by omega)
    rcases h.2.1 with ⟨x1, x2, x3⟩ | ⟨x1, x2⟩ <;> rcases h2.2.1 with ⟨y1, y2, y3⟩ | ⟨y1, y2⟩
    · rw [x2, y2]
    · rw [x1, y1] at e
      exact absurd e.symm (neg _ (by omega))
    · rw [x1, y1] at e
      exact absurd e (neg _ (by omega))
    · rw [x1, y1] at e
      exact (nI_eq (by omega) (by omega)).mp e
  · exact base i hi e1
end
section
variable {M : Me} {k : Nat → Nat} {r b : Nat}
set_option maxRecDepth 20000 in
theorem c_same {s e : Nat} (hse : s ≤ e) (he : e ≤ 54) (h : ∀ i, s ≤ i → i < e → M.1 63 i = M.1 62 i) : DX0_differs [.ref 61, .int (nI s), .int (nI e)] M = some (false, M) := by
  have l1 := swh_count (c := qX0_differs_1) (b := wX0_differs_1) (fun i => [.ref 61, .int (nI s), .int (nI e), .int (nI (s + i))]) (fun _ => M) (e - s)
    (fun i hi => by
      have z : s + i < e := by omega
      simp -implicitDefEqProofs (disch := omega) [qX0_differs_1, kp_, bsome, bnone, gi_s, gj_s, gr_s, gv_s, ik_, jk_, il_, jl_, rl_, i2_, i2_a, i2_b, j2_, j2_a, j2_b, i2d_, i2d_a, i2d_b, j2d_, j2d_a, j2d_b, i1_, i1_a, j1_, j1_a, i2l_, i2l_a, l2i_, l2i_a, fgi_, fgi_a, fgj_, fgj_a, fgr_, fgr_a, iald_, iald_a, iald_b, zald_, zald_a, zald_b, jald_, jald_a, jald_b, rald_, rald_a, rald_b, alen_, alen_a, sald_, sald_a, ic_, ic_a, jc_, jc_a, bc_, bc_a, bc_b, bj_, bj_a, bj_b, bz_, bz_a, band_, band_a, bor_, bor_a, bnot_, bnot_a, anil_, ai_, ai_a, ai_b, aj_, aj_a, aj_b, ar_, ar_a, ar_b, kb2i_, cvi_, cvi_a, cvi_b, cvj_, cvj_a, cvj_b, cvz_, cvz_a, cvz_b, csi_, csi_a, csj_, csj_a, csz_, csz_a, snop_, sseq_, sseq_n, sseq_s, sif_, sif_a, scut_, scut_a, ssi_, ssi_a, ssj_, ssj_a, ssr_, ssr_a, sinc_, sinc_a, sret_, sret_a, sretj_, sretj_a, sretv_, spop_, spop_a, kc_scv_, scv_, scv_a, scv_b, scs_, scs_a, fpi_, fpi_a, fpi_b, fpj_, fpj_a, fpj_b, foi_, foi_a, foi_b, foj_, foj_a, foj_b, aii_, aii_a, aii_b, aii_c, aiz_, aiz_a, aiz_b, aiz_c, aij_, aij_a, aij_b, aij_c, aoi_, aoi_a, aoi_b, aoi_c, aoj_, aoj_a, aoj_b, aoj_c, scopy_, scopy_a, scopy_b, scopy_c, scopy_d, scopy_e, ssw_, ssw_a, sel_n, sel_c, mfi_, mfi_a, mfj_, mfj_a, mfz_, mfz_a, kb_mfv_, mfv_, mfv_a, cut, lset, lset2, isL, Value.category, ent, entn, if_some, if_pair, if_cons, if_int, if_long, if_ref, ite_self, gz_b, ↓icb, ↓icb2, b2i_ne, ge0, ge1, ge2, ge3, ge4, ge5, ge6, ge7, ge8, ge9, ge10, ge11, ge12, ge13, ge14, lit32, nI_add, pk_mul, clt_nI, cle_nI, cgt_nI, cge_nI, ceq_nI, cne_nI, inr_nI, nI_clamp, nI_eq, nI_leI, nI_ltI, z])
    (fun i hi => by
      have z := h (s + i) (by omega) (by omega)
      have z2 : s + i < 54 := by omega
      have z3 : cne (M.1 62 (s + i)) (M.1 62 (s + i)) = false := by unfold cne; simp
      have z4 : s + i + 1 = s + (i + 1) := by omega
      simp -implicitDefEqProofs (disch := omega) [wX0_differs_1, kp_, bsome, bnone, gi_s, gj_s, gr_s, gv_s, ik_, jk_, il_, jl_, rl_, i2_, i2_a, i2_b, j2_, j2_a, j2_b, i2d_, i2d_a, i2d_b, j2d_, j2d_a, j2d_b, i1_, i1_a, j1_, j1_a, i2l_, i2l_a, l2i_, l2i_a, fgi_, fgi_a, fgj_, fgj_a, fgr_, fgr_a, iald_, iald_a, iald_b, zald_, zald_a, zald_b, jald_, jald_a, jald_b, rald_, rald_a, rald_b, alen_, alen_a, sald_, sald_a, ic_, ic_a, jc_, jc_a, bc_, bc_a, bc_b, bj_, bj_a, bj_b, bz_, bz_a, band_, band_a, bor_, bor_a, bnot_, bnot_a, anil_, ai_, ai_a, ai_b, aj_, aj_a, aj_b, ar_, ar_a, ar_b, kb2i_, cvi_, cvi_a, cvi_b, cvj_, cvj_a, cvj_b, cvz_, cvz_a, cvz_b, csi_, csi_a, csj_, csj_a, csz_, csz_a, snop_, sseq_, sseq_n, sseq_s, sif_, sif_a, scut_, scut_a, ssi_, ssi_a, ssj_, ssj_a, ssr_, ssr_a, sinc_, sinc_a, sret_, sret_a, sretj_, sretj_a, sretv_, spop_, spop_a, kc_scv_, scv_, scv_a, scv_b, scs_, scs_a, fpi_, fpi_a, fpi_b, fpj_, fpj_a, fpj_b, foi_, foi_a, foi_b, foj_, foj_a, foj_b, aii_, aii_a, aii_b, aii_c, aiz_, aiz_a, aiz_b, aiz_c, aij_, aij_a, aij_b, aij_c, aoi_, aoi_a, aoi_b, aoi_c, aoj_, aoj_a, aoj_b, aoj_c, scopy_, scopy_a, scopy_b, scopy_c, scopy_d, scopy_e, ssw_, ssw_a, sel_n, sel_c, mfi_, mfi_a, mfj_, mfj_a, mfz_, mfz_a, kb_mfv_, mfv_, mfv_a, cut, lset, lset2, isL, Value.category, ent, entn, if_some, if_pair, if_cons, if_int, if_long, if_ref, ite_self, gz_b, ↓icb, ↓icb2, b2i_ne, ge0, ge1, ge2, ge3, ge4, ge5, ge6, ge7, ge8, ge9, ge10, ge11, ge12, ge13, ge14, lit32, nI_add, pk_mul, clt_nI, cle_nI, cgt_nI, cge_nI, ceq_nI, cne_nI, inr_nI, nI_clamp, nI_eq, nI_leI, nI_ltI, k61, f61_0, f61_1, f61_2, f61_3, f61_5, f61_6, f61_7, f61_10, k62, k63, k64, k92, k93, k94, k95, k96, l62, l63, l64, l92, l93, l94, l95, l96, f64_, k65_, l65_, z, z3, z4])
    (by
      have z : s + (e - s) = e := by omega
      simp -implicitDefEqProofs (disch := omega) [qX0_differs_1, kp_, bsome, bnone, gi_s, gj_s, gr_s, gv_s, ik_, jk_, il_, jl_, rl_, i2_, i2_a, i2_b, j2_, j2_a, j2_b, i2d_, i2d_a, i2d_b, j2d_, j2d_a, j2d_b, i1_, i1_a, j1_, j1_a, i2l_, i2l_a, l2i_, l2i_a, fgi_, fgi_a, fgj_, fgj_a, fgr_, fgr_a, iald_, iald_a, iald_b, zald_, zald_a, zald_b, jald_, jald_a, jald_b, rald_, rald_a, rald_b, alen_, alen_a, sald_, sald_a, ic_, ic_a, jc_, jc_a, bc_, bc_a, bc_b, bj_, bj_a, bj_b, bz_, bz_a, band_, band_a, bor_, bor_a, bnot_, bnot_a, anil_, ai_, ai_a, ai_b, aj_, aj_a, aj_b, ar_, ar_a, ar_b, kb2i_, cvi_, cvi_a, cvi_b, cvj_, cvj_a, cvj_b, cvz_, cvz_a, cvz_b, csi_, csi_a, csj_, csj_a, csz_, csz_a, snop_, sseq_, sseq_n, sseq_s, sif_, sif_a, scut_, scut_a, ssi_, ssi_a, ssj_, ssj_a, ssr_, ssr_a, sinc_, sinc_a, sret_, sret_a, sretj_, sretj_a, sretv_, spop_, spop_a, kc_scv_, scv_, scv_a, scv_b, scs_, scs_a, fpi_, fpi_a, fpi_b, fpj_, fpj_a, fpj_b, foi_, foi_a, foi_b, foj_, foj_a, foj_b, aii_, aii_a, aii_b, aii_c, aiz_, aiz_a, aiz_b, aiz_c, aij_, aij_a, aij_b, aij_c, aoi_, aoi_a, aoi_b, aoi_c, aoj_, aoj_a, aoj_b, aoj_c, scopy_, scopy_a, scopy_b, scopy_c, scopy_d, scopy_e, ssw_, ssw_a, sel_n, sel_c, mfi_, mfi_a, mfj_, mfj_a, mfz_, mfz_a, kb_mfv_, mfv_, mfv_a, cut, lset, lset2, isL, Value.category, ent, entn, if_some, if_pair, if_cons, if_int, if_long, if_ref, ite_self, gz_b, ↓icb, ↓icb2, b2i_ne, ge0, ge1, ge2, ge3, ge4, ge5, ge6, ge7, ge8, ge9, ge10, ge11, ge12, ge13, ge14, lit32, nI_add, pk_mul, clt_nI, cle_nI, cgt_nI, cge_nI, ceq_nI, cne_nI, inr_nI, nI_clamp, nI_eq, nI_leI, nI_ltI, z])
  rw [Nat.add_zero] at l1
  simp -implicitDefEqProofs (disch := omega) [DX0_differs, EX0_differs, kp_, bsome, bnone, gi_s, gj_s, gr_s, gv_s, ik_, jk_, il_, jl_, rl_, i2_, i2_a, i2_b, j2_, j2_a, j2_b, i2d_, i2d_a, i2d_b, j2d_, j2d_a, j2d_b, i1_, i1_a, j1_, j1_a, i2l_, i2l_a, l2i_, l2i_a, fgi_, fgi_a, fgj_, fgj_a, fgr_, fgr_a, iald_, iald_a, iald_b, zald_, zald_a, zald_b, jald_, jald_a, jald_b, rald_, rald_a, rald_b, alen_, alen_a, sald_, sald_a, ic_, ic_a, jc_, jc_a, bc_, bc_a, bc_b, bj_, bj_a, bj_b, bz_, bz_a, band_, band_a, bor_, bor_a, bnot_, bnot_a, anil_, ai_, ai_a, ai_b, aj_, aj_a, aj_b, ar_, ar_a, ar_b, kb2i_, cvi_, cvi_a, cvi_b, cvj_, cvj_a, cvj_b, cvz_, cvz_a, cvz_b, csi_, csi_a, csj_, csj_a, csz_, csz_a, snop_, sseq_, sseq_n, sseq_s, sif_, sif_a, scut_, scut_a, ssi_, ssi_a, ssj_, ssj_a, ssr_, ssr_a, sinc_, sinc_a, sret_, sret_a, sretj_, sretj_a, sretv_, spop_, spop_a, kc_scv_, scv_, scv_a, scv_b, scs_, scs_a, fpi_, fpi_a, fpi_b, fpj_, fpj_a, fpj_b, foi_, foi_a, foi_b, foj_, foj_a, foj_b, aii_, aii_a, aii_b, aii_c, aiz_, aiz_a, aiz_b, aiz_c, aij_, aij_a, aij_b, aij_c, aoi_, aoi_a, aoi_b, aoi_c, aoj_, aoj_a, aoj_b, aoj_c, scopy_, scopy_a, scopy_b, scopy_c, scopy_d, scopy_e, ssw_, ssw_a, sel_n, sel_c, mfi_, mfi_a, mfj_, mfj_a, mfz_, mfz_a, kb_mfv_, mfv_, mfv_a, cut, lset, lset2, isL, Value.category, ent, entn, if_some, if_pair, if_cons, if_int, if_long, if_ref, ite_self, gz_b, ↓icb, ↓icb2, b2i_ne, ge0, ge1, ge2, ge3, ge4, ge5, ge6, ge7, ge8, ge9, ge10, ge11, ge12, ge13, ge14, lit32, nI_add, pk_mul, clt_nI, cle_nI, cgt_nI, cge_nI, ceq_nI, cne_nI, inr_nI, nI_clamp, nI_eq, nI_leI, nI_ltI, l1, gz_0]
set_option maxRecDepth 20000 in
theorem c_diff {s e : Nat} (he : e ≤ 54) (h : ¬ ∀ i, s ≤ i → i < e → M.1 63 i = M.1 62 i) : DX0_differs [.ref 61, .int (nI s), .int (nI e)] M = some (true, M) := by
  rcases least_or (fun i => M.1 63 (s + i) = M.1 62 (s + i)) (e - s) with q | ⟨m, h1, h2, h3⟩
  · exact absurd (fun i a b => by have := q (i - s) (by omega); rwa [show s + (i - s) = i by omega] at this) h
  · have cond : ∀ i, i ≤ m → qX0_differs_1 [.ref 61, .int (nI s), .int (nI e), .int (nI (s + i))] M = some (true, M) := fun i hi => by
      have z : s + i < e := by omega
      simp -implicitDefEqProofs (disch := omega) [qX0_differs_1, kp_, bsome, bnone, gi_s, gj_s, gr_s, gv_s, ik_, jk_, il_, jl_, rl_, i2_, i2_a, i2_b, j2_, j2_a, j2_b, i2d_, i2d_a, i2d_b, j2d_, j2d_a, j2d_b, i1_, i1_a, j1_, j1_a, i2l_, i2l_a, l2i_, l2i_a, fgi_, fgi_a, fgj_, fgj_a, fgr_, fgr_a, iald_, iald_a, iald_b, zald_, zald_a, zald_b, jald_, jald_a, jald_b, rald_, rald_a, rald_b, alen_, alen_a, sald_, sald_a, ic_, ic_a, jc_, jc_a, bc_, bc_a, bc_b, bj_, bj_a, bj_b, bz_, bz_a, band_, band_a, bor_, bor_a, bnot_, bnot_a, anil_, ai_, ai_a, ai_b, aj_, aj_a, aj_b, ar_, ar_a, ar_b, kb2i_, cvi_, cvi_a, cvi_b, cvj_, cvj_a, cvj_b, cvz_, cvz_a, cvz_b, csi_, csi_a, csj_, csj_a, csz_, csz_a, snop_, sseq_, sseq_n, sseq_s, sif_, sif_a, scut_, scut_a, ssi_, ssi_a, ssj_, ssj_a, ssr_, ssr_a, sinc_, sinc_a, sret_, sret_a, sretj_, sretj_a, sretv_, spop_, spop_a, kc_scv_, scv_, scv_a, scv_b, scs_, scs_a, fpi_, fpi_a, fpi_b, fpj_, fpj_a, fpj_b, foi_, foi_a, foi_b, foj_, foj_a, foj_b, aii_, aii_a, aii_b, aii_c, aiz_, aiz_a, aiz_b, aiz_c, aij_, aij_a, aij_b, aij_c, aoi_, aoi_a, aoi_b, aoi_c, aoj_, aoj_a, aoj_b, aoj_c, scopy_, scopy_a, scopy_b, scopy_c, scopy_d, scopy_e, ssw_, ssw_a, sel_n, sel_c, mfi_, mfi_a, mfj_, mfj_a, mfz_, mfz_a, kb_mfv_, mfv_, mfv_a, cut, lset, lset2, isL, Value.category, ent, entn, if_some, if_pair, if_cons, if_int, if_long, if_ref, ite_self, gz_b, ↓icb, ↓icb2, b2i_ne, ge0, ge1, ge2, ge3, ge4, ge5, ge6, ge7, ge8, ge9, ge10, ge11, ge12, ge13, ge14, lit32, nI_add, pk_mul, clt_nI, cle_nI, cgt_nI, cge_nI, ceq_nI, cne_nI, inr_nI, nI_clamp, nI_eq, nI_leI, nI_ltI, z]
    have l1 := swh_stop (c := qX0_differs_1) (b := wX0_differs_1) (v := .int (nI 1)) (r2 := [.ref 61, .int (nI s), .int (nI e), .int (nI (s + m))]) (M2 := M) (fun i => [.ref 61, .int (nI s), .int (nI e), .int (nI (s + i))]) M m cond
      (fun i hi => by
        have z := h3 i hi
        have z2 : s + i < 54 := by omega
        have z3 : cne (M.1 62 (s + i)) (M.1 62 (s + i)) = false := by unfold cne; simp
        have z4 : s + i + 1 = s + (i + 1) := by omega
        simp -implicitDefEqProofs (disch := omega) [wX0_differs_1, kp_, bsome, bnone, gi_s, gj_s, gr_s, gv_s, ik_, jk_, il_, jl_, rl_, i2_, i2_a, i2_b, j2_, j2_a, j2_b, i2d_, i2d_a, i2d_b, j2d_, j2d_a, j2d_b, i1_, i1_a, j1_, j1_a, i2l_, i2l_a, l2i_, l2i_a, fgi_, fgi_a, fgj_, fgj_a, fgr_, fgr_a, iald_, iald_a, iald_b, zald_, zald_a, zald_b, jald_, jald_a, jald_b, rald_, rald_a, rald_b, alen_, alen_a, sald_, sald_a, ic_, ic_a, jc_, jc_a, bc_, bc_a, bc_b, bj_, bj_a, bj_b, bz_, bz_a, band_, band_a, bor_, bor_a, bnot_, bnot_a, anil_, ai_, ai_a, ai_b, aj_, aj_a, aj_b, ar_, ar_a, ar_b, kb2i_, cvi_, cvi_a, cvi_b, cvj_, cvj_a, cvj_b, cvz_, cvz_a, cvz_b, csi_, csi_a, csj_, csj_a, csz_, csz_a, snop_, sseq_, sseq_n, sseq_s, sif_, sif_a, scut_, scut_a, ssi_, ssi_a, ssj_, ssj_a, ssr_, ssr_a, sinc_, sinc_a, sret_, sret_a, sretj_, sretj_a, sretv_, spop_, spop_a, kc_scv_, scv_, scv_a, scv_b, scs_, scs_a, fpi_, fpi_a, fpi_b, fpj_, fpj_a, fpj_b, foi_, foi_a, foi_b, foj_, foj_a, foj_b, aii_, aii_a, aii_b, aii_c, aiz_, aiz_a, aiz_b, aiz_c, aij_, aij_a, aij_b, aij_c, aoi_, aoi_a, aoi_b, aoi_c, aoj_, aoj_a, aoj_b, aoj_c, scopy_, scopy_a, scopy_b, scopy_c, scopy_d, scopy_e, ssw_, ssw_a, sel_n, sel_c, mfi_, mfi_a, mfj_, mfj_a, mfz_, mfz_a, kb_mfv_, mfv_, mfv_a, cut, lset, lset2, isL, Value.category, ent, entn, if_some, if_pair, if_cons, if_int, if_long, if_ref, ite_self, gz_b, ↓icb, ↓icb2, b2i_ne, ge0, ge1, ge2, ge3, ge4, ge5, ge6, ge7, ge8, ge9, ge10, ge11, ge12, ge13, ge14, lit32, nI_add, pk_mul, clt_nI, cle_nI, cgt_nI, cge_nI, ceq_nI, cne_nI, inr_nI, nI_clamp, nI_eq, nI_leI, nI_ltI, k61, f61_0, f61_1, f61_2, f61_3, f61_5, f61_6, f61_7, f61_10, k62, k63, k64, k92, k93, k94, k95, k96, l62, l63, l64, l92, l93, l94, l95, l96, f64_, k65_, l65_, z, z3, z4])
      (by
        have z2 : s + m < 54 := by omega
        have z3 : cne (M.1 63 (s + m)) (M.1 62 (s + m)) = true := by unfold cne; exact decide_eq_true h2
        simp -implicitDefEqProofs (disch := omega) [wX0_differs_1, kp_, bsome, bnone, gi_s, gj_s, gr_s, gv_s, ik_, jk_, il_, jl_, rl_, i2_, i2_a, i2_b, j2_, j2_a, j2_b, i2d_, i2d_a, i2d_b, j2d_, j2d_a, j2d_b, i1_, i1_a, j1_, j1_a, i2l_, i2l_a, l2i_, l2i_a, fgi_, fgi_a, fgj_, fgj_a, fgr_, fgr_a, iald_, iald_a, iald_b, zald_, zald_a, zald_b, jald_, jald_a, jald_b, rald_, rald_a, rald_b, alen_, alen_a, sald_, sald_a, ic_, ic_a, jc_, jc_a, bc_, bc_a, bc_b, bj_, bj_a, bj_b, bz_, bz_a, band_, band_a, bor_, bor_a, bnot_, bnot_a, anil_, ai_, ai_a, ai_b, aj_, aj_a, aj_b, ar_, ar_a, ar_b, kb2i_, cvi_, cvi_a, cvi_b, cvj_, cvj_a, cvj_b, cvz_, cvz_a, cvz_b, csi_, csi_a, csj_, csj_a, csz_, csz_a, snop_, sseq_, sseq_n, sseq_s, sif_, sif_a, scut_, scut_a, ssi_, ssi_a, ssj_, ssj_a, ssr_, ssr_a, sinc_, sinc_a, sret_, sret_a, sretj_, sretj_a, sretv_, spop_, spop_a, kc_scv_, scv_, scv_a, scv_b, scs_, scs_a, fpi_, fpi_a, fpi_b, fpj_, fpj_a, fpj_b, foi_, foi_a, foi_b, foj_, foj_a, foj_b, aii_, aii_a, aii_b, aii_c, aiz_, aiz_a, aiz_b, aiz_c, aij_, aij_a, aij_b, aij_c, aoi_, aoi_a, aoi_b, aoi_c, aoj_, aoj_a, aoj_b, aoj_c, scopy_, scopy_a, scopy_b, scopy_c, scopy_d, scopy_e, ssw_, ssw_a, sel_n, sel_c, mfi_, mfi_a, mfj_, mfj_a, mfz_, mfz_a, kb_mfv_, mfv_, mfv_a, cut, lset, lset2, isL, Value.category, ent, entn, if_some, if_pair, if_cons, if_int, if_long, if_ref, ite_self, gz_b, ↓icb, ↓icb2, b2i_ne, ge0, ge1, ge2, ge3, ge4, ge5, ge6, ge7, ge8, ge9, ge10, ge11, ge12, ge13, ge14, lit32, nI_add, pk_mul, clt_nI, cle_nI, cgt_nI, cge_nI, ceq_nI, cne_nI, inr_nI, nI_clamp, nI_eq, nI_leI, nI_ltI, k61, f61_0, f61_1, f61_2, f61_3, f61_5, f61_6, f61_7, f61_10, k62, k63, k64, k92, k93, k94, k95, k96, l62, l63, l64, l92, l93, l94, l95, l96, f64_, k65_, l65_, z3])
    rw [Nat.add_zero] at l1
    simp -implicitDefEqProofs (disch := omega) [DX0_differs, EX0_differs, kp_, bsome, bnone, gi_s, gj_s, gr_s, gv_s, ik_, jk_, il_, jl_, rl_, i2_, i2_a, i2_b, j2_, j2_a, j2_b, i2d_, i2d_a, i2d_b, j2d_, j2d_a, j2d_b, i1_, i1_a, j1_, j1_a, i2l_, i2l_a, l2i_, l2i_a, fgi_, fgi_a, fgj_, fgj_a, fgr_, fgr_a, iald_, iald_a, iald_b, zald_, zald_a, zald_b, jald_, jald_a, jald_b, rald_, rald_a, rald_b, alen_, alen_a, sald_, sald_a, ic_, ic_a, jc_, jc_a, bc_, bc_a, bc_b, bj_, bj_a, bj_b, bz_, bz_a, band_, band_a, bor_, bor_a, bnot_, bnot_a, anil_, ai_, ai_a, ai_b, aj_, aj_a, aj_b, ar_, ar_a, ar_b, kb2i_, cvi_, cvi_a, cvi_b, cvj_, cvj_a, cvj_b, cvz_, cvz_a, cvz_b, csi_, csi_a, csj_, csj_a, csz_, csz_a, snop_, sseq_, sseq_n, sseq_s, sif_, sif_a, scut_, scut_a, ssi_, ssi_a, ssj_, ssj_a, ssr_, ssr_a, sinc_, sinc_a, sret_, sret_a, sretj_, sretj_a, sretv_, spop_, spop_a, kc_scv_, scv_, scv_a, scv_b, scs_, scs_a, fpi_, fpi_a, fpi_b, fpj_, fpj_a, fpj_b, foi_, foi_a, foi_b, foj_, foj_a, foj_b, aii_, aii_a, aii_b, aii_c, aiz_, aiz_a, aiz_b, aiz_c, aij_, aij_a, aij_b, aij_c, aoi_, aoi_a, aoi_b, aoi_c, aoj_, aoj_a, aoj_b, aoj_c, scopy_, scopy_a, scopy_b, scopy_c, scopy_d, scopy_e, ssw_, ssw_a, sel_n, sel_c, mfi_, mfi_a, mfj_, mfj_a, mfz_, mfz_a, kb_mfv_, mfv_, mfv_a, cut, lset, lset2, isL, Value.category, ent, entn, if_some, if_pair, if_cons, if_int, if_long, if_ref, ite_self, gz_b, ↓icb, ↓icb2, b2i_ne, ge0, ge1, ge2, ge3, ge4, ge5, ge6, ge7, ge8, ge9, ge10, ge11, ge12, ge13, ge14, lit32, nI_add, pk_mul, clt_nI, cle_nI, cgt_nI, cge_nI, ceq_nI, cne_nI, inr_nI, nI_clamp, nI_eq, nI_leI, nI_ltI, l1, gz_1]
/-! as rows are sought -/
def PF2 (M N : Me) : Prop := (∀ a, a ≠ 61 → a ≠ 93 → a ≠ 95 → N.1 a = M.1 a) ∧ (∀ j, j ≠ 4 → j ≠ 8 → N.1 61 j = M.1 61 j) ∧ (∀ a, ¬ (65 ≤ a ∧ a ≤ 92) → N.2 a = M.2 a)
set_option maxRecDepth 20000 in
theorem c_search {w : Int32} (hk : KV (M.1 62) k) (hg : GK k) (hn : BN M k) (hI : ∀ q, q < 27 → BI M k q) (h8 : M.1 61 8 = -(nI 1)) : ∃ N i, swh qX0_solve_2 wX0_solve_2 [.ref 61, .ref b, .int w, .int (nI 0)] M = some (none, [.ref 61, .ref b, .int w, .int (nI i)], N) ∧ PF2 M N ∧ (∀ q, q < 27 → BI N k q) ∧ ((fR (kok k) 27 = none ∧ N.1 61 8 = -(nI 1)) ∨ ∃ m, fR (kok k) 27 = some m ∧ N.1 61 8 = nI m ∧ iv (N.1 61 4) m = true) := by
  have ce : ceq (-(nI 1)) (-(nI 1)) = true := by decide
  have step : ∀ i, i < 27 → ∀ N : Me, (PF M N ∧ (∀ q, q < 27 → BI N k q) ∧ N.1 61 8 = -(nI 1)) → ∃ N2, DX0_prepare [.ref 61, .int (nI i)] N = some N2 ∧ DX0_agrees [.ref 61, .int (nI i)] N2 = some (kok k i, N2) ∧ (kcb k i = true → iv (N2.1 61 4) i = true) ∧ PF M N2 ∧ (∀ q, q < 27 → BI N2 k q) ∧ N2.1 61 8 = -(nI 1) := fun i hi N hN => by
    obtain ⟨p1, p2, p3⟩ := hN
    obtain ⟨N2, e1, e2, e3, e4, e5⟩ := c_prepare (M := N) (k := k) (r := i) (by rw [p1.1 62 (by decide) (by decide) (by decide)]; exact hk) hg (fun c hc => by rw [p1.1 94 (by decide) (by decide) (by decide)]; exact hn c hc) hi p2
    exact ⟨N2, e1, e2, e4, p1.trans e5, e3, by rw [e5.2.1 8 (by decide)]; exact p3⟩
  have nos : ∀ i, i < 27 → kok k i = false → ∀ N : Me, (PF M N ∧ (∀ q, q < 27 → BI N k q) ∧ N.1 61 8 = -(nI 1)) → ∃ N2, wX0_solve_2 [.ref 61, .ref b, .int w, .int (nI i)] N = some (none, [.ref 61, .ref b, .int w, .int (nI (i + 1))], N2) ∧ (PF M N2 ∧ (∀ q, q < 27 → BI N2 k q) ∧ N2.1 61 8 = -(nI 1)) := fun i hi hf N hN => by
    obtain ⟨N2, e1, e2, e3, e4, e5, e6⟩ := step i hi N hN
    rw [hf] at e2
    refine ⟨N2, ?_, e4, e5, e6⟩
    simp -implicitDefEqProofs (disch := omega) [wX0_solve_2, kp_, bsome, bnone, gi_s, gj_s, gr_s, gv_s, ik_, jk_, il_, jl_, rl_, i2_, i2_a, i2_b, j2_, j2_a, j2_b, i2d_, i2d_a, i2d_b, j2d_, j2d_a, j2d_b, i1_, i1_a, j1_, j1_a, i2l_, i2l_a, l2i_, l2i_a, fgi_, fgi_a, fgj_, fgj_a, fgr_, fgr_a, iald_, iald_a, iald_b, zald_, zald_a, zald_b, jald_, jald_a, jald_b, rald_, rald_a, rald_b, alen_, alen_a, sald_, sald_a, ic_, ic_a, jc_, jc_a, bc_, bc_a, bc_b, bj_, bj_a, bj_b, bz_, bz_a, band_, band_a, bor_, bor_a, bnot_, bnot_a, anil_, ai_, ai_a, ai_b, aj_, aj_a, aj_b, ar_, ar_a, ar_b, kb2i_, cvi_, cvi_a, cvi_b, cvj_, cvj_a, cvj_b, cvz_, cvz_a, cvz_b, csi_, csi_a, csj_, csj_a, csz_, csz_a, snop_, sseq_, sseq_n, sseq_s, sif_, sif_a, scut_, scut_a, ssi_, ssi_a, ssj_, ssj_a, ssr_, ssr_a, sinc_, sinc_a, sret_, sret_a, sretj_, sretj_a, sretv_, spop_, spop_a, kc_scv_, scv_, scv_a, scv_b, scs_, scs_a, fpi_, fpi_a, fpi_b, fpj_, fpj_a, fpj_b, foi_, foi_a, foi_b, foj_, foj_a, foj_b, aii_, aii_a, aii_b, aii_c, aiz_, aiz_a, aiz_b, aiz_c, aij_, aij_a, aij_b, aij_c, aoi_, aoi_a, aoi_b, aoi_c, aoj_, aoj_a, aoj_b, aoj_c, scopy_, scopy_a, scopy_b, scopy_c, scopy_d, scopy_e, ssw_, ssw_a, sel_n, sel_c, mfi_, mfi_a, mfj_, mfj_a, mfz_, mfz_a, kb_mfv_, mfv_, mfv_a, cut, lset, lset2, isL, Value.category, ent, entn, if_some, if_pair, if_cons, if_int, if_long, if_ref, ite_self, gz_b, ↓icb, ↓icb2, b2i_ne, ge0, ge1, ge2, ge3, ge4, ge5, ge6, ge7, ge8, ge9, ge10, ge11, ge12, ge13, ge14, lit32, nI_add, pk_mul, clt_nI, cle_nI, cgt_nI, cge_nI, ceq_nI, cne_nI, inr_nI, nI_clamp, nI_eq, nI_leI, nI_ltI, k61, e1, e2]
  have cond : ∀ i, i < 27 → ∀ N : Me, (PF M N ∧ (∀ q, q < 27 → BI N k q) ∧ N.1 61 8 = -(nI 1)) → qX0_solve_2 [.ref 61, .ref b, .int w, .int (nI i)] N = some (true, N) := fun i hi N hN => by
    have e := hN.2.2
    simp -implicitDefEqProofs (disch := omega) [qX0_solve_2, kp_, bsome, bnone, gi_s, gj_s, gr_s, gv_s, ik_, jk_, il_, jl_, rl_, i2_, i2_a, i2_b, j2_, j2_a, j2_b, i2d_, i2d_a, i2d_b, j2d_, j2d_a, j2d_b, i1_, i1_a, j1_, j1_a, i2l_, i2l_a, l2i_, l2i_a, fgi_, fgi_a, fgj_, fgj_a, fgr_, fgr_a, iald_, iald_a, iald_b, zald_, zald_a, zald_b, jald_, jald_a, jald_b, rald_, rald_a, rald_b, alen_, alen_a, sald_, sald_a, ic_, ic_a, jc_, jc_a, bc_, bc_a, bc_b, bj_, bj_a, bj_b, bz_, bz_a, band_, band_a, bor_, bor_a, bnot_, bnot_a, anil_, ai_, ai_a, ai_b, aj_, aj_a, aj_b, ar_, ar_a, ar_b, kb2i_, cvi_, cvi_a, cvi_b, cvj_, cvj_a, cvj_b, cvz_, cvz_a, cvz_b, csi_, csi_a, csj_, csj_a, csz_, csz_a, snop_, sseq_, sseq_n, sseq_s, sif_, sif_a, scut_, scut_a, ssi_, ssi_a, ssj_, ssj_a, ssr_, ssr_a, sinc_, sinc_a, sret_, sret_a, sretj_, sretj_a, sretv_, spop_, spop_a, kc_scv_, scv_, scv_a, scv_b, scs_, scs_a, fpi_, fpi_a, fpi_b, fpj_, fpj_a, fpj_b, foi_, foi_a, foi_b, foj_, foj_a, foj_b, aii_, aii_a, aii_b, aii_c, aiz_, aiz_a, aiz_b, aiz_c, aij_, aij_a, aij_b, aij_c, aoi_, aoi_a, aoi_b, aoi_c, aoj_, aoj_a, aoj_b, aoj_c, scopy_, scopy_a, scopy_b, scopy_c, scopy_d, scopy_e, ssw_, ssw_a, sel_n, sel_c, mfi_, mfi_a, mfj_, mfj_a, mfz_, mfz_a, kb_mfv_, mfv_, mfv_a, cut, lset, lset2, isL, Value.category, ent, entn, if_some, if_pair, if_cons, if_int, if_long, if_ref, ite_self, gz_b, ↓icb, ↓icb2, b2i_ne, ge0, ge1, ge2, ge3, ge4, ge5, ge6, ge7, ge8, ge9, ge10, ge11, ge12, ge13, ge14, lit32, nI_add, pk_mul, clt_nI, cle_nI, cgt_nI, cge_nI, ceq_nI, cne_nI, inr_nI, nI_clamp, nI_eq, nI_leI, nI_ltI, k61, hi, e, ce]
  rcases least_or (fun i => kok k i = false) 27 with h | ⟨m, h1, h2, h3⟩
  · obtain ⟨N, l1, p1, p2, p3⟩ := swh_inv (c := qX0_solve_2) (b := wX0_solve_2) (fun i => [.ref 61, .ref b, .int w, .int (nI i)]) (fun _ N => PF M N ∧ (∀ q, q < 27 → BI N k q) ∧ N.1 61 8 = -(nI 1)) 27 cond (fun i hi N hN => nos i hi (h i hi) N hN) (fun N hN => by simp -implicitDefEqProofs (disch := omega) [qX0_solve_2, kp_, bsome, bnone, gi_s, gj_s, gr_s, gv_s, ik_, jk_, il_, jl_, rl_, i2_, i2_a, i2_b, j2_, j2_a, j2_b, i2d_, i2d_a, i2d_b, j2d_, j2d_a, j2d_b, i1_, i1_a, j1_, j1_a, i2l_, i2l_a, l2i_, l2i_a, fgi_, fgi_a, fgj_, fgj_a, fgr_, fgr_a, iald_, iald_a, iald_b, zald_, zald_a, zald_b, jald_, jald_a, jald_b, rald_, rald_a, rald_b, alen_, alen_a, sald_, sald_a, ic_, ic_a, jc_, jc_a, bc_, bc_a, bc_b, bj_, bj_a, bj_b, bz_, bz_a, band_, band_a, bor_, bor_a, bnot_, bnot_a, anil_, ai_, ai_a, ai_b, aj_, aj_a, aj_b, ar_, ar_a, ar_b, kb2i_, cvi_, cvi_a, cvi_b, cvj_, cvj_a, cvj_b, cvz_, cvz_a, cvz_b, csi_, csi_a, csj_, csj_a, csz_, csz_a, snop_, sseq_, sseq_n, sseq_s, sif_, sif_a, scut_, scut_a, ssi_, ssi_a, ssj_, ssj_a, ssr_, ssr_a, sinc_, sinc_a, sret_, sret_a, sretj_, sretj_a, sretv_, spop_, spop_a, kc_scv_, scv_, scv_a, scv_b, scs_, scs_a, fpi_, fpi_a, fpi_b, fpj_, fpj_a, fpj_b, foi_, foi_a, foi_b, foj_, foj_a, foj_b, aii_, aii_a, aii_b, aii_c, aiz_, aiz_a, aiz_b, aiz_c, aij_, aij_a, aij_b, aij_c, aoi_, aoi_a, aoi_b, aoi_c, aoj_, aoj_a, aoj_b, aoj_c, scopy_, scopy_a, scopy_b, scopy_c, scopy_d, scopy_e, ssw_, ssw_a, sel_n, sel_c, mfi_, mfi_a, mfj_, mfj_a, mfz_, mfz_a, kb_mfv_, mfv_, mfv_a, cut, lset, lset2, isL, Value.category, ent, entn, if_some, if_pair, if_cons, if_int, if_long, if_ref, ite_self, gz_b, ↓icb, ↓icb2, b2i_ne, ge0, ge1, ge2, ge3, ge4, ge5, ge6, ge7, ge8, ge9, ge10, ge11, ge12, ge13, ge14, lit32, nI_add, pk_mul, clt_nI, cle_nI, cgt_nI, cge_nI, ceq_nI, cne_nI, inr_nI, nI_clamp, nI_eq, nI_leI, nI_ltI]) M ⟨PF.refl, hI, h8⟩
    exact ⟨N, 27, l1, ⟨p1.1, fun j j4 _ => p1.2.1 j j4, p1.2.2⟩, p2, Or.inl ⟨fR_no h, p3⟩⟩
  · have hm : kok k m = true := by simpa using h2
    have hcb : kcb k m = true := by unfold kok at hm; rw [Bool.and_eq_true] at hm; exact hm.1
    obtain ⟨N, l1, hN⟩ := swh_inv (c := qX0_solve_2) (b := wX0_solve_2) (fun i => [.ref 61, .ref b, .int w, .int (nI i)]) (fun i N => (i ≤ m ∧ PF M N ∧ (∀ q, q < 27 → BI N k q) ∧ N.1 61 8 = -(nI 1)) ∨ (i = m + 1 ∧ PF2 M N ∧ (∀ q, q < 27 → BI N k q) ∧ N.1 61 8 = nI m ∧ iv (N.1 61 4) m = true)) (m + 1)
      (fun i hi N hN => by
        rcases hN with hN | hN
        · exact cond i (by omega) N hN.2
        · omega)
      (fun i hi N hN => by
        rcases hN with hN | hN
        · by_cases e : i = m
          · subst e
            obtain ⟨N2, e1, e2, e3, e4, e5, e6⟩ := step i h1 N hN.2
            rw [hm] at e2
            refine ⟨wi N2 61 8 (nI i), ?_, Or.inr ⟨rfl, ⟨fun a a1 a2 a3 => by rw [wi_ne a1]; exact e4.1 a a1 a2 a3, fun j j4 hj => by rw [wi_ns hj, e4.2.1 j j4], e4.2.2⟩, fun q hq => (e5 q hq).frame (by rw [wi_ns (by decide)]) (by rw [wi_ne (by decide)]) rfl rfl, wi_at, by rw [wi_ns (by decide)]; exact e3 hcb⟩⟩
            simp -implicitDefEqProofs (disch := omega) [wX0_solve_2, kp_, bsome, bnone, gi_s, gj_s, gr_s, gv_s, ik_, jk_, il_, jl_, rl_, i2_, i2_a, i2_b, j2_, j2_a, j2_b, i2d_, i2d_a, i2d_b, j2d_, j2d_a, j2d_b, i1_, i1_a, j1_, j1_a, i2l_, i2l_a, l2i_, l2i_a, fgi_, fgi_a, fgj_, fgj_a, fgr_, fgr_a, iald_, iald_a, iald_b, zald_, zald_a, zald_b, jald_, jald_a, jald_b, rald_, rald_a, rald_b, alen_, alen_a, sald_, sald_a, ic_, ic_a, jc_, jc_a, bc_, bc_a, bc_b, bj_, bj_a, bj_b, bz_, bz_a, band_, band_a, bor_, bor_a, bnot_, bnot_a, anil_, ai_, ai_a, ai_b, aj_, aj_a, aj_b, ar_, ar_a, ar_b, kb2i_, cvi_, cvi_a, cvi_b, cvj_, cvj_a, cvj_b, cvz_, cvz_a, cvz_b, csi_, csi_a, csj_, csj_a, csz_, csz_a, snop_, sseq_, sseq_n, sseq_s, sif_, sif_a, scut_, scut_a, ssi_, ssi_a, ssj_, ssj_a, ssr_, ssr_a, sinc_, sinc_a, sret_, sret_a, sretj_, sretj_a, sretv_, spop_, spop_a, kc_scv_, scv_, scv_a, scv_b, scs_, scs_a, fpi_, fpi_a, fpi_b, fpj_, fpj_a, fpj_b, foi_, foi_a, foi_b, foj_, foj_a, foj_b, aii_, aii_a, aii_b, aii_c, aiz_, aiz_a, aiz_b, aiz_c, aij_, aij_a, aij_b, aij_c, aoi_, aoi_a, aoi_b, aoi_c, aoj_, aoj_a, aoj_b, aoj_c, scopy_, scopy_a, scopy_b, scopy_c, scopy_d, scopy_e, ssw_, ssw_a, sel_n, sel_c, mfi_, mfi_a, mfj_, mfj_a, mfz_, mfz_a, kb_mfv_, mfv_, mfv_a, cut, lset, lset2, isL, Value.category, ent, entn, if_some, if_pair, if_cons, if_int, if_long, if_ref, ite_self, gz_b, ↓icb, ↓icb2, b2i_ne, ge0, ge1, ge2, ge3, ge4, ge5, ge6, ge7, ge8, ge9, ge10, ge11, ge12, ge13, ge14, lit32, nI_add, pk_mul, clt_nI, cle_nI, cgt_nI, cge_nI, ceq_nI, cne_nI, inr_nI, nI_clamp, nI_eq, nI_leI, nI_ltI, k61, e1, e2]
          · obtain ⟨N2, e1, e2⟩ := nos i (by omega) (h3 i (by omega)) N hN.2
            exact ⟨N2, e1, Or.inl ⟨by omega, e2⟩⟩
        · omega)
      (fun N hN => by
        rcases hN with hN | hN
        · omega
        · have e := hN.2.2.2.1
          have cf : ceq (nI m) (-(nI 1)) = false := by
            unfold ceq
            refine decide_eq_false (fun z => ?_)
            have y := congrArg Int32.toInt z
            rw [nI_toInt (by omega)] at y
            have w : (-(nI 1)).toInt = -1 := by decide
            omega
          simp -implicitDefEqProofs (disch := omega) [qX0_solve_2, kp_, bsome, bnone, gi_s, gj_s, gr_s, gv_s, ik_, jk_, il_, jl_, rl_, i2_, i2_a, i2_b, j2_, j2_a, j2_b, i2d_, i2d_a, i2d_b, j2d_, j2d_a, j2d_b, i1_, i1_a, j1_, j1_a, i2l_, i2l_a, l2i_, l2i_a, fgi_, fgi_a, fgj_, fgj_a, fgr_, fgr_a, iald_, iald_a, iald_b, zald_, zald_a, zald_b, jald_, jald_a, jald_b, rald_, rald_a, rald_b, alen_, alen_a, sald_, sald_a, ic_, ic_a, jc_, jc_a, bc_, bc_a, bc_b, bj_, bj_a, bj_b, bz_, bz_a, band_, band_a, bor_, bor_a, bnot_, bnot_a, anil_, ai_, ai_a, ai_b, aj_, aj_a, aj_b, ar_, ar_a, ar_b, kb2i_, cvi_, cvi_a, cvi_b, cvj_, cvj_a, cvj_b, cvz_, cvz_a, cvz_b, csi_, csi_a, csj_, csj_a, csz_, csz_a, snop_, sseq_, sseq_n, sseq_s, sif_, sif_a, scut_, scut_a, ssi_, ssi_a, ssj_, ssj_a, ssr_, ssr_a, sinc_, sinc_a, sret_, sret_a, sretj_, sretj_a, sretv_, spop_, spop_a, kc_scv_, scv_, scv_a, scv_b, scs_, scs_a, fpi_, fpi_a, fpi_b, fpj_, fpj_a, fpj_b, foi_, foi_a, foi_b, foj_, foj_a, foj_b, aii_, aii_a, aii_b, aii_c, aiz_, aiz_a, aiz_b, aiz_c, aij_, aij_a, aij_b, aij_c, aoi_, aoi_a, aoi_b, aoi_c, aoj_, aoj_a, aoj_b, aoj_c, scopy_, scopy_a, scopy_b, scopy_c, scopy_d, scopy_e, ssw_, ssw_a, sel_n, sel_c, mfi_, mfi_a, mfj_, mfj_a, mfz_, mfz_a, kb_mfv_, mfv_, mfv_a, cut, lset, lset2, isL, Value.category, ent, entn, if_some, if_pair, if_cons, if_int, if_long, if_ref, ite_self, gz_b, ↓icb, ↓icb2, b2i_ne, ge0, ge1, ge2, ge3, ge4, ge5, ge6, ge7, ge8, ge9, ge10, ge11, ge12, ge13, ge14, lit32, nI_add, pk_mul, clt_nI, cle_nI, cgt_nI, cge_nI, ceq_nI, cne_nI, inr_nI, nI_clamp, nI_eq, nI_leI, nI_ltI, k61, e, cf])
      M (Or.inl ⟨by omega, PF.refl, hI, h8⟩)
    rcases hN with hN | hN
    · omega
    · exact ⟨N, m + 1, l1, hN.2.1, hN.2.2.1, Or.inr ⟨m, fR_of h1 hm h3, hN.2.2.2.1, hN.2.2.2.2⟩⟩
end
