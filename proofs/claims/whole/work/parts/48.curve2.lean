set_option maxRecDepth 20000 in
theorem wi_re {N : Me} {a k : Nat} {v x : Int32} (h : N.1 a k = x) : wi (wi N a k v) a k x = N := by
  unfold wi
  have : (fun q j => if q = a ∧ j = k then x else if q = a ∧ j = k then v else N.1 q j) = N.1 := by
    funext q j
    by_cases e : q = a ∧ j = k
    · obtain ⟨rfl, rfl⟩ := e
      rw [if_pos ⟨rfl, rfl⟩, h]
    · rw [if_neg e, if_neg e]
  simp only []
  rw [this]
theorem cvl_e : ∀ w, w < 6 → (if w = 3 ∨ w = 4 then (1 : Int64) else 0).toInt = cvl w ∧ (if w < 3 then (40 : Int64) else 9999).toInt = cvh w := by decide
set_option maxRecDepth 20000 in
theorem ac_curve {M : Me} {nc nt np nw tm o u : Nat} (h : Core M nc nt np nw tm o u) (x0 x1 x2 : Int32) : Act DX7_curve DX8_curve [.int x0, .int x1, .int x2] M := by
  have hb := h.1.2.1
  have hn1 := h.2.1.2.1.2.2.1
  have hr1 := h.1.1.2.2.1
  have hrt := h.1.1.2.1
  by_cases g1 : bw x1 0 5 = true
  case neg =>
    have g1 : bw x1 0 5 = false := by simpa using g1
    refine act_rf2 (k := 1) (i := 0) h (by omega) ?_ ?_
    · simp -implicitDefEqProofs (disch := omega) [DX7_curve, EX7_curve, kp_, bsome, bnone, gi_s, gj_s, gr_s, gv_s, ik_, jk_, il_, jl_, rl_, i2_, i2_a, i2_b, j2_, j2_a, j2_b, i2d_, i2d_a, i2d_b, j2d_, j2d_a, j2d_b, i1_, i1_a, j1_, j1_a, i2l_, i2l_a, l2i_, l2i_a, fgi_, fgi_a, fgj_, fgj_a, fgr_, fgr_a, iald_, iald_a, iald_b, zald_, zald_a, zald_b, jald_, jald_a, jald_b, rald_, rald_a, rald_b, alen_, alen_a, sald_, sald_a, ic_, ic_a, jc_, jc_a, bc_, bc_a, bc_b, bj_, bj_a, bj_b, bz_, bz_a, band_, band_a, bor_, bor_a, bnot_, bnot_a, anil_, ai_, ai_a, ai_b, aj_, aj_a, aj_b, ar_, ar_a, ar_b, kb2i_, cvi_, cvi_a, cvi_b, cvj_, cvj_a, cvj_b, cvz_, cvz_a, cvz_b, csi_, csi_a, csj_, csj_a, csz_, csz_a, snop_, sseq_, sseq_n, sseq_s, sif_, sif_a, scut_, scut_a, ssi_, ssi_a, ssj_, ssj_a, ssr_, ssr_a, sinc_, sinc_a, sret_, sret_a, sretj_, sretj_a, sretv_, spop_, spop_a, kc_scv_, scv_, scv_a, scv_b, scs_, scs_a, fpi_, fpi_a, fpi_b, fpj_, fpj_a, fpj_b, foi_, foi_a, foi_b, foj_, foj_a, foj_b, aii_, aii_a, aii_b, aii_c, aiz_, aiz_a, aiz_b, aiz_c, aij_, aij_a, aij_b, aij_c, aoi_, aoi_a, aoi_b, aoi_c, aoj_, aoj_a, aoj_b, aoj_c, scopy_, scopy_a, scopy_b, scopy_c, scopy_d, scopy_e, ssw_, ssw_a, sel_n, sel_c, mfi_, mfi_a, mfj_, mfj_a, mfz_, mfz_a, kb_mfv_, mfv_, mfv_a, cut, lset, lset2, isL, Value.category, ent, entn, if_some, if_pair, if_cons, if_int, if_long, if_ref, ite_self, gz_b, ↓icb, ↓icb2, b2i_ne, ge0, ge1, ge2, ge3, ge4, ge5, ge6, ge7, ge8, ge9, ge10, ge11, ge12, ge13, ge14, lit32, nI_add, pk_mul, clt_nI, cle_nI, cgt_nI, cge_nI, ceq_nI, cne_nI, inr_nI, nI_clamp, nI_eq, nI_leI, nI_ltI, k0, c_refuse1, c_isCurveNumberN g1]
    · simp -implicitDefEqProofs (disch := omega) [DX8_curve, EX8_curve, kp_, bsome, bnone, gi_s, gj_s, gr_s, gv_s, ik_, jk_, il_, jl_, rl_, i2_, i2_a, i2_b, j2_, j2_a, j2_b, i2d_, i2d_a, i2d_b, j2d_, j2d_a, j2d_b, i1_, i1_a, j1_, j1_a, i2l_, i2l_a, l2i_, l2i_a, fgi_, fgi_a, fgj_, fgj_a, fgr_, fgr_a, iald_, iald_a, iald_b, zald_, zald_a, zald_b, jald_, jald_a, jald_b, rald_, rald_a, rald_b, alen_, alen_a, sald_, sald_a, ic_, ic_a, jc_, jc_a, bc_, bc_a, bc_b, bj_, bj_a, bj_b, bz_, bz_a, band_, band_a, bor_, bor_a, bnot_, bnot_a, anil_, ai_, ai_a, ai_b, aj_, aj_a, aj_b, ar_, ar_a, ar_b, kb2i_, cvi_, cvi_a, cvi_b, cvj_, cvj_a, cvj_b, cvz_, cvz_a, cvz_b, csi_, csi_a, csj_, csj_a, csz_, csz_a, snop_, sseq_, sseq_n, sseq_s, sif_, sif_a, scut_, scut_a, ssi_, ssi_a, ssj_, ssj_a, ssr_, ssr_a, sinc_, sinc_a, sret_, sret_a, sretj_, sretj_a, sretv_, spop_, spop_a, kc_scv_, scv_, scv_a, scv_b, scs_, scs_a, fpi_, fpi_a, fpi_b, fpj_, fpj_a, fpj_b, foi_, foi_a, foi_b, foj_, foj_a, foj_b, aii_, aii_a, aii_b, aii_c, aiz_, aiz_a, aiz_b, aiz_c, aij_, aij_a, aij_b, aij_c, aoi_, aoi_a, aoi_b, aoi_c, aoj_, aoj_a, aoj_b, aoj_c, scopy_, scopy_a, scopy_b, scopy_c, scopy_d, scopy_e, ssw_, ssw_a, sel_n, sel_c, mfi_, mfi_a, mfj_, mfj_a, mfz_, mfz_a, kb_mfv_, mfv_, mfv_a, cut, lset, lset2, isL, Value.category, ent, entn, if_some, if_pair, if_cons, if_int, if_long, if_ref, ite_self, gz_b, ↓icb, ↓icb2, b2i_ne, ge0, ge1, ge2, ge3, ge4, ge5, ge6, ge7, ge8, ge9, ge10, ge11, ge12, ge13, ge14, lit32, nI_add, pk_mul, clt_nI, cle_nI, cgt_nI, cge_nI, ceq_nI, cne_nI, inr_nI, nI_clamp, nI_eq, nI_leI, nI_ltI, k492, f492_2, f492_3, f492_4, f492_5, f492_7, f492_8, f492_9, f492_10, k493, k494, k495, k496, k497, k498, k499, k500, l493, l494, l495, l496, l497, l498, l499, l500, r_refuse1', r_in, l_in2, g1]
  obtain ⟨w, hw5, rfl⟩ := bw_ex (n := 5) g1
  have hw : w < 6 := by omega
  obtain ⟨el, eh⟩ := cvl_e w hw
  by_cases g2 : bw x2 (cvl w) (cvh w) = true
  case neg =>
    have g2 : bw x2 (cvl w) (cvh w) = false := by simpa using g2
    refine act_rf2 (k := 1) (i := 0) h (by omega) ?_ ?_
    · simp -implicitDefEqProofs (disch := omega) [DX7_curve, EX7_curve, kp_, bsome, bnone, gi_s, gj_s, gr_s, gv_s, ik_, jk_, il_, jl_, rl_, i2_, i2_a, i2_b, j2_, j2_a, j2_b, i2d_, i2d_a, i2d_b, j2d_, j2d_a, j2d_b, i1_, i1_a, j1_, j1_a, i2l_, i2l_a, l2i_, l2i_a, fgi_, fgi_a, fgj_, fgj_a, fgr_, fgr_a, iald_, iald_a, iald_b, zald_, zald_a, zald_b, jald_, jald_a, jald_b, rald_, rald_a, rald_b, alen_, alen_a, sald_, sald_a, ic_, ic_a, jc_, jc_a, bc_, bc_a, bc_b, bj_, bj_a, bj_b, bz_, bz_a, band_, band_a, bor_, bor_a, bnot_, bnot_a, anil_, ai_, ai_a, ai_b, aj_, aj_a, aj_b, ar_, ar_a, ar_b, kb2i_, cvi_, cvi_a, cvi_b, cvj_, cvj_a, cvj_b, cvz_, cvz_a, cvz_b, csi_, csi_a, csj_, csj_a, csz_, csz_a, snop_, sseq_, sseq_n, sseq_s, sif_, sif_a, scut_, scut_a, ssi_, ssi_a, ssj_, ssj_a, ssr_, ssr_a, sinc_, sinc_a, sret_, sret_a, sretj_, sretj_a, sretv_, spop_, spop_a, kc_scv_, scv_, scv_a, scv_b, scs_, scs_a, fpi_, fpi_a, fpi_b, fpj_, fpj_a, fpj_b, foi_, foi_a, foi_b, foj_, foj_a, foj_b, aii_, aii_a, aii_b, aii_c, aiz_, aiz_a, aiz_b, aiz_c, aij_, aij_a, aij_b, aij_c, aoi_, aoi_a, aoi_b, aoi_c, aoj_, aoj_a, aoj_b, aoj_c, scopy_, scopy_a, scopy_b, scopy_c, scopy_d, scopy_e, ssw_, ssw_a, sel_n, sel_c, mfi_, mfi_a, mfj_, mfj_a, mfz_, mfz_a, kb_mfv_, mfv_, mfv_a, cut, lset, lset2, isL, Value.category, ent, entn, if_some, if_pair, if_cons, if_int, if_long, if_ref, ite_self, gz_b, ↓icb, ↓icb2, b2i_ne, ge0, ge1, ge2, ge3, ge4, ge5, ge6, ge7, ge8, ge9, ge10, ge11, ge12, ge13, ge14, lit32, nI_add, pk_mul, clt_nI, cle_nI, cgt_nI, cge_nI, ceq_nI, cne_nI, inr_nI, nI_clamp, nI_eq, nI_leI, nI_ltI, k0, c_refuse1, c_isCurveNumber hw, g2]
    · simp -implicitDefEqProofs (disch := omega) [DX8_curve, EX8_curve, kp_, bsome, bnone, gi_s, gj_s, gr_s, gv_s, ik_, jk_, il_, jl_, rl_, i2_, i2_a, i2_b, j2_, j2_a, j2_b, i2d_, i2d_a, i2d_b, j2d_, j2d_a, j2d_b, i1_, i1_a, j1_, j1_a, i2l_, i2l_a, l2i_, l2i_a, fgi_, fgi_a, fgj_, fgj_a, fgr_, fgr_a, iald_, iald_a, iald_b, zald_, zald_a, zald_b, jald_, jald_a, jald_b, rald_, rald_a, rald_b, alen_, alen_a, sald_, sald_a, ic_, ic_a, jc_, jc_a, bc_, bc_a, bc_b, bj_, bj_a, bj_b, bz_, bz_a, band_, band_a, bor_, bor_a, bnot_, bnot_a, anil_, ai_, ai_a, ai_b, aj_, aj_a, aj_b, ar_, ar_a, ar_b, kb2i_, cvi_, cvi_a, cvi_b, cvj_, cvj_a, cvj_b, cvz_, cvz_a, cvz_b, csi_, csi_a, csj_, csj_a, csz_, csz_a, snop_, sseq_, sseq_n, sseq_s, sif_, sif_a, scut_, scut_a, ssi_, ssi_a, ssj_, ssj_a, ssr_, ssr_a, sinc_, sinc_a, sret_, sret_a, sretj_, sretj_a, sretv_, spop_, spop_a, kc_scv_, scv_, scv_a, scv_b, scs_, scs_a, fpi_, fpi_a, fpi_b, fpj_, fpj_a, fpj_b, foi_, foi_a, foi_b, foj_, foj_a, foj_b, aii_, aii_a, aii_b, aii_c, aiz_, aiz_a, aiz_b, aiz_c, aij_, aij_a, aij_b, aij_c, aoi_, aoi_a, aoi_b, aoi_c, aoj_, aoj_a, aoj_b, aoj_c, scopy_, scopy_a, scopy_b, scopy_c, scopy_d, scopy_e, ssw_, ssw_a, sel_n, sel_c, mfi_, mfi_a, mfj_, mfj_a, mfz_, mfz_a, kb_mfv_, mfv_, mfv_a, cut, lset, lset2, isL, Value.category, ent, entn, if_some, if_pair, if_cons, if_int, if_long, if_ref, ite_self, gz_b, ↓icb, ↓icb2, b2i_ne, ge0, ge1, ge2, ge3, ge4, ge5, ge6, ge7, ge8, ge9, ge10, ge11, ge12, ge13, ge14, lit32, nI_add, pk_mul, clt_nI, cle_nI, cgt_nI, cge_nI, ceq_nI, cne_nI, inr_nI, nI_clamp, nI_eq, nI_leI, nI_ltI, k492, f492_2, f492_3, f492_4, f492_5, f492_7, f492_8, f492_9, f492_10, k493, k494, k495, k496, k497, k498, k499, k500, l493, l494, l495, l496, l497, l498, l499, l500, r_refuse1', r_in, l_in2, g1, el, eh, g2]
  by_cases hx : inr x0 np = true
  case neg =>
    have hx : inr x0 np = false := by simpa using hx
    refine act_rf2 (k := 2) (i := 1) h (by omega) ?_ ?_
    · simp -implicitDefEqProofs (disch := omega) [DX7_curve, EX7_curve, kp_, bsome, bnone, gi_s, gj_s, gr_s, gv_s, ik_, jk_, il_, jl_, rl_, i2_, i2_a, i2_b, j2_, j2_a, j2_b, i2d_, i2d_a, i2d_b, j2d_, j2d_a, j2d_b, i1_, i1_a, j1_, j1_a, i2l_, i2l_a, l2i_, l2i_a, fgi_, fgi_a, fgj_, fgj_a, fgr_, fgr_a, iald_, iald_a, iald_b, zald_, zald_a, zald_b, jald_, jald_a, jald_b, rald_, rald_a, rald_b, alen_, alen_a, sald_, sald_a, ic_, ic_a, jc_, jc_a, bc_, bc_a, bc_b, bj_, bj_a, bj_b, bz_, bz_a, band_, band_a, bor_, bor_a, bnot_, bnot_a, anil_, ai_, ai_a, ai_b, aj_, aj_a, aj_b, ar_, ar_a, ar_b, kb2i_, cvi_, cvi_a, cvi_b, cvj_, cvj_a, cvj_b, cvz_, cvz_a, cvz_b, csi_, csi_a, csj_, csj_a, csz_, csz_a, snop_, sseq_, sseq_n, sseq_s, sif_, sif_a, scut_, scut_a, ssi_, ssi_a, ssj_, ssj_a, ssr_, ssr_a, sinc_, sinc_a, sret_, sret_a, sretj_, sretj_a, sretv_, spop_, spop_a, kc_scv_, scv_, scv_a, scv_b, scs_, scs_a, fpi_, fpi_a, fpi_b, fpj_, fpj_a, fpj_b, foi_, foi_a, foi_b, foj_, foj_a, foj_b, aii_, aii_a, aii_b, aii_c, aiz_, aiz_a, aiz_b, aiz_c, aij_, aij_a, aij_b, aij_c, aoi_, aoi_a, aoi_b, aoi_c, aoj_, aoj_a, aoj_b, aoj_c, scopy_, scopy_a, scopy_b, scopy_c, scopy_d, scopy_e, ssw_, ssw_a, sel_n, sel_c, mfi_, mfi_a, mfj_, mfj_a, mfz_, mfz_a, kb_mfv_, mfv_, mfv_a, cut, lset, lset2, isL, Value.category, ent, entn, if_some, if_pair, if_cons, if_int, if_long, if_ref, ite_self, gz_b, ↓icb, ↓icb2, b2i_ne, ge0, ge1, ge2, ge3, ge4, ge5, ge6, ge7, ge8, ge9, ge10, ge11, ge12, ge13, ge14, lit32, nI_add, pk_mul, clt_nI, cle_nI, cgt_nI, cge_nI, ceq_nI, cne_nI, inr_nI, nI_clamp, nI_eq, nI_leI, nI_ltI, k0, c_isPump hn1, hx, c_refuse2, c_isCurveNumber hw, g2]
    · have hq : (wi (rfC M 2 1) 492 0 (nI 0)).1 494 2 = nI np := by rw [wi_ne (by decide), rfC_r (by decide) (by decide)]; exact hr1
      simp -implicitDefEqProofs (disch := omega) [DX8_curve, EX8_curve, kp_, bsome, bnone, gi_s, gj_s, gr_s, gv_s, ik_, jk_, il_, jl_, rl_, i2_, i2_a, i2_b, j2_, j2_a, j2_b, i2d_, i2d_a, i2d_b, j2d_, j2d_a, j2d_b, i1_, i1_a, j1_, j1_a, i2l_, i2l_a, l2i_, l2i_a, fgi_, fgi_a, fgj_, fgj_a, fgr_, fgr_a, iald_, iald_a, iald_b, zald_, zald_a, zald_b, jald_, jald_a, jald_b, rald_, rald_a, rald_b, alen_, alen_a, sald_, sald_a, ic_, ic_a, jc_, jc_a, bc_, bc_a, bc_b, bj_, bj_a, bj_b, bz_, bz_a, band_, band_a, bor_, bor_a, bnot_, bnot_a, anil_, ai_, ai_a, ai_b, aj_, aj_a, aj_b, ar_, ar_a, ar_b, kb2i_, cvi_, cvi_a, cvi_b, cvj_, cvj_a, cvj_b, cvz_, cvz_a, cvz_b, csi_, csi_a, csj_, csj_a, csz_, csz_a, snop_, sseq_, sseq_n, sseq_s, sif_, sif_a, scut_, scut_a, ssi_, ssi_a, ssj_, ssj_a, ssr_, ssr_a, sinc_, sinc_a, sret_, sret_a, sretj_, sretj_a, sretv_, spop_, spop_a, kc_scv_, scv_, scv_a, scv_b, scs_, scs_a, fpi_, fpi_a, fpi_b, fpj_, fpj_a, fpj_b, foi_, foi_a, foi_b, foj_, foj_a, foj_b, aii_, aii_a, aii_b, aii_c, aiz_, aiz_a, aiz_b, aiz_c, aij_, aij_a, aij_b, aij_c, aoi_, aoi_a, aoi_b, aoi_c, aoj_, aoj_a, aoj_b, aoj_c, scopy_, scopy_a, scopy_b, scopy_c, scopy_d, scopy_e, ssw_, ssw_a, sel_n, sel_c, mfi_, mfi_a, mfj_, mfj_a, mfz_, mfz_a, kb_mfv_, mfv_, mfv_a, cut, lset, lset2, isL, Value.category, ent, entn, if_some, if_pair, if_cons, if_int, if_long, if_ref, ite_self, gz_b, ↓icb, ↓icb2, b2i_ne, ge0, ge1, ge2, ge3, ge4, ge5, ge6, ge7, ge8, ge9, ge10, ge11, ge12, ge13, ge14, lit32, nI_add, pk_mul, clt_nI, cle_nI, cgt_nI, cge_nI, ceq_nI, cne_nI, inr_nI, nI_clamp, nI_eq, nI_leI, nI_ltI, k492, f492_2, f492_3, f492_4, f492_5, f492_7, f492_8, f492_9, f492_10, k493, k494, k495, k496, k497, k498, k499, k500, l493, l494, l495, l496, l497, l498, l499, l500, r_isPump hq, hx, r_refuse2', r_in, l_in2, g1, el, eh, g2]
  obtain ⟨p, hp, rfl⟩ := inr_ex hx
  have hp3 : p < 3 := by omega
  obtain ⟨v, hv, rfl, hv1, hv2⟩ : ∃ v : Nat, v ≤ 9999 ∧ x2 = nI v ∧ (w < 3 → v ≤ 40) ∧ (w = 3 ∨ w = 4 → 1 ≤ v) := by
    have q1 : 0 ≤ cvl w ∧ (w = 3 ∨ w = 4 → cvl w = 1) := by unfold cvl; split <;> omega
    have q2 : cvh w ≤ 9999 ∧ (w < 3 → cvh w = 40) := by unfold cvh; split <;> omega
    have q3 := g2
    simp only [bw, Bool.and_eq_true, decide_eq_true_eq] at q3
    have q4 : bw x2 0 9999 = true := by
      simp only [bw, Bool.and_eq_true, decide_eq_true_eq]
      omega
    obtain ⟨v, y1, rfl⟩ := bw_ex (n := 9999) q4
    rw [nI_toInt (by omega)] at q3
    refine ⟨v, y1, rfl, fun e => ?_, fun e => ?_⟩
    · have := q2.2 e; omega
    · have := q1.2 e; omega
  obtain ⟨a, oo, s0, s1, s2, b0, b1, tr, td, ⟨ea, eo, e0, e1, e2, e3, e4, e5, e6⟩, ha, ho, z0, z1, z2, z3, z4, z5, z6, z7, z8⟩ := h.1.2.2.2.2.2.1 p hp
  obtain ⟨Y, eY⟩ : ∃ Y : Nat → Int32, Y = upd (M.1 494) (68 + 9 * p + 2 + w) (nI v) := ⟨_, rfl⟩
  have Yn : ∀ i, i ≠ 68 + 9 * p + 2 + w → Y i = M.1 494 i := fun i hi => by rw [eY, upd_n hi]
  have Ys : ∀ i, i = 68 + 9 * p + 2 + w → Y i = nI v := fun i hi => by rw [eY, hi, upd_s]
  obtain ⟨t0, q0, r0⟩ : ∃ t, Y (68 + 9 * p + 2) = nI t ∧ t ≤ 40 := by
    by_cases e : w = 0
    · exact ⟨v, Ys _ (by omega), hv1 (by omega)⟩
    · exact ⟨s0, by rw [Yn _ (by omega)]; exact e0, z0⟩
  obtain ⟨t1, q1, r1⟩ : ∃ t, Y (68 + 9 * p + 3) = nI t ∧ t ≤ 40 := by
    by_cases e : w = 1
    · exact ⟨v, Ys _ (by omega), hv1 (by omega)⟩
    · exact ⟨s1, by rw [Yn _ (by omega)]; exact e1, z1⟩
  obtain ⟨t2, q2, r2⟩ : ∃ t, Y (68 + 9 * p + 4) = nI t ∧ t ≤ 40 := by
    by_cases e : w = 2
    · exact ⟨v, Ys _ (by omega), hv1 (by omega)⟩
    · exact ⟨s2, by rw [Yn _ (by omega)]; exact e2, z2⟩
  obtain ⟨t3, q3, r3, r3b⟩ : ∃ t, Y (68 + 9 * p + 5) = nI t ∧ t ≤ 9999 ∧ 1 ≤ t := by
    by_cases e : w = 3
    · exact ⟨v, Ys _ (by omega), hv, hv2 (by omega)⟩
    · exact ⟨b0, by rw [Yn _ (by omega)]; exact e3, by omega, z4⟩
  obtain ⟨t4, q4, r4⟩ : ∃ t, Y (68 + 9 * p + 6) = nI t ∧ t ≤ 9999 := by
    by_cases e : w = 4
    · exact ⟨v, Ys _ (by omega), hv⟩
    · exact ⟨b1, by rw [Yn _ (by omega)]; exact e4, by omega⟩
  obtain ⟨t5, q5, r5⟩ : ∃ t, Y (68 + 9 * p + 7) = nI t ∧ t ≤ 9999 := by
    by_cases e : w = 5
    · exact ⟨v, Ys _ (by omega), hv⟩
    · exact ⟨tr, by rw [Yn _ (by omega)]; exact e5, z7⟩
  have qa : Y (68 + 9 * p) = nI a := by rw [Yn _ (by omega)]; exact ea
  obtain ⟨g, eg⟩ : ∃ g, g = max s0 (max s1 s2) := ⟨_, rfl⟩
  obtain ⟨gg, egg⟩ : ∃ g, g = max t0 (max t1 t2) := ⟨_, rfl⟩
  have gX : gsp (M.1 494) p 3 = nI g := by rw [eg]; exact gsp_mx e0 e1 e2 z0 z1 z2
  have gY : gsp Y p 3 = nI gg := by rw [egg]; exact gsp_mx q0 q1 q2 r0 r1 r2
  have hg : g ≤ 40 := by omega
  have hgg : gg ≤ 40 := by omega
  have oth : ∀ q, q < 3 → q ≠ p → Y (68 + 9 * q) = M.1 494 (68 + 9 * q) ∧ ∀ k, k < 3 → Y (68 + 9 * q + 2 + k) = M.1 494 (68 + 9 * q + 2 + k) := fun q hq hn => ⟨Yn _ (by omega), fun k hk => Yn _ (by omega)⟩
  obtain ⟨W, hW, hW2⟩ := h.1.2.2.2.2.2.2.2.1 a ha
  have tY : ∀ x, wtT Y x nt = wtT (M.1 494) x nt := fun x => wtT_cg (fun i a1 a2 => Yn i (by omega)) nt hb.2.1
  obtain ⟨K, hK, hKY⟩ : ∃ K, K ≤ 240 ∧ wtP Y (nI a) (wtT Y (nI a) nt) np = nI K := by
    obtain ⟨T, y1, y2⟩ := wt_T (x := nI a) nt h.1.2.2.2.2.1
    obtain ⟨K, y3, y4⟩ := wt_P (X := Y) (x := nI a) (T := T) np (fun q hq => by
      by_cases e : q = p
      · subst e; exact ⟨gg, hgg, gY⟩
      · obtain ⟨_, _, d0, d1, d2, _, _, _, _, ⟨-, -, f0, f1, f2, -⟩, -, -, w0, w1, w2, -⟩ := h.1.2.2.2.2.2.1 q hq
        refine ⟨max d0 (max d1 d2), by omega, ?_⟩
        rw [gsp_c3 3 (oth q (by omega) e).2]
        exact gsp_mx f0 f1 f2 w0 w1 w2)
    exact ⟨K, by omega, by rw [tY, y2, y4]⟩
  have cw : nI W - nI g + nI gg = nI K := by
    refine cv_w ?_
    rw [← gX, ← gY, ← hKY, ← hW, tY]
    exact wtP_up (qa.trans ea.symm) ea oth np hb.2.2.1 hp
  have kT := a_kp m1_ p hp3
  have lT := a_lp m1_ p hp3
  have rowY : ∀ c, c < 6 → (if c = w then nI v else M.1 (1 + 19 + p) (2 + c)) = Y (68 + 9 * p + 2 + c) := fun c hc => by
    by_cases e : c = w
    · rw [if_pos e, Ys _ (by omega)]
    · rw [if_neg e, Yn _ (by omega), h.2.1.2.2.2.2.2.1 p hp (2 + c) (by omega), show 68 + 9 * p + (2 + c) = 68 + 9 * p + 2 + c by omega]
  have ct : ∀ c t, c < 6 → Y (68 + 9 * p + 2 + c) = nI t → DX7_curveThen [.ref (1 + 19 + p), .int (nI c), .int (nI w), .int (nI v)] M = some (nI t, M) := fun c t hc e => by rw [c_curveThen kT lT hc hw, rowY c hc, e]
  have ct0 := ct 0 t0 (by decide) q0
  have ct1 := ct 1 t1 (by decide) q1
  have ct2 := ct 2 t2 (by decide) q2
  have ct3 := ct 3 t3 (by decide) q3
  have ct4 := ct 4 t4 (by decide) q4
  have mg : mxi (nI t0) (mxi (nI t1) (nI t2)) = nI gg := by rw [mxi_n (by omega) (by omega), mxi_n (by omega) (by omega), egg]
  have row0 : M.1 (1 + 19 + p) 0 = nI a := by rw [h.2.1.2.2.2.2.2.1 p hp 0 (by decide)]; exact ea
  have wc : DX1_weight [.ref 1, .int (nI a)] M = some (nI W, M) := by rw [c_weight h.2.1 h.1, hW]
  have ts : DX1_topSpeed [.ref 1, .int (nI p)] M = some (nI g, M) := by rw [c_topSpeed h.2.1 h.1 hp, gX]
  have nY : ∀ N : Me, N.1 494 = M.1 494 → (wi N 494 (68 + 9 * p + 2 + w) (nI v)).1 494 = Y := fun N hN => by rw [wi_same, hN, eY]
  have gr : ∀ N : Me, N.1 494 = M.1 494 → DX8_greatestSpeed [.ref 492, .int (nI p)] (wi N 494 (68 + 9 * p + 2 + w) (nI v)) = some (nI gg, wi N 494 (68 + 9 * p + 2 + w) (nI v)) := fun N hN => by rw [r_greatestSpeed hp3, nY N hN, gY]
  have wr : ∀ N : Me, N.1 494 = M.1 494 → DX8_weight [.ref 492, .int (nI a)] (wi N 494 (68 + 9 * p + 2 + w) (nI v)) = some (nI K, wi N 494 (68 + 9 * p + 2 + w) (nI v)) := fun N hN => by
    rw [r_weight (nt := nt) (np := np) (by rw [nY N hN, Yn _ (by omega)]; exact hrt) (by rw [nY N hN, Yn _ (by omega)]; exact hr1) hb.2.1 hb.2.2.1, nY N hN, hKY]
  obtain ⟨od, eod⟩ : ∃ od, od = M.1 494 (68 + 9 * p + 2 + w) := ⟨_, rfl⟩
  by_cases hC : gg = 0 ∨ t4 ≤ t3
  · refine act_rf2 (k := 4) (i := 2) h (by omega) ?_ ?_
    · simp -implicitDefEqProofs (disch := omega) [DX7_curve, EX7_curve, kp_, bsome, bnone, gi_s, gj_s, gr_s, gv_s, ik_, jk_, il_, jl_, rl_, i2_, i2_a, i2_b, j2_, j2_a, j2_b, i2d_, i2d_a, i2d_b, j2d_, j2d_a, j2d_b, i1_, i1_a, j1_, j1_a, i2l_, i2l_a, l2i_, l2i_a, fgi_, fgi_a, fgj_, fgj_a, fgr_, fgr_a, iald_, iald_a, iald_b, zald_, zald_a, zald_b, jald_, jald_a, jald_b, rald_, rald_a, rald_b, alen_, alen_a, sald_, sald_a, ic_, ic_a, jc_, jc_a, bc_, bc_a, bc_b, bj_, bj_a, bj_b, bz_, bz_a, band_, band_a, bor_, bor_a, bnot_, bnot_a, anil_, ai_, ai_a, ai_b, aj_, aj_a, aj_b, ar_, ar_a, ar_b, kb2i_, cvi_, cvi_a, cvi_b, cvj_, cvj_a, cvj_b, cvz_, cvz_a, cvz_b, csi_, csi_a, csj_, csj_a, csz_, csz_a, snop_, sseq_, sseq_n, sseq_s, sif_, sif_a, scut_, scut_a, ssi_, ssi_a, ssj_, ssj_a, ssr_, ssr_a, sinc_, sinc_a, sret_, sret_a, sretj_, sretj_a, sretv_, spop_, spop_a, kc_scv_, scv_, scv_a, scv_b, scs_, scs_a, fpi_, fpi_a, fpi_b, fpj_, fpj_a, fpj_b, foi_, foi_a, foi_b, foj_, foj_a, foj_b, aii_, aii_a, aii_b, aii_c, aiz_, aiz_a, aiz_b, aiz_c, aij_, aij_a, aij_b, aij_c, aoi_, aoi_a, aoi_b, aoi_c, aoj_, aoj_a, aoj_b, aoj_c, scopy_, scopy_a, scopy_b, scopy_c, scopy_d, scopy_e, ssw_, ssw_a, sel_n, sel_c, mfi_, mfi_a, mfj_, mfj_a, mfz_, mfz_a, kb_mfv_, mfv_, mfv_a, cut, lset, lset2, isL, Value.category, ent, entn, if_some, if_pair, if_cons, if_int, if_long, if_ref, ite_self, gz_b, ↓icb, ↓icb2, b2i_ne, ge0, ge1, ge2, ge3, ge4, ge5, ge6, ge7, ge8, ge9, ge10, ge11, ge12, ge13, ge14, lit32, nI_add, pk_mul, clt_nI, cle_nI, cgt_nI, cge_nI, ceq_nI, cne_nI, inr_nI, nI_clamp, nI_eq, nI_leI, nI_ltI, k0, f0_0, k1_, c_isPump hn1, hx, hp, a_11 m1_, a_k18 m1_, a_l18 m1_, a_rp m1_, c_refuse4, c_isCurveNumber hw, g2, ct0, ct1, ct2, ct3, ct4, mg, hC]
    · obtain ⟨N, eN⟩ : ∃ N : Me, N = wi (rfC M 4 2) 492 0 (nI 0) := ⟨_, rfl⟩
      have e5 : N.1 494 = M.1 494 := by rw [eN, wi_ne (by decide), rfC_r (by decide) (by decide)]
      have hq : N.1 494 2 = nI np := by rw [e5]; exact hr1
      have g5 := gr N e5
      have w5 := wr N e5
      have re : wi (wi N 494 (68 + 9 * p + 2 + w) (nI v)) 494 (68 + 9 * p + 2 + w) od = N := wi_re (by rw [e5, eod])
      have o5 : N.1 494 (68 + 9 * p + 2 + w) = od := by rw [e5, eod]
      have n5 := nY N e5
      rw [← eN]
      by_cases hz : gg = 0
      · have y0 : ¬ 0 < gg := by omega
        simp -implicitDefEqProofs (disch := omega) [DX8_curve, EX8_curve, kp_, bsome, bnone, gi_s, gj_s, gr_s, gv_s, ik_, jk_, il_, jl_, rl_, i2_, i2_a, i2_b, j2_, j2_a, j2_b, i2d_, i2d_a, i2d_b, j2d_, j2d_a, j2d_b, i1_, i1_a, j1_, j1_a, i2l_, i2l_a, l2i_, l2i_a, fgi_, fgi_a, fgj_, fgj_a, fgr_, fgr_a, iald_, iald_a, iald_b, zald_, zald_a, zald_b, jald_, jald_a, jald_b, rald_, rald_a, rald_b, alen_, alen_a, sald_, sald_a, ic_, ic_a, jc_, jc_a, bc_, bc_a, bc_b, bj_, bj_a, bj_b, bz_, bz_a, band_, band_a, bor_, bor_a, bnot_, bnot_a, anil_, ai_, ai_a, ai_b, aj_, aj_a, aj_b, ar_, ar_a, ar_b, kb2i_, cvi_, cvi_a, cvi_b, cvj_, cvj_a, cvj_b, cvz_, cvz_a, cvz_b, csi_, csi_a, csj_, csj_a, csz_, csz_a, snop_, sseq_, sseq_n, sseq_s, sif_, sif_a, scut_, scut_a, ssi_, ssi_a, ssj_, ssj_a, ssr_, ssr_a, sinc_, sinc_a, sret_, sret_a, sretj_, sretj_a, sretv_, spop_, spop_a, kc_scv_, scv_, scv_a, scv_b, scs_, scs_a, fpi_, fpi_a, fpi_b, fpj_, fpj_a, fpj_b, foi_, foi_a, foi_b, foj_, foj_a, foj_b, aii_, aii_a, aii_b, aii_c, aiz_, aiz_a, aiz_b, aiz_c, aij_, aij_a, aij_b, aij_c, aoi_, aoi_a, aoi_b, aoi_c, aoj_, aoj_a, aoj_b, aoj_c, scopy_, scopy_a, scopy_b, scopy_c, scopy_d, scopy_e, ssw_, ssw_a, sel_n, sel_c, mfi_, mfi_a, mfj_, mfj_a, mfz_, mfz_a, kb_mfv_, mfv_, mfv_a, cut, lset, lset2, isL, Value.category, ent, entn, if_some, if_pair, if_cons, if_int, if_long, if_ref, ite_self, gz_b, ↓icb, ↓icb2, b2i_ne, ge0, ge1, ge2, ge3, ge4, ge5, ge6, ge7, ge8, ge9, ge10, ge11, ge12, ge13, ge14, lit32, nI_add, pk_mul, clt_nI, cle_nI, cgt_nI, cge_nI, ceq_nI, cne_nI, inr_nI, nI_clamp, nI_eq, nI_leI, nI_ltI, k492, f492_2, f492_3, f492_4, f492_5, f492_7, f492_8, f492_9, f492_10, k493, k494, k495, k496, k497, k498, k499, k500, l493, l494, l495, l496, l497, l498, l499, l500, ← eN, r_isPump hq, hx, hp, r_refuse4', r_in, l_in2, g1, el, eh, g2, r_pumpAt, g5, w5, re, o5, n5, q3, q4, qa, y0]
      · have y0 : 0 < gg := by omega
        have y1 : ¬ t3 < t4 := by omega
        simp -implicitDefEqProofs (disch := omega) [DX8_curve, EX8_curve, kp_, bsome, bnone, gi_s, gj_s, gr_s, gv_s, ik_, jk_, il_, jl_, rl_, i2_, i2_a, i2_b, j2_, j2_a, j2_b, i2d_, i2d_a, i2d_b, j2d_, j2d_a, j2d_b, i1_, i1_a, j1_, j1_a, i2l_, i2l_a, l2i_, l2i_a, fgi_, fgi_a, fgj_, fgj_a, fgr_, fgr_a, iald_, iald_a, iald_b, zald_, zald_a, zald_b, jald_, jald_a, jald_b, rald_, rald_a, rald_b, alen_, alen_a, sald_, sald_a, ic_, ic_a, jc_, jc_a, bc_, bc_a, bc_b, bj_, bj_a, bj_b, bz_, bz_a, band_, band_a, bor_, bor_a, bnot_, bnot_a, anil_, ai_, ai_a, ai_b, aj_, aj_a, aj_b, ar_, ar_a, ar_b, kb2i_, cvi_, cvi_a, cvi_b, cvj_, cvj_a, cvj_b, cvz_, cvz_a, cvz_b, csi_, csi_a, csj_, csj_a, csz_, csz_a, snop_, sseq_, sseq_n, sseq_s, sif_, sif_a, scut_, scut_a, ssi_, ssi_a, ssj_, ssj_a, ssr_, ssr_a, sinc_, sinc_a, sret_, sret_a, sretj_, sretj_a, sretv_, spop_, spop_a, kc_scv_, scv_, scv_a, scv_b, scs_, scs_a, fpi_, fpi_a, fpi_b, fpj_, fpj_a, fpj_b, foi_, foi_a, foi_b, foj_, foj_a, foj_b, aii_, aii_a, aii_b, aii_c, aiz_, aiz_a, aiz_b, aiz_c, aij_, aij_a, aij_b, aij_c, aoi_, aoi_a, aoi_b, aoi_c, aoj_, aoj_a, aoj_b, aoj_c, scopy_, scopy_a, scopy_b, scopy_c, scopy_d, scopy_e, ssw_, ssw_a, sel_n, sel_c, mfi_, mfi_a, mfj_, mfj_a, mfz_, mfz_a, kb_mfv_, mfv_, mfv_a, cut, lset, lset2, isL, Value.category, ent, entn, if_some, if_pair, if_cons, if_int, if_long, if_ref, ite_self, gz_b, ↓icb, ↓icb2, b2i_ne, ge0, ge1, ge2, ge3, ge4, ge5, ge6, ge7, ge8, ge9, ge10, ge11, ge12, ge13, ge14, lit32, nI_add, pk_mul, clt_nI, cle_nI, cgt_nI, cge_nI, ceq_nI, cne_nI, inr_nI, nI_clamp, nI_eq, nI_leI, nI_ltI, k492, f492_2, f492_3, f492_4, f492_5, f492_7, f492_8, f492_9, f492_10, k493, k494, k495, k496, k497, k498, k499, k500, l493, l494, l495, l496, l497, l498, l499, l500, ← eN, r_isPump hq, hx, hp, r_refuse4', r_in, l_in2, g1, el, eh, g2, r_pumpAt, g5, w5, re, o5, n5, q3, q4, qa, y0, y1]
  · have y0 : 0 < gg := by omega
    have y0n : ¬ gg = 0 := by omega
    have y1 : t3 < t4 := by omega
    have y1n : ¬ t4 ≤ t3 := by omega
    by_cases hC2 : 120 < K
    · have y2 : ¬ K ≤ 120 := by omega
      refine act_rf2 (k := 5) (i := 3) h (by omega) ?_ ?_
      · simp -implicitDefEqProofs (disch := omega) [DX7_curve, EX7_curve, kp_, bsome, bnone, gi_s, gj_s, gr_s, gv_s, ik_, jk_, il_, jl_, rl_, i2_, i2_a, i2_b, j2_, j2_a, j2_b, i2d_, i2d_a, i2d_b, j2d_, j2d_a, j2d_b, i1_, i1_a, j1_, j1_a, i2l_, i2l_a, l2i_, l2i_a, fgi_, fgi_a, fgj_, fgj_a, fgr_, fgr_a, iald_, iald_a, iald_b, zald_, zald_a, zald_b, jald_, jald_a, jald_b, rald_, rald_a, rald_b, alen_, alen_a, sald_, sald_a, ic_, ic_a, jc_, jc_a, bc_, bc_a, bc_b, bj_, bj_a, bj_b, bz_, bz_a, band_, band_a, bor_, bor_a, bnot_, bnot_a, anil_, ai_, ai_a, ai_b, aj_, aj_a, aj_b, ar_, ar_a, ar_b, kb2i_, cvi_, cvi_a, cvi_b, cvj_, cvj_a, cvj_b, cvz_, cvz_a, cvz_b, csi_, csi_a, csj_, csj_a, csz_, csz_a, snop_, sseq_, sseq_n, sseq_s, sif_, sif_a, scut_, scut_a, ssi_, ssi_a, ssj_, ssj_a, ssr_, ssr_a, sinc_, sinc_a, sret_, sret_a, sretj_, sretj_a, sretv_, spop_, spop_a, kc_scv_, scv_, scv_a, scv_b, scs_, scs_a, fpi_, fpi_a, fpi_b, fpj_, fpj_a, fpj_b, foi_, foi_a, foi_b, foj_, foj_a, foj_b, aii_, aii_a, aii_b, aii_c, aiz_, aiz_a, aiz_b, aiz_c, aij_, aij_a, aij_b, aij_c, aoi_, aoi_a, aoi_b, aoi_c, aoj_, aoj_a, aoj_b, aoj_c, scopy_, scopy_a, scopy_b, scopy_c, scopy_d, scopy_e, ssw_, ssw_a, sel_n, sel_c, mfi_, mfi_a, mfj_, mfj_a, mfz_, mfz_a, kb_mfv_, mfv_, mfv_a, cut, lset, lset2, isL, Value.category, ent, entn, if_some, if_pair, if_cons, if_int, if_long, if_ref, ite_self, gz_b, ↓icb, ↓icb2, b2i_ne, ge0, ge1, ge2, ge3, ge4, ge5, ge6, ge7, ge8, ge9, ge10, ge11, ge12, ge13, ge14, lit32, nI_add, pk_mul, clt_nI, cle_nI, cgt_nI, cge_nI, ceq_nI, cne_nI, inr_nI, nI_clamp, nI_eq, nI_leI, nI_ltI, k0, f0_0, k1_, c_isPump hn1, hx, hp, a_11 m1_, a_k18 m1_, a_l18 m1_, a_rp m1_, c_refuse5, c_isCurveNumber hw, g2, ct0, ct1, ct2, ct3, ct4, mg, y0n, y1n, kT, lT, row0, wc, ts, cw, hC2]
      · obtain ⟨N, eN⟩ : ∃ N : Me, N = wi (rfC M 5 3) 492 0 (nI 0) := ⟨_, rfl⟩
        have e5 : N.1 494 = M.1 494 := by rw [eN, wi_ne (by decide), rfC_r (by decide) (by decide)]
        have hq : N.1 494 2 = nI np := by rw [e5]; exact hr1
        have g5 := gr N e5
        have w5 := wr N e5
        have re : wi (wi N 494 (68 + 9 * p + 2 + w) (nI v)) 494 (68 + 9 * p + 2 + w) od = N := wi_re (by rw [e5, eod])
        have o5 : N.1 494 (68 + 9 * p + 2 + w) = od := by rw [e5, eod]
        have n5 := nY N e5
        rw [← eN]
        simp -implicitDefEqProofs (disch := omega) [DX8_curve, EX8_curve, kp_, bsome, bnone, gi_s, gj_s, gr_s, gv_s, ik_, jk_, il_, jl_, rl_, i2_, i2_a, i2_b, j2_, j2_a, j2_b, i2d_, i2d_a, i2d_b, j2d_, j2d_a, j2d_b, i1_, i1_a, j1_, j1_a, i2l_, i2l_a, l2i_, l2i_a, fgi_, fgi_a, fgj_, fgj_a, fgr_, fgr_a, iald_, iald_a, iald_b, zald_, zald_a, zald_b, jald_, jald_a, jald_b, rald_, rald_a, rald_b, alen_, alen_a, sald_, sald_a, ic_, ic_a, jc_, jc_a, bc_, bc_a, bc_b, bj_, bj_a, bj_b, bz_, bz_a, band_, band_a, bor_, bor_a, bnot_, bnot_a, anil_, ai_, ai_a, ai_b, aj_, aj_a, aj_b, ar_, ar_a, ar_b, kb2i_, cvi_, cvi_a, cvi_b, cvj_, cvj_a, cvj_b, cvz_, cvz_a, cvz_b, csi_, csi_a, csj_, csj_a, csz_, csz_a, snop_, sseq_, sseq_n, sseq_s, sif_, sif_a, scut_, scut_a, ssi_, ssi_a, ssj_, ssj_a, ssr_, ssr_a, sinc_, sinc_a, sret_, sret_a, sretj_, sretj_a, sretv_, spop_, spop_a, kc_scv_, scv_, scv_a, scv_b, scs_, scs_a, fpi_, fpi_a, fpi_b, fpj_, fpj_a, fpj_b, foi_, foi_a, foi_b, foj_, foj_a, foj_b, aii_, aii_a, aii_b, aii_c, aiz_, aiz_a, aiz_b, aiz_c, aij_, aij_a, aij_b, aij_c, aoi_, aoi_a, aoi_b, aoi_c, aoj_, aoj_a, aoj_b, aoj_c, scopy_, scopy_a, scopy_b, scopy_c, scopy_d, scopy_e, ssw_, ssw_a, sel_n, sel_c, mfi_, mfi_a, mfj_, mfj_a, mfz_, mfz_a, kb_mfv_, mfv_, mfv_a, cut, lset, lset2, isL, Value.category, ent, entn, if_some, if_pair, if_cons, if_int, if_long, if_ref, ite_self, gz_b, ↓icb, ↓icb2, b2i_ne, ge0, ge1, ge2, ge3, ge4, ge5, ge6, ge7, ge8, ge9, ge10, ge11, ge12, ge13, ge14, lit32, nI_add, pk_mul, clt_nI, cle_nI, cgt_nI, cge_nI, ceq_nI, cne_nI, inr_nI, nI_clamp, nI_eq, nI_leI, nI_ltI, k492, f492_2, f492_3, f492_4, f492_5, f492_7, f492_8, f492_9, f492_10, k493, k494, k495, k496, k497, k498, k499, k500, l493, l494, l495, l496, l497, l498, l499, l500, ← eN, r_isPump hq, hx, hp, r_refuse5', r_in, l_in2, g1, el, eh, g2, r_pumpAt, g5, w5, re, o5, n5, q3, q4, qa, y0, y1, y2]
    · have y2 : K ≤ 120 := by omega
      obtain ⟨Ma, Mk, a1, -, -, a4, a5, -⟩ := c_accept (nI 3) h
      obtain ⟨M1, eM1⟩ : ∃ M1 : Me, M1 = wi Ma (1 + 19 + p) (2 + w) (nI v) := ⟨_, rfl⟩
      have cc : DX7_swap [.ref (1 + 19 + p), .int (nI (2 + w)), .int (nI v)] Ma = some (od, M1) := by
        rw [c_swap kT (by rw [lT]; omega) (by rw [lT]; decide), eM1, a4 _ (by omega), h.2.1.2.2.2.2.2.1 p hp (2 + w) (by omega), eod, show 68 + 9 * p + (2 + w) = 68 + 9 * p + 2 + w by omega]
      have f1 : ∀ b, ¬ (1 ≤ b ∧ b < 31) → M1.1 b = Ma.1 b := fun b z => by rw [eM1, wi_ne (by omega)]
      obtain ⟨Nz, hr, n1, n2, n3⟩ := r_rem (M1 := M1) (nI 3) h a4 f1
      have c : DX7_curve [.ref 0, .int (nI p), .int (nI w), .int (nI v)] M = some (od, M1) := by
        simp -implicitDefEqProofs (disch := omega) [DX7_curve, EX7_curve, kp_, bsome, bnone, gi_s, gj_s, gr_s, gv_s, ik_, jk_, il_, jl_, rl_, i2_, i2_a, i2_b, j2_, j2_a, j2_b, i2d_, i2d_a, i2d_b, j2d_, j2d_a, j2d_b, i1_, i1_a, j1_, j1_a, i2l_, i2l_a, l2i_, l2i_a, fgi_, fgi_a, fgj_, fgj_a, fgr_, fgr_a, iald_, iald_a, iald_b, zald_, zald_a, zald_b, jald_, jald_a, jald_b, rald_, rald_a, rald_b, alen_, alen_a, sald_, sald_a, ic_, ic_a, jc_, jc_a, bc_, bc_a, bc_b, bj_, bj_a, bj_b, bz_, bz_a, band_, band_a, bor_, bor_a, bnot_, bnot_a, anil_, ai_, ai_a, ai_b, aj_, aj_a, aj_b, ar_, ar_a, ar_b, kb2i_, cvi_, cvi_a, cvi_b, cvj_, cvj_a, cvj_b, cvz_, cvz_a, cvz_b, csi_, csi_a, csj_, csj_a, csz_, csz_a, snop_, sseq_, sseq_n, sseq_s, sif_, sif_a, scut_, scut_a, ssi_, ssi_a, ssj_, ssj_a, ssr_, ssr_a, sinc_, sinc_a, sret_, sret_a, sretj_, sretj_a, sretv_, spop_, spop_a, kc_scv_, scv_, scv_a, scv_b, scs_, scs_a, fpi_, fpi_a, fpi_b, fpj_, fpj_a, fpj_b, foi_, foi_a, foi_b, foj_, foj_a, foj_b, aii_, aii_a, aii_b, aii_c, aiz_, aiz_a, aiz_b, aiz_c, aij_, aij_a, aij_b, aij_c, aoi_, aoi_a, aoi_b, aoi_c, aoj_, aoj_a, aoj_b, aoj_c, scopy_, scopy_a, scopy_b, scopy_c, scopy_d, scopy_e, ssw_, ssw_a, sel_n, sel_c, mfi_, mfi_a, mfj_, mfj_a, mfz_, mfz_a, kb_mfv_, mfv_, mfv_a, cut, lset, lset2, isL, Value.category, ent, entn, if_some, if_pair, if_cons, if_int, if_long, if_ref, ite_self, gz_b, ↓icb, ↓icb2, b2i_ne, ge0, ge1, ge2, ge3, ge4, ge5, ge6, ge7, ge8, ge9, ge10, ge11, ge12, ge13, ge14, lit32, nI_add, pk_mul, clt_nI, cle_nI, cgt_nI, cge_nI, ceq_nI, cne_nI, inr_nI, nI_clamp, nI_eq, nI_leI, nI_ltI, k0, f0_0, k1_, c_isPump hn1, hx, hp, a_11 m1_, a_k18 m1_, a_l18 m1_, a_rp m1_, c_isCurveNumber hw, g2, ct0, ct1, ct2, ct3, ct4, mg, y0n, y1n, kT, lT, row0, wc, ts, cw, hC2, a1, cc]
      obtain ⟨N, eN⟩ : ∃ N : Me, N = wi M1 492 0 (nI 0) := ⟨_, rfl⟩
      have e5 : N.1 494 = M.1 494 := by rw [eN, wi_ne (by decide), n3]
      have hq : N.1 494 2 = nI np := by rw [e5]; exact hr1
      have g5 := gr N e5
      have w5 := wr N e5
      have re : wi (wi N 494 (68 + 9 * p + 2 + w) (nI v)) 494 (68 + 9 * p + 2 + w) od = N := wi_re (by rw [e5, eod])
      have o5 : N.1 494 (68 + 9 * p + 2 + w) = od := by rw [e5, eod]
      have n5 := nY N e5
      have hr' := hr
      rw [← eN] at hr'
      obtain ⟨M2, eM2⟩ : ∃ M2 : Me, M2 = wi (wi Nz 494 (68 + 9 * p + 2 + w) (nI v)) 492 1 (nI 0) := ⟨_, rfl⟩
      have r : DX8_curve [.ref 492, .int (nI p), .int (nI w), .int (nI v)] M1 = some (od, M2) := by
        rw [eM2]
        simp -implicitDefEqProofs (disch := omega) [DX8_curve, EX8_curve, kp_, bsome, bnone, gi_s, gj_s, gr_s, gv_s, ik_, jk_, il_, jl_, rl_, i2_, i2_a, i2_b, j2_, j2_a, j2_b, i2d_, i2d_a, i2d_b, j2d_, j2d_a, j2d_b, i1_, i1_a, j1_, j1_a, i2l_, i2l_a, l2i_, l2i_a, fgi_, fgi_a, fgj_, fgj_a, fgr_, fgr_a, iald_, iald_a, iald_b, zald_, zald_a, zald_b, jald_, jald_a, jald_b, rald_, rald_a, rald_b, alen_, alen_a, sald_, sald_a, ic_, ic_a, jc_, jc_a, bc_, bc_a, bc_b, bj_, bj_a, bj_b, bz_, bz_a, band_, band_a, bor_, bor_a, bnot_, bnot_a, anil_, ai_, ai_a, ai_b, aj_, aj_a, aj_b, ar_, ar_a, ar_b, kb2i_, cvi_, cvi_a, cvi_b, cvj_, cvj_a, cvj_b, cvz_, cvz_a, cvz_b, csi_, csi_a, csj_, csj_a, csz_, csz_a, snop_, sseq_, sseq_n, sseq_s, sif_, sif_a, scut_, scut_a, ssi_, ssi_a, ssj_, ssj_a, ssr_, ssr_a, sinc_, sinc_a, sret_, sret_a, sretj_, sretj_a, sretv_, spop_, spop_a, kc_scv_, scv_, scv_a, scv_b, scs_, scs_a, fpi_, fpi_a, fpi_b, fpj_, fpj_a, fpj_b, foi_, foi_a, foi_b, foj_, foj_a, foj_b, aii_, aii_a, aii_b, aii_c, aiz_, aiz_a, aiz_b, aiz_c, aij_, aij_a, aij_b, aij_c, aoi_, aoi_a, aoi_b, aoi_c, aoj_, aoj_a, aoj_b, aoj_c, scopy_, scopy_a, scopy_b, scopy_c, scopy_d, scopy_e, ssw_, ssw_a, sel_n, sel_c, mfi_, mfi_a, mfj_, mfj_a, mfz_, mfz_a, kb_mfv_, mfv_, mfv_a, cut, lset, lset2, isL, Value.category, ent, entn, if_some, if_pair, if_cons, if_int, if_long, if_ref, ite_self, gz_b, ↓icb, ↓icb2, b2i_ne, ge0, ge1, ge2, ge3, ge4, ge5, ge6, ge7, ge8, ge9, ge10, ge11, ge12, ge13, ge14, lit32, nI_add, pk_mul, clt_nI, cle_nI, cgt_nI, cge_nI, ceq_nI, cne_nI, inr_nI, nI_clamp, nI_eq, nI_leI, nI_ltI, k492, f492_2, f492_3, f492_4, f492_5, f492_7, f492_8, f492_9, f492_10, k493, k494, k495, k496, k497, k498, k499, k500, l493, l494, l495, l496, l497, l498, l499, l500, ← eN, r_isPump hq, hx, hp, r_in, l_in2, g1, el, eh, g2, r_pumpAt, g5, w5, re, o5, n5, q3, q4, qa, y0, y1, y2, hr', r_tell]
      have hY : M2.1 494 = Y := by rw [eM2, wi_ne (by decide), wi_same, n1, eY]
      have hV : Vx Y nc nt np nw tm := by
        refine h.1.pu (fun i z1 z2 => Yn i (by omega)) (fun q hq => ?_) (fun c1 hc1 => ?_)
        · by_cases e : q = p
          · subst e
            refine ⟨a, oo, t0, t1, t2, t3, t4, t5, td, ⟨qa, by rw [Yn _ (by omega)]; exact eo, q0, q1, q2, q3, q4, q5, by rw [Yn _ (by omega)]; exact e6⟩, ha, ho, r0, r1, r2, by omega, r3b, y1, r4, r5, z8⟩
          · unfold VxP
            rw [Yn _ (by omega), Yn _ (by omega), Yn _ (by omega), Yn _ (by omega), Yn _ (by omega), Yn _ (by omega), Yn _ (by omega), Yn _ (by omega), Yn _ (by omega)]
            exact h.1.2.2.2.2.2.1 q hq
        · by_cases e : nI a = nI c1
          · rw [← e]
            exact ⟨K, hKY, y2⟩
          · rw [tY, wtP_nx (qa.trans ea.symm) (by rw [ea]; exact e) oth np hb.2.2.1]
            exact h.1.2.2.2.2.2.2.2.1 c1 hc1
      have hLa : Lr Ma 1 (M.1 494) nc nt np nw tm := h.2.1.frame hb.1 hb.2.1 hb.2.2.1 hb.2.2.2.1 (fun a z1 z2 => a4 a (by omega))
      have hL : Lr M1 1 Y nc nt np nw tm := by
        rw [eM1, eY, show 68 + 9 * p + 2 + w = 68 + 9 * p + (2 + w) by omega]
        exact hLa.runs hb.1 hb.2.1 hb.2.2.1 hb.2.2.2.1 hp (2 + w) (by omega)
      have cr := core_act h a1 (M1 := M1) f1 (by rw [eM1]; rfl) hr (M2 := M2) (fun a z1 z2 => by rw [eM2, wi_ne z1, wi_ne z2]) (by rw [eM2]; rfl) (by rw [eM2]; simp [wi]) (by rw [eM2, wi_ns (by decide), wi_ne (by decide)]) (by rw [hY]; exact hV) (by rw [hY]; exact hL) (by unfold Nh; rw [eM1, wi_ne (by omega), a4 1 (by omega)]; exact h.2.2.1)
      obtain ⟨⟨o2, u2, k1⟩, k2⟩ := cr
      exact ⟨_, _, _, c, r, ⟨_, _, _, _, _, _, _, k1⟩, k2⟩
