/-! ===== the key is written ===== -/
section
variable {M : Me} {b : Nat} {X : Nat → Int32} {nc nt np nw tm : Nat}
set_option maxRecDepth 20000 in
theorem c_twiceLeak {tB : Nat} (h : Lr M b X nc nt np nw tm) (hv : VxB X nc nt np nw tm tB) {c : Nat} (hc : c < nc) : DX1_twiceLeak [.ref b, .int (nI c)] M = some (nI (lkX X c), M) := by
  have hb := h.1
  have hB := hv.2.1
  have n1 := h.2.1.2.1
  have m5 := h.2.1.2.2.2.2.2.1
  have m6 := h.2.1.2.2.2.2.2.2
  rcases hv.2.2.1 with ⟨x5, x6⟩ | ⟨j, s, x5, x6, s1, s2, hj⟩
  · rw [x5] at m5
    rw [x6] at m6
    have e1 : ceq (-(nI 1)) (nI c) = false := by unfold ceq; exact decide_eq_false (fun z => nI_nm1 (by omega) z.symm)
    have e2 : cge (-(nI 1) - nI 10) (nI 0) = false := by decide
    have e3 : lkX X c = 0 := by
      unfold lkX
      rw [x5, x6, if_neg (fun z => nI_nm1 (by omega) z.symm), if_neg (fun z => absurd z.1 (by decide))]
    rw [e3]
    simp -implicitDefEqProofs (disch := omega) [DX1_twiceLeak, EX1_twiceLeak, kp_, bsome, bnone, gi_s, gj_s, gr_s, gv_s, ik_, jk_, il_, jl_, rl_, i2_, i2_a, i2_b, j2_, j2_a, j2_b, i2d_, i2d_a, i2d_b, j2d_, j2d_a, j2d_b, i1_, i1_a, j1_, j1_a, i2l_, i2l_a, l2i_, l2i_a, fgi_, fgi_a, fgj_, fgj_a, fgr_, fgr_a, iald_, iald_a, iald_b, zald_, zald_a, zald_b, jald_, jald_a, jald_b, rald_, rald_a, rald_b, alen_, alen_a, sald_, sald_a, ic_, ic_a, jc_, jc_a, bc_, bc_a, bc_b, bj_, bj_a, bj_b, bz_, bz_a, band_, band_a, bor_, bor_a, bnot_, bnot_a, anil_, ai_, ai_a, ai_b, aj_, aj_a, aj_b, ar_, ar_a, ar_b, kb2i_, cvi_, cvi_a, cvi_b, cvj_, cvj_a, cvj_b, cvz_, cvz_a, cvz_b, csi_, csi_a, csj_, csj_a, csz_, csz_a, snop_, sseq_, sseq_n, sseq_s, sif_, sif_a, scut_, scut_a, ssi_, ssi_a, ssj_, ssj_a, ssr_, ssr_a, sinc_, sinc_a, sret_, sret_a, sretj_, sretj_a, sretv_, spop_, spop_a, kc_scv_, scv_, scv_a, scv_b, scs_, scs_a, fpi_, fpi_a, fpi_b, fpj_, fpj_a, fpj_b, foi_, foi_a, foi_b, foj_, foj_a, foj_b, aii_, aii_a, aii_b, aii_c, aiz_, aiz_a, aiz_b, aiz_c, aij_, aij_a, aij_b, aij_c, aoi_, aoi_a, aoi_b, aoi_c, aoj_, aoj_a, aoj_b, aoj_c, scopy_, scopy_a, scopy_b, scopy_c, scopy_d, scopy_e, ssw_, ssw_a, sel_n, sel_c, mfi_, mfi_a, mfj_, mfj_a, mfz_, mfz_a, kb_mfv_, mfv_, mfv_a, cut, lset, lset2, isL, Value.category, ent, entn, if_some, if_pair, if_cons, if_int, if_long, if_ref, ite_self, gz_b, ↓icb, ↓icb2, b2i_ne, ge0, ge1, ge2, ge3, ge4, ge5, ge6, ge7, ge8, ge9, ge10, ge11, ge12, ge13, ge14, lit32, nI_add, pk_mul, clt_nI, cle_nI, cgt_nI, cge_nI, ceq_nI, cne_nI, inr_nI, nI_clamp, nI_eq, nI_leI, nI_ltI, a_kb hb, a_9 hb, a_10 hb, a_11 hb, a_12 hb, a_13 hb, a_k1 hb, a_l1 hb, a_k7 hb, a_l7 hb, a_k18 hb, a_l18 hb, a_k22 hb, a_l22 hb, a_k29 hb, a_l29 hb, a_rc hb, a_kc hb, a_lc hb, a_rt hb, a_kt hb, a_lt hb, a_rp hb, a_kp hb, a_lp hb, a_rw hb, a_kw hb, a_lw hb, m5, m6, e1, e2, b2i_f]
  · rw [x5] at m5
    rw [x6] at m6
    have cs : (X 6).toNatClampNeg = s := by rw [x6, nI_clamp (by omega)]
    have cj : (X 5).toNatClampNeg = j := by rw [x5, nI_clamp (by omega)]
    by_cases q : j = c
    · subst q
      have e3 : lkX X j = 2 * s := by unfold lkX; rw [if_pos x5, cs]
      rw [e3]
      simp -implicitDefEqProofs (disch := omega) [DX1_twiceLeak, EX1_twiceLeak, kp_, bsome, bnone, gi_s, gj_s, gr_s, gv_s, ik_, jk_, il_, jl_, rl_, i2_, i2_a, i2_b, j2_, j2_a, j2_b, i2d_, i2d_a, i2d_b, j2d_, j2d_a, j2d_b, i1_, i1_a, j1_, j1_a, i2l_, i2l_a, l2i_, l2i_a, fgi_, fgi_a, fgj_, fgj_a, fgr_, fgr_a, iald_, iald_a, iald_b, zald_, zald_a, zald_b, jald_, jald_a, jald_b, rald_, rald_a, rald_b, alen_, alen_a, sald_, sald_a, ic_, ic_a, jc_, jc_a, bc_, bc_a, bc_b, bj_, bj_a, bj_b, bz_, bz_a, band_, band_a, bor_, bor_a, bnot_, bnot_a, anil_, ai_, ai_a, ai_b, aj_, aj_a, aj_b, ar_, ar_a, ar_b, kb2i_, cvi_, cvi_a, cvi_b, cvj_, cvj_a, cvj_b, cvz_, cvz_a, cvz_b, csi_, csi_a, csj_, csj_a, csz_, csz_a, snop_, sseq_, sseq_n, sseq_s, sif_, sif_a, scut_, scut_a, ssi_, ssi_a, ssj_, ssj_a, ssr_, ssr_a, sinc_, sinc_a, sret_, sret_a, sretj_, sretj_a, sretv_, spop_, spop_a, kc_scv_, scv_, scv_a, scv_b, scs_, scs_a, fpi_, fpi_a, fpi_b, fpj_, fpj_a, fpj_b, foi_, foi_a, foi_b, foj_, foj_a, foj_b, aii_, aii_a, aii_b, aii_c, aiz_, aiz_a, aiz_b, aiz_c, aij_, aij_a, aij_b, aij_c, aoi_, aoi_a, aoi_b, aoi_c, aoj_, aoj_a, aoj_b, aoj_c, scopy_, scopy_a, scopy_b, scopy_c, scopy_d, scopy_e, ssw_, ssw_a, sel_n, sel_c, mfi_, mfi_a, mfj_, mfj_a, mfz_, mfz_a, kb_mfv_, mfv_, mfv_a, cut, lset, lset2, isL, Value.category, ent, entn, if_some, if_pair, if_cons, if_int, if_long, if_ref, ite_self, gz_b, ↓icb, ↓icb2, b2i_ne, ge0, ge1, ge2, ge3, ge4, ge5, ge6, ge7, ge8, ge9, ge10, ge11, ge12, ge13, ge14, lit32, nI_add, pk_mul, clt_nI, cle_nI, cgt_nI, cge_nI, ceq_nI, cne_nI, inr_nI, nI_clamp, nI_eq, nI_leI, nI_ltI, a_kb hb, a_9 hb, a_10 hb, a_11 hb, a_12 hb, a_13 hb, a_k1 hb, a_l1 hb, a_k7 hb, a_l7 hb, a_k18 hb, a_l18 hb, a_k22 hb, a_l22 hb, a_k29 hb, a_l29 hb, a_rc hb, a_kc hb, a_lc hb, a_rt hb, a_kt hb, a_lt hb, a_rp hb, a_kp hb, a_lp hb, a_rw hb, a_kw hb, a_lw hb, m5, m6]
    · have q1 : ¬ X 5 = nI c := fun z => q ((nI_eq (by omega) (by omega)).mp (x5.symm.trans z))
      rcases hj with hj | ⟨h1, h2⟩
      · have e2 : cge (nI j - nI 10) (nI 0) = false := by
          unfold cge
          refine decide_eq_false (fun z => ?_)
          have y := pk_sneg (a := j) (b := 10) (by decide) (by omega)
          have z2 := Int32.le_iff_toInt_le.mp z
          have y2 := Int32.lt_iff_toInt_lt.mp y
          have w1 : (nI 0).toInt = 0 := by decide
          have w2 : (0 : Int32).toInt = 0 := by decide
          omega
        have e3 : lkX X c = 0 := by
          unfold lkX
          rw [if_neg q1, if_neg (fun z => by
            have := z.1
            rw [x5] at this
            have := (nI_leI (by omega) (by omega)).mp this
            omega)]
        rw [e3]
        simp -implicitDefEqProofs (disch := omega) [DX1_twiceLeak, EX1_twiceLeak, kp_, bsome, bnone, gi_s, gj_s, gr_s, gv_s, ik_, jk_, il_, jl_, rl_, i2_, i2_a, i2_b, j2_, j2_a, j2_b, i2d_, i2d_a, i2d_b, j2d_, j2d_a, j2d_b, i1_, i1_a, j1_, j1_a, i2l_, i2l_a, l2i_, l2i_a, fgi_, fgi_a, fgj_, fgj_a, fgr_, fgr_a, iald_, iald_a, iald_b, zald_, zald_a, zald_b, jald_, jald_a, jald_b, rald_, rald_a, rald_b, alen_, alen_a, sald_, sald_a, ic_, ic_a, jc_, jc_a, bc_, bc_a, bc_b, bj_, bj_a, bj_b, bz_, bz_a, band_, band_a, bor_, bor_a, bnot_, bnot_a, anil_, ai_, ai_a, ai_b, aj_, aj_a, aj_b, ar_, ar_a, ar_b, kb2i_, cvi_, cvi_a, cvi_b, cvj_, cvj_a, cvj_b, cvz_, cvz_a, cvz_b, csi_, csi_a, csj_, csj_a, csz_, csz_a, snop_, sseq_, sseq_n, sseq_s, sif_, sif_a, scut_, scut_a, ssi_, ssi_a, ssj_, ssj_a, ssr_, ssr_a, sinc_, sinc_a, sret_, sret_a, sretj_, sretj_a, sretv_, spop_, spop_a, kc_scv_, scv_, scv_a, scv_b, scs_, scs_a, fpi_, fpi_a, fpi_b, fpj_, fpj_a, fpj_b, foi_, foi_a, foi_b, foj_, foj_a, foj_b, aii_, aii_a, aii_b, aii_c, aiz_, aiz_a, aiz_b, aiz_c, aij_, aij_a, aij_b, aij_c, aoi_, aoi_a, aoi_b, aoi_c, aoj_, aoj_a, aoj_b, aoj_c, scopy_, scopy_a, scopy_b, scopy_c, scopy_d, scopy_e, ssw_, ssw_a, sel_n, sel_c, mfi_, mfi_a, mfj_, mfj_a, mfz_, mfz_a, kb_mfv_, mfv_, mfv_a, cut, lset, lset2, isL, Value.category, ent, entn, if_some, if_pair, if_cons, if_int, if_long, if_ref, ite_self, gz_b, ↓icb, ↓icb2, b2i_ne, ge0, ge1, ge2, ge3, ge4, ge5, ge6, ge7, ge8, ge9, ge10, ge11, ge12, ge13, ge14, lit32, nI_add, pk_mul, clt_nI, cle_nI, cgt_nI, cge_nI, ceq_nI, cne_nI, inr_nI, nI_clamp, nI_eq, nI_leI, nI_ltI, a_kb hb, a_9 hb, a_10 hb, a_11 hb, a_12 hb, a_13 hb, a_k1 hb, a_l1 hb, a_k7 hb, a_l7 hb, a_k18 hb, a_l18 hb, a_k22 hb, a_l22 hb, a_k29 hb, a_l29 hb, a_rc hb, a_kc hb, a_lc hb, a_rt hb, a_kt hb, a_lt hb, a_rp hb, a_kp hb, a_lp hb, a_rw hb, a_kw hb, a_lw hb, m5, m6, q, e2, b2i_f]
      · have t10 : j - 10 < nt := by omega
        obtain ⟨d, oo, v1, v2, v3, v4, v5, -⟩ := tubeX hB.1 (hv.2.2.2.2.1 (j - 10) t10)
        have t0 : M.1 (b + 8 + (j - 10)) 0 = nI (fX X (j - 10)) := by rw [h.2.2.2.2.1 (j - 10) t10 0 (by decide)]; exact v1
        have t1 : M.1 (b + 8 + (j - 10)) 1 = nI (gX X (j - 10)) := by rw [h.2.2.2.2.1 (j - 10) t10 1 (by decide)]; exact v2
        have sb := pk_sub (a := j) (b := 10) h1
        have j10 : j - 10 < 10 := by omega
        have le : nI 10 ≤ X 5 := by rw [x5]; exact (nI_leI (by omega) (by omega)).mpr h1
        obtain ⟨f, ef⟩ : ∃ f, f = fX X (j - 10) := ⟨_, rfl⟩
        obtain ⟨g, eg⟩ : ∃ g, g = gX X (j - 10) := ⟨_, rfl⟩
        have e3 : lkX X c = if f = c ∨ g = c then s else 0 := by
          unfold lkX
          rw [if_neg q1, cj, cs, ← ef, ← eg]
          by_cases y : f = c ∨ g = c
          · rw [if_pos y, if_pos ⟨le, y⟩]
          · rw [if_neg y, if_neg (fun z => y z.2)]
        rw [← ef] at t0 v3
        rw [← eg] at t1 v4
        rw [e3]
        by_cases y1 : f = c
        · rw [if_pos (Or.inl y1)]
          simp -implicitDefEqProofs (disch := omega) [DX1_twiceLeak, EX1_twiceLeak, kp_, bsome, bnone, gi_s, gj_s, gr_s, gv_s, ik_, jk_, il_, jl_, rl_, i2_, i2_a, i2_b, j2_, j2_a, j2_b, i2d_, i2d_a, i2d_b, j2d_, j2d_a, j2d_b, i1_, i1_a, j1_, j1_a, i2l_, i2l_a, l2i_, l2i_a, fgi_, fgi_a, fgj_, fgj_a, fgr_, fgr_a, iald_, iald_a, iald_b, zald_, zald_a, zald_b, jald_, jald_a, jald_b, rald_, rald_a, rald_b, alen_, alen_a, sald_, sald_a, ic_, ic_a, jc_, jc_a, bc_, bc_a, bc_b, bj_, bj_a, bj_b, bz_, bz_a, band_, band_a, bor_, bor_a, bnot_, bnot_a, anil_, ai_, ai_a, ai_b, aj_, aj_a, aj_b, ar_, ar_a, ar_b, kb2i_, cvi_, cvi_a, cvi_b, cvj_, cvj_a, cvj_b, cvz_, cvz_a, cvz_b, csi_, csi_a, csj_, csj_a, csz_, csz_a, snop_, sseq_, sseq_n, sseq_s, sif_, sif_a, scut_, scut_a, ssi_, ssi_a, ssj_, ssj_a, ssr_, ssr_a, sinc_, sinc_a, sret_, sret_a, sretj_, sretj_a, sretv_, spop_, spop_a, kc_scv_, scv_, scv_a, scv_b, scs_, scs_a, fpi_, fpi_a, fpi_b, fpj_, fpj_a, fpj_b, foi_, foi_a, foi_b, foj_, foj_a, foj_b, aii_, aii_a, aii_b, aii_c, aiz_, aiz_a, aiz_b, aiz_c, aij_, aij_a, aij_b, aij_c, aoi_, aoi_a, aoi_b, aoi_c, aoj_, aoj_a, aoj_b, aoj_c, scopy_, scopy_a, scopy_b, scopy_c, scopy_d, scopy_e, ssw_, ssw_a, sel_n, sel_c, mfi_, mfi_a, mfj_, mfj_a, mfz_, mfz_a, kb_mfv_, mfv_, mfv_a, cut, lset, lset2, isL, Value.category, ent, entn, if_some, if_pair, if_cons, if_int, if_long, if_ref, ite_self, gz_b, ↓icb, ↓icb2, b2i_ne, ge0, ge1, ge2, ge3, ge4, ge5, ge6, ge7, ge8, ge9, ge10, ge11, ge12, ge13, ge14, lit32, nI_add, pk_mul, clt_nI, cle_nI, cgt_nI, cge_nI, ceq_nI, cne_nI, inr_nI, nI_clamp, nI_eq, nI_leI, nI_ltI, a_kb hb, a_9 hb, a_10 hb, a_11 hb, a_12 hb, a_13 hb, a_k1 hb, a_l1 hb, a_k7 hb, a_l7 hb, a_k18 hb, a_l18 hb, a_k22 hb, a_l22 hb, a_k29 hb, a_l29 hb, a_rc hb, a_kc hb, a_lc hb, a_rt hb, a_kt hb, a_lt hb, a_rp hb, a_kp hb, a_lp hb, a_rw hb, a_kw hb, a_lw hb, m5, m6, q, sb, n1, t10, t0, t1, y1, b2i_t]
        · by_cases y2 : g = c
          · rw [if_pos (Or.inr y2)]
            simp -implicitDefEqProofs (disch := omega) [DX1_twiceLeak, EX1_twiceLeak, kp_, bsome, bnone, gi_s, gj_s, gr_s, gv_s, ik_, jk_, il_, jl_, rl_, i2_, i2_a, i2_b, j2_, j2_a, j2_b, i2d_, i2d_a, i2d_b, j2d_, j2d_a, j2d_b, i1_, i1_a, j1_, j1_a, i2l_, i2l_a, l2i_, l2i_a, fgi_, fgi_a, fgj_, fgj_a, fgr_, fgr_a, iald_, iald_a, iald_b, zald_, zald_a, zald_b, jald_, jald_a, jald_b, rald_, rald_a, rald_b, alen_, alen_a, sald_, sald_a, ic_, ic_a, jc_, jc_a, bc_, bc_a, bc_b, bj_, bj_a, bj_b, bz_, bz_a, band_, band_a, bor_, bor_a, bnot_, bnot_a, anil_, ai_, ai_a, ai_b, aj_, aj_a, aj_b, ar_, ar_a, ar_b, kb2i_, cvi_, cvi_a, cvi_b, cvj_, cvj_a, cvj_b, cvz_, cvz_a, cvz_b, csi_, csi_a, csj_, csj_a, csz_, csz_a, snop_, sseq_, sseq_n, sseq_s, sif_, sif_a, scut_, scut_a, ssi_, ssi_a, ssj_, ssj_a, ssr_, ssr_a, sinc_, sinc_a, sret_, sret_a, sretj_, sretj_a, sretv_, spop_, spop_a, kc_scv_, scv_, scv_a, scv_b, scs_, scs_a, fpi_, fpi_a, fpi_b, fpj_, fpj_a, fpj_b, foi_, foi_a, foi_b, foj_, foj_a, foj_b, aii_, aii_a, aii_b, aii_c, aiz_, aiz_a, aiz_b, aiz_c, aij_, aij_a, aij_b, aij_c, aoi_, aoi_a, aoi_b, aoi_c, aoj_, aoj_a, aoj_b, aoj_c, scopy_, scopy_a, scopy_b, scopy_c, scopy_d, scopy_e, ssw_, ssw_a, sel_n, sel_c, mfi_, mfi_a, mfj_, mfj_a, mfz_, mfz_a, kb_mfv_, mfv_, mfv_a, cut, lset, lset2, isL, Value.category, ent, entn, if_some, if_pair, if_cons, if_int, if_long, if_ref, ite_self, gz_b, ↓icb, ↓icb2, b2i_ne, ge0, ge1, ge2, ge3, ge4, ge5, ge6, ge7, ge8, ge9, ge10, ge11, ge12, ge13, ge14, lit32, nI_add, pk_mul, clt_nI, cle_nI, cgt_nI, cge_nI, ceq_nI, cne_nI, inr_nI, nI_clamp, nI_eq, nI_leI, nI_ltI, a_kb hb, a_9 hb, a_10 hb, a_11 hb, a_12 hb, a_13 hb, a_k1 hb, a_l1 hb, a_k7 hb, a_l7 hb, a_k18 hb, a_l18 hb, a_k22 hb, a_l22 hb, a_k29 hb, a_l29 hb, a_rc hb, a_kc hb, a_lc hb, a_rt hb, a_kt hb, a_lt hb, a_rp hb, a_kp hb, a_lp hb, a_rw hb, a_kw hb, a_lw hb, m5, m6, q, sb, n1, t10, t0, t1, y1, y2, b2i_t]
          · rw [if_neg (by omega)]
            simp -implicitDefEqProofs (disch := omega) [DX1_twiceLeak, EX1_twiceLeak, kp_, bsome, bnone, gi_s, gj_s, gr_s, gv_s, ik_, jk_, il_, jl_, rl_, i2_, i2_a, i2_b, j2_, j2_a, j2_b, i2d_, i2d_a, i2d_b, j2d_, j2d_a, j2d_b, i1_, i1_a, j1_, j1_a, i2l_, i2l_a, l2i_, l2i_a, fgi_, fgi_a, fgj_, fgj_a, fgr_, fgr_a, iald_, iald_a, iald_b, zald_, zald_a, zald_b, jald_, jald_a, jald_b, rald_, rald_a, rald_b, alen_, alen_a, sald_, sald_a, ic_, ic_a, jc_, jc_a, bc_, bc_a, bc_b, bj_, bj_a, bj_b, bz_, bz_a, band_, band_a, bor_, bor_a, bnot_, bnot_a, anil_, ai_, ai_a, ai_b, aj_, aj_a, aj_b, ar_, ar_a, ar_b, kb2i_, cvi_, cvi_a, cvi_b, cvj_, cvj_a, cvj_b, cvz_, cvz_a, cvz_b, csi_, csi_a, csj_, csj_a, csz_, csz_a, snop_, sseq_, sseq_n, sseq_s, sif_, sif_a, scut_, scut_a, ssi_, ssi_a, ssj_, ssj_a, ssr_, ssr_a, sinc_, sinc_a, sret_, sret_a, sretj_, sretj_a, sretv_, spop_, spop_a, kc_scv_, scv_, scv_a, scv_b, scs_, scs_a, fpi_, fpi_a, fpi_b, fpj_, fpj_a, fpj_b, foi_, foi_a, foi_b, foj_, foj_a, foj_b, aii_, aii_a, aii_b, aii_c, aiz_, aiz_a, aiz_b, aiz_c, aij_, aij_a, aij_b, aij_c, aoi_, aoi_a, aoi_b, aoi_c, aoj_, aoj_a, aoj_b, aoj_c, scopy_, scopy_a, scopy_b, scopy_c, scopy_d, scopy_e, ssw_, ssw_a, sel_n, sel_c, mfi_, mfi_a, mfj_, mfj_a, mfz_, mfz_a, kb_mfv_, mfv_, mfv_a, cut, lset, lset2, isL, Value.category, ent, entn, if_some, if_pair, if_cons, if_int, if_long, if_ref, ite_self, gz_b, ↓icb, ↓icb2, b2i_ne, ge0, ge1, ge2, ge3, ge4, ge5, ge6, ge7, ge8, ge9, ge10, ge11, ge12, ge13, ge14, lit32, nI_add, pk_mul, clt_nI, cle_nI, cgt_nI, cge_nI, ceq_nI, cne_nI, inr_nI, nI_clamp, nI_eq, nI_leI, nI_ltI, a_kb hb, a_9 hb, a_10 hb, a_11 hb, a_12 hb, a_13 hb, a_k1 hb, a_l1 hb, a_k7 hb, a_l7 hb, a_k18 hb, a_l18 hb, a_k22 hb, a_l22 hb, a_k29 hb, a_l29 hb, a_rc hb, a_kc hb, a_lc hb, a_rt hb, a_kt hb, a_lt hb, a_rp hb, a_kp hb, a_lp hb, a_rw hb, a_kw hb, a_lw hb, m5, m6, q, sb, n1, t10, t0, t1, y1, y2, b2i_f]
set_option maxRecDepth 20000 in
theorem cpi_sI {a c n sp dp m : Nat} {Y : Nat → Int32} (ha : a ≠ c) (hm : dp + m ≤ n) : cpi (sI M c n Y) a sp c dp m = sI M c n (fun j => if dp ≤ j ∧ j < dp + m then M.1 a (sp + (j - dp)) else Y j) := by
  unfold cpi sI
  refine Prod.ext ?_ rfl
  funext q j
  simp only
  by_cases e : q = c
  · subst e
    simp only [if_true, true_and, ha, false_and, if_false]
    unfold va_cpy
    by_cases z : dp ≤ j ∧ j < dp + m
    · rw [if_pos z, if_pos (by omega), if_pos z]
    · rw [if_neg z]
      by_cases w : j < n
      · simp only [w, if_true]
        rw [if_neg z]
      · simp only [w, if_false]
  · simp [e]
/-! the key between the phases -/
def kyT (X : Nat → Int32) (nc : Nat) (h1 h2 : Int32) (t i : Nat) : Int32 := if i = 0 then nI nc else if i = 1 then h1 else if i = 2 then h2 else if i < 28 then nI (gsm X ((i - 3) / 5) ((i - 3) % 5) t) else nI 0
def kyP (X : Nat → Int32) (nc nt : Nat) (h1 h2 : Int32) (p i : Nat) : Int32 := if i < 28 then kyT X nc h1 h2 nt i
  else if i < 43 then nI (if (i - 28) / 5 < p ∧ pX X ((i - 28) / 5) 1 ≠ 0 then pX X ((i - 28) / 5) ((i - 28) % 5) else 0)
  else if i < 49 then nI (if (i - 43) / 2 < p ∧ pX X ((i - 43) / 2) 1 ≠ 0 then pX X ((i - 43) / 2) (5 + (i - 43) % 2) else 0) else nI 0
def kyC (X : Nat → Int32) (nc nt np : Nat) (h1 h2 : Int32) (c i : Nat) : Int32 := if i < 49 then kyP X nc nt h1 h2 np i else nI (if i - 49 < c then 2 * ldX X (i - 49) + lkX X (i - 49) else 0)
set_option maxRecDepth 20000 in
theorem c_write1 {tB : Nat} (hL : Lr M b X nc nt np nw tm) (hv : VxB X nc nt np nw tm tB) (hb63 : b + 30 ≤ 61 ∨ 96 < b) {h1 h2 : Int32} : swh qX0_write_1 wX0_write_1 [.ref 61, .ref b, .int (nI 0), .null, .null, .null] (sI M 63 54 (kyT X nc h1 h2 0)) = some (none, [.ref 61, .ref b, .int (nI nt), .null, .null, .null], sI M 63 54 (kyT X nc h1 h2 nt)) := by
  have hb := hL.1
  have hB := hv.2.1
  have hn := hL.2.1.2.1
  have ht := hL.2.2.2.2.1
  have rd : ∀ Y a, b ≤ a → a < b + 30 → (sI M 63 54 Y).1 a = M.1 a := fun Y a z1 z2 => sI_ne (by omega)
  refine swh_count (c := qX0_write_1) (b := wX0_write_1) (fun t => [.ref 61, .ref b, .int (nI t), .null, .null, .null]) (fun t => sI M 63 54 (kyT X nc h1 h2 t)) nt
    (fun t hi => by
      have z : (sI M 63 54 (kyT X nc h1 h2 t)).1 b 1 = nI nt := by rw [rd _ b (by omega) (by omega)]; exact hn
      simp -implicitDefEqProofs (disch := omega) [qX0_write_1, kp_, bsome, bnone, gi_s, gj_s, gr_s, gv_s, ik_, jk_, il_, jl_, rl_, i2_, i2_a, i2_b, j2_, j2_a, j2_b, i2d_, i2d_a, i2d_b, j2d_, j2d_a, j2d_b, i1_, i1_a, j1_, j1_a, i2l_, i2l_a, l2i_, l2i_a, fgi_, fgi_a, fgj_, fgj_a, fgr_, fgr_a, iald_, iald_a, iald_b, zald_, zald_a, zald_b, jald_, jald_a, jald_b, rald_, rald_a, rald_b, alen_, alen_a, sald_, sald_a, ic_, ic_a, jc_, jc_a, bc_, bc_a, bc_b, bj_, bj_a, bj_b, bz_, bz_a, band_, band_a, bor_, bor_a, bnot_, bnot_a, anil_, ai_, ai_a, ai_b, aj_, aj_a, aj_b, ar_, ar_a, ar_b, kb2i_, cvi_, cvi_a, cvi_b, cvj_, cvj_a, cvj_b, cvz_, cvz_a, cvz_b, csi_, csi_a, csj_, csj_a, csz_, csz_a, snop_, sseq_, sseq_n, sseq_s, sif_, sif_a, scut_, scut_a, ssi_, ssi_a, ssj_, ssj_a, ssr_, ssr_a, sinc_, sinc_a, sret_, sret_a, sretj_, sretj_a, sretv_, spop_, spop_a, kc_scv_, scv_, scv_a, scv_b, scs_, scs_a, fpi_, fpi_a, fpi_b, fpj_, fpj_a, fpj_b, foi_, foi_a, foi_b, foj_, foj_a, foj_b, aii_, aii_a, aii_b, aii_c, aiz_, aiz_a, aiz_b, aiz_c, aij_, aij_a, aij_b, aij_c, aoi_, aoi_a, aoi_b, aoi_c, aoj_, aoj_a, aoj_b, aoj_c, scopy_, scopy_a, scopy_b, scopy_c, scopy_d, scopy_e, ssw_, ssw_a, sel_n, sel_c, mfi_, mfi_a, mfj_, mfj_a, mfz_, mfz_a, kb_mfv_, mfv_, mfv_a, cut, lset, lset2, isL, Value.category, ent, entn, if_some, if_pair, if_cons, if_int, if_long, if_ref, ite_self, gz_b, ↓icb, ↓icb2, b2i_ne, ge0, ge1, ge2, ge3, ge4, ge5, ge6, ge7, ge8, ge9, ge10, ge11, ge12, ge13, ge14, lit32, nI_add, pk_mul, clt_nI, cle_nI, cgt_nI, cge_nI, ceq_nI, cne_nI, inr_nI, nI_clamp, nI_eq, nI_leI, nI_ltI, a_kb hb, a_9 hb, a_10 hb, a_11 hb, a_12 hb, a_13 hb, a_k1 hb, a_l1 hb, a_k7 hb, a_l7 hb, a_k18 hb, a_l18 hb, a_k22 hb, a_l22 hb, a_k29 hb, a_l29 hb, a_rc hb, a_kc hb, a_lc hb, a_rt hb, a_kt hb, a_lt hb, a_rp hb, a_kp hb, a_lp hb, a_rw hb, a_kw hb, a_lw hb, z, hi])
    (fun i hi => ?_)
    (by
      have z : (sI M 63 54 (kyT X nc h1 h2 nt)).1 b 1 = nI nt := by rw [rd _ b (by omega) (by omega)]; exact hn
      simp -implicitDefEqProofs (disch := omega) [qX0_write_1, kp_, bsome, bnone, gi_s, gj_s, gr_s, gv_s, ik_, jk_, il_, jl_, rl_, i2_, i2_a, i2_b, j2_, j2_a, j2_b, i2d_, i2d_a, i2d_b, j2d_, j2d_a, j2d_b, i1_, i1_a, j1_, j1_a, i2l_, i2l_a, l2i_, l2i_a, fgi_, fgi_a, fgj_, fgj_a, fgr_, fgr_a, iald_, iald_a, iald_b, zald_, zald_a, zald_b, jald_, jald_a, jald_b, rald_, rald_a, rald_b, alen_, alen_a, sald_, sald_a, ic_, ic_a, jc_, jc_a, bc_, bc_a, bc_b, bj_, bj_a, bj_b, bz_, bz_a, band_, band_a, bor_, bor_a, bnot_, bnot_a, anil_, ai_, ai_a, ai_b, aj_, aj_a, aj_b, ar_, ar_a, ar_b, kb2i_, cvi_, cvi_a, cvi_b, cvj_, cvj_a, cvj_b, cvz_, cvz_a, cvz_b, csi_, csi_a, csj_, csj_a, csz_, csz_a, snop_, sseq_, sseq_n, sseq_s, sif_, sif_a, scut_, scut_a, ssi_, ssi_a, ssj_, ssj_a, ssr_, ssr_a, sinc_, sinc_a, sret_, sret_a, sretj_, sretj_a, sretv_, spop_, spop_a, kc_scv_, scv_, scv_a, scv_b, scs_, scs_a, fpi_, fpi_a, fpi_b, fpj_, fpj_a, fpj_b, foi_, foi_a, foi_b, foj_, foj_a, foj_b, aii_, aii_a, aii_b, aii_c, aiz_, aiz_a, aiz_b, aiz_c, aij_, aij_a, aij_b, aij_c, aoi_, aoi_a, aoi_b, aoi_c, aoj_, aoj_a, aoj_b, aoj_c, scopy_, scopy_a, scopy_b, scopy_c, scopy_d, scopy_e, ssw_, ssw_a, sel_n, sel_c, mfi_, mfi_a, mfj_, mfj_a, mfz_, mfz_a, kb_mfv_, mfv_, mfv_a, cut, lset, lset2, isL, Value.category, ent, entn, if_some, if_pair, if_cons, if_int, if_long, if_ref, ite_self, gz_b, ↓icb, ↓icb2, b2i_ne, ge0, ge1, ge2, ge3, ge4, ge5, ge6, ge7, ge8, ge9, ge10, ge11, ge12, ge13, ge14, lit32, nI_add, pk_mul, clt_nI, cle_nI, cgt_nI, cge_nI, ceq_nI, cne_nI, inr_nI, nI_clamp, nI_eq, nI_leI, nI_ltI, a_kb hb, a_9 hb, a_10 hb, a_11 hb, a_12 hb, a_13 hb, a_k1 hb, a_l1 hb, a_k7 hb, a_l7 hb, a_k18 hb, a_l18 hb, a_k22 hb, a_l22 hb, a_k29 hb, a_l29 hb, a_rc hb, a_kc hb, a_lc hb, a_rt hb, a_kt hb, a_lt hb, a_rp hb, a_kp hb, a_lp hb, a_rw hb, a_kw hb, a_lw hb, z])
  obtain ⟨d, oo, v1, v2, v3, v4, v5, v6, v7, v8, v9, v10, v11⟩ := tubeX hB.1 (hv.2.2.2.2.1 i hi)
  obtain ⟨dd, -, -⟩ := dX_e hB.1 (hv.2.2.2.2.1 i hi)
  have i10 : i < 10 := by omega
  have z0 : ∀ Y, (sI M 63 54 Y).1 (b + 8 + i) 0 = nI (fX X i) := fun Y => by rw [rd _ _ (by omega) (by omega), ht i hi 0 (by decide)]; exact v1
  have z1 : ∀ Y, (sI M 63 54 Y).1 (b + 8 + i) 1 = nI (gX X i) := fun Y => by rw [rd _ _ (by omega) (by omega), ht i hi 1 (by decide)]; exact v2
  have z2 : ∀ Y, (sI M 63 54 Y).1 (b + 8 + i) 2 = nI (dX X i) := fun Y => by rw [rd _ _ (by omega) (by omega), ht i hi 2 (by decide)]; exact dd
  have z3 : ∀ Y, (sI M 63 54 Y).1 (b + 8 + i) 3 = nI oo := fun Y => by rw [rd _ _ (by omega) (by omega), ht i hi 3 (by decide)]; exact v9
  by_cases c1 : oo = 1
  · subst c1
    have ho : oX X i = true := by rw [v11]; rfl
    obtain ⟨f, ef⟩ : ∃ f, f = fX X i := ⟨_, rfl⟩
    obtain ⟨g, eg⟩ : ∃ g, g = gX X i := ⟨_, rfl⟩
    rw [← ef] at v3 v5
    rw [← eg] at v4 v5
    simp only [← ef] at z0
    simp only [← eg] at z1
    have ix1 : 3 + f * 5 + g < 54 := by omega
    have ix2 : 3 + g * 5 + f < 54 := by omega
    have y1 : kyT X nc h1 h2 i (3 + f * 5 + g) = nI (gsm X f g i) := by
      unfold kyT
      rw [if_neg (by omega), if_neg (by omega), if_neg (by omega), if_pos (by omega), show (3 + f * 5 + g - 3) / 5 = f by omega, show (3 + f * 5 + g - 3) % 5 = g by omega]
    have y2 : upd (kyT X nc h1 h2 i) (3 + f * 5 + g) (nI (gsm X f g i + dX X i)) (3 + g * 5 + f) = nI (gsm X g f i) := by
      rw [upd_n (by omega)]
      unfold kyT
      rw [if_neg (by omega), if_neg (by omega), if_neg (by omega), if_pos (by omega), show (3 + g * 5 + f - 3) / 5 = g by omega, show (3 + g * 5 + f - 3) % 5 = f by omega]
    have fin : sI M 63 54 (upd (upd (kyT X nc h1 h2 i) (3 + f * 5 + g) (nI (gsm X f g i + dX X i))) (3 + g * 5 + f) (nI (gsm X g f i + dX X i))) = sI M 63 54 (kyT X nc h1 h2 (i + 1)) := sI_congr (fun j hj => by
      by_cases w2 : j = 3 + g * 5 + f
      · subst w2
        rw [upd_s]
        unfold kyT
        rw [if_neg (by omega), if_neg (by omega), if_neg (by omega), if_pos (by omega), show (3 + g * 5 + f - 3) / 5 = g by omega, show (3 + g * 5 + f - 3) % 5 = f by omega]
        simp only [gsm]
        rw [← ef, ← eg, if_pos ⟨ho, Or.inr ⟨rfl, rfl⟩⟩]
      · rw [upd_n w2]
        by_cases w1 : j = 3 + f * 5 + g
        · subst w1
          rw [upd_s]
          unfold kyT
          rw [if_neg (by omega), if_neg (by omega), if_neg (by omega), if_pos (by omega), show (3 + f * 5 + g - 3) / 5 = f by omega, show (3 + f * 5 + g - 3) % 5 = g by omega]
          simp only [gsm]
          rw [← ef, ← eg, if_pos ⟨ho, Or.inl ⟨rfl, rfl⟩⟩]
        · rw [upd_n w1]
          unfold kyT
          by_cases a0 : j = 0
          · rw [if_pos a0, if_pos a0]
          by_cases a1 : j = 1
          · rw [if_neg a0, if_neg a0, if_pos a1, if_pos a1]
          by_cases a2 : j = 2
          · rw [if_neg a0, if_neg a0, if_neg a1, if_neg a1, if_pos a2, if_pos a2]
          rw [if_neg a0, if_neg a0, if_neg a1, if_neg a1, if_neg a2, if_neg a2]
          by_cases a3 : j < 28
          · rw [if_pos a3, if_pos a3]
            simp only [gsm]
            rw [← ef, ← eg, if_neg (by omega), Nat.add_zero]
          · rw [if_neg a3, if_neg a3])
    simp -implicitDefEqProofs (disch := omega) [wX0_write_1, kp_, bsome, bnone, gi_s, gj_s, gr_s, gv_s, ik_, jk_, il_, jl_, rl_, i2_, i2_a, i2_b, j2_, j2_a, j2_b, i2d_, i2d_a, i2d_b, j2d_, j2d_a, j2d_b, i1_, i1_a, j1_, j1_a, i2l_, i2l_a, l2i_, l2i_a, fgi_, fgi_a, fgj_, fgj_a, fgr_, fgr_a, iald_, iald_a, iald_b, zald_, zald_a, zald_b, jald_, jald_a, jald_b, rald_, rald_a, rald_b, alen_, alen_a, sald_, sald_a, ic_, ic_a, jc_, jc_a, bc_, bc_a, bc_b, bj_, bj_a, bj_b, bz_, bz_a, band_, band_a, bor_, bor_a, bnot_, bnot_a, anil_, ai_, ai_a, ai_b, aj_, aj_a, aj_b, ar_, ar_a, ar_b, kb2i_, cvi_, cvi_a, cvi_b, cvj_, cvj_a, cvj_b, cvz_, cvz_a, cvz_b, csi_, csi_a, csj_, csj_a, csz_, csz_a, snop_, sseq_, sseq_n, sseq_s, sif_, sif_a, scut_, scut_a, ssi_, ssi_a, ssj_, ssj_a, ssr_, ssr_a, sinc_, sinc_a, sret_, sret_a, sretj_, sretj_a, sretv_, spop_, spop_a, kc_scv_, scv_, scv_a, scv_b, scs_, scs_a, fpi_, fpi_a, fpi_b, fpj_, fpj_a, fpj_b, foi_, foi_a, foi_b, foj_, foj_a, foj_b, aii_, aii_a, aii_b, aii_c, aiz_, aiz_a, aiz_b, aiz_c, aij_, aij_a, aij_b, aij_c, aoi_, aoi_a, aoi_b, aoi_c, aoj_, aoj_a, aoj_b, aoj_c, scopy_, scopy_a, scopy_b, scopy_c, scopy_d, scopy_e, ssw_, ssw_a, sel_n, sel_c, mfi_, mfi_a, mfj_, mfj_a, mfz_, mfz_a, kb_mfv_, mfv_, mfv_a, cut, lset, lset2, isL, Value.category, ent, entn, if_some, if_pair, if_cons, if_int, if_long, if_ref, ite_self, gz_b, ↓icb, ↓icb2, b2i_ne, ge0, ge1, ge2, ge3, ge4, ge5, ge6, ge7, ge8, ge9, ge10, ge11, ge12, ge13, ge14, lit32, nI_add, pk_mul, clt_nI, cle_nI, cgt_nI, cge_nI, ceq_nI, cne_nI, inr_nI, nI_clamp, nI_eq, nI_leI, nI_ltI, a_kb hb, a_9 hb, a_10 hb, a_11 hb, a_12 hb, a_13 hb, a_k1 hb, a_l1 hb, a_k7 hb, a_l7 hb, a_k18 hb, a_l18 hb, a_k22 hb, a_l22 hb, a_k29 hb, a_l29 hb, a_rc hb, a_kc hb, a_lc hb, a_rt hb, a_kt hb, a_lt hb, a_rp hb, a_kp hb, a_lp hb, a_rw hb, a_kw hb, a_lw hb, k61, f61_0, f61_1, f61_2, f61_3, f61_5, f61_6, f61_7, f61_10, k62, k63, k64, k92, k93, k94, k95, k96, l62, l63, l64, l92, l93, l94, l95, l96, f64_, k65_, l65_, z0, z1, z2, z3, sI_at, y1, wi_sI, y2, fin]
  · have c0 : oo = 0 := by omega
    subst c0
    have ho : ¬ oX X i = true := by rw [v11]; decide
    have fin : sI M 63 54 (kyT X nc h1 h2 i) = sI M 63 54 (kyT X nc h1 h2 (i + 1)) := sI_congr (fun j hj => by
      unfold kyT
      have : ∀ a b, gsm X a b (i + 1) = gsm X a b i := fun a b => by simp only [gsm]; rw [if_neg (fun z => ho z.1)]; rfl
      rw [this])
    simp -implicitDefEqProofs (disch := omega) [wX0_write_1, kp_, bsome, bnone, gi_s, gj_s, gr_s, gv_s, ik_, jk_, il_, jl_, rl_, i2_, i2_a, i2_b, j2_, j2_a, j2_b, i2d_, i2d_a, i2d_b, j2d_, j2d_a, j2d_b, i1_, i1_a, j1_, j1_a, i2l_, i2l_a, l2i_, l2i_a, fgi_, fgi_a, fgj_, fgj_a, fgr_, fgr_a, iald_, iald_a, iald_b, zald_, zald_a, zald_b, jald_, jald_a, jald_b, rald_, rald_a, rald_b, alen_, alen_a, sald_, sald_a, ic_, ic_a, jc_, jc_a, bc_, bc_a, bc_b, bj_, bj_a, bj_b, bz_, bz_a, band_, band_a, bor_, bor_a, bnot_, bnot_a, anil_, ai_, ai_a, ai_b, aj_, aj_a, aj_b, ar_, ar_a, ar_b, kb2i_, cvi_, cvi_a, cvi_b, cvj_, cvj_a, cvj_b, cvz_, cvz_a, cvz_b, csi_, csi_a, csj_, csj_a, csz_, csz_a, snop_, sseq_, sseq_n, sseq_s, sif_, sif_a, scut_, scut_a, ssi_, ssi_a, ssj_, ssj_a, ssr_, ssr_a, sinc_, sinc_a, sret_, sret_a, sretj_, sretj_a, sretv_, spop_, spop_a, kc_scv_, scv_, scv_a, scv_b, scs_, scs_a, fpi_, fpi_a, fpi_b, fpj_, fpj_a, fpj_b, foi_, foi_a, foi_b, foj_, foj_a, foj_b, aii_, aii_a, aii_b, aii_c, aiz_, aiz_a, aiz_b, aiz_c, aij_, aij_a, aij_b, aij_c, aoi_, aoi_a, aoi_b, aoi_c, aoj_, aoj_a, aoj_b, aoj_c, scopy_, scopy_a, scopy_b, scopy_c, scopy_d, scopy_e, ssw_, ssw_a, sel_n, sel_c, mfi_, mfi_a, mfj_, mfj_a, mfz_, mfz_a, kb_mfv_, mfv_, mfv_a, cut, lset, lset2, isL, Value.category, ent, entn, if_some, if_pair, if_cons, if_int, if_long, if_ref, ite_self, gz_b, ↓icb, ↓icb2, b2i_ne, ge0, ge1, ge2, ge3, ge4, ge5, ge6, ge7, ge8, ge9, ge10, ge11, ge12, ge13, ge14, lit32, nI_add, pk_mul, clt_nI, cle_nI, cgt_nI, cge_nI, ceq_nI, cne_nI, inr_nI, nI_clamp, nI_eq, nI_leI, nI_ltI, a_kb hb, a_9 hb, a_10 hb, a_11 hb, a_12 hb, a_13 hb, a_k1 hb, a_l1 hb, a_k7 hb, a_l7 hb, a_k18 hb, a_l18 hb, a_k22 hb, a_l22 hb, a_k29 hb, a_l29 hb, a_rc hb, a_kc hb, a_lc hb, a_rt hb, a_kt hb, a_lt hb, a_rp hb, a_kp hb, a_lp hb, a_rw hb, a_kw hb, a_lw hb, k61, f61_0, f61_1, f61_2, f61_3, f61_5, f61_6, f61_7, f61_10, k62, k63, k64, k92, k93, k94, k95, k96, l62, l63, l64, l92, l93, l94, l95, l96, f64_, k65_, l65_, z3, ← fin]
set_option maxRecDepth 20000 in
theorem c_write2 {tB : Nat} (hL : Lr M b X nc nt np nw tm) (hv : VxB X nc nt np nw tm tB) (hb63 : b + 30 ≤ 61 ∨ 96 < b) {h1 h2 : Int32} : swh qX0_write_2 wX0_write_2 [.ref 61, .ref b, .int (nI 0), .null, .null, .null] (sI M 63 54 (kyP X nc nt h1 h2 0)) = some (none, [.ref 61, .ref b, .int (nI np), .null, .null, .null], sI M 63 54 (kyP X nc nt h1 h2 np)) := by
  have hb := hL.1
  have hB := hv.2.1
  have hn := hL.2.1.2.2.1
  have ht := hL.2.2.2.2.2.1
  have rd : ∀ Y a, b ≤ a → a < b + 30 → (sI M 63 54 Y).1 a = M.1 a := fun Y a z1 z2 => sI_ne (by omega)
  refine swh_count (c := qX0_write_2) (b := wX0_write_2) (fun t => [.ref 61, .ref b, .int (nI t), .null, .null, .null]) (fun t => sI M 63 54 (kyP X nc nt h1 h2 t)) np
    (fun t hi => by
      have z : (sI M 63 54 (kyP X nc nt h1 h2 t)).1 b 2 = nI np := by rw [rd _ b (by omega) (by omega)]; exact hn
      simp -implicitDefEqProofs (disch := omega) [qX0_write_2, kp_, bsome, bnone, gi_s, gj_s, gr_s, gv_s, ik_, jk_, il_, jl_, rl_, i2_, i2_a, i2_b, j2_, j2_a, j2_b, i2d_, i2d_a, i2d_b, j2d_, j2d_a, j2d_b, i1_, i1_a, j1_, j1_a, i2l_, i2l_a, l2i_, l2i_a, fgi_, fgi_a, fgj_, fgj_a, fgr_, fgr_a, iald_, iald_a, iald_b, zald_, zald_a, zald_b, jald_, jald_a, jald_b, rald_, rald_a, rald_b, alen_, alen_a, sald_, sald_a, ic_, ic_a, jc_, jc_a, bc_, bc_a, bc_b, bj_, bj_a, bj_b, bz_, bz_a, band_, band_a, bor_, bor_a, bnot_, bnot_a, anil_, ai_, ai_a, ai_b, aj_, aj_a, aj_b, ar_, ar_a, ar_b, kb2i_, cvi_, cvi_a, cvi_b, cvj_, cvj_a, cvj_b, cvz_, cvz_a, cvz_b, csi_, csi_a, csj_, csj_a, csz_, csz_a, snop_, sseq_, sseq_n, sseq_s, sif_, sif_a, scut_, scut_a, ssi_, ssi_a, ssj_, ssj_a, ssr_, ssr_a, sinc_, sinc_a, sret_, sret_a, sretj_, sretj_a, sretv_, spop_, spop_a, kc_scv_, scv_, scv_a, scv_b, scs_, scs_a, fpi_, fpi_a, fpi_b, fpj_, fpj_a, fpj_b, foi_, foi_a, foi_b, foj_, foj_a, foj_b, aii_, aii_a, aii_b, aii_c, aiz_, aiz_a, aiz_b, aiz_c, aij_, aij_a, aij_b, aij_c, aoi_, aoi_a, aoi_b, aoi_c, aoj_, aoj_a, aoj_b, aoj_c, scopy_, scopy_a, scopy_b, scopy_c, scopy_d, scopy_e, ssw_, ssw_a, sel_n, sel_c, mfi_, mfi_a, mfj_, mfj_a, mfz_, mfz_a, kb_mfv_, mfv_, mfv_a, cut, lset, lset2, isL, Value.category, ent, entn, if_some, if_pair, if_cons, if_int, if_long, if_ref, ite_self, gz_b, ↓icb, ↓icb2, b2i_ne, ge0, ge1, ge2, ge3, ge4, ge5, ge6, ge7, ge8, ge9, ge10, ge11, ge12, ge13, ge14, lit32, nI_add, pk_mul, clt_nI, cle_nI, cgt_nI, cge_nI, ceq_nI, cne_nI, inr_nI, nI_clamp, nI_eq, nI_leI, nI_ltI, a_kb hb, a_9 hb, a_10 hb, a_11 hb, a_12 hb, a_13 hb, a_k1 hb, a_l1 hb, a_k7 hb, a_l7 hb, a_k18 hb, a_l18 hb, a_k22 hb, a_l22 hb, a_k29 hb, a_l29 hb, a_rc hb, a_kc hb, a_lc hb, a_rt hb, a_kt hb, a_lt hb, a_rp hb, a_kp hb, a_lp hb, a_rw hb, a_kw hb, a_lw hb, z, hi])
    (fun p hp => ?_)
    (by
      have z : (sI M 63 54 (kyP X nc nt h1 h2 np)).1 b 2 = nI np := by rw [rd _ b (by omega) (by omega)]; exact hn
      simp -implicitDefEqProofs (disch := omega) [qX0_write_2, kp_, bsome, bnone, gi_s, gj_s, gr_s, gv_s, ik_, jk_, il_, jl_, rl_, i2_, i2_a, i2_b, j2_, j2_a, j2_b, i2d_, i2d_a, i2d_b, j2d_, j2d_a, j2d_b, i1_, i1_a, j1_, j1_a, i2l_, i2l_a, l2i_, l2i_a, fgi_, fgi_a, fgj_, fgj_a, fgr_, fgr_a, iald_, iald_a, iald_b, zald_, zald_a, zald_b, jald_, jald_a, jald_b, rald_, rald_a, rald_b, alen_, alen_a, sald_, sald_a, ic_, ic_a, jc_, jc_a, bc_, bc_a, bc_b, bj_, bj_a, bj_b, bz_, bz_a, band_, band_a, bor_, bor_a, bnot_, bnot_a, anil_, ai_, ai_a, ai_b, aj_, aj_a, aj_b, ar_, ar_a, ar_b, kb2i_, cvi_, cvi_a, cvi_b, cvj_, cvj_a, cvj_b, cvz_, cvz_a, cvz_b, csi_, csi_a, csj_, csj_a, csz_, csz_a, snop_, sseq_, sseq_n, sseq_s, sif_, sif_a, scut_, scut_a, ssi_, ssi_a, ssj_, ssj_a, ssr_, ssr_a, sinc_, sinc_a, sret_, sret_a, sretj_, sretj_a, sretv_, spop_, spop_a, kc_scv_, scv_, scv_a, scv_b, scs_, scs_a, fpi_, fpi_a, fpi_b, fpj_, fpj_a, fpj_b, foi_, foi_a, foi_b, foj_, foj_a, foj_b, aii_, aii_a, aii_b, aii_c, aiz_, aiz_a, aiz_b, aiz_c, aij_, aij_a, aij_b, aij_c, aoi_, aoi_a, aoi_b, aoi_c, aoj_, aoj_a, aoj_b, aoj_c, scopy_, scopy_a, scopy_b, scopy_c, scopy_d, scopy_e, ssw_, ssw_a, sel_n, sel_c, mfi_, mfi_a, mfj_, mfj_a, mfz_, mfz_a, kb_mfv_, mfv_, mfv_a, cut, lset, lset2, isL, Value.category, ent, entn, if_some, if_pair, if_cons, if_int, if_long, if_ref, ite_self, gz_b, ↓icb, ↓icb2, b2i_ne, ge0, ge1, ge2, ge3, ge4, ge5, ge6, ge7, ge8, ge9, ge10, ge11, ge12, ge13, ge14, lit32, nI_add, pk_mul, clt_nI, cle_nI, cgt_nI, cge_nI, ceq_nI, cne_nI, inr_nI, nI_clamp, nI_eq, nI_leI, nI_ltI, a_kb hb, a_9 hb, a_10 hb, a_11 hb, a_12 hb, a_13 hb, a_k1 hb, a_l1 hb, a_k7 hb, a_l7 hb, a_k18 hb, a_l18 hb, a_k22 hb, a_l22 hb, a_k29 hb, a_l29 hb, a_rc hb, a_kc hb, a_lc hb, a_rt hb, a_kt hb, a_lt hb, a_rp hb, a_kp hb, a_lp hb, a_rw hb, a_kw hb, a_lw hb, z])
  obtain ⟨a, a0, a1, -⟩ := pumpX hB.1 hB.2.2.2.2 (hv.2.2.2.2.2.1 p hp)
  have p3 : p < 3 := by omega
  have e1 : ∀ Y, (sI M 63 54 Y).1 (b + 19 + p) 1 = nI (pX X p 1) := fun Y => by rw [rd _ _ (by omega) (by omega), ht p hp 1 (by decide)]; exact (a 1 (by decide)).1
  have m : ∀ s, s < 9 → M.1 (b + 19 + p) s = nI (pX X p s) := fun s hs => by rw [ht p hp s hs]; exact (a s hs).1
  by_cases c1 : pX X p 1 = 0
  · have fin : sI M 63 54 (kyP X nc nt h1 h2 p) = sI M 63 54 (kyP X nc nt h1 h2 (p + 1)) := sI_congr (fun j hj => by
      unfold kyP
      by_cases q1 : j < 28
      · rw [if_pos q1, if_pos q1]
      · rw [if_neg q1, if_neg q1]
        by_cases q2 : j < 43
        · rw [if_pos q2, if_pos q2]
          by_cases q3 : (j - 28) / 5 = p
          · rw [q3, if_neg (by omega), if_neg (fun z => z.2 c1)]
          · have : ((j - 28) / 5 < p + 1) = ((j - 28) / 5 < p) := propext (by omega)
            simp only [this]
        · rw [if_neg q2, if_neg q2]
          by_cases q4 : j < 49
          · rw [if_pos q4, if_pos q4]
            by_cases q3 : (j - 43) / 2 = p
            · rw [q3, if_neg (by omega), if_neg (fun z => z.2 c1)]
            · have : ((j - 43) / 2 < p + 1) = ((j - 43) / 2 < p) := propext (by omega)
              simp only [this]
          · rw [if_neg q4, if_neg q4])
    simp -implicitDefEqProofs (disch := omega) [wX0_write_2, kp_, bsome, bnone, gi_s, gj_s, gr_s, gv_s, ik_, jk_, il_, jl_, rl_, i2_, i2_a, i2_b, j2_, j2_a, j2_b, i2d_, i2d_a, i2d_b, j2d_, j2d_a, j2d_b, i1_, i1_a, j1_, j1_a, i2l_, i2l_a, l2i_, l2i_a, fgi_, fgi_a, fgj_, fgj_a, fgr_, fgr_a, iald_, iald_a, iald_b, zald_, zald_a, zald_b, jald_, jald_a, jald_b, rald_, rald_a, rald_b, alen_, alen_a, sald_, sald_a, ic_, ic_a, jc_, jc_a, bc_, bc_a, bc_b, bj_, bj_a, bj_b, bz_, bz_a, band_, band_a, bor_, bor_a, bnot_, bnot_a, anil_, ai_, ai_a, ai_b, aj_, aj_a, aj_b, ar_, ar_a, ar_b, kb2i_, cvi_, cvi_a, cvi_b, cvj_, cvj_a, cvj_b, cvz_, cvz_a, cvz_b, csi_, csi_a, csj_, csj_a, csz_, csz_a, snop_, sseq_, sseq_n, sseq_s, sif_, sif_a, scut_, scut_a, ssi_, ssi_a, ssj_, ssj_a, ssr_, ssr_a, sinc_, sinc_a, sret_, sret_a, sretj_, sretj_a, sretv_, spop_, spop_a, kc_scv_, scv_, scv_a, scv_b, scs_, scs_a, fpi_, fpi_a, fpi_b, fpj_, fpj_a, fpj_b, foi_, foi_a, foi_b, foj_, foj_a, foj_b, aii_, aii_a, aii_b, aii_c, aiz_, aiz_a, aiz_b, aiz_c, aij_, aij_a, aij_b, aij_c, aoi_, aoi_a, aoi_b, aoi_c, aoj_, aoj_a, aoj_b, aoj_c, scopy_, scopy_a, scopy_b, scopy_c, scopy_d, scopy_e, ssw_, ssw_a, sel_n, sel_c, mfi_, mfi_a, mfj_, mfj_a, mfz_, mfz_a, kb_mfv_, mfv_, mfv_a, cut, lset, lset2, isL, Value.category, ent, entn, if_some, if_pair, if_cons, if_int, if_long, if_ref, ite_self, gz_b, ↓icb, ↓icb2, b2i_ne, ge0, ge1, ge2, ge3, ge4, ge5, ge6, ge7, ge8, ge9, ge10, ge11, ge12, ge13, ge14, lit32, nI_add, pk_mul, clt_nI, cle_nI, cgt_nI, cge_nI, ceq_nI, cne_nI, inr_nI, nI_clamp, nI_eq, nI_leI, nI_ltI, a_kb hb, a_9 hb, a_10 hb, a_11 hb, a_12 hb, a_13 hb, a_k1 hb, a_l1 hb, a_k7 hb, a_l7 hb, a_k18 hb, a_l18 hb, a_k22 hb, a_l22 hb, a_k29 hb, a_l29 hb, a_rc hb, a_kc hb, a_lc hb, a_rt hb, a_kt hb, a_lt hb, a_rp hb, a_kp hb, a_lp hb, a_rw hb, a_kw hb, a_lw hb, k61, f61_0, f61_1, f61_2, f61_3, f61_5, f61_6, f61_7, f61_10, k62, k63, k64, k92, k93, k94, k95, k96, l62, l63, l64, l92, l93, l94, l95, l96, f64_, k65_, l65_, e1, c1, ← fin]
  · have c2 := cpi_sI (M := M) (a := b + 19 + p) (c := 63) (n := 54) (sp := 0) (dp := 28 + p * 5) (m := 5) (Y := kyP X nc nt h1 h2 p) (by omega) (by omega)
    have c3 := fun Y => cpi_sI (M := M) (a := b + 19 + p) (c := 63) (n := 54) (sp := 5) (dp := 43 + p * 2) (m := 2) (Y := Y) (by omega) (by omega)
    have fin : sI M 63 54 (fun j => if 43 + p * 2 ≤ j ∧ j < 43 + p * 2 + 2 then M.1 (b + 19 + p) (5 + (j - (43 + p * 2))) else (if 28 + p * 5 ≤ j ∧ j < 28 + p * 5 + 5 then M.1 (b + 19 + p) (j - (28 + p * 5)) else kyP X nc nt h1 h2 p j)) = sI M 63 54 (kyP X nc nt h1 h2 (p + 1)) := sI_congr (fun j hj => by
      unfold kyP
      by_cases q4 : 43 + p * 2 ≤ j ∧ j < 43 + p * 2 + 2
      · rw [if_pos q4, if_neg (by omega), if_neg (by omega), if_pos (by omega), show (j - 43) / 2 = p by omega, if_pos ⟨by omega, c1⟩, show j - (43 + p * 2) = (j - 43) % 2 by omega]
        exact m _ (by omega)
      · rw [if_neg q4]
        by_cases q5 : 28 + p * 5 ≤ j ∧ j < 28 + p * 5 + 5
        · rw [if_pos q5, if_neg (by omega), if_pos (by omega), show (j - 28) / 5 = p by omega, if_pos ⟨by omega, c1⟩, show j - (28 + p * 5) = (j - 28) % 5 by omega]
          exact m _ (by omega)
        · rw [if_neg q5]
          by_cases q1 : j < 28
          · rw [if_pos q1, if_pos q1]
          · rw [if_neg q1, if_neg q1]
            by_cases q2 : j < 43
            · rw [if_pos q2, if_pos q2]
              have : ((j - 28) / 5 < p + 1) = ((j - 28) / 5 < p) := propext (by omega)
              simp only [this]
            · rw [if_neg q2, if_neg q2]
              by_cases q6 : j < 49
              · rw [if_pos q6, if_pos q6]
                have : ((j - 43) / 2 < p + 1) = ((j - 43) / 2 < p) := propext (by omega)
                simp only [this]
              · rw [if_neg q6, if_neg q6])
    have b1 : ¬ nI (28 + p * 5) < nI 0 := fun z => by have := (nI_ltI (by omega) (by omega)).mp z; omega
    have b2 : ¬ nI (43 + p * 2) < nI 0 := fun z => by have := (nI_ltI (by omega) (by omega)).mp z; omega
    have b3 : 28 + p * 5 + 5 ≤ 54 := by omega
    have b4 : 43 + p * 2 + 2 ≤ 54 := by omega
    simp -implicitDefEqProofs (disch := omega) [wX0_write_2, kp_, bsome, bnone, gi_s, gj_s, gr_s, gv_s, ik_, jk_, il_, jl_, rl_, i2_, i2_a, i2_b, j2_, j2_a, j2_b, i2d_, i2d_a, i2d_b, j2d_, j2d_a, j2d_b, i1_, i1_a, j1_, j1_a, i2l_, i2l_a, l2i_, l2i_a, fgi_, fgi_a, fgj_, fgj_a, fgr_, fgr_a, iald_, iald_a, iald_b, zald_, zald_a, zald_b, jald_, jald_a, jald_b, rald_, rald_a, rald_b, alen_, alen_a, sald_, sald_a, ic_, ic_a, jc_, jc_a, bc_, bc_a, bc_b, bj_, bj_a, bj_b, bz_, bz_a, band_, band_a, bor_, bor_a, bnot_, bnot_a, anil_, ai_, ai_a, ai_b, aj_, aj_a, aj_b, ar_, ar_a, ar_b, kb2i_, cvi_, cvi_a, cvi_b, cvj_, cvj_a, cvj_b, cvz_, cvz_a, cvz_b, csi_, csi_a, csj_, csj_a, csz_, csz_a, snop_, sseq_, sseq_n, sseq_s, sif_, sif_a, scut_, scut_a, ssi_, ssi_a, ssj_, ssj_a, ssr_, ssr_a, sinc_, sinc_a, sret_, sret_a, sretj_, sretj_a, sretv_, spop_, spop_a, kc_scv_, scv_, scv_a, scv_b, scs_, scs_a, fpi_, fpi_a, fpi_b, fpj_, fpj_a, fpj_b, foi_, foi_a, foi_b, foj_, foj_a, foj_b, aii_, aii_a, aii_b, aii_c, aiz_, aiz_a, aiz_b, aiz_c, aij_, aij_a, aij_b, aij_c, aoi_, aoi_a, aoi_b, aoi_c, aoj_, aoj_a, aoj_b, aoj_c, scopy_, scopy_a, scopy_b, scopy_c, scopy_d, scopy_e, ssw_, ssw_a, sel_n, sel_c, mfi_, mfi_a, mfj_, mfj_a, mfz_, mfz_a, kb_mfv_, mfv_, mfv_a, cut, lset, lset2, isL, Value.category, ent, entn, if_some, if_pair, if_cons, if_int, if_long, if_ref, ite_self, gz_b, ↓icb, ↓icb2, b2i_ne, ge0, ge1, ge2, ge3, ge4, ge5, ge6, ge7, ge8, ge9, ge10, ge11, ge12, ge13, ge14, lit32, nI_add, pk_mul, clt_nI, cle_nI, cgt_nI, cge_nI, ceq_nI, cne_nI, inr_nI, nI_clamp, nI_eq, nI_leI, nI_ltI, a_kb hb, a_9 hb, a_10 hb, a_11 hb, a_12 hb, a_13 hb, a_k1 hb, a_l1 hb, a_k7 hb, a_l7 hb, a_k18 hb, a_l18 hb, a_k22 hb, a_l22 hb, a_k29 hb, a_l29 hb, a_rc hb, a_kc hb, a_lc hb, a_rt hb, a_kt hb, a_lt hb, a_rp hb, a_kp hb, a_lp hb, a_rw hb, a_kw hb, a_lw hb, k61, f61_0, f61_1, f61_2, f61_3, f61_5, f61_6, f61_7, f61_10, k62, k63, k64, k92, k93, k94, k95, k96, l62, l63, l64, l92, l93, l94, l95, l96, f64_, k65_, l65_, e1, c1, b1, b2, b3, b4, c2, c3, fin]
set_option maxRecDepth 20000 in
theorem c_write3 {tB : Nat} (hL : Lr M b X nc nt np nw tm) (hv : VxB X nc nt np nw tm tB) (hb63 : b + 30 ≤ 61 ∨ 96 < b) {h1 h2 : Int32} : swh qX0_write_3 wX0_write_3 [.ref 61, .ref b, .int (nI 0), .null, .null, .null] (sI M 63 54 (kyC X nc nt np h1 h2 0)) = some (none, [.ref 61, .ref b, .int (nI nc), .null, .null, .null], sI M 63 54 (kyC X nc nt np h1 h2 nc)) := by
  have hb := hL.1
  have hB := hv.2.1
  have hn := hL.2.1.1
  have rd : ∀ Y a, b ≤ a → a < b + 30 → (sI M 63 54 Y).1 a = M.1 a := fun Y a z1 z2 => sI_ne (by omega)
  refine swh_count (c := qX0_write_3) (b := wX0_write_3) (fun t => [.ref 61, .ref b, .int (nI t), .null, .null, .null]) (fun t => sI M 63 54 (kyC X nc nt np h1 h2 t)) nc
    (fun t hi => by
      have z : (sI M 63 54 (kyC X nc nt np h1 h2 t)).1 b 0 = nI nc := by rw [rd _ b (by omega) (by omega)]; exact hn
      simp -implicitDefEqProofs (disch := omega) [qX0_write_3, kp_, bsome, bnone, gi_s, gj_s, gr_s, gv_s, ik_, jk_, il_, jl_, rl_, i2_, i2_a, i2_b, j2_, j2_a, j2_b, i2d_, i2d_a, i2d_b, j2d_, j2d_a, j2d_b, i1_, i1_a, j1_, j1_a, i2l_, i2l_a, l2i_, l2i_a, fgi_, fgi_a, fgj_, fgj_a, fgr_, fgr_a, iald_, iald_a, iald_b, zald_, zald_a, zald_b, jald_, jald_a, jald_b, rald_, rald_a, rald_b, alen_, alen_a, sald_, sald_a, ic_, ic_a, jc_, jc_a, bc_, bc_a, bc_b, bj_, bj_a, bj_b, bz_, bz_a, band_, band_a, bor_, bor_a, bnot_, bnot_a, anil_, ai_, ai_a, ai_b, aj_, aj_a, aj_b, ar_, ar_a, ar_b, kb2i_, cvi_, cvi_a, cvi_b, cvj_, cvj_a, cvj_b, cvz_, cvz_a, cvz_b, csi_, csi_a, csj_, csj_a, csz_, csz_a, snop_, sseq_, sseq_n, sseq_s, sif_, sif_a, scut_, scut_a, ssi_, ssi_a, ssj_, ssj_a, ssr_, ssr_a, sinc_, sinc_a, sret_, sret_a, sretj_, sretj_a, sretv_, spop_, spop_a, kc_scv_, scv_, scv_a, scv_b, scs_, scs_a, fpi_, fpi_a, fpi_b, fpj_, fpj_a, fpj_b, foi_, foi_a, foi_b, foj_, foj_a, foj_b, aii_, aii_a, aii_b, aii_c, aiz_, aiz_a, aiz_b, aiz_c, aij_, aij_a, aij_b, aij_c, aoi_, aoi_a, aoi_b, aoi_c, aoj_, aoj_a, aoj_b, aoj_c, scopy_, scopy_a, scopy_b, scopy_c, scopy_d, scopy_e, ssw_, ssw_a, sel_n, sel_c, mfi_, mfi_a, mfj_, mfj_a, mfz_, mfz_a, kb_mfv_, mfv_, mfv_a, cut, lset, lset2, isL, Value.category, ent, entn, if_some, if_pair, if_cons, if_int, if_long, if_ref, ite_self, gz_b, ↓icb, ↓icb2, b2i_ne, ge0, ge1, ge2, ge3, ge4, ge5, ge6, ge7, ge8, ge9, ge10, ge11, ge12, ge13, ge14, lit32, nI_add, pk_mul, clt_nI, cle_nI, cgt_nI, cge_nI, ceq_nI, cne_nI, inr_nI, nI_clamp, nI_eq, nI_leI, nI_ltI, a_kb hb, a_9 hb, a_10 hb, a_11 hb, a_12 hb, a_13 hb, a_k1 hb, a_l1 hb, a_k7 hb, a_l7 hb, a_k18 hb, a_l18 hb, a_k22 hb, a_l22 hb, a_k29 hb, a_l29 hb, a_rc hb, a_kc hb, a_lc hb, a_rt hb, a_kt hb, a_lt hb, a_rp hb, a_kp hb, a_lp hb, a_rw hb, a_kw hb, a_lw hb, z, hi])
    (fun c hc => ?_)
    (by
      have z : (sI M 63 54 (kyC X nc nt np h1 h2 nc)).1 b 0 = nI nc := by rw [rd _ b (by omega) (by omega)]; exact hn
      simp -implicitDefEqProofs (disch := omega) [qX0_write_3, kp_, bsome, bnone, gi_s, gj_s, gr_s, gv_s, ik_, jk_, il_, jl_, rl_, i2_, i2_a, i2_b, j2_, j2_a, j2_b, i2d_, i2d_a, i2d_b, j2d_, j2d_a, j2d_b, i1_, i1_a, j1_, j1_a, i2l_, i2l_a, l2i_, l2i_a, fgi_, fgi_a, fgj_, fgj_a, fgr_, fgr_a, iald_, iald_a, iald_b, zald_, zald_a, zald_b, jald_, jald_a, jald_b, rald_, rald_a, rald_b, alen_, alen_a, sald_, sald_a, ic_, ic_a, jc_, jc_a, bc_, bc_a, bc_b, bj_, bj_a, bj_b, bz_, bz_a, band_, band_a, bor_, bor_a, bnot_, bnot_a, anil_, ai_, ai_a, ai_b, aj_, aj_a, aj_b, ar_, ar_a, ar_b, kb2i_, cvi_, cvi_a, cvi_b, cvj_, cvj_a, cvj_b, cvz_, cvz_a, cvz_b, csi_, csi_a, csj_, csj_a, csz_, csz_a, snop_, sseq_, sseq_n, sseq_s, sif_, sif_a, scut_, scut_a, ssi_, ssi_a, ssj_, ssj_a, ssr_, ssr_a, sinc_, sinc_a, sret_, sret_a, sretj_, sretj_a, sretv_, spop_, spop_a, kc_scv_, scv_, scv_a, scv_b, scs_, scs_a, fpi_, fpi_a, fpi_b, fpj_, fpj_a, fpj_b, foi_, foi_a, foi_b, foj_, foj_a, foj_b, aii_, aii_a, aii_b, aii_c, aiz_, aiz_a, aiz_b, aiz_c, aij_, aij_a, aij_b, aij_c, aoi_, aoi_a, aoi_b, aoi_c, aoj_, aoj_a, aoj_b, aoj_c, scopy_, scopy_a, scopy_b, scopy_c, scopy_d, scopy_e, ssw_, ssw_a, sel_n, sel_c, mfi_, mfi_a, mfj_, mfj_a, mfz_, mfz_a, kb_mfv_, mfv_, mfv_a, cut, lset, lset2, isL, Value.category, ent, entn, if_some, if_pair, if_cons, if_int, if_long, if_ref, ite_self, gz_b, ↓icb, ↓icb2, b2i_ne, ge0, ge1, ge2, ge3, ge4, ge5, ge6, ge7, ge8, ge9, ge10, ge11, ge12, ge13, ge14, lit32, nI_add, pk_mul, clt_nI, cle_nI, cgt_nI, cge_nI, ceq_nI, cne_nI, inr_nI, nI_clamp, nI_eq, nI_leI, nI_ltI, a_kb hb, a_9 hb, a_10 hb, a_11 hb, a_12 hb, a_13 hb, a_k1 hb, a_l1 hb, a_k7 hb, a_l7 hb, a_k18 hb, a_l18 hb, a_k22 hb, a_l22 hb, a_k29 hb, a_l29 hb, a_rc hb, a_kc hb, a_lc hb, a_rt hb, a_kt hb, a_lt hb, a_rp hb, a_kp hb, a_lp hb, a_rw hb, a_kw hb, a_lw hb, z])
  have hL2 : Lr (sI M 63 54 (kyC X nc nt np h1 h2 c)) b X nc nt np nw tm := hL.frame hB.1 hB.2.1 hB.2.2.1 hB.2.2.2.1 (fun a z1 z2 => rd _ a z1 z2)
  have ti := c_load hL2 hv hc
  rw [(ldX_e hv hc).1] at ti
  have tk := c_twiceLeak hL2 hv hc
  have c5 : 49 + c < 54 := by omega
  have fin : sI M 63 54 (upd (kyC X nc nt np h1 h2 c) (49 + c) (nI (2 * ldX X c + lkX X c))) = sI M 63 54 (kyC X nc nt np h1 h2 (c + 1)) := sI_congr (fun j hj => by
    by_cases q : j = 49 + c
    · subst q
      rw [upd_s]
      unfold kyC
      rw [if_neg (by omega), if_pos (by omega), show 49 + c - 49 = c by omega]
    · rw [upd_n q]
      unfold kyC
      by_cases q1 : j < 49
      · rw [if_pos q1, if_pos q1]
      · rw [if_neg q1, if_neg q1]
        have : (j - 49 < c + 1) = (j - 49 < c) := propext (by omega)
        simp only [this])
  simp -implicitDefEqProofs (disch := omega) [wX0_write_3, kp_, bsome, bnone, gi_s, gj_s, gr_s, gv_s, ik_, jk_, il_, jl_, rl_, i2_, i2_a, i2_b, j2_, j2_a, j2_b, i2d_, i2d_a, i2d_b, j2d_, j2d_a, j2d_b, i1_, i1_a, j1_, j1_a, i2l_, i2l_a, l2i_, l2i_a, fgi_, fgi_a, fgj_, fgj_a, fgr_, fgr_a, iald_, iald_a, iald_b, zald_, zald_a, zald_b, jald_, jald_a, jald_b, rald_, rald_a, rald_b, alen_, alen_a, sald_, sald_a, ic_, ic_a, jc_, jc_a, bc_, bc_a, bc_b, bj_, bj_a, bj_b, bz_, bz_a, band_, band_a, bor_, bor_a, bnot_, bnot_a, anil_, ai_, ai_a, ai_b, aj_, aj_a, aj_b, ar_, ar_a, ar_b, kb2i_, cvi_, cvi_a, cvi_b, cvj_, cvj_a, cvj_b, cvz_, cvz_a, cvz_b, csi_, csi_a, csj_, csj_a, csz_, csz_a, snop_, sseq_, sseq_n, sseq_s, sif_, sif_a, scut_, scut_a, ssi_, ssi_a, ssj_, ssj_a, ssr_, ssr_a, sinc_, sinc_a, sret_, sret_a, sretj_, sretj_a, sretv_, spop_, spop_a, kc_scv_, scv_, scv_a, scv_b, scs_, scs_a, fpi_, fpi_a, fpi_b, fpj_, fpj_a, fpj_b, foi_, foi_a, foi_b, foj_, foj_a, foj_b, aii_, aii_a, aii_b, aii_c, aiz_, aiz_a, aiz_b, aiz_c, aij_, aij_a, aij_b, aij_c, aoi_, aoi_a, aoi_b, aoi_c, aoj_, aoj_a, aoj_b, aoj_c, scopy_, scopy_a, scopy_b, scopy_c, scopy_d, scopy_e, ssw_, ssw_a, sel_n, sel_c, mfi_, mfi_a, mfj_, mfj_a, mfz_, mfz_a, kb_mfv_, mfv_, mfv_a, cut, lset, lset2, isL, Value.category, ent, entn, if_some, if_pair, if_cons, if_int, if_long, if_ref, ite_self, gz_b, ↓icb, ↓icb2, b2i_ne, ge0, ge1, ge2, ge3, ge4, ge5, ge6, ge7, ge8, ge9, ge10, ge11, ge12, ge13, ge14, lit32, nI_add, pk_mul, clt_nI, cle_nI, cgt_nI, cge_nI, ceq_nI, cne_nI, inr_nI, nI_clamp, nI_eq, nI_leI, nI_ltI, a_kb hb, a_9 hb, a_10 hb, a_11 hb, a_12 hb, a_13 hb, a_k1 hb, a_l1 hb, a_k7 hb, a_l7 hb, a_k18 hb, a_l18 hb, a_k22 hb, a_l22 hb, a_k29 hb, a_l29 hb, a_rc hb, a_kc hb, a_lc hb, a_rt hb, a_kt hb, a_lt hb, a_rp hb, a_kp hb, a_lp hb, a_rw hb, a_kw hb, a_lw hb, k61, f61_0, f61_1, f61_2, f61_3, f61_5, f61_6, f61_7, f61_10, k62, k63, k64, k92, k93, k94, k95, k96, l62, l63, l64, l92, l93, l94, l95, l96, f64_, k65_, l65_, ti, tk, wi_sI, fin]
set_option maxRecDepth 20000 in
theorem c_write {tB : Nat} (hL : Lr M b X nc nt np nw tm) (hv : VxB X nc nt np nw tm tB) (hb63 : b + 30 ≤ 61 ∨ 96 < b) : DX0_write [.ref 61, .ref b] M = some (sI M 63 54 (kyC X nc nt np (M.1 b 7) (M.1 b 8) nc)) := by
  have hb := hL.1
  have hB := hv.2.1
  have hn := hL.2.1.1
  have rd : ∀ Y a, b ≤ a → a < b + 30 → (sI M 63 54 Y).1 a = M.1 a := fun Y a z1 z2 => sI_ne (by omega)
  have fl := j_fillI (M := M) (a := 63) (v := nI 0) k63 l63 (by decide)
  have r0 : ∀ Y, (sI M 63 54 Y).1 b 0 = nI nc := fun Y => by rw [rd _ b (by omega) (by omega)]; exact hn
  have r7 : ∀ Y, (sI M 63 54 Y).1 b 7 = M.1 b 7 := fun Y => by rw [rd _ b (by omega) (by omega)]
  have r8 : ∀ Y, (sI M 63 54 Y).1 b 8 = M.1 b 8 := fun Y => by rw [rd _ b (by omega) (by omega)]
  have w1 := c_write1 (h1 := M.1 b 7) (h2 := M.1 b 8) hL hv hb63
  have w2 := c_write2 (h1 := M.1 b 7) (h2 := M.1 b 8) hL hv hb63
  have w3 := c_write3 (h1 := M.1 b 7) (h2 := M.1 b 8) hL hv hb63
  have s1 : sI M 63 54 (upd (upd (upd (fun _ => nI 0) 0 (nI nc)) 1 (M.1 b 7)) 2 (M.1 b 8)) = sI M 63 54 (kyT X nc (M.1 b 7) (M.1 b 8) 0) := sI_congr (fun j hj => by
    unfold kyT
    by_cases a2 : j = 2
    · subst a2; rw [upd_s]; rfl
    rw [upd_n a2]
    by_cases a1 : j = 1
    · subst a1; rw [upd_s]; rfl
    rw [upd_n a1]
    by_cases a0 : j = 0
    · subst a0; rw [upd_s]; rfl
    rw [upd_n a0, if_neg a0, if_neg a1, if_neg a2]
    split <;> rfl)
  have s2 : sI M 63 54 (kyT X nc (M.1 b 7) (M.1 b 8) nt) = sI M 63 54 (kyP X nc nt (M.1 b 7) (M.1 b 8) 0) := sI_congr (fun j hj => by
    unfold kyP
    by_cases q1 : j < 28
    · rw [if_pos q1]
    · rw [if_neg q1]
      have e : kyT X nc (M.1 b 7) (M.1 b 8) nt j = nI 0 := by
        unfold kyT
        rw [if_neg (by omega), if_neg (by omega), if_neg (by omega), if_neg q1]
      rw [e]
      by_cases q2 : j < 43
      · rw [if_pos q2, if_neg (by omega)]
      · rw [if_neg q2]
        by_cases q3 : j < 49
        · rw [if_pos q3, if_neg (by omega)]
        · rw [if_neg q3])
  have s3 : sI M 63 54 (kyP X nc nt (M.1 b 7) (M.1 b 8) np) = sI M 63 54 (kyC X nc nt np (M.1 b 7) (M.1 b 8) 0) := sI_congr (fun j hj => by
    unfold kyC
    by_cases q1 : j < 49
    · rw [if_pos q1]
    · rw [if_neg q1, if_neg (by omega)]
      unfold kyP
      rw [if_neg (by omega), if_neg (by omega), if_neg q1])
  rw [← s1] at w1
  rw [← s2] at w2
  rw [← s3] at w3
  simp -implicitDefEqProofs (disch := omega) [DX0_write, EX0_write, kp_, bsome, bnone, gi_s, gj_s, gr_s, gv_s, ik_, jk_, il_, jl_, rl_, i2_, i2_a, i2_b, j2_, j2_a, j2_b, i2d_, i2d_a, i2d_b, j2d_, j2d_a, j2d_b, i1_, i1_a, j1_, j1_a, i2l_, i2l_a, l2i_, l2i_a, fgi_, fgi_a, fgj_, fgj_a, fgr_, fgr_a, iald_, iald_a, iald_b, zald_, zald_a, zald_b, jald_, jald_a, jald_b, rald_, rald_a, rald_b, alen_, alen_a, sald_, sald_a, ic_, ic_a, jc_, jc_a, bc_, bc_a, bc_b, bj_, bj_a, bj_b, bz_, bz_a, band_, band_a, bor_, bor_a, bnot_, bnot_a, anil_, ai_, ai_a, ai_b, aj_, aj_a, aj_b, ar_, ar_a, ar_b, kb2i_, cvi_, cvi_a, cvi_b, cvj_, cvj_a, cvj_b, cvz_, cvz_a, cvz_b, csi_, csi_a, csj_, csj_a, csz_, csz_a, snop_, sseq_, sseq_n, sseq_s, sif_, sif_a, scut_, scut_a, ssi_, ssi_a, ssj_, ssj_a, ssr_, ssr_a, sinc_, sinc_a, sret_, sret_a, sretj_, sretj_a, sretv_, spop_, spop_a, kc_scv_, scv_, scv_a, scv_b, scs_, scs_a, fpi_, fpi_a, fpi_b, fpj_, fpj_a, fpj_b, foi_, foi_a, foi_b, foj_, foj_a, foj_b, aii_, aii_a, aii_b, aii_c, aiz_, aiz_a, aiz_b, aiz_c, aij_, aij_a, aij_b, aij_c, aoi_, aoi_a, aoi_b, aoi_c, aoj_, aoj_a, aoj_b, aoj_c, scopy_, scopy_a, scopy_b, scopy_c, scopy_d, scopy_e, ssw_, ssw_a, sel_n, sel_c, mfi_, mfi_a, mfj_, mfj_a, mfz_, mfz_a, kb_mfv_, mfv_, mfv_a, cut, lset, lset2, isL, Value.category, ent, entn, if_some, if_pair, if_cons, if_int, if_long, if_ref, ite_self, gz_b, ↓icb, ↓icb2, b2i_ne, ge0, ge1, ge2, ge3, ge4, ge5, ge6, ge7, ge8, ge9, ge10, ge11, ge12, ge13, ge14, lit32, nI_add, pk_mul, clt_nI, cle_nI, cgt_nI, cge_nI, ceq_nI, cne_nI, inr_nI, nI_clamp, nI_eq, nI_leI, nI_ltI, a_kb hb, a_9 hb, a_10 hb, a_11 hb, a_12 hb, a_13 hb, a_k1 hb, a_l1 hb, a_k7 hb, a_l7 hb, a_k18 hb, a_l18 hb, a_k22 hb, a_l22 hb, a_k29 hb, a_l29 hb, a_rc hb, a_kc hb, a_lc hb, a_rt hb, a_kt hb, a_lt hb, a_rp hb, a_kp hb, a_lp hb, a_rw hb, a_kw hb, a_lw hb, k61, f61_0, f61_1, f61_2, f61_3, f61_5, f61_6, f61_7, f61_10, k62, k63, k64, k92, k93, k94, k95, k96, l62, l63, l64, l92, l93, l94, l95, l96, f64_, k65_, l65_, fl, r0, r7, r8, wi_sI, w1, w2, w3]
end
