/-! ===== between: the call ===== -/
section
variable {M N : Me} {X : Nat → Int32} {nc nt np nw tm o u f t : Nat}
/-! behind a question that changes only rows of the reference's own -/
set_option maxRecDepth 20000 in
theorem inv_8 {Q : Me} (h : Core M nc nt np nw tm o u) (hI : BInv M) (h1 : ∀ a, a < 492 ∨ (493 ≤ a ∧ a ≤ 498) → N.1 a = M.1 a) (h2 : ∀ j, 0 < j → j < 20 → N.1 492 j = M.1 492 j) (h3 : ∀ a, a < 122 → N.2 a = M.2 a) : Inv N := by
  refine ⟨⟨_, _, _, _, _, _, _, qf_core h ⟨fun a ha => h1 a (by omega), h2 1 (by decide) (by decide), h2 6 (by decide) (by decide)⟩⟩, hI.frame (fun a _ z1 z2 => h1 a (by omega)) (fun a z1 z2 => h3 a (by omega))⟩
set_option maxRecDepth 20000 in
theorem ca_between (h : Core M nc nt np nw tm o u) (hI : BInv M) (x0 x1 x2 : Int32) : CallJ DX7_between DX8_between [.int x0, .int x1, .int x2] M := by
  have hb := h.1.2.1
  have hn1 := h.2.1.2.1.1
  obtain ⟨X, eX⟩ : ∃ X, X = M.1 494 := ⟨_, rfl⟩
  have hv : Vx X nc nt np nw tm := by rw [eX]; exact h.1
  have hL : Lr M 1 X nc nt np nw tm := by rw [eX]; exact h.2.1
  have at2 := c_areTwo (x0 := x0) (x1 := x1) hn1 (by omega)
  have lay : ∀ R : Me, R.1 = M.1 → ∃ N0, DX8_layNets [.ref 492] (wi R 492 0 (nI 0)) = some N0 ∧ N0.1 494 = X ∧ N0.1 494 0 = nI nc ∧ (∀ c, c < 5 → N0.1 500 c = nI (gLo (nX X nt c))) ∧ (∀ a, a ≠ 492 → a ≠ 500 → N0.1 a = M.1 a) ∧ (∀ j, 0 < j → N0.1 492 j = M.1 492 j) ∧ N0.2 = R.2 := fun R eR => by
    have e5 : (wi R 492 0 (nI 0)).1 494 = X := by rw [wi_ne (by decide), eR, eX]
    refine ⟨_, r_layNets e5 hv, by rw [sI_ne (by decide)]; exact e5, by rw [sI_ne (by decide), e5]; exact hv.1.1, fun c hc => sI_at hc, fun a z1 z2 => by rw [sI_ne z2, wi_ne z1, eR], fun j hj => by rw [sI_ne (by decide), wi_ns (by omega), eR], rfl⟩
  have rej : DX7_between [.ref 0, .int x0, .int x1, .int x2] M = some (-1, M) → (∀ N0 : Me, DX8_layNets [.ref 492] (wi M 492 0 (nI 0)) = some N0 → N0.1 494 0 = nI nc → (∀ c, c < 5 → N0.1 500 c = nI (gLo (nX X nt c))) → DX8_between [.ref 492, .int x0, .int x1, .int x2] M = some (-1, N0)) → CallJ DX7_between DX8_between [.int x0, .int x1, .int x2] M := fun e1 e2 => by
    obtain ⟨N0, n1, n2, n3, n4, n5, n6, n7⟩ := lay M rfl
    exact ⟨-1, M, N0, e1, e2 N0 n1 n3 n4, inv_8 (Q := M) h hI (fun a ha => n5 a (by omega) (by omega)) (fun j h1 _ => n6 j h1) (fun a _ => by rw [n7])⟩
  by_cases i0 : inr x0 nc = true
  case neg =>
    have i0 : inr x0 nc = false := by simpa using i0
    rw [i0] at at2
    simp only [Bool.false_and] at at2
    refine rej ?_ (fun N0 n1 n3 n4 => ?_)
    · simp -implicitDefEqProofs (disch := omega) [DX7_between, EX7_between, kp_, bsome, bnone, gi_s, gj_s, gr_s, gv_s, ik_, jk_, il_, jl_, rl_, i2_, i2_a, i2_b, j2_, j2_a, j2_b, i2d_, i2d_a, i2d_b, j2d_, j2d_a, j2d_b, i1_, i1_a, j1_, j1_a, i2l_, i2l_a, l2i_, l2i_a, fgi_, fgi_a, fgj_, fgj_a, fgr_, fgr_a, iald_, iald_a, iald_b, zald_, zald_a, zald_b, jald_, jald_a, jald_b, rald_, rald_a, rald_b, alen_, alen_a, sald_, sald_a, ic_, ic_a, jc_, jc_a, bc_, bc_a, bc_b, bj_, bj_a, bj_b, bz_, bz_a, band_, band_a, bor_, bor_a, bnot_, bnot_a, anil_, ai_, ai_a, ai_b, aj_, aj_a, aj_b, ar_, ar_a, ar_b, kb2i_, cvi_, cvi_a, cvi_b, cvj_, cvj_a, cvj_b, cvz_, cvz_a, cvz_b, csi_, csi_a, csj_, csj_a, csz_, csz_a, snop_, sseq_, sseq_n, sseq_s, sif_, sif_a, scut_, scut_a, ssi_, ssi_a, ssj_, ssj_a, ssr_, ssr_a, sinc_, sinc_a, sret_, sret_a, sretj_, sretj_a, sretv_, spop_, spop_a, kc_scv_, scv_, scv_a, scv_b, scs_, scs_a, fpi_, fpi_a, fpi_b, fpj_, fpj_a, fpj_b, foi_, foi_a, foi_b, foj_, foj_a, foj_b, aii_, aii_a, aii_b, aii_c, aiz_, aiz_a, aiz_b, aiz_c, aij_, aij_a, aij_b, aij_c, aoi_, aoi_a, aoi_b, aoi_c, aoj_, aoj_a, aoj_b, aoj_c, scopy_, scopy_a, scopy_b, scopy_c, scopy_d, scopy_e, ssw_, ssw_a, sel_n, sel_c, mfi_, mfi_a, mfj_, mfj_a, mfz_, mfz_a, kb_mfv_, mfv_, mfv_a, cut, lset, lset2, isL, Value.category, ent, entn, if_some, if_pair, if_cons, if_int, if_long, if_ref, ite_self, gz_b, ↓icb, ↓icb2, b2i_ne, ge0, ge1, ge2, ge3, ge4, ge5, ge6, ge7, ge8, ge9, ge10, ge11, ge12, ge13, ge14, lit32, nI_add, pk_mul, clt_nI, cle_nI, cgt_nI, cge_nI, ceq_nI, cne_nI, inr_nI, nI_clamp, nI_eq, nI_leI, nI_ltI, k0, at2]
    · have rc := r_isChamber (M := N0) (x := x0) n3 (by omega)
      rw [i0] at rc
      simp -implicitDefEqProofs (disch := omega) [DX8_between, EX8_between, kp_, bsome, bnone, gi_s, gj_s, gr_s, gv_s, ik_, jk_, il_, jl_, rl_, i2_, i2_a, i2_b, j2_, j2_a, j2_b, i2d_, i2d_a, i2d_b, j2d_, j2d_a, j2d_b, i1_, i1_a, j1_, j1_a, i2l_, i2l_a, l2i_, l2i_a, fgi_, fgi_a, fgj_, fgj_a, fgr_, fgr_a, iald_, iald_a, iald_b, zald_, zald_a, zald_b, jald_, jald_a, jald_b, rald_, rald_a, rald_b, alen_, alen_a, sald_, sald_a, ic_, ic_a, jc_, jc_a, bc_, bc_a, bc_b, bj_, bj_a, bj_b, bz_, bz_a, band_, band_a, bor_, bor_a, bnot_, bnot_a, anil_, ai_, ai_a, ai_b, aj_, aj_a, aj_b, ar_, ar_a, ar_b, kb2i_, cvi_, cvi_a, cvi_b, cvj_, cvj_a, cvj_b, cvz_, cvz_a, cvz_b, csi_, csi_a, csj_, csj_a, csz_, csz_a, snop_, sseq_, sseq_n, sseq_s, sif_, sif_a, scut_, scut_a, ssi_, ssi_a, ssj_, ssj_a, ssr_, ssr_a, sinc_, sinc_a, sret_, sret_a, sretj_, sretj_a, sretv_, spop_, spop_a, kc_scv_, scv_, scv_a, scv_b, scs_, scs_a, fpi_, fpi_a, fpi_b, fpj_, fpj_a, fpj_b, foi_, foi_a, foi_b, foj_, foj_a, foj_b, aii_, aii_a, aii_b, aii_c, aiz_, aiz_a, aiz_b, aiz_c, aij_, aij_a, aij_b, aij_c, aoi_, aoi_a, aoi_b, aoi_c, aoj_, aoj_a, aoj_b, aoj_c, scopy_, scopy_a, scopy_b, scopy_c, scopy_d, scopy_e, ssw_, ssw_a, sel_n, sel_c, mfi_, mfi_a, mfj_, mfj_a, mfz_, mfz_a, kb_mfv_, mfv_, mfv_a, cut, lset, lset2, isL, Value.category, ent, entn, if_some, if_pair, if_cons, if_int, if_long, if_ref, ite_self, gz_b, ↓icb, ↓icb2, b2i_ne, ge0, ge1, ge2, ge3, ge4, ge5, ge6, ge7, ge8, ge9, ge10, ge11, ge12, ge13, ge14, lit32, nI_add, pk_mul, clt_nI, cle_nI, cgt_nI, cge_nI, ceq_nI, cne_nI, inr_nI, nI_clamp, nI_eq, nI_leI, nI_ltI, k492, f492_2, f492_3, f492_4, f492_5, f492_7, f492_8, f492_9, f492_10, k493, k494, k495, k496, k497, k498, k499, k500, l493, l494, l495, l496, l497, l498, l499, l500, n1, rc]
  by_cases i1 : inr x1 nc = true
  case neg =>
    have i1 : inr x1 nc = false := by simpa using i1
    rw [i0, i1] at at2
    simp only [Bool.and_false, Bool.false_and] at at2
    refine rej ?_ (fun N0 n1 n3 n4 => ?_)
    · simp -implicitDefEqProofs (disch := omega) [DX7_between, EX7_between, kp_, bsome, bnone, gi_s, gj_s, gr_s, gv_s, ik_, jk_, il_, jl_, rl_, i2_, i2_a, i2_b, j2_, j2_a, j2_b, i2d_, i2d_a, i2d_b, j2d_, j2d_a, j2d_b, i1_, i1_a, j1_, j1_a, i2l_, i2l_a, l2i_, l2i_a, fgi_, fgi_a, fgj_, fgj_a, fgr_, fgr_a, iald_, iald_a, iald_b, zald_, zald_a, zald_b, jald_, jald_a, jald_b, rald_, rald_a, rald_b, alen_, alen_a, sald_, sald_a, ic_, ic_a, jc_, jc_a, bc_, bc_a, bc_b, bj_, bj_a, bj_b, bz_, bz_a, band_, band_a, bor_, bor_a, bnot_, bnot_a, anil_, ai_, ai_a, ai_b, aj_, aj_a, aj_b, ar_, ar_a, ar_b, kb2i_, cvi_, cvi_a, cvi_b, cvj_, cvj_a, cvj_b, cvz_, cvz_a, cvz_b, csi_, csi_a, csj_, csj_a, csz_, csz_a, snop_, sseq_, sseq_n, sseq_s, sif_, sif_a, scut_, scut_a, ssi_, ssi_a, ssj_, ssj_a, ssr_, ssr_a, sinc_, sinc_a, sret_, sret_a, sretj_, sretj_a, sretv_, spop_, spop_a, kc_scv_, scv_, scv_a, scv_b, scs_, scs_a, fpi_, fpi_a, fpi_b, fpj_, fpj_a, fpj_b, foi_, foi_a, foi_b, foj_, foj_a, foj_b, aii_, aii_a, aii_b, aii_c, aiz_, aiz_a, aiz_b, aiz_c, aij_, aij_a, aij_b, aij_c, aoi_, aoi_a, aoi_b, aoi_c, aoj_, aoj_a, aoj_b, aoj_c, scopy_, scopy_a, scopy_b, scopy_c, scopy_d, scopy_e, ssw_, ssw_a, sel_n, sel_c, mfi_, mfi_a, mfj_, mfj_a, mfz_, mfz_a, kb_mfv_, mfv_, mfv_a, cut, lset, lset2, isL, Value.category, ent, entn, if_some, if_pair, if_cons, if_int, if_long, if_ref, ite_self, gz_b, ↓icb, ↓icb2, b2i_ne, ge0, ge1, ge2, ge3, ge4, ge5, ge6, ge7, ge8, ge9, ge10, ge11, ge12, ge13, ge14, lit32, nI_add, pk_mul, clt_nI, cle_nI, cgt_nI, cge_nI, ceq_nI, cne_nI, inr_nI, nI_clamp, nI_eq, nI_leI, nI_ltI, k0, at2]
    · have rc := r_isChamber (M := N0) (x := x0) n3 (by omega)
      have rc1 := r_isChamber (M := N0) (x := x1) n3 (by omega)
      rw [i0] at rc
      rw [i1] at rc1
      simp -implicitDefEqProofs (disch := omega) [DX8_between, EX8_between, kp_, bsome, bnone, gi_s, gj_s, gr_s, gv_s, ik_, jk_, il_, jl_, rl_, i2_, i2_a, i2_b, j2_, j2_a, j2_b, i2d_, i2d_a, i2d_b, j2d_, j2d_a, j2d_b, i1_, i1_a, j1_, j1_a, i2l_, i2l_a, l2i_, l2i_a, fgi_, fgi_a, fgj_, fgj_a, fgr_, fgr_a, iald_, iald_a, iald_b, zald_, zald_a, zald_b, jald_, jald_a, jald_b, rald_, rald_a, rald_b, alen_, alen_a, sald_, sald_a, ic_, ic_a, jc_, jc_a, bc_, bc_a, bc_b, bj_, bj_a, bj_b, bz_, bz_a, band_, band_a, bor_, bor_a, bnot_, bnot_a, anil_, ai_, ai_a, ai_b, aj_, aj_a, aj_b, ar_, ar_a, ar_b, kb2i_, cvi_, cvi_a, cvi_b, cvj_, cvj_a, cvj_b, cvz_, cvz_a, cvz_b, csi_, csi_a, csj_, csj_a, csz_, csz_a, snop_, sseq_, sseq_n, sseq_s, sif_, sif_a, scut_, scut_a, ssi_, ssi_a, ssj_, ssj_a, ssr_, ssr_a, sinc_, sinc_a, sret_, sret_a, sretj_, sretj_a, sretv_, spop_, spop_a, kc_scv_, scv_, scv_a, scv_b, scs_, scs_a, fpi_, fpi_a, fpi_b, fpj_, fpj_a, fpj_b, foi_, foi_a, foi_b, foj_, foj_a, foj_b, aii_, aii_a, aii_b, aii_c, aiz_, aiz_a, aiz_b, aiz_c, aij_, aij_a, aij_b, aij_c, aoi_, aoi_a, aoi_b, aoi_c, aoj_, aoj_a, aoj_b, aoj_c, scopy_, scopy_a, scopy_b, scopy_c, scopy_d, scopy_e, ssw_, ssw_a, sel_n, sel_c, mfi_, mfi_a, mfj_, mfj_a, mfz_, mfz_a, kb_mfv_, mfv_, mfv_a, cut, lset, lset2, isL, Value.category, ent, entn, if_some, if_pair, if_cons, if_int, if_long, if_ref, ite_self, gz_b, ↓icb, ↓icb2, b2i_ne, ge0, ge1, ge2, ge3, ge4, ge5, ge6, ge7, ge8, ge9, ge10, ge11, ge12, ge13, ge14, lit32, nI_add, pk_mul, clt_nI, cle_nI, cgt_nI, cge_nI, ceq_nI, cne_nI, inr_nI, nI_clamp, nI_eq, nI_leI, nI_ltI, k492, f492_2, f492_3, f492_4, f492_5, f492_7, f492_8, f492_9, f492_10, k493, k494, k495, k496, k497, k498, k499, k500, l493, l494, l495, l496, l497, l498, l499, l500, n1, rc, rc1]
  obtain ⟨f, hf, rfl⟩ := inr_ex i0
  obtain ⟨t, ht, rfl⟩ := inr_ex i1
  by_cases eft : f = t
  · subst eft
    have cn : cne (nI f) (nI f) = false := by unfold cne; exact decide_eq_false (fun w => w rfl)
    rw [i0, cn] at at2
    simp only [Bool.and_false] at at2
    refine rej ?_ (fun N0 n1 n3 n4 => ?_)
    · simp -implicitDefEqProofs (disch := omega) [DX7_between, EX7_between, kp_, bsome, bnone, gi_s, gj_s, gr_s, gv_s, ik_, jk_, il_, jl_, rl_, i2_, i2_a, i2_b, j2_, j2_a, j2_b, i2d_, i2d_a, i2d_b, j2d_, j2d_a, j2d_b, i1_, i1_a, j1_, j1_a, i2l_, i2l_a, l2i_, l2i_a, fgi_, fgi_a, fgj_, fgj_a, fgr_, fgr_a, iald_, iald_a, iald_b, zald_, zald_a, zald_b, jald_, jald_a, jald_b, rald_, rald_a, rald_b, alen_, alen_a, sald_, sald_a, ic_, ic_a, jc_, jc_a, bc_, bc_a, bc_b, bj_, bj_a, bj_b, bz_, bz_a, band_, band_a, bor_, bor_a, bnot_, bnot_a, anil_, ai_, ai_a, ai_b, aj_, aj_a, aj_b, ar_, ar_a, ar_b, kb2i_, cvi_, cvi_a, cvi_b, cvj_, cvj_a, cvj_b, cvz_, cvz_a, cvz_b, csi_, csi_a, csj_, csj_a, csz_, csz_a, snop_, sseq_, sseq_n, sseq_s, sif_, sif_a, scut_, scut_a, ssi_, ssi_a, ssj_, ssj_a, ssr_, ssr_a, sinc_, sinc_a, sret_, sret_a, sretj_, sretj_a, sretv_, spop_, spop_a, kc_scv_, scv_, scv_a, scv_b, scs_, scs_a, fpi_, fpi_a, fpi_b, fpj_, fpj_a, fpj_b, foi_, foi_a, foi_b, foj_, foj_a, foj_b, aii_, aii_a, aii_b, aii_c, aiz_, aiz_a, aiz_b, aiz_c, aij_, aij_a, aij_b, aij_c, aoi_, aoi_a, aoi_b, aoi_c, aoj_, aoj_a, aoj_b, aoj_c, scopy_, scopy_a, scopy_b, scopy_c, scopy_d, scopy_e, ssw_, ssw_a, sel_n, sel_c, mfi_, mfi_a, mfj_, mfj_a, mfz_, mfz_a, kb_mfv_, mfv_, mfv_a, cut, lset, lset2, isL, Value.category, ent, entn, if_some, if_pair, if_cons, if_int, if_long, if_ref, ite_self, gz_b, ↓icb, ↓icb2, b2i_ne, ge0, ge1, ge2, ge3, ge4, ge5, ge6, ge7, ge8, ge9, ge10, ge11, ge12, ge13, ge14, lit32, nI_add, pk_mul, clt_nI, cle_nI, cgt_nI, cge_nI, ceq_nI, cne_nI, inr_nI, nI_clamp, nI_eq, nI_leI, nI_ltI, k0, at2]
    · have rc := r_isChamber (M := N0) (x := nI f) n3 (by omega)
      rw [i0] at rc
      simp -implicitDefEqProofs (disch := omega) [DX8_between, EX8_between, kp_, bsome, bnone, gi_s, gj_s, gr_s, gv_s, ik_, jk_, il_, jl_, rl_, i2_, i2_a, i2_b, j2_, j2_a, j2_b, i2d_, i2d_a, i2d_b, j2d_, j2d_a, j2d_b, i1_, i1_a, j1_, j1_a, i2l_, i2l_a, l2i_, l2i_a, fgi_, fgi_a, fgj_, fgj_a, fgr_, fgr_a, iald_, iald_a, iald_b, zald_, zald_a, zald_b, jald_, jald_a, jald_b, rald_, rald_a, rald_b, alen_, alen_a, sald_, sald_a, ic_, ic_a, jc_, jc_a, bc_, bc_a, bc_b, bj_, bj_a, bj_b, bz_, bz_a, band_, band_a, bor_, bor_a, bnot_, bnot_a, anil_, ai_, ai_a, ai_b, aj_, aj_a, aj_b, ar_, ar_a, ar_b, kb2i_, cvi_, cvi_a, cvi_b, cvj_, cvj_a, cvj_b, cvz_, cvz_a, cvz_b, csi_, csi_a, csj_, csj_a, csz_, csz_a, snop_, sseq_, sseq_n, sseq_s, sif_, sif_a, scut_, scut_a, ssi_, ssi_a, ssj_, ssj_a, ssr_, ssr_a, sinc_, sinc_a, sret_, sret_a, sretj_, sretj_a, sretv_, spop_, spop_a, kc_scv_, scv_, scv_a, scv_b, scs_, scs_a, fpi_, fpi_a, fpi_b, fpj_, fpj_a, fpj_b, foi_, foi_a, foi_b, foj_, foj_a, foj_b, aii_, aii_a, aii_b, aii_c, aiz_, aiz_a, aiz_b, aiz_c, aij_, aij_a, aij_b, aij_c, aoi_, aoi_a, aoi_b, aoi_c, aoj_, aoj_a, aoj_b, aoj_c, scopy_, scopy_a, scopy_b, scopy_c, scopy_d, scopy_e, ssw_, ssw_a, sel_n, sel_c, mfi_, mfi_a, mfj_, mfj_a, mfz_, mfz_a, kb_mfv_, mfv_, mfv_a, cut, lset, lset2, isL, Value.category, ent, entn, if_some, if_pair, if_cons, if_int, if_long, if_ref, ite_self, gz_b, ↓icb, ↓icb2, b2i_ne, ge0, ge1, ge2, ge3, ge4, ge5, ge6, ge7, ge8, ge9, ge10, ge11, ge12, ge13, ge14, lit32, nI_add, pk_mul, clt_nI, cle_nI, cgt_nI, cge_nI, ceq_nI, cne_nI, inr_nI, nI_clamp, nI_eq, nI_leI, nI_ltI, k492, f492_2, f492_3, f492_4, f492_5, f492_7, f492_8, f492_9, f492_10, k493, k494, k495, k496, k497, k498, k499, k500, l493, l494, l495, l496, l497, l498, l499, l500, n1, rc, ceq_r]
  have cn : cne (nI f) (nI t) = true := by unfold cne; exact decide_eq_true (fun w => eft ((nI_eq (by omega) (by omega)).mp w))
  have ce : ceq (nI f) (nI t) = false := by unfold ceq; exact decide_eq_false (fun w => eft ((nI_eq (by omega) (by omega)).mp w))
  rw [i0, i1, cn] at at2
  simp only [Bool.and_true] at at2
  by_cases g1 : bw x2 0 1 = true
  case neg =>
    have g1 : bw x2 0 1 = false := by simpa using g1
    refine rej ?_ (fun N0 n1 n3 n4 => ?_)
    · simp -implicitDefEqProofs (disch := omega) [DX7_between, EX7_between, kp_, bsome, bnone, gi_s, gj_s, gr_s, gv_s, ik_, jk_, il_, jl_, rl_, i2_, i2_a, i2_b, j2_, j2_a, j2_b, i2d_, i2d_a, i2d_b, j2d_, j2d_a, j2d_b, i1_, i1_a, j1_, j1_a, i2l_, i2l_a, l2i_, l2i_a, fgi_, fgi_a, fgj_, fgj_a, fgr_, fgr_a, iald_, iald_a, iald_b, zald_, zald_a, zald_b, jald_, jald_a, jald_b, rald_, rald_a, rald_b, alen_, alen_a, sald_, sald_a, ic_, ic_a, jc_, jc_a, bc_, bc_a, bc_b, bj_, bj_a, bj_b, bz_, bz_a, band_, band_a, bor_, bor_a, bnot_, bnot_a, anil_, ai_, ai_a, ai_b, aj_, aj_a, aj_b, ar_, ar_a, ar_b, kb2i_, cvi_, cvi_a, cvi_b, cvj_, cvj_a, cvj_b, cvz_, cvz_a, cvz_b, csi_, csi_a, csj_, csj_a, csz_, csz_a, snop_, sseq_, sseq_n, sseq_s, sif_, sif_a, scut_, scut_a, ssi_, ssi_a, ssj_, ssj_a, ssr_, ssr_a, sinc_, sinc_a, sret_, sret_a, sretj_, sretj_a, sretv_, spop_, spop_a, kc_scv_, scv_, scv_a, scv_b, scs_, scs_a, fpi_, fpi_a, fpi_b, fpj_, fpj_a, fpj_b, foi_, foi_a, foi_b, foj_, foj_a, foj_b, aii_, aii_a, aii_b, aii_c, aiz_, aiz_a, aiz_b, aiz_c, aij_, aij_a, aij_b, aij_c, aoi_, aoi_a, aoi_b, aoi_c, aoj_, aoj_a, aoj_b, aoj_c, scopy_, scopy_a, scopy_b, scopy_c, scopy_d, scopy_e, ssw_, ssw_a, sel_n, sel_c, mfi_, mfi_a, mfj_, mfj_a, mfz_, mfz_a, kb_mfv_, mfv_, mfv_a, cut, lset, lset2, isL, Value.category, ent, entn, if_some, if_pair, if_cons, if_int, if_long, if_ref, ite_self, gz_b, ↓icb, ↓icb2, b2i_ne, ge0, ge1, ge2, ge3, ge4, ge5, ge6, ge7, ge8, ge9, ge10, ge11, ge12, ge13, ge14, lit32, nI_add, pk_mul, clt_nI, cle_nI, cgt_nI, cge_nI, ceq_nI, cne_nI, inr_nI, nI_clamp, nI_eq, nI_leI, nI_ltI, k0, at2, c_within, nI_toInt, g1]
    · have rc := r_isChamber (M := N0) (x := nI f) n3 (by omega)
      have rc1 := r_isChamber (M := N0) (x := nI t) n3 (by omega)
      rw [i0] at rc
      rw [i1] at rc1
      simp -implicitDefEqProofs (disch := omega) [DX8_between, EX8_between, kp_, bsome, bnone, gi_s, gj_s, gr_s, gv_s, ik_, jk_, il_, jl_, rl_, i2_, i2_a, i2_b, j2_, j2_a, j2_b, i2d_, i2d_a, i2d_b, j2d_, j2d_a, j2d_b, i1_, i1_a, j1_, j1_a, i2l_, i2l_a, l2i_, l2i_a, fgi_, fgi_a, fgj_, fgj_a, fgr_, fgr_a, iald_, iald_a, iald_b, zald_, zald_a, zald_b, jald_, jald_a, jald_b, rald_, rald_a, rald_b, alen_, alen_a, sald_, sald_a, ic_, ic_a, jc_, jc_a, bc_, bc_a, bc_b, bj_, bj_a, bj_b, bz_, bz_a, band_, band_a, bor_, bor_a, bnot_, bnot_a, anil_, ai_, ai_a, ai_b, aj_, aj_a, aj_b, ar_, ar_a, ar_b, kb2i_, cvi_, cvi_a, cvi_b, cvj_, cvj_a, cvj_b, cvz_, cvz_a, cvz_b, csi_, csi_a, csj_, csj_a, csz_, csz_a, snop_, sseq_, sseq_n, sseq_s, sif_, sif_a, scut_, scut_a, ssi_, ssi_a, ssj_, ssj_a, ssr_, ssr_a, sinc_, sinc_a, sret_, sret_a, sretj_, sretj_a, sretv_, spop_, spop_a, kc_scv_, scv_, scv_a, scv_b, scs_, scs_a, fpi_, fpi_a, fpi_b, fpj_, fpj_a, fpj_b, foi_, foi_a, foi_b, foj_, foj_a, foj_b, aii_, aii_a, aii_b, aii_c, aiz_, aiz_a, aiz_b, aiz_c, aij_, aij_a, aij_b, aij_c, aoi_, aoi_a, aoi_b, aoi_c, aoj_, aoj_a, aoj_b, aoj_c, scopy_, scopy_a, scopy_b, scopy_c, scopy_d, scopy_e, ssw_, ssw_a, sel_n, sel_c, mfi_, mfi_a, mfj_, mfj_a, mfz_, mfz_a, kb_mfv_, mfv_, mfv_a, cut, lset, lset2, isL, Value.category, ent, entn, if_some, if_pair, if_cons, if_int, if_long, if_ref, ite_self, gz_b, ↓icb, ↓icb2, b2i_ne, ge0, ge1, ge2, ge3, ge4, ge5, ge6, ge7, ge8, ge9, ge10, ge11, ge12, ge13, ge14, lit32, nI_add, pk_mul, clt_nI, cle_nI, cgt_nI, cge_nI, ceq_nI, cne_nI, inr_nI, nI_clamp, nI_eq, nI_leI, nI_ltI, k492, f492_2, f492_3, f492_4, f492_5, f492_7, f492_8, f492_9, f492_10, k493, k494, k495, k496, k497, k498, k499, k500, l493, l494, l495, l496, l497, l498, l499, l500, n1, rc, rc1, ce, r_in, l_in2, g1]
  obtain ⟨w, hw, rfl⟩ := bw_ex (n := 1) g1
  have e5 := ends_5 hv
  have ha := c_hang hL hv hf ht
  have lo : ∀ c, c < 5 → (gLo (nX X nt c) = gLo (nX X nt f) ↔ (nX X nt f).testBit c = true) := fun c hc => gLo_iff e5 (by omega) hc
  have f5 : f < 5 := by omega
  have t5 : t < 5 := by omega
  by_cases hh : (nX X nt f).testBit t = true
  case neg =>
    have hh : (nX X nt f).testBit t = false := by simpa using hh
    rw [hh] at ha
    refine rej ?_ (fun N0 n1 n3 n4 => ?_)
    · simp -implicitDefEqProofs (disch := omega) [DX7_between, EX7_between, kp_, bsome, bnone, gi_s, gj_s, gr_s, gv_s, ik_, jk_, il_, jl_, rl_, i2_, i2_a, i2_b, j2_, j2_a, j2_b, i2d_, i2d_a, i2d_b, j2d_, j2d_a, j2d_b, i1_, i1_a, j1_, j1_a, i2l_, i2l_a, l2i_, l2i_a, fgi_, fgi_a, fgj_, fgj_a, fgr_, fgr_a, iald_, iald_a, iald_b, zald_, zald_a, zald_b, jald_, jald_a, jald_b, rald_, rald_a, rald_b, alen_, alen_a, sald_, sald_a, ic_, ic_a, jc_, jc_a, bc_, bc_a, bc_b, bj_, bj_a, bj_b, bz_, bz_a, band_, band_a, bor_, bor_a, bnot_, bnot_a, anil_, ai_, ai_a, ai_b, aj_, aj_a, aj_b, ar_, ar_a, ar_b, kb2i_, cvi_, cvi_a, cvi_b, cvj_, cvj_a, cvj_b, cvz_, cvz_a, cvz_b, csi_, csi_a, csj_, csj_a, csz_, csz_a, snop_, sseq_, sseq_n, sseq_s, sif_, sif_a, scut_, scut_a, ssi_, ssi_a, ssj_, ssj_a, ssr_, ssr_a, sinc_, sinc_a, sret_, sret_a, sretj_, sretj_a, sretv_, spop_, spop_a, kc_scv_, scv_, scv_a, scv_b, scs_, scs_a, fpi_, fpi_a, fpi_b, fpj_, fpj_a, fpj_b, foi_, foi_a, foi_b, foj_, foj_a, foj_b, aii_, aii_a, aii_b, aii_c, aiz_, aiz_a, aiz_b, aiz_c, aij_, aij_a, aij_b, aij_c, aoi_, aoi_a, aoi_b, aoi_c, aoj_, aoj_a, aoj_b, aoj_c, scopy_, scopy_a, scopy_b, scopy_c, scopy_d, scopy_e, ssw_, ssw_a, sel_n, sel_c, mfi_, mfi_a, mfj_, mfj_a, mfz_, mfz_a, kb_mfv_, mfv_, mfv_a, cut, lset, lset2, isL, Value.category, ent, entn, if_some, if_pair, if_cons, if_int, if_long, if_ref, ite_self, gz_b, ↓icb, ↓icb2, b2i_ne, ge0, ge1, ge2, ge3, ge4, ge5, ge6, ge7, ge8, ge9, ge10, ge11, ge12, ge13, ge14, lit32, nI_add, pk_mul, clt_nI, cle_nI, cgt_nI, cge_nI, ceq_nI, cne_nI, inr_nI, nI_clamp, nI_eq, nI_leI, nI_ltI, k0, f0_0, k1_, at2, c_within, nI_toInt, g1, ha]
    · have rc := r_isChamber (M := N0) (x := nI f) n3 (by omega)
      have rc1 := r_isChamber (M := N0) (x := nI t) n3 (by omega)
      rw [i0] at rc
      rw [i1] at rc1
      have m1 := n4 f f5
      have m2 := n4 t t5
      have gl : ∀ c, gLo (nX X nt c) < 5 := fun c => gLo_lt
      have cd : cne (nI (gLo (nX X nt f))) (nI (gLo (nX X nt t))) = true := by
        unfold cne
        refine decide_eq_true (fun w => ?_)
        have w := (nI_eq (by have := gl f; omega) (by have := gl t; omega)).mp w
        have := (lo t t5).mp w.symm
        rw [hh] at this
        cases this
      simp -implicitDefEqProofs (disch := omega) [DX8_between, EX8_between, kp_, bsome, bnone, gi_s, gj_s, gr_s, gv_s, ik_, jk_, il_, jl_, rl_, i2_, i2_a, i2_b, j2_, j2_a, j2_b, i2d_, i2d_a, i2d_b, j2d_, j2d_a, j2d_b, i1_, i1_a, j1_, j1_a, i2l_, i2l_a, l2i_, l2i_a, fgi_, fgi_a, fgj_, fgj_a, fgr_, fgr_a, iald_, iald_a, iald_b, zald_, zald_a, zald_b, jald_, jald_a, jald_b, rald_, rald_a, rald_b, alen_, alen_a, sald_, sald_a, ic_, ic_a, jc_, jc_a, bc_, bc_a, bc_b, bj_, bj_a, bj_b, bz_, bz_a, band_, band_a, bor_, bor_a, bnot_, bnot_a, anil_, ai_, ai_a, ai_b, aj_, aj_a, aj_b, ar_, ar_a, ar_b, kb2i_, cvi_, cvi_a, cvi_b, cvj_, cvj_a, cvj_b, cvz_, cvz_a, cvz_b, csi_, csi_a, csj_, csj_a, csz_, csz_a, snop_, sseq_, sseq_n, sseq_s, sif_, sif_a, scut_, scut_a, ssi_, ssi_a, ssj_, ssj_a, ssr_, ssr_a, sinc_, sinc_a, sret_, sret_a, sretj_, sretj_a, sretv_, spop_, spop_a, kc_scv_, scv_, scv_a, scv_b, scs_, scs_a, fpi_, fpi_a, fpi_b, fpj_, fpj_a, fpj_b, foi_, foi_a, foi_b, foj_, foj_a, foj_b, aii_, aii_a, aii_b, aii_c, aiz_, aiz_a, aiz_b, aiz_c, aij_, aij_a, aij_b, aij_c, aoi_, aoi_a, aoi_b, aoi_c, aoj_, aoj_a, aoj_b, aoj_c, scopy_, scopy_a, scopy_b, scopy_c, scopy_d, scopy_e, ssw_, ssw_a, sel_n, sel_c, mfi_, mfi_a, mfj_, mfj_a, mfz_, mfz_a, kb_mfv_, mfv_, mfv_a, cut, lset, lset2, isL, Value.category, ent, entn, if_some, if_pair, if_cons, if_int, if_long, if_ref, ite_self, gz_b, ↓icb, ↓icb2, b2i_ne, ge0, ge1, ge2, ge3, ge4, ge5, ge6, ge7, ge8, ge9, ge10, ge11, ge12, ge13, ge14, lit32, nI_add, pk_mul, clt_nI, cle_nI, cgt_nI, cge_nI, ceq_nI, cne_nI, inr_nI, nI_clamp, nI_eq, nI_leI, nI_ltI, k492, f492_2, f492_3, f492_4, f492_5, f492_7, f492_8, f492_9, f492_10, k493, k494, k495, k496, k497, k498, k499, k500, l493, l494, l495, l496, l497, l498, l499, l500, f492_11, f492_12, f492_13, f492_15, f492_16, f492_17, f492_19, f492_20, f492_26, f492_27, f492_28, f492_29, f492_30, f492_32, f492_33, f492_34, k501, k502, k503, k504, k505, k506, k507, k508, k509, k510, k511, k512, k513, k514, k515, k516, l501, l502, l503, l504, l505, l506, l507, l508, l509, l510, l511, l512, l513, l514, l515, l516, n1, rc, rc1, ce, r_in, l_in2, g1, m1, m2, cd]
  rw [hh] at ha
  obtain ⟨Y, ac⟩ := c_across hL hv hf ht hh
  have acta : ∀ c, actB (nX X nt f) t c = true → c < nc ∧ (nX X nt f).testBit c = true ∧ c ≠ t := fun c hc => by
    unfold actB at hc
    simp only [Bool.and_eq_true, decide_eq_true_eq] at hc
    exact ⟨nX_in hv hf hc.1, hc.1, hc.2⟩
  have dA := b_det (act := actB (nX X nt f) t) (t := t) hv hf acta hh
  have dB := b_det (act := fun q => actB (nX X nt f) t q && decide (q ≠ f)) (t := t) hv hf (fun c hc => by
    simp only [Bool.and_eq_true] at hc
    exact acta c hc.1) hh
  have eB : detI (bM (fun q => actB (nX X nt f) t q && decide (q ≠ f)) X nt) = cofI (bM (actB (nX X nt f) t) X nt) f f := by
    rw [← unM_det (B := bM (actB (nX X nt f) t) X nt) f5]
    exact detI_congr (fun i j _ _ => unM_bM.symm)
  rw [eB] at dB
  obtain ⟨B, eBB⟩ : ∃ B, B = bM (actB (nX X nt f) t) X nt := ⟨_, rfl⟩
  rw [← eBB] at dA dB ac
  obtain ⟨R, eR⟩ : ∃ R : Me, R = wj (wj (sJ M 123 25 Y) 122 3 (jI (detI B))) 122 4 (jI (cofI B f f)) := ⟨_, rfl⟩
  rw [← eR] at ac
  have R1 : R.1 = M.1 := by rw [eR]; rfl
  have R2 : ∀ a, a < 122 → R.2 a = M.2 a := fun a ha => by rw [eR, wj_ne (by omega), wj_ne (by omega), sJ_ne (by omega)]
  have R3 : R.2 122 3 = jI (detI B) := by rw [eR]; simp [wj]
  have R4 : R.2 122 4 = jI (cofI B f f) := by rw [eR]; simp [wj]
  obtain ⟨b, eb⟩ : ∃ b : Nat, b = (cofI B f f).toNat := ⟨_, rfl⟩
  have jb : jI (cofI B f f) = jN b := by unfold jN; rw [eb, show (((cofI B f f).toNat : Nat) : Int) = cofI B f f by omega]
  have b0 : 0 < b := by omega
  have b9 : b < 562949953421312 := by omega
  rw [jb] at R4
  have tm1 := c_term (M := R) (a := detI B) (b := b) (w := w) (by omega) (by omega) b0 b9 hw
  obtain ⟨N0, n1, n2, n3, n4, n5, n6, n7⟩ := lay R R1
  have rc := r_isChamber (M := N0) (x := nI f) n3 (by omega)
  have rc1 := r_isChamber (M := N0) (x := nI t) n3 (by omega)
  rw [i0] at rc
  rw [i1] at rc1
  have m1 := n4 f f5
  have m2 := n4 t t5
  have cd : cne (nI (gLo (nX X nt f))) (nI (gLo (nX X nt t))) = false := by
    unfold cne
    refine decide_eq_false (fun w => w ?_)
    rw [(lo t t5).mpr hh]
  have lt := r_layTubes n2 hv
  obtain ⟨N1, eN1⟩ : ∃ N1 : Me, N1 = sJ N0 501 25 (fun q => jI (lpT X nt (q / 5) (q % 5))) := ⟨_, rfl⟩
  rw [← eN1] at lt
  have N11 : N1.1 = N0.1 := by rw [eN1]; rfl
  obtain ⟨P, un, u1, u2, u3⟩ := r_units (X := X) (nt := nt) (f := f) (t := t) (N0 := N1) (x := nI w) (fun q hq => by rw [eN1, sJ_at hq]) f5 (fun c hc => by
    rw [N11, n4 c hc, m1]
    unfold cne
    cases e : (nX X nt f).testBit c with
    | true => exact decide_eq_false (fun v => v (by rw [(lo c hc).mpr e]))
    | false => exact decide_eq_true (fun v => by
        have gl : ∀ c, gLo (nX X nt c) < 5 := fun c => gLo_lt
        have v := (nI_eq (by have := gl c; omega) (by have := gl f; omega)).mp v
        rw [(lo c hc).mp v] at e
        cases e)) t5
  rw [← eBB] at u3
  obtain ⟨W, lc⟩ := r_layCofactors (M := P) (B := B) (fun i j hi hj => u3 i j hi hj)
  obtain ⟨P2, eP2⟩ : ∃ P2 : Me, P2 = wj (sJ (sJ P 503 16 W) 502 25 (fun q => jI (cofI B (q / 5) (q % 5)))) 492 14 (jI (detI B)) := ⟨_, rfl⟩
  rw [← eP2] at lc
  have q14 : P2.2 492 14 = jI (detI B) := by rw [eP2]; exact wj_at
  have q502 : P2.2 501 = P.2 501 := by rw [eP2, wj_ne (by decide), sJ_ne (by decide), sJ_ne (by decide)]
  have un2 := r_unit2 (P := P2) f5
  obtain ⟨P3, eP3⟩ : ∃ P3 : Me, P3 = sJ P2 501 25 (fun q => if q / 5 = f ∨ q % 5 = f then (if q / 5 = q % 5 then jI 1 else jI 0) else P2.2 501 q) := ⟨_, rfl⟩
  rw [← eP3] at un2
  obtain ⟨W2, lc2⟩ := r_layCofactors (M := P3) (B := unM B f) (fun i j hi hj => by
    rw [eP3, sJ_at (by omega), show (5 * i + j) / 5 = i by omega, show (5 * i + j) % 5 = j by omega, q502, u3 i j hi hj]
    unfold unM
    by_cases z : i = f ∨ j = f
    · rw [if_pos z, if_pos z]; split <;> rfl
    · rw [if_neg z, if_neg z])
  rw [unM_det f5, jb] at lc2
  obtain ⟨P4, eP4⟩ : ∃ P4 : Me, P4 = wj (sJ (sJ P3 503 16 W2) 502 25 (fun q => jI (cofI (unM B f) (q / 5) (q % 5)))) 492 14 (jN b) := ⟨_, rfl⟩
  rw [← eP4] at lc2
  have s14 : P4.2 492 14 = jN b := by rw [eP4]; exact wj_at
  have lw := r_lowest (M := P4) (a := detI B) (b := b) (w := w) (by omega) (by omega) b0 b9 hw
  have p41 : P4.1 = N0.1 := by
    rw [eP4]
    show P3.1 = _
    rw [eP3]
    show P2.1 = _
    rw [eP2]
    show P.1 = _
    rw [u1, N11]
  have p42 : ∀ a, a < 122 → P4.2 a = M.2 a := fun a ha => by
    rw [eP4, wj_ne (by omega), sJ_ne (by omega), sJ_ne (by omega), eP3, sJ_ne (by omega), eP2, wj_ne (by omega), sJ_ne (by omega), sJ_ne (by omega), u2 a (by omega), eN1, sJ_ne (by omega), n7]
    exact R2 a ha
  have iv : Inv P4 := inv_8 (Q := M) h hI (fun a ha => by rw [p41]; exact n5 a (by omega) (by omega)) (fun j h1 _ => by rw [p41]; exact n6 j h1) p42
  refine ⟨trm (detI B) b w, R, P4, ?_, ?_, iv⟩
  · simp -implicitDefEqProofs (disch := omega) [DX7_between, EX7_between, kp_, bsome, bnone, gi_s, gj_s, gr_s, gv_s, ik_, jk_, il_, jl_, rl_, i2_, i2_a, i2_b, j2_, j2_a, j2_b, i2d_, i2d_a, i2d_b, j2d_, j2d_a, j2d_b, i1_, i1_a, j1_, j1_a, i2l_, i2l_a, l2i_, l2i_a, fgi_, fgi_a, fgj_, fgj_a, fgr_, fgr_a, iald_, iald_a, iald_b, zald_, zald_a, zald_b, jald_, jald_a, jald_b, rald_, rald_a, rald_b, alen_, alen_a, sald_, sald_a, ic_, ic_a, jc_, jc_a, bc_, bc_a, bc_b, bj_, bj_a, bj_b, bz_, bz_a, band_, band_a, bor_, bor_a, bnot_, bnot_a, anil_, ai_, ai_a, ai_b, aj_, aj_a, aj_b, ar_, ar_a, ar_b, kb2i_, cvi_, cvi_a, cvi_b, cvj_, cvj_a, cvj_b, cvz_, cvz_a, cvz_b, csi_, csi_a, csj_, csj_a, csz_, csz_a, snop_, sseq_, sseq_n, sseq_s, sif_, sif_a, scut_, scut_a, ssi_, ssi_a, ssj_, ssj_a, ssr_, ssr_a, sinc_, sinc_a, sret_, sret_a, sretj_, sretj_a, sretv_, spop_, spop_a, kc_scv_, scv_, scv_a, scv_b, scs_, scs_a, fpi_, fpi_a, fpi_b, fpj_, fpj_a, fpj_b, foi_, foi_a, foi_b, foj_, foj_a, foj_b, aii_, aii_a, aii_b, aii_c, aiz_, aiz_a, aiz_b, aiz_c, aij_, aij_a, aij_b, aij_c, aoi_, aoi_a, aoi_b, aoi_c, aoj_, aoj_a, aoj_b, aoj_c, scopy_, scopy_a, scopy_b, scopy_c, scopy_d, scopy_e, ssw_, ssw_a, sel_n, sel_c, mfi_, mfi_a, mfj_, mfj_a, mfz_, mfz_a, kb_mfv_, mfv_, mfv_a, cut, lset, lset2, isL, Value.category, ent, entn, if_some, if_pair, if_cons, if_int, if_long, if_ref, ite_self, gz_b, ↓icb, ↓icb2, b2i_ne, ge0, ge1, ge2, ge3, ge4, ge5, ge6, ge7, ge8, ge9, ge10, ge11, ge12, ge13, ge14, lit32, nI_add, pk_mul, clt_nI, cle_nI, cgt_nI, cge_nI, ceq_nI, cne_nI, inr_nI, nI_clamp, nI_eq, nI_leI, nI_ltI, k0, f0_0, f0_5, k1_, k122, at2, c_within, nI_toInt, g1, ha, ac, R3, R4, tm1]
  · simp -implicitDefEqProofs (disch := omega) [DX8_between, EX8_between, kp_, bsome, bnone, gi_s, gj_s, gr_s, gv_s, ik_, jk_, il_, jl_, rl_, i2_, i2_a, i2_b, j2_, j2_a, j2_b, i2d_, i2d_a, i2d_b, j2d_, j2d_a, j2d_b, i1_, i1_a, j1_, j1_a, i2l_, i2l_a, l2i_, l2i_a, fgi_, fgi_a, fgj_, fgj_a, fgr_, fgr_a, iald_, iald_a, iald_b, zald_, zald_a, zald_b, jald_, jald_a, jald_b, rald_, rald_a, rald_b, alen_, alen_a, sald_, sald_a, ic_, ic_a, jc_, jc_a, bc_, bc_a, bc_b, bj_, bj_a, bj_b, bz_, bz_a, band_, band_a, bor_, bor_a, bnot_, bnot_a, anil_, ai_, ai_a, ai_b, aj_, aj_a, aj_b, ar_, ar_a, ar_b, kb2i_, cvi_, cvi_a, cvi_b, cvj_, cvj_a, cvj_b, cvz_, cvz_a, cvz_b, csi_, csi_a, csj_, csj_a, csz_, csz_a, snop_, sseq_, sseq_n, sseq_s, sif_, sif_a, scut_, scut_a, ssi_, ssi_a, ssj_, ssj_a, ssr_, ssr_a, sinc_, sinc_a, sret_, sret_a, sretj_, sretj_a, sretv_, spop_, spop_a, kc_scv_, scv_, scv_a, scv_b, scs_, scs_a, fpi_, fpi_a, fpi_b, fpj_, fpj_a, fpj_b, foi_, foi_a, foi_b, foj_, foj_a, foj_b, aii_, aii_a, aii_b, aii_c, aiz_, aiz_a, aiz_b, aiz_c, aij_, aij_a, aij_b, aij_c, aoi_, aoi_a, aoi_b, aoi_c, aoj_, aoj_a, aoj_b, aoj_c, scopy_, scopy_a, scopy_b, scopy_c, scopy_d, scopy_e, ssw_, ssw_a, sel_n, sel_c, mfi_, mfi_a, mfj_, mfj_a, mfz_, mfz_a, kb_mfv_, mfv_, mfv_a, cut, lset, lset2, isL, Value.category, ent, entn, if_some, if_pair, if_cons, if_int, if_long, if_ref, ite_self, gz_b, ↓icb, ↓icb2, b2i_ne, ge0, ge1, ge2, ge3, ge4, ge5, ge6, ge7, ge8, ge9, ge10, ge11, ge12, ge13, ge14, lit32, nI_add, pk_mul, clt_nI, cle_nI, cgt_nI, cge_nI, ceq_nI, cne_nI, inr_nI, nI_clamp, nI_eq, nI_leI, nI_ltI, k492, f492_2, f492_3, f492_4, f492_5, f492_7, f492_8, f492_9, f492_10, k493, k494, k495, k496, k497, k498, k499, k500, l493, l494, l495, l496, l497, l498, l499, l500, f492_11, f492_12, f492_13, f492_15, f492_16, f492_17, f492_19, f492_20, f492_26, f492_27, f492_28, f492_29, f492_30, f492_32, f492_33, f492_34, k501, k502, k503, k504, k505, k506, k507, k508, k509, k510, k511, k512, k513, k514, k515, k516, l501, l502, l503, l504, l505, l506, l507, l508, l509, l510, l511, l512, l513, l514, l515, l516, n1, rc, rc1, ce, r_in, l_in2, g1, m1, m2, cd, lt, un, lc, q14, un2, lc2, s14, lw]
end
