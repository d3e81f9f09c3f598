/-! ===== image, back, undo ===== -/
theorem nar1 : vp_nar .boolean (nI 1) = nI 1 := by decide
set_option maxRecDepth 20000 in
theorem lm1 {a b : Nat} (h : a < 2 ^ 31) : (nI a = -(nI 1)) = False := by
  simp only [eq_iff_iff, iff_false]
  intro e
  have := congrArg Int32.toInt e
  rw [nI_toInt h, show (-(nI 1)).toInt = -1 by decide] at this
  omega
set_option maxRecDepth 20000 in
theorem ac_image {M : Me} {nc nt np nw tm o u : Nat} (h : Core M nc nt np nw tm o u) (x0 : Int32) : Act DX7_image DX8_image [.int x0] M := by
  have hb := h.1.2.1
  by_cases g0 : bw x0 0 1 = true
  · obtain ⟨k, hk, rfl⟩ := bw_ex (n := 1) g0
    have hk2 : k < 2 := by omega
    obtain ⟨Mz, e1, e2, e3, e4, e5⟩ := c_copyLine (M := wi M 0 10 (nI 0)) (mImg k hk2) m1_ (by omega)
    obtain ⟨M1, eM1⟩ : ∃ M1 : Me, M1 = wi Mz 490 k (nI 1) := ⟨_, rfl⟩
    have f1 : ∀ a, ¬ (a = 0 ∨ (430 + 30 * k ≤ a ∧ a < 460 + 30 * k) ∨ a = 490) → M1.1 a = M.1 a := fun a z => by rw [eM1, wi_ne (by omega), e2 a (by omega), wi_ne (by omega)]
    have t1 : M1.1 1 4 = nI tm := by rw [f1 1 (by omega)]; exact h.2.1.2.1.2.2.2.2.1
    have c : DX7_image [.ref 0, .int (nI k)] M = some (nI tm, M1) := by
      have t2 : (wi Mz 490 k (nI 1)).1 1 4 = nI tm := by rw [← eM1]; exact t1
      rw [eM1]
      simp -implicitDefEqProofs (disch := omega) [DX7_image, EX7_image, kp_, bsome, bnone, gi_s, gj_s, gr_s, gv_s, ik_, jk_, il_, jl_, rl_, i2_, i2_a, i2_b, j2_, j2_a, j2_b, i2d_, i2d_a, i2d_b, j2d_, j2d_a, j2d_b, i1_, i1_a, j1_, j1_a, i2l_, i2l_a, l2i_, l2i_a, fgi_, fgi_a, fgj_, fgj_a, fgr_, fgr_a, iald_, iald_a, iald_b, zald_, zald_a, zald_b, jald_, jald_a, jald_b, rald_, rald_a, rald_b, alen_, alen_a, sald_, sald_a, ic_, ic_a, jc_, jc_a, bc_, bc_a, bc_b, bj_, bj_a, bj_b, bz_, bz_a, band_, band_a, bor_, bor_a, bnot_, bnot_a, anil_, ai_, ai_a, ai_b, aj_, aj_a, aj_b, ar_, ar_a, ar_b, kb2i_, cvi_, cvi_a, cvi_b, cvj_, cvj_a, cvj_b, cvz_, cvz_a, cvz_b, csi_, csi_a, csj_, csj_a, csz_, csz_a, snop_, sseq_, sseq_n, sseq_s, sif_, sif_a, scut_, scut_a, ssi_, ssi_a, ssj_, ssj_a, ssr_, ssr_a, sinc_, sinc_a, sret_, sret_a, sretj_, sretj_a, sretv_, spop_, spop_a, kc_scv_, scv_, scv_a, scv_b, scs_, scs_a, fpi_, fpi_a, fpi_b, fpj_, fpj_a, fpj_b, foi_, foi_a, foi_b, foj_, foj_a, foj_b, aii_, aii_a, aii_b, aii_c, aiz_, aiz_a, aiz_b, aiz_c, aij_, aij_a, aij_b, aij_c, aoi_, aoi_a, aoi_b, aoi_c, aoj_, aoj_a, aoj_b, aoj_c, scopy_, scopy_a, scopy_b, scopy_c, scopy_d, scopy_e, ssw_, ssw_a, sel_n, sel_c, mfi_, mfi_a, mfj_, mfj_a, mfz_, mfz_a, kb_mfv_, mfv_, mfv_a, cut, lset, lset2, isL, Value.category, ent, entn, if_some, if_pair, if_cons, if_int, if_long, if_ref, ite_self, gz_b, ↓icb, ↓icb2, b2i_ne, ge0, ge1, ge2, ge3, ge4, ge5, ge6, ge7, ge8, ge9, ge10, ge11, ge12, ge13, ge14, lit32, nI_add, pk_mul, clt_nI, cle_nI, cgt_nI, cge_nI, ceq_nI, cne_nI, inr_nI, nI_clamp, nI_eq, nI_leI, nI_ltI, k0, f0_0, f0_7, f0_8, k429, l429, f429, k490, l490, k1_, a_kb (mImg k hk2), e1, t2, nar1, c_within, g0, hk2, nI_toInt]
    obtain ⟨N1, eN1⟩ : ∃ N1 : Me, N1 = cpR (wi M1 492 0 (nI 0)) 494 0 497 (331 * k) 331 := ⟨_, rfl⟩
    obtain ⟨M2, eM2⟩ : ∃ M2 : Me, M2 = wi (wi N1 498 k (nI 1)) 492 1 (nI 0) := ⟨_, rfl⟩
    have hX : M.1 494 4 = nI tm := h.1.1.2.2.2.2.1
    have r : DX8_image [.ref 492, .int (nI k)] M1 = some (nI tm, M2) := by
      have t2 : (wi N1 498 k (nI 1)).1 494 4 = nI tm := by rw [wi_ne (by decide), eN1, cpR_ne (by decide), wi_ne (by decide), f1 494 (by omega)]; exact hX
      rw [eM2]
      simp -implicitDefEqProofs (disch := omega) [DX8_image, EX8_image, kp_, bsome, bnone, gi_s, gj_s, gr_s, gv_s, ik_, jk_, il_, jl_, rl_, i2_, i2_a, i2_b, j2_, j2_a, j2_b, i2d_, i2d_a, i2d_b, j2d_, j2d_a, j2d_b, i1_, i1_a, j1_, j1_a, i2l_, i2l_a, l2i_, l2i_a, fgi_, fgi_a, fgj_, fgj_a, fgr_, fgr_a, iald_, iald_a, iald_b, zald_, zald_a, zald_b, jald_, jald_a, jald_b, rald_, rald_a, rald_b, alen_, alen_a, sald_, sald_a, ic_, ic_a, jc_, jc_a, bc_, bc_a, bc_b, bj_, bj_a, bj_b, bz_, bz_a, band_, band_a, bor_, bor_a, bnot_, bnot_a, anil_, ai_, ai_a, ai_b, aj_, aj_a, aj_b, ar_, ar_a, ar_b, kb2i_, cvi_, cvi_a, cvi_b, cvj_, cvj_a, cvj_b, cvz_, cvz_a, cvz_b, csi_, csi_a, csj_, csj_a, csz_, csz_a, snop_, sseq_, sseq_n, sseq_s, sif_, sif_a, scut_, scut_a, ssi_, ssi_a, ssj_, ssj_a, ssr_, ssr_a, sinc_, sinc_a, sret_, sret_a, sretj_, sretj_a, sretv_, spop_, spop_a, kc_scv_, scv_, scv_a, scv_b, scs_, scs_a, fpi_, fpi_a, fpi_b, fpj_, fpj_a, fpj_b, foi_, foi_a, foi_b, foj_, foj_a, foj_b, aii_, aii_a, aii_b, aii_c, aiz_, aiz_a, aiz_b, aiz_c, aij_, aij_a, aij_b, aij_c, aoi_, aoi_a, aoi_b, aoi_c, aoj_, aoj_a, aoj_b, aoj_c, scopy_, scopy_a, scopy_b, scopy_c, scopy_d, scopy_e, ssw_, ssw_a, sel_n, sel_c, mfi_, mfi_a, mfj_, mfj_a, mfz_, mfz_a, kb_mfv_, mfv_, mfv_a, cut, lset, lset2, isL, Value.category, ent, entn, if_some, if_pair, if_cons, if_int, if_long, if_ref, ite_self, gz_b, ↓icb, ↓icb2, b2i_ne, ge0, ge1, ge2, ge3, ge4, ge5, ge6, ge7, ge8, ge9, ge10, ge11, ge12, ge13, ge14, lit32, nI_add, pk_mul, clt_nI, cle_nI, cgt_nI, cge_nI, ceq_nI, cne_nI, inr_nI, nI_clamp, nI_eq, nI_leI, nI_ltI, k492, f492_2, f492_3, f492_4, f492_5, f492_7, f492_8, f492_9, f492_10, k493, k494, k495, k496, k497, k498, k499, k500, l493, l494, l495, l496, l497, l498, l499, l500, rc3, ← eN1, t2, r_tell, r_in, l_in2, g0, nar1, hk2]
    have f2 : ∀ a, ¬ (a = 492 ∨ a = 497 ∨ a = 498) → M2.1 a = M1.1 a := fun a z => by rw [eM2, wi_ne (by omega), wi_ne (by omega), eN1, cpR_ne (by omega), wi_ne (by omega)]
    have f3 : ∀ a, ¬ (a = 0 ∨ (430 + 30 * k ≤ a ∧ a < 460 + 30 * k) ∨ a = 490 ∨ a = 492 ∨ a = 497 ∨ a = 498) → M2.1 a = M.1 a := fun a z => by rw [f2 a (by omega), f1 a (by omega)]
    have w1 : M2.1 492 1 = nI 0 := by rw [eM2]; simp [wi]
    have w6 : M2.1 492 6 = M.1 492 6 := by rw [eM2, wi_ns (by decide), wi_ne (by decide), eN1, cpR_ne (by decide), wi_ns (by decide), f1 492 (by omega)]
    have w8 : ∀ i, i < 331 → M2.1 497 (331 * k + i) = M.1 494 i := fun i hi => by rw [eM2, wi_ne (by decide), wi_ne (by decide), eN1, cpR_in hi, wi_ne (by decide), f1 494 (by omega), Nat.zero_add]
    have w8n : ∀ j, j < 2 → j ≠ k → ∀ i, i < 331 → M2.1 497 (331 * j + i) = M.1 497 (331 * j + i) := fun j hj hn i hi => by rw [eM2, wi_ne (by decide), wi_ne (by decide), eN1, cpR_out (by omega), wi_ne (by decide), f1 497 (by omega)]
    have w9 : ∀ j, M2.1 498 j = if j = k then nI 1 else M.1 498 j := fun j => by
      rw [eM2, wi_ne (by decide)]
      by_cases e : j = k
      · subst e; simp [wi]
      · rw [wi_ns e, if_neg e, eN1, cpR_ne (by decide), wi_ne (by decide), f1 498 (by omega)]
    have w91 : ∀ j, M2.1 490 j = if j = k then nI 1 else M.1 490 j := fun j => by
      rw [f2 490 (by omega), eM1]
      by_cases e : j = k
      · subst e; simp [wi]
      · rw [wi_ns e, if_neg e, e2 490 (by omega), wi_ne (by decide)]
    have w0 : M2.1 0 10 = nI 0 := by rw [f2 0 (by omega), eM1, wi_ne (by decide), e2 0 (by omega)]; simp [wi]
    have hL0 : Lr (wi M 0 10 (nI 0)) 1 (M.1 494) nc nt np nw tm := h.2.1.frame hb.1 hb.2.1 hb.2.2.1 hb.2.2.2.1 (fun a z1 z2 => wi_ne (by omega))
    have hN0 : Nh (wi M 0 10 (nI 0)) 1 := by unfold Nh; rw [wi_ne (by decide)]; exact h.2.2.1
    refine ⟨_, _, _, c, r, ⟨nc, nt, np, nw, tm, o, u, ?_, ?_, ?_, ?_, ?_, ?_⟩, fun a z1 z2 => ⟨f3 a (by omega), ?_⟩⟩
    · rw [f3 494 (by omega)]; exact h.1
    · rw [f3 494 (by omega)]; exact h.2.1.frame hb.1 hb.2.1 hb.2.2.1 hb.2.2.2.1 (fun a z1 z2 => f3 a (by omega))
    · unfold Nh; rw [f3 1 (by omega)]; exact h.2.2.1
    · exact h.2.2.2.1.frame (fun a z => f3 a (by omega)) w6
    · intro j hj
      by_cases e : j = k
      · subst e
        refine ⟨by rw [w9, w91, if_pos rfl, if_pos rfl], Or.inr ⟨by rw [w91, if_pos rfl], nc, nt, np, nw, tm, h.1.row w8, ?_, ?_⟩⟩
        · have q := (e5 _ nc nt np nw tm hb.1 hb.2.1 hb.2.2.1 hb.2.2.2.1 hL0).frame (M' := M2) hb.1 hb.2.1 hb.2.2.1 hb.2.2.2.1 (fun a z1 z2 => by rw [f2 a (by omega), eM1, wi_ne (by omega)])
          exact q.row hb.1 hb.2.1 hb.2.2.1 hb.2.2.2.1 w8
        · have q := e4 hN0
          unfold Nh at q ⊢
          rw [f2 _ (by omega), eM1, wi_ne (by omega)]; exact q
      · obtain ⟨g1, g2⟩ := h.2.2.2.2.1 j hj
        refine ⟨by rw [w9, w91, if_neg e, if_neg e]; exact g1, ?_⟩
        rw [w91, if_neg e]
        rcases g2 with g2 | ⟨g2, a1, a2, a3, a4, a5, g3, g4, g5⟩
        · exact Or.inl g2
        · have hb2 := g3.2.1
          refine Or.inr ⟨g2, a1, a2, a3, a4, a5, g3.row (w8n j hj e), ?_, ?_⟩
          · exact (g4.frame (M' := M2) hb2.1 hb2.2.1 hb2.2.2.1 hb2.2.2.2.1 (fun a z1 z2 => f3 a (by omega))).row hb2.1 hb2.2.1 hb2.2.2.1 hb2.2.2.2.1 (w8n j hj e)
          · unfold Nh at g5 ⊢
            rw [f3 _ (by omega)]; exact g5
    · obtain ⟨s1, s2, s3, s4, s5⟩ := h.2.2.2.2.2
      refine ⟨by rw [w0, w1], ?_, ?_, ?_, ?_⟩ <;> rw [f3 491 (by omega), f3 493 (by omega)]
      · exact s2
      · exact s3
      · exact s4
      · exact s5
    · rw [eM2, eN1, eM1]
      show Mz.2 a = M.2 a
      rw [e3]; rfl
  · have g1 : bw x0 0 1 = false := by simpa using g0
    refine act_rf2 (k := 1) (i := 0) h (by omega) ?_ ?_
    · simp -implicitDefEqProofs (disch := omega) [DX7_image, EX7_image, kp_, bsome, bnone, gi_s, gj_s, gr_s, gv_s, ik_, jk_, il_, jl_, rl_, i2_, i2_a, i2_b, j2_, j2_a, j2_b, i2d_, i2d_a, i2d_b, j2d_, j2d_a, j2d_b, i1_, i1_a, j1_, j1_a, i2l_, i2l_a, l2i_, l2i_a, fgi_, fgi_a, fgj_, fgj_a, fgr_, fgr_a, iald_, iald_a, iald_b, zald_, zald_a, zald_b, jald_, jald_a, jald_b, rald_, rald_a, rald_b, alen_, alen_a, sald_, sald_a, ic_, ic_a, jc_, jc_a, bc_, bc_a, bc_b, bj_, bj_a, bj_b, bz_, bz_a, band_, band_a, bor_, bor_a, bnot_, bnot_a, anil_, ai_, ai_a, ai_b, aj_, aj_a, aj_b, ar_, ar_a, ar_b, kb2i_, cvi_, cvi_a, cvi_b, cvj_, cvj_a, cvj_b, cvz_, cvz_a, cvz_b, csi_, csi_a, csj_, csj_a, csz_, csz_a, snop_, sseq_, sseq_n, sseq_s, sif_, sif_a, scut_, scut_a, ssi_, ssi_a, ssj_, ssj_a, ssr_, ssr_a, sinc_, sinc_a, sret_, sret_a, sretj_, sretj_a, sretv_, spop_, spop_a, kc_scv_, scv_, scv_a, scv_b, scs_, scs_a, fpi_, fpi_a, fpi_b, fpj_, fpj_a, fpj_b, foi_, foi_a, foi_b, foj_, foj_a, foj_b, aii_, aii_a, aii_b, aii_c, aiz_, aiz_a, aiz_b, aiz_c, aij_, aij_a, aij_b, aij_c, aoi_, aoi_a, aoi_b, aoi_c, aoj_, aoj_a, aoj_b, aoj_c, scopy_, scopy_a, scopy_b, scopy_c, scopy_d, scopy_e, ssw_, ssw_a, sel_n, sel_c, mfi_, mfi_a, mfj_, mfj_a, mfz_, mfz_a, kb_mfv_, mfv_, mfv_a, cut, lset, lset2, isL, Value.category, ent, entn, if_some, if_pair, if_cons, if_int, if_long, if_ref, ite_self, gz_b, ↓icb, ↓icb2, b2i_ne, ge0, ge1, ge2, ge3, ge4, ge5, ge6, ge7, ge8, ge9, ge10, ge11, ge12, ge13, ge14, lit32, nI_add, pk_mul, clt_nI, cle_nI, cgt_nI, cge_nI, ceq_nI, cne_nI, inr_nI, nI_clamp, nI_eq, nI_leI, nI_ltI, k0, c_refuse1, c_within, nI_toInt, g1]
    · simp -implicitDefEqProofs (disch := omega) [DX8_image, EX8_image, kp_, bsome, bnone, gi_s, gj_s, gr_s, gv_s, ik_, jk_, il_, jl_, rl_, i2_, i2_a, i2_b, j2_, j2_a, j2_b, i2d_, i2d_a, i2d_b, j2d_, j2d_a, j2d_b, i1_, i1_a, j1_, j1_a, i2l_, i2l_a, l2i_, l2i_a, fgi_, fgi_a, fgj_, fgj_a, fgr_, fgr_a, iald_, iald_a, iald_b, zald_, zald_a, zald_b, jald_, jald_a, jald_b, rald_, rald_a, rald_b, alen_, alen_a, sald_, sald_a, ic_, ic_a, jc_, jc_a, bc_, bc_a, bc_b, bj_, bj_a, bj_b, bz_, bz_a, band_, band_a, bor_, bor_a, bnot_, bnot_a, anil_, ai_, ai_a, ai_b, aj_, aj_a, aj_b, ar_, ar_a, ar_b, kb2i_, cvi_, cvi_a, cvi_b, cvj_, cvj_a, cvj_b, cvz_, cvz_a, cvz_b, csi_, csi_a, csj_, csj_a, csz_, csz_a, snop_, sseq_, sseq_n, sseq_s, sif_, sif_a, scut_, scut_a, ssi_, ssi_a, ssj_, ssj_a, ssr_, ssr_a, sinc_, sinc_a, sret_, sret_a, sretj_, sretj_a, sretv_, spop_, spop_a, kc_scv_, scv_, scv_a, scv_b, scs_, scs_a, fpi_, fpi_a, fpi_b, fpj_, fpj_a, fpj_b, foi_, foi_a, foi_b, foj_, foj_a, foj_b, aii_, aii_a, aii_b, aii_c, aiz_, aiz_a, aiz_b, aiz_c, aij_, aij_a, aij_b, aij_c, aoi_, aoi_a, aoi_b, aoi_c, aoj_, aoj_a, aoj_b, aoj_c, scopy_, scopy_a, scopy_b, scopy_c, scopy_d, scopy_e, ssw_, ssw_a, sel_n, sel_c, mfi_, mfi_a, mfj_, mfj_a, mfz_, mfz_a, kb_mfv_, mfv_, mfv_a, cut, lset, lset2, isL, Value.category, ent, entn, if_some, if_pair, if_cons, if_int, if_long, if_ref, ite_self, gz_b, ↓icb, ↓icb2, b2i_ne, ge0, ge1, ge2, ge3, ge4, ge5, ge6, ge7, ge8, ge9, ge10, ge11, ge12, ge13, ge14, lit32, nI_add, pk_mul, clt_nI, cle_nI, cgt_nI, cge_nI, ceq_nI, cne_nI, inr_nI, nI_clamp, nI_eq, nI_leI, nI_ltI, k492, f492_2, f492_3, f492_4, f492_5, f492_7, f492_8, f492_9, f492_10, k493, k494, k495, k496, k497, k498, k499, k500, l493, l494, l495, l496, l497, l498, l499, l500, r_refuse1', r_in, l_in2, g1]
