/-! ===== acts that change how many there are ===== -/
section
variable {X Y : Nat → Int32} {nc nt np nw tm : Nat} {M N : Me} {b : Nat}
set_option maxRecDepth 20000 in
theorem Vx.wN {n2 : Nat} (h : Vx X nc nt np nw tm) (hf : ∀ i, i < 331 → i ≠ 3 → ¬ (95 ≤ i ∧ i < 131) → Y i = X i) (h3 : Y 3 = nI n2) (hn : n2 ≤ 6) (hs : ∀ w, w < n2 → VxW Y w) : Vx Y nc nt np n2 tm := by
  obtain ⟨h1, h2, h3', h4, h5, h6, h7, h8, h9⟩ := h
  refine ⟨?_, ⟨h2.1, h2.2.1, h2.2.2.1, hn, h2.2.2.2.2⟩, ?_, fun c hc => ?_, fun t ht => ?_, fun p hp => ?_, hs, fun c hc => ?_, fun k hk c hc hc5 => ?_⟩
  · rw [hf 0 (by omega) (by omega) (by omega), hf 1 (by omega) (by omega) (by omega), hf 2 (by omega) (by omega) (by omega), hf 4 (by omega) (by omega) (by omega), hf 7 (by omega) (by omega) (by omega)]; exact ⟨h1.1, h1.2.1, h1.2.2.1, h3, h1.2.2.2.2⟩
  · unfold VxL; rw [hf 5 (by omega) (by omega) (by omega), hf 6 (by omega) (by omega) (by omega)]; exact h3'
  · rw [hf _ (by omega) (by omega) (by omega), hf _ (by omega) (by omega) (by omega), hf _ (by omega) (by omega) (by omega), hf _ (by omega) (by omega) (by omega)]; exact h4 c hc
  · unfold VxT; rw [hf _ (by omega) (by omega) (by omega), hf _ (by omega) (by omega) (by omega), hf _ (by omega) (by omega) (by omega), hf _ (by omega) (by omega) (by omega)]; exact h5 t ht
  · unfold VxP; rw [hf _ (by omega) (by omega) (by omega), hf _ (by omega) (by omega) (by omega), hf _ (by omega) (by omega) (by omega), hf _ (by omega) (by omega) (by omega), hf _ (by omega) (by omega) (by omega), hf _ (by omega) (by omega) (by omega), hf _ (by omega) (by omega) (by omega), hf _ (by omega) (by omega) (by omega), hf _ (by omega) (by omega) (by omega)]; exact h6 p hp
  · rw [wtP_cg (fun i a1 a2 => hf i (by omega) (by omega) (by omega)) np h2.2.2.1, wtT_cg (fun i a1 a2 => hf i (by omega) (by omega) (by omega)) nt h2.2.1]; exact h8 c hc
  · rw [hf _ (by omega) (by omega) (by omega)]; exact h9 k hk c hc hc5
set_option maxRecDepth 20000 in
theorem Lr.wN {n2 : Nat} (h : Lr M b X nc nt np nw tm) (hc : nc ≤ 5) (ht : nt ≤ 10) (hp : np ≤ 3) (hw : n2 ≤ 6) (hf : ∀ i, i < 331 → i ≠ 3 → ¬ (95 ≤ i ∧ i < 131) → Y i = X i) (hg : ∀ a, b < a → a < b + 30 → ¬ (b + 23 ≤ a ∧ a < b + 29) → N.1 a = M.1 a) (hg2 : ∀ j, j ≠ 3 → N.1 b j = M.1 b j) (h3 : N.1 b 3 = nI n2) (hs : ∀ w, w < n2 → ∀ j, j < 6 → N.1 (b + 23 + w) j = Y (95 + 6 * w + j)) : Lr N b Y nc nt np n2 tm := by
  obtain ⟨h0, h1, h2, h3', h4, h5, h6, h7⟩ := h
  refine ⟨h0, ?_, fun c hc1 j hj => ?_, fun c hc1 => ?_, fun t ht1 j hj => ?_, fun p hp1 j hj => ?_, hs, fun k hk c hc1 => ?_⟩
  · rw [hg2 0 (by omega), hg2 1 (by omega), hg2 2 (by omega), hg2 4 (by omega), hg2 5 (by omega), hg2 6 (by omega), hf 5 (by omega) (by omega) (by omega), hf 6 (by omega) (by omega) (by omega)]; exact ⟨h1.1, h1.2.1, h1.2.2.1, h3, h1.2.2.2.2⟩
  · rw [hg _ (by omega) (by omega) (by omega), hf _ (by omega) (by omega) (by omega)]; exact h2 c hc1 j hj
  · rw [hg _ (by omega) (by omega) (by omega), hf _ (by omega) (by omega) (by omega)]; exact h3' c hc1
  · rw [hg _ (by omega) (by omega) (by omega), hf _ (by omega) (by omega) (by omega)]; exact h4 t ht1 j hj
  · rw [hg _ (by omega) (by omega) (by omega), hf _ (by omega) (by omega) (by omega)]; exact h5 p hp1 j hj
  · rw [hg _ (by omega) (by omega) (by omega), hf _ (by omega) (by omega) (by omega)]; exact h7 k hk c hc1
end
def wa6 (M : Me) (a k : Nat) (v0 v1 v2 v3 v4 v5 : Int32) : Me := wi (wi (wi (wi (wi (wi M a k v0) a (k + 1) v1) a (k + 2) v2) a (k + 3) v3) a (k + 4) v4) a (k + 5) v5
theorem wa6_ne {M : Me} {a k q : Nat} {v0 v1 v2 v3 v4 v5 : Int32} (h : q ≠ a) : (wa6 M a k v0 v1 v2 v3 v4 v5).1 q = M.1 q := by unfold wa6; simp only [wi_ne h]
set_option maxRecDepth 20000 in
theorem wa6_out {M : Me} {a k j : Nat} {v0 v1 v2 v3 v4 v5 : Int32} (h : j < k ∨ k + 6 ≤ j) : (wa6 M a k v0 v1 v2 v3 v4 v5).1 a j = M.1 a j := by
  unfold wa6
  rw [wi_ns (by omega), wi_ns (by omega), wi_ns (by omega), wi_ns (by omega), wi_ns (by omega), wi_ns (by omega)]
set_option maxRecDepth 20000 in
theorem wa6_in {M : Me} {a k j : Nat} {v0 v1 v2 v3 v4 v5 : Int32} (h : j < 6) : (wa6 M a k v0 v1 v2 v3 v4 v5).1 a (k + j) = if j = 0 then v0 else if j = 1 then v1 else if j = 2 then v2 else if j = 3 then v3 else if j = 4 then v4 else v5 := by
  rcases (by omega : j = 0 ∨ j = 1 ∨ j = 2 ∨ j = 3 ∨ j = 4 ∨ j = 5) with rfl | rfl | rfl | rfl | rfl | rfl <;> simp [wa6, wi]
set_option maxRecDepth 20000 in
theorem ac_watch {M : Me} {nc nt np nw tm o u : Nat} (h : Core M nc nt np nw tm o u) (x0 x1 x2 x3 x4 : Int32) : Act DX7_watch DX8_watch [.int x0, .int x1, .int x2, .int x3, .int x4] M := by
  have hb := h.1.2.1
  have hn1 := h.2.1.2.1.2.2.2.1
  have hr1 := h.1.1.2.2.2.1
  by_cases hv : bw x0 0 2 = true ∧ bw x1 0 9 = true ∧ bw x2 0 99999999 = true ∧ bw x3 0 4 = true ∧ bw x4 0 9 = true
  · obtain ⟨g0, g1, g2, g3, g4⟩ := hv
    by_cases hx : nw = 6
    · subst hx
      refine act_rf2 (k := 5) (i := 3) h (by omega) ?_ ?_
      · simp -implicitDefEqProofs (disch := omega) [DX7_watch, EX7_watch, kp_, bsome, bnone, gi_s, gj_s, gr_s, gv_s, ik_, jk_, il_, jl_, rl_, i2_, i2_a, i2_b, j2_, j2_a, j2_b, i2d_, i2d_a, i2d_b, j2d_, j2d_a, j2d_b, i1_, i1_a, j1_, j1_a, i2l_, i2l_a, l2i_, l2i_a, fgi_, fgi_a, fgj_, fgj_a, fgr_, fgr_a, iald_, iald_a, iald_b, zald_, zald_a, zald_b, jald_, jald_a, jald_b, rald_, rald_a, rald_b, alen_, alen_a, sald_, sald_a, ic_, ic_a, jc_, jc_a, bc_, bc_a, bc_b, bj_, bj_a, bj_b, bz_, bz_a, band_, band_a, bor_, bor_a, bnot_, bnot_a, anil_, ai_, ai_a, ai_b, aj_, aj_a, aj_b, ar_, ar_a, ar_b, kb2i_, cvi_, cvi_a, cvi_b, cvj_, cvj_a, cvj_b, cvz_, cvz_a, cvz_b, csi_, csi_a, csj_, csj_a, csz_, csz_a, snop_, sseq_, sseq_n, sseq_s, sif_, sif_a, scut_, scut_a, ssi_, ssi_a, ssj_, ssj_a, ssr_, ssr_a, sinc_, sinc_a, sret_, sret_a, sretj_, sretj_a, sretv_, spop_, spop_a, kc_scv_, scv_, scv_a, scv_b, scs_, scs_a, fpi_, fpi_a, fpi_b, fpj_, fpj_a, fpj_b, foi_, foi_a, foi_b, foj_, foj_a, foj_b, aii_, aii_a, aii_b, aii_c, aiz_, aiz_a, aiz_b, aiz_c, aij_, aij_a, aij_b, aij_c, aoi_, aoi_a, aoi_b, aoi_c, aoj_, aoj_a, aoj_b, aoj_c, scopy_, scopy_a, scopy_b, scopy_c, scopy_d, scopy_e, ssw_, ssw_a, sel_n, sel_c, mfi_, mfi_a, mfj_, mfj_a, mfz_, mfz_a, kb_mfv_, mfv_, mfv_a, cut, lset, lset2, isL, Value.category, ent, entn, if_some, if_pair, if_cons, if_int, if_long, if_ref, ite_self, gz_b, ↓icb, ↓icb2, b2i_ne, ge0, ge1, ge2, ge3, ge4, ge5, ge6, ge7, ge8, ge9, ge10, ge11, ge12, ge13, ge14, lit32, nI_add, pk_mul, clt_nI, cle_nI, cgt_nI, cge_nI, ceq_nI, cne_nI, inr_nI, nI_clamp, nI_eq, nI_leI, nI_ltI, k0, f0_0, k1_, hn1, c_refuse5, c_within, nI_toInt, g0, g1, g2, g3, g4]
      · have hq : (wi (rfC M 5 3) 492 0 (nI 0)).1 494 3 = nI 6 := by rw [wi_ne (by decide), rfC_r (by decide) (by decide)]; exact hr1
        simp -implicitDefEqProofs (disch := omega) [DX8_watch, EX8_watch, kp_, bsome, bnone, gi_s, gj_s, gr_s, gv_s, ik_, jk_, il_, jl_, rl_, i2_, i2_a, i2_b, j2_, j2_a, j2_b, i2d_, i2d_a, i2d_b, j2d_, j2d_a, j2d_b, i1_, i1_a, j1_, j1_a, i2l_, i2l_a, l2i_, l2i_a, fgi_, fgi_a, fgj_, fgj_a, fgr_, fgr_a, iald_, iald_a, iald_b, zald_, zald_a, zald_b, jald_, jald_a, jald_b, rald_, rald_a, rald_b, alen_, alen_a, sald_, sald_a, ic_, ic_a, jc_, jc_a, bc_, bc_a, bc_b, bj_, bj_a, bj_b, bz_, bz_a, band_, band_a, bor_, bor_a, bnot_, bnot_a, anil_, ai_, ai_a, ai_b, aj_, aj_a, aj_b, ar_, ar_a, ar_b, kb2i_, cvi_, cvi_a, cvi_b, cvj_, cvj_a, cvj_b, cvz_, cvz_a, cvz_b, csi_, csi_a, csj_, csj_a, csz_, csz_a, snop_, sseq_, sseq_n, sseq_s, sif_, sif_a, scut_, scut_a, ssi_, ssi_a, ssj_, ssj_a, ssr_, ssr_a, sinc_, sinc_a, sret_, sret_a, sretj_, sretj_a, sretv_, spop_, spop_a, kc_scv_, scv_, scv_a, scv_b, scs_, scs_a, fpi_, fpi_a, fpi_b, fpj_, fpj_a, fpj_b, foi_, foi_a, foi_b, foj_, foj_a, foj_b, aii_, aii_a, aii_b, aii_c, aiz_, aiz_a, aiz_b, aiz_c, aij_, aij_a, aij_b, aij_c, aoi_, aoi_a, aoi_b, aoi_c, aoj_, aoj_a, aoj_b, aoj_c, scopy_, scopy_a, scopy_b, scopy_c, scopy_d, scopy_e, ssw_, ssw_a, sel_n, sel_c, mfi_, mfi_a, mfj_, mfj_a, mfz_, mfz_a, kb_mfv_, mfv_, mfv_a, cut, lset, lset2, isL, Value.category, ent, entn, if_some, if_pair, if_cons, if_int, if_long, if_ref, ite_self, gz_b, ↓icb, ↓icb2, b2i_ne, ge0, ge1, ge2, ge3, ge4, ge5, ge6, ge7, ge8, ge9, ge10, ge11, ge12, ge13, ge14, lit32, nI_add, pk_mul, clt_nI, cle_nI, cgt_nI, cge_nI, ceq_nI, cne_nI, inr_nI, nI_clamp, nI_eq, nI_leI, nI_ltI, k492, f492_2, f492_3, f492_4, f492_5, f492_7, f492_8, f492_9, f492_10, k493, k494, k495, k496, k497, k498, k499, k500, l493, l494, l495, l496, l497, l498, l499, l500, hq, r_refuse5', r_in, l_in2, g0, g1, g2, g3, g4]
    · have hw : nw < 6 := by omega
      obtain ⟨Ma, Mk, a1, -, -, a4, a5, -⟩ := c_accept (nI 8) h
      have eA : Ma.1 1 3 = nI nw := by rw [a4 1 (by omega)]; exact hn1
      obtain ⟨M1, eM1⟩ : ∃ M1 : Me, M1 = wi (wa6 Ma (1 + 23 + nw) 0 x0 x1 x2 x3 x4 (nI 0)) 1 3 (nI (nw + 1)) := ⟨_, rfl⟩
      have kT := a_kw m1_ nw hw
      have lT := a_lw m1_ nw hw
      have cc : DX1_addWatch [.ref 1, .int x0, .int x1, .int x2, .int x3, .int x4] Ma = some (nI nw, M1) := by
        have z : (wa6 Ma (1 + 23 + nw) 0 x0 x1 x2 x3 x4 (nI 0)).1 1 3 = nI nw := by rw [wa6_ne (by omega), eA]
        have z2 : (wi (wa6 Ma (1 + 23 + nw) 0 x0 x1 x2 x3 x4 (nI 0)) 1 3 (nI (nw + 1))).1 1 3 = nI (nw + 1) := by simp [wi]
        unfold wa6 at z z2 eM1
        rw [eM1]
        simp -implicitDefEqProofs (disch := omega) [DX1_addWatch, EX1_addWatch, kp_, bsome, bnone, gi_s, gj_s, gr_s, gv_s, ik_, jk_, il_, jl_, rl_, i2_, i2_a, i2_b, j2_, j2_a, j2_b, i2d_, i2d_a, i2d_b, j2d_, j2d_a, j2d_b, i1_, i1_a, j1_, j1_a, i2l_, i2l_a, l2i_, l2i_a, fgi_, fgi_a, fgj_, fgj_a, fgr_, fgr_a, iald_, iald_a, iald_b, zald_, zald_a, zald_b, jald_, jald_a, jald_b, rald_, rald_a, rald_b, alen_, alen_a, sald_, sald_a, ic_, ic_a, jc_, jc_a, bc_, bc_a, bc_b, bj_, bj_a, bj_b, bz_, bz_a, band_, band_a, bor_, bor_a, bnot_, bnot_a, anil_, ai_, ai_a, ai_b, aj_, aj_a, aj_b, ar_, ar_a, ar_b, kb2i_, cvi_, cvi_a, cvi_b, cvj_, cvj_a, cvj_b, cvz_, cvz_a, cvz_b, csi_, csi_a, csj_, csj_a, csz_, csz_a, snop_, sseq_, sseq_n, sseq_s, sif_, sif_a, scut_, scut_a, ssi_, ssi_a, ssj_, ssj_a, ssr_, ssr_a, sinc_, sinc_a, sret_, sret_a, sretj_, sretj_a, sretv_, spop_, spop_a, kc_scv_, scv_, scv_a, scv_b, scs_, scs_a, fpi_, fpi_a, fpi_b, fpj_, fpj_a, fpj_b, foi_, foi_a, foi_b, foj_, foj_a, foj_b, aii_, aii_a, aii_b, aii_c, aiz_, aiz_a, aiz_b, aiz_c, aij_, aij_a, aij_b, aij_c, aoi_, aoi_a, aoi_b, aoi_c, aoj_, aoj_a, aoj_b, aoj_c, scopy_, scopy_a, scopy_b, scopy_c, scopy_d, scopy_e, ssw_, ssw_a, sel_n, sel_c, mfi_, mfi_a, mfj_, mfj_a, mfz_, mfz_a, kb_mfv_, mfv_, mfv_a, cut, lset, lset2, isL, Value.category, ent, entn, if_some, if_pair, if_cons, if_int, if_long, if_ref, ite_self, gz_b, ↓icb, ↓icb2, b2i_ne, ge0, ge1, ge2, ge3, ge4, ge5, ge6, ge7, ge8, ge9, ge10, ge11, ge12, ge13, ge14, lit32, nI_add, pk_mul, clt_nI, cle_nI, cgt_nI, cge_nI, ceq_nI, cne_nI, inr_nI, nI_clamp, nI_eq, nI_leI, nI_ltI, k1_, a_12 m1_, a_k22 m1_, a_l22 m1_, a_rw m1_, eA, kT, lT, hw, z, z2, pk_sub]
      obtain ⟨Nz, hr, n1, n2, n3⟩ := r_rem (M1 := M1) (nI 8) h a4 (fun a z => by rw [eM1, wi_ne (by omega), wa6_ne (by omega)])
      have c : DX7_watch [.ref 0, .int x0, .int x1, .int x2, .int x3, .int x4] M = some (nI nw, M1) := by
        simp -implicitDefEqProofs (disch := omega) [DX7_watch, EX7_watch, kp_, bsome, bnone, gi_s, gj_s, gr_s, gv_s, ik_, jk_, il_, jl_, rl_, i2_, i2_a, i2_b, j2_, j2_a, j2_b, i2d_, i2d_a, i2d_b, j2d_, j2d_a, j2d_b, i1_, i1_a, j1_, j1_a, i2l_, i2l_a, l2i_, l2i_a, fgi_, fgi_a, fgj_, fgj_a, fgr_, fgr_a, iald_, iald_a, iald_b, zald_, zald_a, zald_b, jald_, jald_a, jald_b, rald_, rald_a, rald_b, alen_, alen_a, sald_, sald_a, ic_, ic_a, jc_, jc_a, bc_, bc_a, bc_b, bj_, bj_a, bj_b, bz_, bz_a, band_, band_a, bor_, bor_a, bnot_, bnot_a, anil_, ai_, ai_a, ai_b, aj_, aj_a, aj_b, ar_, ar_a, ar_b, kb2i_, cvi_, cvi_a, cvi_b, cvj_, cvj_a, cvj_b, cvz_, cvz_a, cvz_b, csi_, csi_a, csj_, csj_a, csz_, csz_a, snop_, sseq_, sseq_n, sseq_s, sif_, sif_a, scut_, scut_a, ssi_, ssi_a, ssj_, ssj_a, ssr_, ssr_a, sinc_, sinc_a, sret_, sret_a, sretj_, sretj_a, sretv_, spop_, spop_a, kc_scv_, scv_, scv_a, scv_b, scs_, scs_a, fpi_, fpi_a, fpi_b, fpj_, fpj_a, fpj_b, foi_, foi_a, foi_b, foj_, foj_a, foj_b, aii_, aii_a, aii_b, aii_c, aiz_, aiz_a, aiz_b, aiz_c, aij_, aij_a, aij_b, aij_c, aoi_, aoi_a, aoi_b, aoi_c, aoj_, aoj_a, aoj_b, aoj_c, scopy_, scopy_a, scopy_b, scopy_c, scopy_d, scopy_e, ssw_, ssw_a, sel_n, sel_c, mfi_, mfi_a, mfj_, mfj_a, mfz_, mfz_a, kb_mfv_, mfv_, mfv_a, cut, lset, lset2, isL, Value.category, ent, entn, if_some, if_pair, if_cons, if_int, if_long, if_ref, ite_self, gz_b, ↓icb, ↓icb2, b2i_ne, ge0, ge1, ge2, ge3, ge4, ge5, ge6, ge7, ge8, ge9, ge10, ge11, ge12, ge13, ge14, lit32, nI_add, pk_mul, clt_nI, cle_nI, cgt_nI, cge_nI, ceq_nI, cne_nI, inr_nI, nI_clamp, nI_eq, nI_leI, nI_ltI, k0, f0_0, k1_, hn1, show ¬ 6 ≤ nw by omega, a1, cc, c_within, nI_toInt, g0, g1, g2, g3, g4]
      have hq : (wi M1 492 0 (nI 0)).1 494 3 = nI nw := by rw [wi_ne (by decide), n3]; exact hr1
      obtain ⟨M2, eM2⟩ : ∃ M2 : Me, M2 = wi (wi (wa6 Nz 494 (95 + 6 * nw) x0 x1 x2 x3 x4 (nI 0)) 494 3 (nI (nw + 1))) 492 1 (nI 0) := ⟨_, rfl⟩
      have r : DX8_watch [.ref 492, .int x0, .int x1, .int x2, .int x3, .int x4] M1 = some (nI nw, M2) := by
        have z : (wa6 Nz 494 (95 + 6 * nw) x0 x1 x2 x3 x4 (nI 0)).1 494 3 = nI nw := by rw [wa6_out (by omega), n1]; exact hr1
        unfold wa6 at z eM2
        rw [eM2]
        simp -implicitDefEqProofs (disch := omega) [DX8_watch, EX8_watch, kp_, bsome, bnone, gi_s, gj_s, gr_s, gv_s, ik_, jk_, il_, jl_, rl_, i2_, i2_a, i2_b, j2_, j2_a, j2_b, i2d_, i2d_a, i2d_b, j2d_, j2d_a, j2d_b, i1_, i1_a, j1_, j1_a, i2l_, i2l_a, l2i_, l2i_a, fgi_, fgi_a, fgj_, fgj_a, fgr_, fgr_a, iald_, iald_a, iald_b, zald_, zald_a, zald_b, jald_, jald_a, jald_b, rald_, rald_a, rald_b, alen_, alen_a, sald_, sald_a, ic_, ic_a, jc_, jc_a, bc_, bc_a, bc_b, bj_, bj_a, bj_b, bz_, bz_a, band_, band_a, bor_, bor_a, bnot_, bnot_a, anil_, ai_, ai_a, ai_b, aj_, aj_a, aj_b, ar_, ar_a, ar_b, kb2i_, cvi_, cvi_a, cvi_b, cvj_, cvj_a, cvj_b, cvz_, cvz_a, cvz_b, csi_, csi_a, csj_, csj_a, csz_, csz_a, snop_, sseq_, sseq_n, sseq_s, sif_, sif_a, scut_, scut_a, ssi_, ssi_a, ssj_, ssj_a, ssr_, ssr_a, sinc_, sinc_a, sret_, sret_a, sretj_, sretj_a, sretv_, spop_, spop_a, kc_scv_, scv_, scv_a, scv_b, scs_, scs_a, fpi_, fpi_a, fpi_b, fpj_, fpj_a, fpj_b, foi_, foi_a, foi_b, foj_, foj_a, foj_b, aii_, aii_a, aii_b, aii_c, aiz_, aiz_a, aiz_b, aiz_c, aij_, aij_a, aij_b, aij_c, aoi_, aoi_a, aoi_b, aoi_c, aoj_, aoj_a, aoj_b, aoj_c, scopy_, scopy_a, scopy_b, scopy_c, scopy_d, scopy_e, ssw_, ssw_a, sel_n, sel_c, mfi_, mfi_a, mfj_, mfj_a, mfz_, mfz_a, kb_mfv_, mfv_, mfv_a, cut, lset, lset2, isL, Value.category, ent, entn, if_some, if_pair, if_cons, if_int, if_long, if_ref, ite_self, gz_b, ↓icb, ↓icb2, b2i_ne, ge0, ge1, ge2, ge3, ge4, ge5, ge6, ge7, ge8, ge9, ge10, ge11, ge12, ge13, ge14, lit32, nI_add, pk_mul, clt_nI, cle_nI, cgt_nI, cge_nI, ceq_nI, cne_nI, inr_nI, nI_clamp, nI_eq, nI_leI, nI_ltI, k492, f492_2, f492_3, f492_4, f492_5, f492_7, f492_8, f492_9, f492_10, k493, k494, k495, k496, k497, k498, k499, k500, l493, l494, l495, l496, l497, l498, l499, l500, hq, hx, hr, r_watchAt, z, r_tell, r_in, l_in2, g0, g1, g2, g3, g4]
      have hY : M2.1 494 = upd ((wa6 Nz 494 (95 + 6 * nw) x0 x1 x2 x3 x4 (nI 0)).1 494) 3 (nI (nw + 1)) := by rw [eM2, wi_ne (by decide), wi_same]
      have hf : ∀ i, i < 331 → i ≠ 3 → ¬ (95 ≤ i ∧ i < 131) → M2.1 494 i = M.1 494 i := fun i z1 z2 z3 => by rw [hY, upd_n z2, wa6_out (by omega), n1]
      have hin : ∀ w j, j < 6 → w < nw + 1 → M2.1 494 (95 + 6 * w + j) = if w = nw then (if j = 0 then x0 else if j = 1 then x1 else if j = 2 then x2 else if j = 3 then x3 else if j = 4 then x4 else nI 0) else M.1 494 (95 + 6 * w + j) := fun w j hj hw1 => by
        rw [hY, upd_n (by omega)]
        by_cases e : w = nw
        · subst e
          rw [if_pos rfl, wa6_in hj]
        · rw [if_neg e, wa6_out (by omega), n1]
      have hV : Vx (M2.1 494) nc nt np (nw + 1) tm := by
        refine h.1.wN hf (by rw [hY, upd_s]) (by omega) (fun w hw1 => ?_)
        unfold VxW
        rw [show 95 + 6 * w = 95 + 6 * w + 0 from rfl, hin w 0 (by decide) hw1, hin w 1 (by decide) hw1, hin w 2 (by decide) hw1, hin w 3 (by decide) hw1, hin w 4 (by decide) hw1]
        by_cases e : w = nw
        · simp only [if_pos e]
          obtain ⟨j0, y0, q0⟩ := bw_ex (n := 2) g0
          obtain ⟨j1, y1, q1⟩ := bw_ex (n := 9) g1
          obtain ⟨j2, y2, q2⟩ := bw_ex (n := 99999999) g2
          obtain ⟨j3, y3, q3⟩ := bw_ex (n := 4) g3
          obtain ⟨j4, y4, q4⟩ := bw_ex (n := 9) g4
          exact ⟨j0, j1, j2, j3, j4, by simpa using q0, by simpa using q1, by simpa using q2, by simpa using q3, by simpa using q4, y0, y1, y2, y3, y4⟩
        · simp only [if_neg e]
          exact h.1.2.2.2.2.2.2.1 w (by omega)
      have hLa : Lr Ma 1 (M.1 494) nc nt np nw tm := h.2.1.frame hb.1 hb.2.1 hb.2.2.1 hb.2.2.2.1 (fun a z1 z2 => a4 a (by omega))
      have hL : Lr M1 1 (M2.1 494) nc nt np (nw + 1) tm := by
        refine hLa.wN hb.1 hb.2.1 hb.2.2.1 (by omega) hf (fun a z1 z2 z3 => by rw [eM1, wi_ne (by omega), wa6_ne (by omega)]) (fun j hj => by rw [eM1, wi_ns hj, wa6_ne (by omega)]) (by rw [eM1]; simp [wi]) (fun w hw1 j hj => ?_)
        rw [hin w j hj hw1, eM1, wi_ne (by omega)]
        by_cases e : w = nw
        · subst e
          rw [if_pos rfl]
          have := wa6_in (M := Ma) (a := 1 + 23 + w) (k := 0) (j := j) (v0 := x0) (v1 := x1) (v2 := x2) (v3 := x3) (v4 := x4) (v5 := nI 0) hj
          rw [Nat.zero_add] at this
          exact this
        · rw [if_neg e, wa6_ne (by omega), hLa.2.2.2.2.2.2.1 w (by omega) j hj]
      have cr := core_act h a1 (M1 := M1) (fun a z => by rw [eM1, wi_ne (by omega), wa6_ne (by omega)]) (by rw [eM1]; rfl) hr (M2 := M2) (fun a z1 z2 => by rw [eM2, wi_ne z1, wi_ne z2, wa6_ne z2]) (by rw [eM2]; rfl) (by rw [eM2]; simp [wi]) (by rw [eM2, wi_ns (by decide), wi_ne (by decide), wa6_ne (by decide)]) hV hL (by unfold Nh; rw [eM1, wi_ns (by decide), wi_ns (by decide), wa6_ne (by omega), a4 1 (by omega)]; exact h.2.2.1)
      obtain ⟨⟨o2, u2, k1⟩, k2⟩ := cr
      exact ⟨_, _, _, c, r, ⟨_, _, _, _, _, _, _, k1⟩, k2⟩
  · refine act_rf2 (k := 1) (i := 0) h (by omega) ?_ ?_
    · have hcA : (((bw x0 0 2 = false ∨ bw x2 0 99999999 = false) ∨ bw x3 0 4 = false) ∨ bw x1 0 9 = false) ∨ bw x4 0 9 = false := by
        cases e0 : bw x0 0 2 <;> cases e1 : bw x1 0 9 <;> cases e2 : bw x2 0 99999999 <;> cases e3 : bw x3 0 4 <;> cases e4 : bw x4 0 9 <;> simp_all
      simp -implicitDefEqProofs (disch := omega) [DX7_watch, EX7_watch, kp_, bsome, bnone, gi_s, gj_s, gr_s, gv_s, ik_, jk_, il_, jl_, rl_, i2_, i2_a, i2_b, j2_, j2_a, j2_b, i2d_, i2d_a, i2d_b, j2d_, j2d_a, j2d_b, i1_, i1_a, j1_, j1_a, i2l_, i2l_a, l2i_, l2i_a, fgi_, fgi_a, fgj_, fgj_a, fgr_, fgr_a, iald_, iald_a, iald_b, zald_, zald_a, zald_b, jald_, jald_a, jald_b, rald_, rald_a, rald_b, alen_, alen_a, sald_, sald_a, ic_, ic_a, jc_, jc_a, bc_, bc_a, bc_b, bj_, bj_a, bj_b, bz_, bz_a, band_, band_a, bor_, bor_a, bnot_, bnot_a, anil_, ai_, ai_a, ai_b, aj_, aj_a, aj_b, ar_, ar_a, ar_b, kb2i_, cvi_, cvi_a, cvi_b, cvj_, cvj_a, cvj_b, cvz_, cvz_a, cvz_b, csi_, csi_a, csj_, csj_a, csz_, csz_a, snop_, sseq_, sseq_n, sseq_s, sif_, sif_a, scut_, scut_a, ssi_, ssi_a, ssj_, ssj_a, ssr_, ssr_a, sinc_, sinc_a, sret_, sret_a, sretj_, sretj_a, sretv_, spop_, spop_a, kc_scv_, scv_, scv_a, scv_b, scs_, scs_a, fpi_, fpi_a, fpi_b, fpj_, fpj_a, fpj_b, foi_, foi_a, foi_b, foj_, foj_a, foj_b, aii_, aii_a, aii_b, aii_c, aiz_, aiz_a, aiz_b, aiz_c, aij_, aij_a, aij_b, aij_c, aoi_, aoi_a, aoi_b, aoi_c, aoj_, aoj_a, aoj_b, aoj_c, scopy_, scopy_a, scopy_b, scopy_c, scopy_d, scopy_e, ssw_, ssw_a, sel_n, sel_c, mfi_, mfi_a, mfj_, mfj_a, mfz_, mfz_a, kb_mfv_, mfv_, mfv_a, cut, lset, lset2, isL, Value.category, ent, entn, if_some, if_pair, if_cons, if_int, if_long, if_ref, ite_self, gz_b, ↓icb, ↓icb2, b2i_ne, ge0, ge1, ge2, ge3, ge4, ge5, ge6, ge7, ge8, ge9, ge10, ge11, ge12, ge13, ge14, lit32, nI_add, pk_mul, clt_nI, cle_nI, cgt_nI, cge_nI, ceq_nI, cne_nI, inr_nI, nI_clamp, nI_eq, nI_leI, nI_ltI, k0, f0_0, k1_, c_refuse1, c_within, nI_toInt, hcA]
    · have hcA : (((bw x0 0 2 = false ∨ bw x1 0 9 = false) ∨ bw x2 0 99999999 = false) ∨ bw x3 0 4 = false) ∨ bw x4 0 9 = false := by
        cases e0 : bw x0 0 2 <;> cases e1 : bw x1 0 9 <;> cases e2 : bw x2 0 99999999 <;> cases e3 : bw x3 0 4 <;> cases e4 : bw x4 0 9 <;> simp_all
      simp -implicitDefEqProofs (disch := omega) [DX8_watch, EX8_watch, kp_, bsome, bnone, gi_s, gj_s, gr_s, gv_s, ik_, jk_, il_, jl_, rl_, i2_, i2_a, i2_b, j2_, j2_a, j2_b, i2d_, i2d_a, i2d_b, j2d_, j2d_a, j2d_b, i1_, i1_a, j1_, j1_a, i2l_, i2l_a, l2i_, l2i_a, fgi_, fgi_a, fgj_, fgj_a, fgr_, fgr_a, iald_, iald_a, iald_b, zald_, zald_a, zald_b, jald_, jald_a, jald_b, rald_, rald_a, rald_b, alen_, alen_a, sald_, sald_a, ic_, ic_a, jc_, jc_a, bc_, bc_a, bc_b, bj_, bj_a, bj_b, bz_, bz_a, band_, band_a, bor_, bor_a, bnot_, bnot_a, anil_, ai_, ai_a, ai_b, aj_, aj_a, aj_b, ar_, ar_a, ar_b, kb2i_, cvi_, cvi_a, cvi_b, cvj_, cvj_a, cvj_b, cvz_, cvz_a, cvz_b, csi_, csi_a, csj_, csj_a, csz_, csz_a, snop_, sseq_, sseq_n, sseq_s, sif_, sif_a, scut_, scut_a, ssi_, ssi_a, ssj_, ssj_a, ssr_, ssr_a, sinc_, sinc_a, sret_, sret_a, sretj_, sretj_a, sretv_, spop_, spop_a, kc_scv_, scv_, scv_a, scv_b, scs_, scs_a, fpi_, fpi_a, fpi_b, fpj_, fpj_a, fpj_b, foi_, foi_a, foi_b, foj_, foj_a, foj_b, aii_, aii_a, aii_b, aii_c, aiz_, aiz_a, aiz_b, aiz_c, aij_, aij_a, aij_b, aij_c, aoi_, aoi_a, aoi_b, aoi_c, aoj_, aoj_a, aoj_b, aoj_c, scopy_, scopy_a, scopy_b, scopy_c, scopy_d, scopy_e, ssw_, ssw_a, sel_n, sel_c, mfi_, mfi_a, mfj_, mfj_a, mfz_, mfz_a, kb_mfv_, mfv_, mfv_a, cut, lset, lset2, isL, Value.category, ent, entn, if_some, if_pair, if_cons, if_int, if_long, if_ref, ite_self, gz_b, ↓icb, ↓icb2, b2i_ne, ge0, ge1, ge2, ge3, ge4, ge5, ge6, ge7, ge8, ge9, ge10, ge11, ge12, ge13, ge14, lit32, nI_add, pk_mul, clt_nI, cle_nI, cgt_nI, cge_nI, ceq_nI, cne_nI, inr_nI, nI_clamp, nI_eq, nI_leI, nI_ltI, k492, f492_2, f492_3, f492_4, f492_5, f492_7, f492_8, f492_9, f492_10, k493, k494, k495, k496, k497, k498, k499, k500, l493, l494, l495, l496, l497, l498, l499, l500, r_refuse1', r_in, l_in2, hcA]
