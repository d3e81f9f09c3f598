/-! ===== the core of what holds between calls ===== -/
def ImgI (M : Me) : Prop := ∀ k, k < 2 → M.1 490 k = M.1 498 k ∧ (M.1 490 k = nI 0 ∨ (M.1 490 k = nI 1 ∧ ∃ nc nt np nw tm, Vx (fun i => M.1 497 (331 * k + i)) nc nt np nw tm ∧ Lr M (430 + 30 * k) (fun i => M.1 497 (331 * k + i)) nc nt np nw tm ∧ Nh M (430 + 30 * k)))
def StI (M : Me) : Prop := M.1 0 10 = M.1 492 1 ∧ M.1 491 0 = M.1 493 1 ∧ M.1 491 1 = M.1 493 2 ∧ M.1 491 2 = M.1 493 4 ∧ M.1 491 3 = M.1 493 5
def Core (M : Me) (nc nt np nw tm o u : Nat) : Prop := Vx (M.1 494) nc nt np nw tm ∧ Lr M 1 (M.1 494) nc nt np nw tm ∧ Nh M 1 ∧ PastAt M o u ∧ ImgI M ∧ StI M
set_option maxRecDepth 20000 in
theorem PastAt.frame {M N : Me} {o u : Nat} (h : PastAt M o u) (h1 : ∀ a, a = 126 ∨ (128 ≤ a ∧ a ≤ 428) ∨ a = 495 ∨ a = 496 → N.1 a = M.1 a) (h2 : N.1 492 6 = M.1 492 6) : PastAt N o u := by
  obtain ⟨p1, p2, p3, p4, p5, p6⟩ := h
  refine ⟨by rw [h1 126 (Or.inl rfl)]; exact p1, by rw [h1 126 (Or.inl rfl)]; exact p2, by rw [h2]; exact p3, p4, p5, fun j hj => ?_⟩
  obtain ⟨g1, a1, a2, a3, a4, a5, g2, g3, g4⟩ := p6 j hj
  have hs : (o + j) % 10 < 10 := Nat.mod_lt _ (by decide)
  have hb := g2.2.1
  refine ⟨by rw [h1 428 (by omega), h1 496 (by omega)]; exact g1, a1, a2, a3, a4, a5, ?_, ?_, ?_⟩
  · rw [h1 495 (by omega)]; exact g2
  · rw [h1 495 (by omega)]
    exact g3.frame hb.1 hb.2.1 hb.2.2.1 hb.2.2.2.1 (fun a z1 z2 => h1 a (by omega))
  · unfold Nh
    rw [h1 _ (by omega)]; exact g4
set_option maxRecDepth 20000 in
theorem ImgI.frame {M N : Me} (h : ImgI M) (h1 : ∀ a, (430 ≤ a ∧ a ≤ 490) ∨ a = 497 ∨ a = 498 → N.1 a = M.1 a) : ImgI N := by
  intro k hk
  obtain ⟨g1, g2⟩ := h k hk
  refine ⟨by rw [h1 490 (by omega), h1 498 (by omega)]; exact g1, ?_⟩
  rw [h1 490 (by omega), h1 497 (by omega)]
  rcases g2 with g2 | ⟨g2, a1, a2, a3, a4, a5, g3, g4, g5⟩
  · exact Or.inl g2
  · have hb := g3.2.1
    refine Or.inr ⟨g2, a1, a2, a3, a4, a5, g3, g4.frame hb.1 hb.2.1 hb.2.2.1 hb.2.2.2.1 (fun a z1 z2 => h1 a (by omega)), ?_⟩
    unfold Nh
    rw [h1 _ (by omega)]; exact g5
/-! all but the status: by the cells that it speaks of -/
set_option maxRecDepth 20000 in
theorem Core.frame {M N : Me} {nc nt np nw tm o u : Nat} (h : Core M nc nt np nw tm o u) (h1 : ∀ a, (1 ≤ a ∧ a < 31) ∨ a = 126 ∨ (128 ≤ a ∧ a ≤ 428) ∨ (430 ≤ a ∧ a ≤ 490) ∨ (494 ≤ a ∧ a ≤ 498) → N.1 a = M.1 a) (h2 : N.1 492 6 = M.1 492 6) (h3 : StI N) : Core N nc nt np nw tm o u := by
  obtain ⟨c1, c2, c3, c4, c5, -⟩ := h
  have hb := c1.2.1
  refine ⟨by rw [h1 494 (by omega)]; exact c1, ?_, ?_, c4.frame (fun a ha => h1 a (by omega)) h2, c5.frame (fun a ha => h1 a (by omega)), h3⟩
  · rw [h1 494 (by omega)]
    exact c2.frame hb.1 hb.2.1 hb.2.2.1 hb.2.2.2.1 (fun a z1 z2 => h1 a (by omega))
  · unfold Nh
    rw [h1 1 (by omega)]; exact c3
/-! the balance's cells are as they were -/
def BalSame (M N : Me) : Prop := ∀ a, 61 ≤ a → a ≤ 96 → N.1 a = M.1 a ∧ N.2 a = M.2 a
/-! a refused call -/
def rfC (M : Me) (k i : Nat) : Me := wi (wi M 0 10 (-(nI k))) 491 i (M.1 491 i + nI 1)
def rfR (M : Me) (k : Nat) : Me := wi (wi M 492 1 (-(nI k))) 493 k (M.1 493 k + nI 1)
set_option maxRecDepth 20000 in
theorem c_refuse1 {M : Me} : DX7_refuse [.ref 0, .int (-(nI 1))] M = some (-(nI 1), rfC M 1 0) := by
  have e : (-(nI 1)).toInt = -1 := by decide
  simp -implicitDefEqProofs (disch := omega) [DX7_refuse, EX7_refuse, kp_, bsome, bnone, gi_s, gj_s, gr_s, gv_s, ik_, jk_, il_, jl_, rl_, i2_, i2_a, i2_b, j2_, j2_a, j2_b, i2d_, i2d_a, i2d_b, j2d_, j2d_a, j2d_b, i1_, i1_a, j1_, j1_a, i2l_, i2l_a, l2i_, l2i_a, fgi_, fgi_a, fgj_, fgj_a, fgr_, fgr_a, iald_, iald_a, iald_b, zald_, zald_a, zald_b, jald_, jald_a, jald_b, rald_, rald_a, rald_b, alen_, alen_a, sald_, sald_a, ic_, ic_a, jc_, jc_a, bc_, bc_a, bc_b, bj_, bj_a, bj_b, bz_, bz_a, band_, band_a, bor_, bor_a, bnot_, bnot_a, anil_, ai_, ai_a, ai_b, aj_, aj_a, aj_b, ar_, ar_a, ar_b, kb2i_, cvi_, cvi_a, cvi_b, cvj_, cvj_a, cvj_b, cvz_, cvz_a, cvz_b, csi_, csi_a, csj_, csj_a, csz_, csz_a, snop_, sseq_, sseq_n, sseq_s, sif_, sif_a, scut_, scut_a, ssi_, ssi_a, ssj_, ssj_a, ssr_, ssr_a, sinc_, sinc_a, sret_, sret_a, sretj_, sretj_a, sretv_, spop_, spop_a, kc_scv_, scv_, scv_a, scv_b, scs_, scs_a, fpi_, fpi_a, fpi_b, fpj_, fpj_a, fpj_b, foi_, foi_a, foi_b, foj_, foj_a, foj_b, aii_, aii_a, aii_b, aii_c, aiz_, aiz_a, aiz_b, aiz_c, aij_, aij_a, aij_b, aij_c, aoi_, aoi_a, aoi_b, aoi_c, aoj_, aoj_a, aoj_b, aoj_c, scopy_, scopy_a, scopy_b, scopy_c, scopy_d, scopy_e, ssw_, ssw_a, sel_n, sel_c, mfi_, mfi_a, mfj_, mfj_a, mfz_, mfz_a, kb_mfv_, mfv_, mfv_a, cut, lset, lset2, isL, Value.category, ent, entn, if_some, if_pair, if_cons, if_int, if_long, if_ref, ite_self, gz_b, ↓icb, ↓icb2, b2i_ne, ge0, ge1, ge2, ge3, ge4, ge5, ge6, ge7, ge8, ge9, ge10, ge11, ge12, ge13, ge14, lit32, nI_add, pk_mul, clt_nI, cle_nI, cgt_nI, cge_nI, ceq_nI, cne_nI, inr_nI, nI_clamp, nI_eq, nI_leI, nI_ltI, e, k0, f0_9, k491, l491, rfC, wi_ne]
set_option maxRecDepth 20000 in
theorem c_refuse2 {M : Me} : DX7_refuse [.ref 0, .int (-(nI 2))] M = some (-(nI 2), rfC M 2 1) := by
  have e : (-(nI 2)).toInt = -2 := by decide
  simp -implicitDefEqProofs (disch := omega) [DX7_refuse, EX7_refuse, kp_, bsome, bnone, gi_s, gj_s, gr_s, gv_s, ik_, jk_, il_, jl_, rl_, i2_, i2_a, i2_b, j2_, j2_a, j2_b, i2d_, i2d_a, i2d_b, j2d_, j2d_a, j2d_b, i1_, i1_a, j1_, j1_a, i2l_, i2l_a, l2i_, l2i_a, fgi_, fgi_a, fgj_, fgj_a, fgr_, fgr_a, iald_, iald_a, iald_b, zald_, zald_a, zald_b, jald_, jald_a, jald_b, rald_, rald_a, rald_b, alen_, alen_a, sald_, sald_a, ic_, ic_a, jc_, jc_a, bc_, bc_a, bc_b, bj_, bj_a, bj_b, bz_, bz_a, band_, band_a, bor_, bor_a, bnot_, bnot_a, anil_, ai_, ai_a, ai_b, aj_, aj_a, aj_b, ar_, ar_a, ar_b, kb2i_, cvi_, cvi_a, cvi_b, cvj_, cvj_a, cvj_b, cvz_, cvz_a, cvz_b, csi_, csi_a, csj_, csj_a, csz_, csz_a, snop_, sseq_, sseq_n, sseq_s, sif_, sif_a, scut_, scut_a, ssi_, ssi_a, ssj_, ssj_a, ssr_, ssr_a, sinc_, sinc_a, sret_, sret_a, sretj_, sretj_a, sretv_, spop_, spop_a, kc_scv_, scv_, scv_a, scv_b, scs_, scs_a, fpi_, fpi_a, fpi_b, fpj_, fpj_a, fpj_b, foi_, foi_a, foi_b, foj_, foj_a, foj_b, aii_, aii_a, aii_b, aii_c, aiz_, aiz_a, aiz_b, aiz_c, aij_, aij_a, aij_b, aij_c, aoi_, aoi_a, aoi_b, aoi_c, aoj_, aoj_a, aoj_b, aoj_c, scopy_, scopy_a, scopy_b, scopy_c, scopy_d, scopy_e, ssw_, ssw_a, sel_n, sel_c, mfi_, mfi_a, mfj_, mfj_a, mfz_, mfz_a, kb_mfv_, mfv_, mfv_a, cut, lset, lset2, isL, Value.category, ent, entn, if_some, if_pair, if_cons, if_int, if_long, if_ref, ite_self, gz_b, ↓icb, ↓icb2, b2i_ne, ge0, ge1, ge2, ge3, ge4, ge5, ge6, ge7, ge8, ge9, ge10, ge11, ge12, ge13, ge14, lit32, nI_add, pk_mul, clt_nI, cle_nI, cgt_nI, cge_nI, ceq_nI, cne_nI, inr_nI, nI_clamp, nI_eq, nI_leI, nI_ltI, e, k0, f0_9, k491, l491, rfC, wi_ne]
set_option maxRecDepth 20000 in
theorem c_refuse4 {M : Me} : DX7_refuse [.ref 0, .int (-(nI 4))] M = some (-(nI 4), rfC M 4 2) := by
  have e : (-(nI 4)).toInt = -4 := by decide
  simp -implicitDefEqProofs (disch := omega) [DX7_refuse, EX7_refuse, kp_, bsome, bnone, gi_s, gj_s, gr_s, gv_s, ik_, jk_, il_, jl_, rl_, i2_, i2_a, i2_b, j2_, j2_a, j2_b, i2d_, i2d_a, i2d_b, j2d_, j2d_a, j2d_b, i1_, i1_a, j1_, j1_a, i2l_, i2l_a, l2i_, l2i_a, fgi_, fgi_a, fgj_, fgj_a, fgr_, fgr_a, iald_, iald_a, iald_b, zald_, zald_a, zald_b, jald_, jald_a, jald_b, rald_, rald_a, rald_b, alen_, alen_a, sald_, sald_a, ic_, ic_a, jc_, jc_a, bc_, bc_a, bc_b, bj_, bj_a, bj_b, bz_, bz_a, band_, band_a, bor_, bor_a, bnot_, bnot_a, anil_, ai_, ai_a, ai_b, aj_, aj_a, aj_b, ar_, ar_a, ar_b, kb2i_, cvi_, cvi_a, cvi_b, cvj_, cvj_a, cvj_b, cvz_, cvz_a, cvz_b, csi_, csi_a, csj_, csj_a, csz_, csz_a, snop_, sseq_, sseq_n, sseq_s, sif_, sif_a, scut_, scut_a, ssi_, ssi_a, ssj_, ssj_a, ssr_, ssr_a, sinc_, sinc_a, sret_, sret_a, sretj_, sretj_a, sretv_, spop_, spop_a, kc_scv_, scv_, scv_a, scv_b, scs_, scs_a, fpi_, fpi_a, fpi_b, fpj_, fpj_a, fpj_b, foi_, foi_a, foi_b, foj_, foj_a, foj_b, aii_, aii_a, aii_b, aii_c, aiz_, aiz_a, aiz_b, aiz_c, aij_, aij_a, aij_b, aij_c, aoi_, aoi_a, aoi_b, aoi_c, aoj_, aoj_a, aoj_b, aoj_c, scopy_, scopy_a, scopy_b, scopy_c, scopy_d, scopy_e, ssw_, ssw_a, sel_n, sel_c, mfi_, mfi_a, mfj_, mfj_a, mfz_, mfz_a, kb_mfv_, mfv_, mfv_a, cut, lset, lset2, isL, Value.category, ent, entn, if_some, if_pair, if_cons, if_int, if_long, if_ref, ite_self, gz_b, ↓icb, ↓icb2, b2i_ne, ge0, ge1, ge2, ge3, ge4, ge5, ge6, ge7, ge8, ge9, ge10, ge11, ge12, ge13, ge14, lit32, nI_add, pk_mul, clt_nI, cle_nI, cgt_nI, cge_nI, ceq_nI, cne_nI, inr_nI, nI_clamp, nI_eq, nI_leI, nI_ltI, e, k0, f0_9, k491, l491, rfC, wi_ne]
set_option maxRecDepth 20000 in
theorem c_refuse5 {M : Me} : DX7_refuse [.ref 0, .int (-(nI 5))] M = some (-(nI 5), rfC M 5 3) := by
  have e : (-(nI 5)).toInt = -5 := by decide
  simp -implicitDefEqProofs (disch := omega) [DX7_refuse, EX7_refuse, kp_, bsome, bnone, gi_s, gj_s, gr_s, gv_s, ik_, jk_, il_, jl_, rl_, i2_, i2_a, i2_b, j2_, j2_a, j2_b, i2d_, i2d_a, i2d_b, j2d_, j2d_a, j2d_b, i1_, i1_a, j1_, j1_a, i2l_, i2l_a, l2i_, l2i_a, fgi_, fgi_a, fgj_, fgj_a, fgr_, fgr_a, iald_, iald_a, iald_b, zald_, zald_a, zald_b, jald_, jald_a, jald_b, rald_, rald_a, rald_b, alen_, alen_a, sald_, sald_a, ic_, ic_a, jc_, jc_a, bc_, bc_a, bc_b, bj_, bj_a, bj_b, bz_, bz_a, band_, band_a, bor_, bor_a, bnot_, bnot_a, anil_, ai_, ai_a, ai_b, aj_, aj_a, aj_b, ar_, ar_a, ar_b, kb2i_, cvi_, cvi_a, cvi_b, cvj_, cvj_a, cvj_b, cvz_, cvz_a, cvz_b, csi_, csi_a, csj_, csj_a, csz_, csz_a, snop_, sseq_, sseq_n, sseq_s, sif_, sif_a, scut_, scut_a, ssi_, ssi_a, ssj_, ssj_a, ssr_, ssr_a, sinc_, sinc_a, sret_, sret_a, sretj_, sretj_a, sretv_, spop_, spop_a, kc_scv_, scv_, scv_a, scv_b, scs_, scs_a, fpi_, fpi_a, fpi_b, fpj_, fpj_a, fpj_b, foi_, foi_a, foi_b, foj_, foj_a, foj_b, aii_, aii_a, aii_b, aii_c, aiz_, aiz_a, aiz_b, aiz_c, aij_, aij_a, aij_b, aij_c, aoi_, aoi_a, aoi_b, aoi_c, aoj_, aoj_a, aoj_b, aoj_c, scopy_, scopy_a, scopy_b, scopy_c, scopy_d, scopy_e, ssw_, ssw_a, sel_n, sel_c, mfi_, mfi_a, mfj_, mfj_a, mfz_, mfz_a, kb_mfv_, mfv_, mfv_a, cut, lset, lset2, isL, Value.category, ent, entn, if_some, if_pair, if_cons, if_int, if_long, if_ref, ite_self, gz_b, ↓icb, ↓icb2, b2i_ne, ge0, ge1, ge2, ge3, ge4, ge5, ge6, ge7, ge8, ge9, ge10, ge11, ge12, ge13, ge14, lit32, nI_add, pk_mul, clt_nI, cle_nI, cgt_nI, cge_nI, ceq_nI, cne_nI, inr_nI, nI_clamp, nI_eq, nI_leI, nI_ltI, e, k0, f0_9, k491, l491, rfC, wi_ne]
set_option maxRecDepth 20000 in
theorem core_refuse {M : Me} {nc nt np nw tm o u k i : Nat} (h : Core M nc nt np nw tm o u) (hk : (k = 1 ∧ i = 0) ∨ (k = 2 ∧ i = 1) ∨ (k = 4 ∧ i = 2) ∨ (k = 5 ∧ i = 3)) : Core (rfR (wi (rfC M k i) 492 0 (nI 0)) k) nc nt np nw tm o u ∧ BalSame M (rfR (wi (rfC M k i) 492 0 (nI 0)) k) := by
  refine ⟨h.frame (fun a ha => ?_) ?_ ?_, fun a h1 h2 => ⟨?_, rfl⟩⟩
  · unfold rfR rfC
    rw [wi_ne (by omega), wi_ne (by omega), wi_ne (by omega), wi_ne (by omega), wi_ne (by omega)]
  · simp [rfR, rfC, wi]
  · obtain ⟨s1, s2, s3, s4, s5⟩ := h.2.2.2.2.2
    rcases hk with ⟨rfl, rfl⟩ | ⟨rfl, rfl⟩ | ⟨rfl, rfl⟩ | ⟨rfl, rfl⟩ <;> refine ⟨?_, ?_, ?_, ?_, ?_⟩ <;> simp [rfR, rfC, wi, s2, s3, s4, s5]
  · unfold rfR rfC
    rw [wi_ne (by omega), wi_ne (by omega), wi_ne (by omega), wi_ne (by omega), wi_ne (by omega)]
theorem r_refuse1' {M : Me} : DX8_refuse [.ref 492, .int (-(nI 1))] M = some (-(nI 1), rfR M 1) := r_refuse1
theorem r_refuse2' {M : Me} : DX8_refuse [.ref 492, .int (-(nI 2))] M = some (-(nI 2), rfR M 2) := r_refuse2
theorem r_refuse4' {M : Me} : DX8_refuse [.ref 492, .int (-(nI 4))] M = some (-(nI 4), rfR M 4) := r_refuse4
theorem r_refuse5' {M : Me} : DX8_refuse [.ref 492, .int (-(nI 5))] M = some (-(nI 5), rfR M 5) := r_refuse5
/-! an accepted call -/
set_option maxRecDepth 20000 in
theorem c_accept {M : Me} {nc nt np nw tm o u : Nat} (k : Int32) (h : Core M nc nt np nw tm o u) : ∃ Ma Mk, DX7_accept [.ref 0, .int k] M = some Ma ∧ DX3_keep [.ref 126, .ref 1, .int k] (wi M 0 10 (nI 0)) = some Mk ∧ Ma = Mk ∧ (∀ a, ¬ (a = 0 ∨ a = 126 ∨ (128 ≤ a ∧ a ≤ 428)) → Ma.1 a = M.1 a) ∧ Ma.2 = M.2 ∧ Ma.1 0 = (wi M 0 10 (nI 0)).1 0 := by
  obtain ⟨c1, c2, c3, c4, c5, c6⟩ := h
  obtain ⟨p1, p2, p3, p4, p5, p6⟩ := c4
  have hs : (o + u) % 10 < 10 := Nat.mod_lt _ (by decide)
  obtain ⟨Mc, q0, q1, q2, q3, q4, q5⟩ := c_keep (M := wi M 0 10 (nI 0)) (k := k) m1_ (fun i hi => by omega) (by rw [wi_ne (by decide)]; exact p1) (by rw [wi_ne (by decide)]; exact p2) p4 p5
  refine ⟨_, _, ?_, q1, rfl, fun a ha => ?_, ?_, ?_⟩
  · simp -implicitDefEqProofs (disch := omega) [DX7_accept, EX7_accept, kp_, bsome, bnone, gi_s, gj_s, gr_s, gv_s, ik_, jk_, il_, jl_, rl_, i2_, i2_a, i2_b, j2_, j2_a, j2_b, i2d_, i2d_a, i2d_b, j2d_, j2d_a, j2d_b, i1_, i1_a, j1_, j1_a, i2l_, i2l_a, l2i_, l2i_a, fgi_, fgi_a, fgj_, fgj_a, fgr_, fgr_a, iald_, iald_a, iald_b, zald_, zald_a, zald_b, jald_, jald_a, jald_b, rald_, rald_a, rald_b, alen_, alen_a, sald_, sald_a, ic_, ic_a, jc_, jc_a, bc_, bc_a, bc_b, bj_, bj_a, bj_b, bz_, bz_a, band_, band_a, bor_, bor_a, bnot_, bnot_a, anil_, ai_, ai_a, ai_b, aj_, aj_a, aj_b, ar_, ar_a, ar_b, kb2i_, cvi_, cvi_a, cvi_b, cvj_, cvj_a, cvj_b, cvz_, cvz_a, cvz_b, csi_, csi_a, csj_, csj_a, csz_, csz_a, snop_, sseq_, sseq_n, sseq_s, sif_, sif_a, scut_, scut_a, ssi_, ssi_a, ssj_, ssj_a, ssr_, ssr_a, sinc_, sinc_a, sret_, sret_a, sretj_, sretj_a, sretv_, spop_, spop_a, kc_scv_, scv_, scv_a, scv_b, scs_, scs_a, fpi_, fpi_a, fpi_b, fpj_, fpj_a, fpj_b, foi_, foi_a, foi_b, foj_, foj_a, foj_b, aii_, aii_a, aii_b, aii_c, aiz_, aiz_a, aiz_b, aiz_c, aij_, aij_a, aij_b, aij_c, aoi_, aoi_a, aoi_b, aoi_c, aoj_, aoj_a, aoj_b, aoj_c, scopy_, scopy_a, scopy_b, scopy_c, scopy_d, scopy_e, ssw_, ssw_a, sel_n, sel_c, mfi_, mfi_a, mfj_, mfj_a, mfz_, mfz_a, kb_mfv_, mfv_, mfv_a, cut, lset, lset2, isL, Value.category, ent, entn, if_some, if_pair, if_cons, if_int, if_long, if_ref, ite_self, gz_b, ↓icb, ↓icb2, b2i_ne, ge0, ge1, ge2, ge3, ge4, ge5, ge6, ge7, ge8, ge9, ge10, ge11, ge12, ge13, ge14, lit32, nI_add, pk_mul, clt_nI, cle_nI, cgt_nI, cge_nI, ceq_nI, cne_nI, inr_nI, nI_clamp, nI_eq, nI_leI, nI_ltI, k0, f0_0, f0_6, k126, k1_, q1]
  · have z : Mc.1 a = M.1 a := by rw [q2 a (by omega), wi_ne (by omega)]
    split
    · rw [wi_ne (by omega), wi_ne (by omega), z]
    · rw [wi_ne (by omega), wi_ne (by omega), z]
  · split <;> exact q3
  · have z : Mc.1 0 = (wi M 0 10 (nI 0)).1 0 := q2 0 (by omega)
    split
    · rw [wi_ne (by decide), wi_ne (by decide), z]
    · rw [wi_ne (by decide), wi_ne (by decide), z]
/-! behind an act: what its two sides must show -/
set_option maxRecDepth 20000 in
theorem core_act {M Ma M1 Nz M2 : Me} {nc nt np nw tm o u nc2 nt2 np2 nw2 tm2 : Nat} {k : Int32} (h : Core M nc nt np nw tm o u) (ha : DX7_accept [.ref 0, .int k] M = some Ma) (h1 : ∀ a, ¬ (1 ≤ a ∧ a < 31) → M1.1 a = Ma.1 a) (h1b : M1.2 = Ma.2) (hr : DX8_remember [.ref 492, .int k] (wi M1 492 0 (nI 0)) = some Nz) (h2 : ∀ a, a ≠ 492 → a ≠ 494 → M2.1 a = Nz.1 a) (h2b : M2.2 = Nz.2) (h3 : M2.1 492 1 = nI 0) (h4 : M2.1 492 6 = Nz.1 492 6) (hV : Vx (M2.1 494) nc2 nt2 np2 nw2 tm2) (hL : Lr M1 1 (M2.1 494) nc2 nt2 np2 nw2 tm2) (hN : Nh M1 1) (hkk : k ≠ -(nI 1) := by decide) : (∃ o2 u2, Core M2 nc2 nt2 np2 nw2 tm2 o2 u2) ∧ BalSame M M2 := by
  obtain ⟨Ma', Mk, e1, e2, e3, e4, e5, e6⟩ := c_accept k h
  rw [ha] at e1
  cases e1
  subst e3
  have hP : PastAt (wi M 0 10 (nI 0)) o u := h.2.2.2.1.frame (fun a z => wi_ne (by omega)) (by rw [wi_ne (by decide)])
  have hb := h.1.2.1
  obtain ⟨Nz', o2, u2, f1, f2, f3, f4, f5⟩ := past_keep (N := wi M1 492 0 (nI 0)) hP (by rw [wi_ne (by decide)]; exact h.1) (by rw [wi_ne (by decide)]; exact h.2.1.frame hb.1 hb.2.1 hb.2.2.1 hb.2.2.2.1 (fun a z1 z2 => wi_ne (by omega))) (by unfold Nh; rw [wi_ne (by decide)]; exact h.2.2.1) e2 (fun a z => by rw [wi_ne (by omega), h1 a (by omega)]) (by rw [wi_ns (by decide), h1 492 (by omega), e4 492 (by omega), wi_ne (by decide)]) (by rw [wi_ne (by decide), h1 494 (by omega), e4 494 (by omega), wi_ne (by decide)]) (by rw [wi_ne (by decide), h1 495 (by omega), e4 495 (by omega), wi_ne (by decide)]) (by rw [wi_ne (by decide), h1 496 (by omega), e4 496 (by omega), wi_ne (by decide)]) hkk
  rw [hr] at f1
  cases f1
  have hb2 := hV.2.1
  have key : ∀ a, a ≠ 492 → a ≠ 494 → a ≠ 495 → a ≠ 496 → M2.1 a = M1.1 a := fun a z1 z2 z3 z4 => by rw [h2 a z1 z2, f3 a z1 z3 z4, wi_ne z1]
  have key2 : ∀ a, ¬ (1 ≤ a ∧ a < 31) → ¬ (a = 0 ∨ a = 126 ∨ (128 ≤ a ∧ a ≤ 428)) → a ≠ 492 → a ≠ 494 → a ≠ 495 → a ≠ 496 → M2.1 a = M.1 a := fun a y1 y2 z1 z2 z3 z4 => by rw [key a z1 z2 z3 z4, h1 a y1, e4 a y2]
  refine ⟨⟨o2, u2, hV, hL.frame hb2.1 hb2.2.1 hb2.2.2.1 hb2.2.2.2.1 (fun a z1 z2 => key a (by omega) (by omega) (by omega) (by omega)), ?_, f2.frame (fun a z => h2 a (by omega) (by omega)) h4, h.2.2.2.2.1.frame (fun a z => key2 a (by omega) (by omega) (by omega) (by omega) (by omega) (by omega)), ?_⟩, fun a z1 z2 => ⟨key2 a (by omega) (by omega) (by omega) (by omega) (by omega) (by omega), ?_⟩⟩
  · unfold Nh
    rw [key 1 (by decide) (by decide) (by decide) (by decide)]; exact hN
  · obtain ⟨s1, s2, s3, s4, s5⟩ := h.2.2.2.2.2
    refine ⟨?_, ?_, ?_, ?_, ?_⟩
    · rw [key 0 (by decide) (by decide) (by decide) (by decide), h1 0 (by omega), e6, h3]; simp [wi]
    all_goals rw [key2 491 (by omega) (by omega) (by omega) (by omega) (by omega) (by omega), key2 493 (by omega) (by omega) (by omega) (by omega) (by omega) (by omega)]
    · exact s2
    · exact s3
    · exact s4
    · exact s5
  · rw [h2b, f5]
    show M1.2 a = _
    rw [h1b, e5]
