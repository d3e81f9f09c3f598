/-! ===== the past: lines kept, rows kept ===== -/
/-! what can be undone: the class's lines against the reference's rows -/
def PastAt (M : Me) (o u : Nat) : Prop := M.1 126 2 = nI o ∧ M.1 126 3 = nI u ∧ M.1 492 6 = nI u ∧ o < 10 ∧ u ≤ 10 ∧ ∀ j, j < u → (M.1 428 ((o + j) % 10) = M.1 496 j ∧ M.1 428 ((o + j) % 10) ≠ -(nI 1)) ∧ ∃ nc nt np nw tm, Vx (fun i => M.1 495 (331 * j + i)) nc nt np nw tm ∧ Lr M (128 + 30 * ((o + j) % 10)) (fun i => M.1 495 (331 * j + i)) nc nt np nw tm ∧ Nh M (128 + 30 * ((o + j) % 10))
set_option maxRecDepth 20000 in
theorem c_keep {M : Me} {o u b : Nat} {k : Int32} (hb : b ∈ lnb) (hnb : ∀ i, i < 10 → b ≠ 128 + 30 * i) (h1 : M.1 126 2 = nI o) (h2 : M.1 126 3 = nI u) (ho : o < 10) (hu : u ≤ 10) : ∃ Mc, DX1_copyFrom [.ref (128 + 30 * ((o + u) % 10)), .ref b] M = some Mc ∧ DX3_keep [.ref 126, .ref b, .int k] M = some (if u < 10 then wi (wi Mc 428 ((o + u) % 10) k) 126 3 (nI (u + 1)) else wi (wi Mc 428 ((o + u) % 10) k) 126 2 (nI ((o + 1) % 10))) ∧ (∀ a, a < 128 + 30 * ((o + u) % 10) ∨ 128 + 30 * ((o + u) % 10) + 30 ≤ a → Mc.1 a = M.1 a) ∧ Mc.2 = M.2 ∧ (Nh M b → Nh Mc (128 + 30 * ((o + u) % 10))) ∧ ∀ X nc nt np nw tm, nc ≤ 5 → nt ≤ 10 → np ≤ 3 → nw ≤ 6 → Lr M b X nc nt np nw tm → Lr Mc (128 + 30 * ((o + u) % 10)) X nc nt np nw tm := by
  have hs : (o + u) % 10 < 10 := Nat.mod_lt _ (by decide)
  obtain ⟨Mc, e1, e2, e3, e4, e5⟩ := c_copyLine (M := M) (mPast _ hs) hb (Ne.symm (hnb _ hs))
  refine ⟨Mc, e1, ?_, e2, e3, e4, e5⟩
  have g1 : Mc.1 126 = M.1 126 := e2 126 (by omega)
  have m1 : nI (o + u) - nI (o + u) / nI 10 * nI 10 = nI ((o + u) % 10) := pk_rem (by omega) (by decide) (by decide)
  have m2 : nI (o + 1) - nI (o + 1) / nI 10 * nI 10 = nI ((o + 1) % 10) := pk_rem (by omega) (by decide) (by decide)
  by_cases hu2 : u < 10
  · simp -implicitDefEqProofs (disch := omega) [DX3_keep, EX3_keep, kp_, bsome, bnone, gi_s, gj_s, gr_s, gv_s, ik_, jk_, il_, jl_, rl_, i2_, i2_a, i2_b, j2_, j2_a, j2_b, i2d_, i2d_a, i2d_b, j2d_, j2d_a, j2d_b, i1_, i1_a, j1_, j1_a, i2l_, i2l_a, l2i_, l2i_a, fgi_, fgi_a, fgj_, fgj_a, fgr_, fgr_a, iald_, iald_a, iald_b, zald_, zald_a, zald_b, jald_, jald_a, jald_b, rald_, rald_a, rald_b, alen_, alen_a, sald_, sald_a, ic_, ic_a, jc_, jc_a, bc_, bc_a, bc_b, bj_, bj_a, bj_b, bz_, bz_a, band_, band_a, bor_, bor_a, bnot_, bnot_a, anil_, ai_, ai_a, ai_b, aj_, aj_a, aj_b, ar_, ar_a, ar_b, kb2i_, cvi_, cvi_a, cvi_b, cvj_, cvj_a, cvj_b, cvz_, cvz_a, cvz_b, csi_, csi_a, csj_, csj_a, csz_, csz_a, snop_, sseq_, sseq_n, sseq_s, sif_, sif_a, scut_, scut_a, ssi_, ssi_a, ssj_, ssj_a, ssr_, ssr_a, sinc_, sinc_a, sret_, sret_a, sretj_, sretj_a, sretv_, spop_, spop_a, kc_scv_, scv_, scv_a, scv_b, scs_, scs_a, fpi_, fpi_a, fpi_b, fpj_, fpj_a, fpj_b, foi_, foi_a, foi_b, foj_, foj_a, foj_b, aii_, aii_a, aii_b, aii_c, aiz_, aiz_a, aiz_b, aiz_c, aij_, aij_a, aij_b, aij_c, aoi_, aoi_a, aoi_b, aoi_c, aoj_, aoj_a, aoj_b, aoj_c, scopy_, scopy_a, scopy_b, scopy_c, scopy_d, scopy_e, ssw_, ssw_a, sel_n, sel_c, mfi_, mfi_a, mfj_, mfj_a, mfz_, mfz_a, kb_mfv_, mfv_, mfv_a, cut, lset, lset2, isL, Value.category, ent, entn, if_some, if_pair, if_cons, if_int, if_long, if_ref, ite_self, gz_b, ↓icb, ↓icb2, b2i_ne, ge0, ge1, ge2, ge3, ge4, ge5, ge6, ge7, ge8, ge9, ge10, ge11, ge12, ge13, ge14, lit32, nI_add, pk_mul, clt_nI, cle_nI, cgt_nI, cge_nI, ceq_nI, cne_nI, inr_nI, nI_clamp, nI_eq, nI_leI, nI_ltI, k126, f126_0, f126_1, k127, l127, f127, k428, l428, h1, h2, e1, orem, m1, m2, hu2, g1, wi_ne, a_kb hb, a_kb (mPast _ hs)]
  · simp -implicitDefEqProofs (disch := omega) [DX3_keep, EX3_keep, kp_, bsome, bnone, gi_s, gj_s, gr_s, gv_s, ik_, jk_, il_, jl_, rl_, i2_, i2_a, i2_b, j2_, j2_a, j2_b, i2d_, i2d_a, i2d_b, j2d_, j2d_a, j2d_b, i1_, i1_a, j1_, j1_a, i2l_, i2l_a, l2i_, l2i_a, fgi_, fgi_a, fgj_, fgj_a, fgr_, fgr_a, iald_, iald_a, iald_b, zald_, zald_a, zald_b, jald_, jald_a, jald_b, rald_, rald_a, rald_b, alen_, alen_a, sald_, sald_a, ic_, ic_a, jc_, jc_a, bc_, bc_a, bc_b, bj_, bj_a, bj_b, bz_, bz_a, band_, band_a, bor_, bor_a, bnot_, bnot_a, anil_, ai_, ai_a, ai_b, aj_, aj_a, aj_b, ar_, ar_a, ar_b, kb2i_, cvi_, cvi_a, cvi_b, cvj_, cvj_a, cvj_b, cvz_, cvz_a, cvz_b, csi_, csi_a, csj_, csj_a, csz_, csz_a, snop_, sseq_, sseq_n, sseq_s, sif_, sif_a, scut_, scut_a, ssi_, ssi_a, ssj_, ssj_a, ssr_, ssr_a, sinc_, sinc_a, sret_, sret_a, sretj_, sretj_a, sretv_, spop_, spop_a, kc_scv_, scv_, scv_a, scv_b, scs_, scs_a, fpi_, fpi_a, fpi_b, fpj_, fpj_a, fpj_b, foi_, foi_a, foi_b, foj_, foj_a, foj_b, aii_, aii_a, aii_b, aii_c, aiz_, aiz_a, aiz_b, aiz_c, aij_, aij_a, aij_b, aij_c, aoi_, aoi_a, aoi_b, aoi_c, aoj_, aoj_a, aoj_b, aoj_c, scopy_, scopy_a, scopy_b, scopy_c, scopy_d, scopy_e, ssw_, ssw_a, sel_n, sel_c, mfi_, mfi_a, mfj_, mfj_a, mfz_, mfz_a, kb_mfv_, mfv_, mfv_a, cut, lset, lset2, isL, Value.category, ent, entn, if_some, if_pair, if_cons, if_int, if_long, if_ref, ite_self, gz_b, ↓icb, ↓icb2, b2i_ne, ge0, ge1, ge2, ge3, ge4, ge5, ge6, ge7, ge8, ge9, ge10, ge11, ge12, ge13, ge14, lit32, nI_add, pk_mul, clt_nI, cle_nI, cgt_nI, cge_nI, ceq_nI, cne_nI, inr_nI, nI_clamp, nI_eq, nI_leI, nI_ltI, k126, f126_0, f126_1, k127, l127, f127, k428, l428, h1, h2, e1, orem, m1, m2, hu2, g1, wi_ne, a_kb hb, a_kb (mPast _ hs)]
/-! the reference -/
def shR (M : Me) (a d n : Nat) : Me := (fun q j => if q = a ∧ j < n then M.1 a (j + d) else M.1 q j, M.2)
set_option maxRecDepth 20000 in
theorem shR_0 {M : Me} {a d : Nat} : shR M a d 0 = M := by
  unfold shR
  have : (fun q j => if q = a ∧ j < 0 then M.1 a (j + d) else M.1 q j) = M.1 := by
    funext q j
    rw [if_neg (by omega)]
  rw [this]
set_option maxRecDepth 20000 in
theorem shR_s {M : Me} {a d n : Nat} : wi (shR M a d n) a n ((shR M a d n).1 a (n + d)) = shR M a d (n + 1) := by
  unfold shR wi
  simp only [Prod.mk.injEq, and_true]
  funext q j
  by_cases e1 : q = a
  · subst e1
    by_cases e2 : j = n
    · subst e2
      simp
      intro h
      exfalso
      omega
    · simp only [e2, and_false, if_false, true_and]
      by_cases e3 : j < n
      · rw [if_pos e3, if_pos (by omega)]
      · rw [if_neg e3, if_neg (by omega)]
  · simp [e1]
set_option maxRecDepth 20000 in
theorem shR_ne {M : Me} {a d n q : Nat} (h : q ≠ a) : (shR M a d n).1 q = M.1 q := by
  funext j
  simp [shR, h]
theorem shR_in {M : Me} {a d n j : Nat} (h : j < n) : (shR M a d n).1 a j = M.1 a (j + d) := by simp [shR, h]
set_option maxRecDepth 20000 in
theorem cpR_ne {M : Me} {a x b y n q : Nat} (h : q ≠ b) : (cpR M a x b y n).1 q = M.1 q := by
  funext j
  simp [cpR, h]
set_option maxRecDepth 20000 in
theorem cpR_in {M : Me} {a x b y n i : Nat} (h : i < n) : (cpR M a x b y n).1 b (y + i) = M.1 a (x + i) := by
  simp only [cpR]
  rw [if_pos ⟨trivial, by omega, by omega⟩, Nat.add_sub_cancel_left]
set_option maxRecDepth 20000 in
theorem cpR_out {M : Me} {a x b y n j : Nat} (h : j < y ∨ y + n ≤ j) : (cpR M a x b y n).1 b j = M.1 b j := by
  simp only [cpR]
  rw [if_neg (by omega)]
theorem rc1 {M : Me} {y : Nat} (hy : y + 331 ≤ 3310) : DX8_copy [.ref 494, .int (nI 0), .ref 495, .int (nI y)] M = some (cpR M 494 0 495 y 331) := r_copy k494 k495 (by rw [l494]; decide) (by rw [l495]; exact hy) (by rw [l494]; decide) (by rw [l495]; decide) (by decide)
theorem rc2 {M : Me} {y : Nat} (hy : y + 331 ≤ 3310) : DX8_copy [.ref 495, .int (nI y), .ref 494, .int (nI 0)] M = some (cpR M 495 y 494 0 331) := r_copy k495 k494 (by rw [l495]; exact hy) (by rw [l494]; decide) (by rw [l495]; decide) (by rw [l494]; decide) (by decide)
theorem rc3 {M : Me} {y : Nat} (hy : y + 331 ≤ 662) : DX8_copy [.ref 494, .int (nI 0), .ref 497, .int (nI y)] M = some (cpR M 494 0 497 y 331) := r_copy k494 k497 (by rw [l494]; decide) (by rw [l497]; exact hy) (by rw [l494]; decide) (by rw [l497]; decide) (by decide)
theorem rc4 {M : Me} {y : Nat} (hy : y + 331 ≤ 662) : DX8_copy [.ref 497, .int (nI y), .ref 494, .int (nI 0)] M = some (cpR M 497 y 494 0 331) := r_copy k497 k494 (by rw [l497]; exact hy) (by rw [l494]; decide) (by rw [l497]; decide) (by rw [l494]; decide) (by decide)
theorem rc5 {M : Me} : DX8_copy [.ref 494, .int (nI 0), .ref 499, .int (nI 0)] M = some (cpR M 494 0 499 0 331) := r_copy k494 k499 (by rw [l494]; decide) (by rw [l499]; decide) (by rw [l494]; decide) (by rw [l499]; decide) (by decide)
theorem rc6 {M : Me} : DX8_copy [.ref 499, .int (nI 0), .ref 494, .int (nI 0)] M = some (cpR M 499 0 494 0 331) := r_copy k499 k494 (by rw [l499]; decide) (by rw [l494]; decide) (by rw [l499]; decide) (by rw [l494]; decide) (by decide)
set_option maxRecDepth 20000 in
theorem r_remember {M : Me} {u : Nat} {k : Int32} (h1 : M.1 492 6 = nI u) (hu : u ≤ 10) : DX8_remember [.ref 492, .int k] M = some (if u = 10 then wi (wi (cpR (wi (shR (shR M 495 331 2979) 496 1 9) 492 6 (nI 9)) 494 0 495 2979 331) 496 9 k) 492 6 (nI 10) else wi (wi (cpR M 494 0 495 (331 * u) 331) 496 u k) 492 6 (nI (u + 1))) := by
  by_cases hu2 : u = 10
  · subst hu2
    have l1 : swh qX8_remember_1 wX8_remember_1 [.ref 492, .int k, .int (nI 0)] M = some (none, [.ref 492, .int k, .int (nI 2979)], shR M 495 331 2979) := by
      have := swh_count (c := qX8_remember_1) (b := wX8_remember_1) (fun i => [.ref 492, .int k, .int (nI i)]) (fun i => shR M 495 331 i) 2979
        (fun i hi => by simp -implicitDefEqProofs (disch := omega) [qX8_remember_1, kp_, bsome, bnone, gi_s, gj_s, gr_s, gv_s, ik_, jk_, il_, jl_, rl_, i2_, i2_a, i2_b, j2_, j2_a, j2_b, i2d_, i2d_a, i2d_b, j2d_, j2d_a, j2d_b, i1_, i1_a, j1_, j1_a, i2l_, i2l_a, l2i_, l2i_a, fgi_, fgi_a, fgj_, fgj_a, fgr_, fgr_a, iald_, iald_a, iald_b, zald_, zald_a, zald_b, jald_, jald_a, jald_b, rald_, rald_a, rald_b, alen_, alen_a, sald_, sald_a, ic_, ic_a, jc_, jc_a, bc_, bc_a, bc_b, bj_, bj_a, bj_b, bz_, bz_a, band_, band_a, bor_, bor_a, bnot_, bnot_a, anil_, ai_, ai_a, ai_b, aj_, aj_a, aj_b, ar_, ar_a, ar_b, kb2i_, cvi_, cvi_a, cvi_b, cvj_, cvj_a, cvj_b, cvz_, cvz_a, cvz_b, csi_, csi_a, csj_, csj_a, csz_, csz_a, snop_, sseq_, sseq_n, sseq_s, sif_, sif_a, scut_, scut_a, ssi_, ssi_a, ssj_, ssj_a, ssr_, ssr_a, sinc_, sinc_a, sret_, sret_a, sretj_, sretj_a, sretv_, spop_, spop_a, kc_scv_, scv_, scv_a, scv_b, scs_, scs_a, fpi_, fpi_a, fpi_b, fpj_, fpj_a, fpj_b, foi_, foi_a, foi_b, foj_, foj_a, foj_b, aii_, aii_a, aii_b, aii_c, aiz_, aiz_a, aiz_b, aiz_c, aij_, aij_a, aij_b, aij_c, aoi_, aoi_a, aoi_b, aoi_c, aoj_, aoj_a, aoj_b, aoj_c, scopy_, scopy_a, scopy_b, scopy_c, scopy_d, scopy_e, ssw_, ssw_a, sel_n, sel_c, mfi_, mfi_a, mfj_, mfj_a, mfz_, mfz_a, kb_mfv_, mfv_, mfv_a, cut, lset, lset2, isL, Value.category, ent, entn, if_some, if_pair, if_cons, if_int, if_long, if_ref, ite_self, gz_b, ↓icb, ↓icb2, b2i_ne, ge0, ge1, ge2, ge3, ge4, ge5, ge6, ge7, ge8, ge9, ge10, ge11, ge12, ge13, ge14, lit32, nI_add, pk_mul, clt_nI, cle_nI, cgt_nI, cge_nI, ceq_nI, cne_nI, inr_nI, nI_clamp, nI_eq, nI_leI, nI_ltI, k492, f492_2, f492_3, f492_4, f492_5, f492_7, f492_8, f492_9, f492_10, k493, k494, k495, k496, k497, k498, k499, k500, l493, l494, l495, l496, l497, l498, l499, l500, hi])
        (fun i hi => by simp -implicitDefEqProofs (disch := omega) [wX8_remember_1, kp_, bsome, bnone, gi_s, gj_s, gr_s, gv_s, ik_, jk_, il_, jl_, rl_, i2_, i2_a, i2_b, j2_, j2_a, j2_b, i2d_, i2d_a, i2d_b, j2d_, j2d_a, j2d_b, i1_, i1_a, j1_, j1_a, i2l_, i2l_a, l2i_, l2i_a, fgi_, fgi_a, fgj_, fgj_a, fgr_, fgr_a, iald_, iald_a, iald_b, zald_, zald_a, zald_b, jald_, jald_a, jald_b, rald_, rald_a, rald_b, alen_, alen_a, sald_, sald_a, ic_, ic_a, jc_, jc_a, bc_, bc_a, bc_b, bj_, bj_a, bj_b, bz_, bz_a, band_, band_a, bor_, bor_a, bnot_, bnot_a, anil_, ai_, ai_a, ai_b, aj_, aj_a, aj_b, ar_, ar_a, ar_b, kb2i_, cvi_, cvi_a, cvi_b, cvj_, cvj_a, cvj_b, cvz_, cvz_a, cvz_b, csi_, csi_a, csj_, csj_a, csz_, csz_a, snop_, sseq_, sseq_n, sseq_s, sif_, sif_a, scut_, scut_a, ssi_, ssi_a, ssj_, ssj_a, ssr_, ssr_a, sinc_, sinc_a, sret_, sret_a, sretj_, sretj_a, sretv_, spop_, spop_a, kc_scv_, scv_, scv_a, scv_b, scs_, scs_a, fpi_, fpi_a, fpi_b, fpj_, fpj_a, fpj_b, foi_, foi_a, foi_b, foj_, foj_a, foj_b, aii_, aii_a, aii_b, aii_c, aiz_, aiz_a, aiz_b, aiz_c, aij_, aij_a, aij_b, aij_c, aoi_, aoi_a, aoi_b, aoi_c, aoj_, aoj_a, aoj_b, aoj_c, scopy_, scopy_a, scopy_b, scopy_c, scopy_d, scopy_e, ssw_, ssw_a, sel_n, sel_c, mfi_, mfi_a, mfj_, mfj_a, mfz_, mfz_a, kb_mfv_, mfv_, mfv_a, cut, lset, lset2, isL, Value.category, ent, entn, if_some, if_pair, if_cons, if_int, if_long, if_ref, ite_self, gz_b, ↓icb, ↓icb2, b2i_ne, ge0, ge1, ge2, ge3, ge4, ge5, ge6, ge7, ge8, ge9, ge10, ge11, ge12, ge13, ge14, lit32, nI_add, pk_mul, clt_nI, cle_nI, cgt_nI, cge_nI, ceq_nI, cne_nI, inr_nI, nI_clamp, nI_eq, nI_leI, nI_ltI, k492, f492_2, f492_3, f492_4, f492_5, f492_7, f492_8, f492_9, f492_10, k493, k494, k495, k496, k497, k498, k499, k500, l493, l494, l495, l496, l497, l498, l499, l500, ← shR_s])
        (by simp -implicitDefEqProofs (disch := omega) [qX8_remember_1, kp_, bsome, bnone, gi_s, gj_s, gr_s, gv_s, ik_, jk_, il_, jl_, rl_, i2_, i2_a, i2_b, j2_, j2_a, j2_b, i2d_, i2d_a, i2d_b, j2d_, j2d_a, j2d_b, i1_, i1_a, j1_, j1_a, i2l_, i2l_a, l2i_, l2i_a, fgi_, fgi_a, fgj_, fgj_a, fgr_, fgr_a, iald_, iald_a, iald_b, zald_, zald_a, zald_b, jald_, jald_a, jald_b, rald_, rald_a, rald_b, alen_, alen_a, sald_, sald_a, ic_, ic_a, jc_, jc_a, bc_, bc_a, bc_b, bj_, bj_a, bj_b, bz_, bz_a, band_, band_a, bor_, bor_a, bnot_, bnot_a, anil_, ai_, ai_a, ai_b, aj_, aj_a, aj_b, ar_, ar_a, ar_b, kb2i_, cvi_, cvi_a, cvi_b, cvj_, cvj_a, cvj_b, cvz_, cvz_a, cvz_b, csi_, csi_a, csj_, csj_a, csz_, csz_a, snop_, sseq_, sseq_n, sseq_s, sif_, sif_a, scut_, scut_a, ssi_, ssi_a, ssj_, ssj_a, ssr_, ssr_a, sinc_, sinc_a, sret_, sret_a, sretj_, sretj_a, sretv_, spop_, spop_a, kc_scv_, scv_, scv_a, scv_b, scs_, scs_a, fpi_, fpi_a, fpi_b, fpj_, fpj_a, fpj_b, foi_, foi_a, foi_b, foj_, foj_a, foj_b, aii_, aii_a, aii_b, aii_c, aiz_, aiz_a, aiz_b, aiz_c, aij_, aij_a, aij_b, aij_c, aoi_, aoi_a, aoi_b, aoi_c, aoj_, aoj_a, aoj_b, aoj_c, scopy_, scopy_a, scopy_b, scopy_c, scopy_d, scopy_e, ssw_, ssw_a, sel_n, sel_c, mfi_, mfi_a, mfj_, mfj_a, mfz_, mfz_a, kb_mfv_, mfv_, mfv_a, cut, lset, lset2, isL, Value.category, ent, entn, if_some, if_pair, if_cons, if_int, if_long, if_ref, ite_self, gz_b, ↓icb, ↓icb2, b2i_ne, ge0, ge1, ge2, ge3, ge4, ge5, ge6, ge7, ge8, ge9, ge10, ge11, ge12, ge13, ge14, lit32, nI_add, pk_mul, clt_nI, cle_nI, cgt_nI, cge_nI, ceq_nI, cne_nI, inr_nI, nI_clamp, nI_eq, nI_leI, nI_ltI, k492, f492_2, f492_3, f492_4, f492_5, f492_7, f492_8, f492_9, f492_10, k493, k494, k495, k496, k497, k498, k499, k500, l493, l494, l495, l496, l497, l498, l499, l500])
      rwa [shR_0] at this
    have l2 : ∀ N : Me, swh qX8_remember_2 wX8_remember_2 [.ref 492, .int k, .int (nI 0)] N = some (none, [.ref 492, .int k, .int (nI 9)], shR N 496 1 9) := by
      intro N
      have := swh_count (c := qX8_remember_2) (b := wX8_remember_2) (fun i => [.ref 492, .int k, .int (nI i)]) (fun i => shR N 496 1 i) 9
        (fun i hi => by simp -implicitDefEqProofs (disch := omega) [qX8_remember_2, kp_, bsome, bnone, gi_s, gj_s, gr_s, gv_s, ik_, jk_, il_, jl_, rl_, i2_, i2_a, i2_b, j2_, j2_a, j2_b, i2d_, i2d_a, i2d_b, j2d_, j2d_a, j2d_b, i1_, i1_a, j1_, j1_a, i2l_, i2l_a, l2i_, l2i_a, fgi_, fgi_a, fgj_, fgj_a, fgr_, fgr_a, iald_, iald_a, iald_b, zald_, zald_a, zald_b, jald_, jald_a, jald_b, rald_, rald_a, rald_b, alen_, alen_a, sald_, sald_a, ic_, ic_a, jc_, jc_a, bc_, bc_a, bc_b, bj_, bj_a, bj_b, bz_, bz_a, band_, band_a, bor_, bor_a, bnot_, bnot_a, anil_, ai_, ai_a, ai_b, aj_, aj_a, aj_b, ar_, ar_a, ar_b, kb2i_, cvi_, cvi_a, cvi_b, cvj_, cvj_a, cvj_b, cvz_, cvz_a, cvz_b, csi_, csi_a, csj_, csj_a, csz_, csz_a, snop_, sseq_, sseq_n, sseq_s, sif_, sif_a, scut_, scut_a, ssi_, ssi_a, ssj_, ssj_a, ssr_, ssr_a, sinc_, sinc_a, sret_, sret_a, sretj_, sretj_a, sretv_, spop_, spop_a, kc_scv_, scv_, scv_a, scv_b, scs_, scs_a, fpi_, fpi_a, fpi_b, fpj_, fpj_a, fpj_b, foi_, foi_a, foi_b, foj_, foj_a, foj_b, aii_, aii_a, aii_b, aii_c, aiz_, aiz_a, aiz_b, aiz_c, aij_, aij_a, aij_b, aij_c, aoi_, aoi_a, aoi_b, aoi_c, aoj_, aoj_a, aoj_b, aoj_c, scopy_, scopy_a, scopy_b, scopy_c, scopy_d, scopy_e, ssw_, ssw_a, sel_n, sel_c, mfi_, mfi_a, mfj_, mfj_a, mfz_, mfz_a, kb_mfv_, mfv_, mfv_a, cut, lset, lset2, isL, Value.category, ent, entn, if_some, if_pair, if_cons, if_int, if_long, if_ref, ite_self, gz_b, ↓icb, ↓icb2, b2i_ne, ge0, ge1, ge2, ge3, ge4, ge5, ge6, ge7, ge8, ge9, ge10, ge11, ge12, ge13, ge14, lit32, nI_add, pk_mul, clt_nI, cle_nI, cgt_nI, cge_nI, ceq_nI, cne_nI, inr_nI, nI_clamp, nI_eq, nI_leI, nI_ltI, k492, f492_2, f492_3, f492_4, f492_5, f492_7, f492_8, f492_9, f492_10, k493, k494, k495, k496, k497, k498, k499, k500, l493, l494, l495, l496, l497, l498, l499, l500, hi])
        (fun i hi => by simp -implicitDefEqProofs (disch := omega) [wX8_remember_2, kp_, bsome, bnone, gi_s, gj_s, gr_s, gv_s, ik_, jk_, il_, jl_, rl_, i2_, i2_a, i2_b, j2_, j2_a, j2_b, i2d_, i2d_a, i2d_b, j2d_, j2d_a, j2d_b, i1_, i1_a, j1_, j1_a, i2l_, i2l_a, l2i_, l2i_a, fgi_, fgi_a, fgj_, fgj_a, fgr_, fgr_a, iald_, iald_a, iald_b, zald_, zald_a, zald_b, jald_, jald_a, jald_b, rald_, rald_a, rald_b, alen_, alen_a, sald_, sald_a, ic_, ic_a, jc_, jc_a, bc_, bc_a, bc_b, bj_, bj_a, bj_b, bz_, bz_a, band_, band_a, bor_, bor_a, bnot_, bnot_a, anil_, ai_, ai_a, ai_b, aj_, aj_a, aj_b, ar_, ar_a, ar_b, kb2i_, cvi_, cvi_a, cvi_b, cvj_, cvj_a, cvj_b, cvz_, cvz_a, cvz_b, csi_, csi_a, csj_, csj_a, csz_, csz_a, snop_, sseq_, sseq_n, sseq_s, sif_, sif_a, scut_, scut_a, ssi_, ssi_a, ssj_, ssj_a, ssr_, ssr_a, sinc_, sinc_a, sret_, sret_a, sretj_, sretj_a, sretv_, spop_, spop_a, kc_scv_, scv_, scv_a, scv_b, scs_, scs_a, fpi_, fpi_a, fpi_b, fpj_, fpj_a, fpj_b, foi_, foi_a, foi_b, foj_, foj_a, foj_b, aii_, aii_a, aii_b, aii_c, aiz_, aiz_a, aiz_b, aiz_c, aij_, aij_a, aij_b, aij_c, aoi_, aoi_a, aoi_b, aoi_c, aoj_, aoj_a, aoj_b, aoj_c, scopy_, scopy_a, scopy_b, scopy_c, scopy_d, scopy_e, ssw_, ssw_a, sel_n, sel_c, mfi_, mfi_a, mfj_, mfj_a, mfz_, mfz_a, kb_mfv_, mfv_, mfv_a, cut, lset, lset2, isL, Value.category, ent, entn, if_some, if_pair, if_cons, if_int, if_long, if_ref, ite_self, gz_b, ↓icb, ↓icb2, b2i_ne, ge0, ge1, ge2, ge3, ge4, ge5, ge6, ge7, ge8, ge9, ge10, ge11, ge12, ge13, ge14, lit32, nI_add, pk_mul, clt_nI, cle_nI, cgt_nI, cge_nI, ceq_nI, cne_nI, inr_nI, nI_clamp, nI_eq, nI_leI, nI_ltI, k492, f492_2, f492_3, f492_4, f492_5, f492_7, f492_8, f492_9, f492_10, k493, k494, k495, k496, k497, k498, k499, k500, l493, l494, l495, l496, l497, l498, l499, l500, ← shR_s])
        (by simp -implicitDefEqProofs (disch := omega) [qX8_remember_2, kp_, bsome, bnone, gi_s, gj_s, gr_s, gv_s, ik_, jk_, il_, jl_, rl_, i2_, i2_a, i2_b, j2_, j2_a, j2_b, i2d_, i2d_a, i2d_b, j2d_, j2d_a, j2d_b, i1_, i1_a, j1_, j1_a, i2l_, i2l_a, l2i_, l2i_a, fgi_, fgi_a, fgj_, fgj_a, fgr_, fgr_a, iald_, iald_a, iald_b, zald_, zald_a, zald_b, jald_, jald_a, jald_b, rald_, rald_a, rald_b, alen_, alen_a, sald_, sald_a, ic_, ic_a, jc_, jc_a, bc_, bc_a, bc_b, bj_, bj_a, bj_b, bz_, bz_a, band_, band_a, bor_, bor_a, bnot_, bnot_a, anil_, ai_, ai_a, ai_b, aj_, aj_a, aj_b, ar_, ar_a, ar_b, kb2i_, cvi_, cvi_a, cvi_b, cvj_, cvj_a, cvj_b, cvz_, cvz_a, cvz_b, csi_, csi_a, csj_, csj_a, csz_, csz_a, snop_, sseq_, sseq_n, sseq_s, sif_, sif_a, scut_, scut_a, ssi_, ssi_a, ssj_, ssj_a, ssr_, ssr_a, sinc_, sinc_a, sret_, sret_a, sretj_, sretj_a, sretv_, spop_, spop_a, kc_scv_, scv_, scv_a, scv_b, scs_, scs_a, fpi_, fpi_a, fpi_b, fpj_, fpj_a, fpj_b, foi_, foi_a, foi_b, foj_, foj_a, foj_b, aii_, aii_a, aii_b, aii_c, aiz_, aiz_a, aiz_b, aiz_c, aij_, aij_a, aij_b, aij_c, aoi_, aoi_a, aoi_b, aoi_c, aoj_, aoj_a, aoj_b, aoj_c, scopy_, scopy_a, scopy_b, scopy_c, scopy_d, scopy_e, ssw_, ssw_a, sel_n, sel_c, mfi_, mfi_a, mfj_, mfj_a, mfz_, mfz_a, kb_mfv_, mfv_, mfv_a, cut, lset, lset2, isL, Value.category, ent, entn, if_some, if_pair, if_cons, if_int, if_long, if_ref, ite_self, gz_b, ↓icb, ↓icb2, b2i_ne, ge0, ge1, ge2, ge3, ge4, ge5, ge6, ge7, ge8, ge9, ge10, ge11, ge12, ge13, ge14, lit32, nI_add, pk_mul, clt_nI, cle_nI, cgt_nI, cge_nI, ceq_nI, cne_nI, inr_nI, nI_clamp, nI_eq, nI_leI, nI_ltI, k492, f492_2, f492_3, f492_4, f492_5, f492_7, f492_8, f492_9, f492_10, k493, k494, k495, k496, k497, k498, k499, k500, l493, l494, l495, l496, l497, l498, l499, l500])
      rwa [shR_0] at this
    have e1 : (shR (shR M 495 331 2979) 496 1 9).1 492 6 = nI 10 := by rw [shR_ne (by decide), shR_ne (by decide), h1]
    have e2 : ∀ N : Me, (cpR (wi N 492 6 (nI 9)) 494 0 495 2979 331).1 492 6 = nI 9 := fun N => by rw [cpR_ne (by decide)]; simp [wi]
    have e3 : ∀ N : Me, (wi N 492 6 (nI 9)).1 492 6 = nI 9 := fun N => by simp [wi]
    have e4 : ∀ N : Me, (wi (cpR (wi N 492 6 (nI 9)) 494 0 495 2979 331) 496 9 k).1 492 6 = nI 9 := fun N => by rw [wi_ne (by decide), cpR_ne (by decide)]; simp [wi]
    simp -implicitDefEqProofs (disch := omega) [DX8_remember, EX8_remember, kp_, bsome, bnone, gi_s, gj_s, gr_s, gv_s, ik_, jk_, il_, jl_, rl_, i2_, i2_a, i2_b, j2_, j2_a, j2_b, i2d_, i2d_a, i2d_b, j2d_, j2d_a, j2d_b, i1_, i1_a, j1_, j1_a, i2l_, i2l_a, l2i_, l2i_a, fgi_, fgi_a, fgj_, fgj_a, fgr_, fgr_a, iald_, iald_a, iald_b, zald_, zald_a, zald_b, jald_, jald_a, jald_b, rald_, rald_a, rald_b, alen_, alen_a, sald_, sald_a, ic_, ic_a, jc_, jc_a, bc_, bc_a, bc_b, bj_, bj_a, bj_b, bz_, bz_a, band_, band_a, bor_, bor_a, bnot_, bnot_a, anil_, ai_, ai_a, ai_b, aj_, aj_a, aj_b, ar_, ar_a, ar_b, kb2i_, cvi_, cvi_a, cvi_b, cvj_, cvj_a, cvj_b, cvz_, cvz_a, cvz_b, csi_, csi_a, csj_, csj_a, csz_, csz_a, snop_, sseq_, sseq_n, sseq_s, sif_, sif_a, scut_, scut_a, ssi_, ssi_a, ssj_, ssj_a, ssr_, ssr_a, sinc_, sinc_a, sret_, sret_a, sretj_, sretj_a, sretv_, spop_, spop_a, kc_scv_, scv_, scv_a, scv_b, scs_, scs_a, fpi_, fpi_a, fpi_b, fpj_, fpj_a, fpj_b, foi_, foi_a, foi_b, foj_, foj_a, foj_b, aii_, aii_a, aii_b, aii_c, aiz_, aiz_a, aiz_b, aiz_c, aij_, aij_a, aij_b, aij_c, aoi_, aoi_a, aoi_b, aoi_c, aoj_, aoj_a, aoj_b, aoj_c, scopy_, scopy_a, scopy_b, scopy_c, scopy_d, scopy_e, ssw_, ssw_a, sel_n, sel_c, mfi_, mfi_a, mfj_, mfj_a, mfz_, mfz_a, kb_mfv_, mfv_, mfv_a, cut, lset, lset2, isL, Value.category, ent, entn, if_some, if_pair, if_cons, if_int, if_long, if_ref, ite_self, gz_b, ↓icb, ↓icb2, b2i_ne, ge0, ge1, ge2, ge3, ge4, ge5, ge6, ge7, ge8, ge9, ge10, ge11, ge12, ge13, ge14, lit32, nI_add, pk_mul, clt_nI, cle_nI, cgt_nI, cge_nI, ceq_nI, cne_nI, inr_nI, nI_clamp, nI_eq, nI_leI, nI_ltI, k492, f492_2, f492_3, f492_4, f492_5, f492_7, f492_8, f492_9, f492_10, k493, k494, k495, k496, k497, k498, k499, k500, l493, l494, l495, l496, l497, l498, l499, l500, h1, l1, l2, pk_sub, e1, e2, e3, e4, rc1]
  · have e1 : (cpR M 494 0 495 (331 * u) 331).1 492 6 = nI u := by rw [cpR_ne (by decide), h1]
    have e2 : (wi (cpR M 494 0 495 (331 * u) 331) 496 u k).1 492 6 = nI u := by rw [wi_ne (by decide), cpR_ne (by decide), h1]
    simp -implicitDefEqProofs (disch := omega) [DX8_remember, EX8_remember, kp_, bsome, bnone, gi_s, gj_s, gr_s, gv_s, ik_, jk_, il_, jl_, rl_, i2_, i2_a, i2_b, j2_, j2_a, j2_b, i2d_, i2d_a, i2d_b, j2d_, j2d_a, j2d_b, i1_, i1_a, j1_, j1_a, i2l_, i2l_a, l2i_, l2i_a, fgi_, fgi_a, fgj_, fgj_a, fgr_, fgr_a, iald_, iald_a, iald_b, zald_, zald_a, zald_b, jald_, jald_a, jald_b, rald_, rald_a, rald_b, alen_, alen_a, sald_, sald_a, ic_, ic_a, jc_, jc_a, bc_, bc_a, bc_b, bj_, bj_a, bj_b, bz_, bz_a, band_, band_a, bor_, bor_a, bnot_, bnot_a, anil_, ai_, ai_a, ai_b, aj_, aj_a, aj_b, ar_, ar_a, ar_b, kb2i_, cvi_, cvi_a, cvi_b, cvj_, cvj_a, cvj_b, cvz_, cvz_a, cvz_b, csi_, csi_a, csj_, csj_a, csz_, csz_a, snop_, sseq_, sseq_n, sseq_s, sif_, sif_a, scut_, scut_a, ssi_, ssi_a, ssj_, ssj_a, ssr_, ssr_a, sinc_, sinc_a, sret_, sret_a, sretj_, sretj_a, sretv_, spop_, spop_a, kc_scv_, scv_, scv_a, scv_b, scs_, scs_a, fpi_, fpi_a, fpi_b, fpj_, fpj_a, fpj_b, foi_, foi_a, foi_b, foj_, foj_a, foj_b, aii_, aii_a, aii_b, aii_c, aiz_, aiz_a, aiz_b, aiz_c, aij_, aij_a, aij_b, aij_c, aoi_, aoi_a, aoi_b, aoi_c, aoj_, aoj_a, aoj_b, aoj_c, scopy_, scopy_a, scopy_b, scopy_c, scopy_d, scopy_e, ssw_, ssw_a, sel_n, sel_c, mfi_, mfi_a, mfj_, mfj_a, mfz_, mfz_a, kb_mfv_, mfv_, mfv_a, cut, lset, lset2, isL, Value.category, ent, entn, if_some, if_pair, if_cons, if_int, if_long, if_ref, ite_self, gz_b, ↓icb, ↓icb2, b2i_ne, ge0, ge1, ge2, ge3, ge4, ge5, ge6, ge7, ge8, ge9, ge10, ge11, ge12, ge13, ge14, lit32, nI_add, pk_mul, clt_nI, cle_nI, cgt_nI, cge_nI, ceq_nI, cne_nI, inr_nI, nI_clamp, nI_eq, nI_leI, nI_ltI, k492, f492_2, f492_3, f492_4, f492_5, f492_7, f492_8, f492_9, f492_10, k493, k494, k495, k496, k497, k498, k499, k500, l493, l494, l495, l496, l497, l498, l499, l500, h1, hu2, e1, e2, rc1]
theorem wi_ns {M : Me} {a i b j : Nat} {x : Int32} (h : j ≠ i) : (wi M a i x).1 b j = M.1 b j := by simp [wi, h]
set_option maxRecDepth 20000 in
theorem past_keep {M Mk N : Me} {o u nc nt np nw tm : Nat} {k : Int32} (hP : PastAt M o u) (hV : Vx (M.1 494) nc nt np nw tm) (hL : Lr M 1 (M.1 494) nc nt np nw tm) (hNh : Nh M 1) (hk : DX3_keep [.ref 126, .ref 1, .int k] M = some Mk) (h1 : ∀ a, a = 126 ∨ (128 ≤ a ∧ a ≤ 428) → N.1 a = Mk.1 a) (h2 : N.1 492 6 = M.1 492 6) (h3 : N.1 494 = M.1 494) (h4 : N.1 495 = M.1 495) (h5 : N.1 496 = M.1 496) (hkk : k ≠ -(nI 1)) : ∃ Nz o2 u2, DX8_remember [.ref 492, .int k] N = some Nz ∧ PastAt Nz o2 u2 ∧ (∀ a, a ≠ 492 → a ≠ 495 → a ≠ 496 → Nz.1 a = N.1 a) ∧ (∀ j, j ≠ 6 → Nz.1 492 j = N.1 492 j) ∧ Nz.2 = N.2 := by
  obtain ⟨p1, p2, p3, p4, p5, p6⟩ := hP
  obtain ⟨hc5, ht5, hp5, hw5, -⟩ := hV.2.1
  obtain ⟨Mc, q0, q1, q2, q3, q4, q5⟩ := c_keep (k := k) m1_ (fun i hi => by omega) p1 p2 p4 p5
  rw [hk] at q1
  have q1 := Option.some.inj q1
  have r1 := r_remember (M := N) (k := k) (h2.trans p3) p5
  have q6 := q5 _ nc nt np nw tm hc5 ht5 hp5 hw5 hL
  have q7 := q4 hNh
  have hs : (o + u) % 10 < 10 := Nat.mod_lt _ (by decide)
  by_cases hu : u < 10
  · rw [if_pos hu] at q1
    rw [if_neg (by omega)] at r1
    refine ⟨_, o, u + 1, r1, ⟨?_, ?_, ?_, p4, by omega, ?_⟩, ?_, ?_, rfl⟩
    · rw [wi_ne (by decide), wi_ne (by decide), cpR_ne (by decide), h1 126 (Or.inl rfl), q1]
      have := congrFun (q2 126 (by omega)) 2
      simp [wi, this, p1]
    · rw [wi_ne (by decide), wi_ne (by decide), cpR_ne (by decide), h1 126 (Or.inl rfl), q1]
      simp [wi]
    · simp [wi]
    · intro j hj
      have hsj : (o + j) % 10 < 10 := Nat.mod_lt _ (by decide)
      by_cases hju : j = u
      · subst hju
        refine ⟨?_, nc, nt, np, nw, tm, ?_, ?_, ?_⟩
        · rw [wi_ne (by decide), wi_ne (by decide), cpR_ne (by decide), h1 428 (Or.inr ⟨by decide, by decide⟩), q1]
          simp [wi, hkk]
        · refine hV.row (fun i hi => ?_)
          show (wi (wi (cpR N 494 0 495 (331 * j) 331) 496 j k) 492 6 (nI (j + 1))).1 495 (331 * j + i) = _
          rw [wi_ne (by decide), wi_ne (by decide), cpR_in hi, h3, Nat.zero_add]
        · have g := (q6.frame (M' := wi (wi (cpR N 494 0 495 (331 * j) 331) 496 j k) 492 6 (nI (j + 1))) hc5 ht5 hp5 hw5 (fun a ha1 ha2 => by
            rw [wi_ne (by omega), wi_ne (by omega), cpR_ne (by omega), h1 a (Or.inr ⟨by omega, by omega⟩), q1, wi_ne (by omega), wi_ne (by omega)]))
          refine g.row hc5 ht5 hp5 hw5 (fun i hi => ?_)
          show (wi (wi (cpR N 494 0 495 (331 * j) 331) 496 j k) 492 6 (nI (j + 1))).1 495 (331 * j + i) = _
          rw [wi_ne (by decide), wi_ne (by decide), cpR_in hi, h3, Nat.zero_add]
        · unfold Nh at q7 ⊢
          rw [wi_ne (by omega), wi_ne (by omega), cpR_ne (by omega), h1 _ (Or.inr ⟨by omega, by omega⟩), q1, wi_ne (by omega), wi_ne (by omega)]
          exact q7
      · obtain ⟨g1, a1, a2, a3, a4, a5, g2, g3, g4⟩ := p6 j (by omega)
        have hne : (o + j) % 10 ≠ (o + u) % 10 := by omega
        have hb := g2.2.1
        refine ⟨?_, a1, a2, a3, a4, a5, ?_, ?_, ?_⟩
        · have z := congrFun (q2 428 (by omega)) ((o + j) % 10)
          refine ⟨?_, ?_⟩
          · rw [wi_ne (by decide), wi_ne (by decide), cpR_ne (by decide), h1 428 (Or.inr ⟨by decide, by decide⟩), q1, wi_ne (a := 492) (by decide), wi_ne (a := 126) (by decide)]
            simp only [wi]
            rw [if_neg (by omega), if_neg (by omega), z, g1.1, cpR_ne (by decide), h5]
          · rw [wi_ne (by decide), wi_ne (by decide), cpR_ne (by decide), h1 428 (Or.inr ⟨by decide, by decide⟩), q1, wi_ne (a := 126) (by decide)]
            simp only [wi]
            rw [if_neg (by omega), z]
            exact g1.2
        · refine g2.row (fun i hi => ?_)
          show (wi (wi (cpR N 494 0 495 (331 * u) 331) 496 u k) 492 6 (nI (u + 1))).1 495 (331 * j + i) = _
          rw [wi_ne (by decide), wi_ne (by decide), cpR_out (by omega), h4]
        · have g := (g3.frame (M' := wi (wi (cpR N 494 0 495 (331 * u) 331) 496 u k) 492 6 (nI (u + 1))) hb.1 hb.2.1 hb.2.2.1 hb.2.2.2.1 (fun a ha1 ha2 => by
            rw [wi_ne (by omega), wi_ne (by omega), cpR_ne (by omega), h1 a (Or.inr ⟨by omega, by omega⟩), q1, wi_ne (by omega), wi_ne (by omega), q2 a (by omega)]))
          refine g.row hb.1 hb.2.1 hb.2.2.1 hb.2.2.2.1 (fun i hi => ?_)
          show (wi (wi (cpR N 494 0 495 (331 * u) 331) 496 u k) 492 6 (nI (u + 1))).1 495 (331 * j + i) = _
          rw [wi_ne (by decide), wi_ne (by decide), cpR_out (by omega), h4]
        · unfold Nh at g4 ⊢
          rw [wi_ne (by omega), wi_ne (by omega), cpR_ne (by omega), h1 _ (Or.inr ⟨by omega, by omega⟩), q1, wi_ne (by omega), wi_ne (by omega), q2 _ (by omega)]
          exact g4
    · intro a b1 b2 b3
      rw [wi_ne b1, wi_ne b3, cpR_ne b2]
    · intro j hj
      have z := congrFun (cpR_ne (M := N) (a := 494) (x := 0) (b := 495) (y := 331 * u) (n := 331) (q := 492) (by decide)) j
      simp [wi, hj, z]
  · have hu10 : u = 10 := by omega
    subst hu10
    rw [if_neg (by omega)] at q1
    rw [if_pos rfl] at r1
    have hou : (o + 10) % 10 = o := by omega
    rw [hou] at q0 q1 q2 q6 q7
    have key : ∀ a, a ≠ 492 → a ≠ 495 → a ≠ 496 → (wi (wi (cpR (wi (shR (shR N 495 331 2979) 496 1 9) 492 6 (nI 9)) 494 0 495 2979 331) 496 9 k) 492 6 (nI 10)).1 a = N.1 a := by
      intro a b1 b2 b3
      rw [wi_ne b1, wi_ne b3, cpR_ne b2, wi_ne b1, shR_ne b3, shR_ne b2]
    have key2 : ∀ j i, j < 9 → i < 331 → (wi (wi (cpR (wi (shR (shR N 495 331 2979) 496 1 9) 492 6 (nI 9)) 494 0 495 2979 331) 496 9 k) 492 6 (nI 10)).1 495 (331 * j + i) = M.1 495 (331 * (j + 1) + i) := by
      intro j i hj hi
      rw [wi_ne (by decide), wi_ne (by decide), cpR_out (by omega), wi_ne (by decide), shR_ne (by decide), shR_in (by omega), h4, show 331 * j + i + 331 = 331 * (j + 1) + i by omega]
    have key3 : ∀ i, i < 331 → (wi (wi (cpR (wi (shR (shR N 495 331 2979) 496 1 9) 492 6 (nI 9)) 494 0 495 2979 331) 496 9 k) 492 6 (nI 10)).1 495 (331 * 9 + i) = M.1 494 i := by
      intro i hi
      rw [wi_ne (by decide), wi_ne (by decide), show 331 * 9 + i = 2979 + i from rfl, cpR_in hi, wi_ne (by decide), shR_ne (by decide), shR_ne (by decide), h3, Nat.zero_add]
    refine ⟨_, (o + 1) % 10, 10, r1, ⟨?_, ?_, ?_, Nat.mod_lt _ (by decide), by omega, ?_⟩, key, ?_, rfl⟩
    · rw [key 126 (by decide) (by decide) (by decide), h1 126 (Or.inl rfl), q1]
      simp [wi]
    · rw [key 126 (by decide) (by decide) (by decide), h1 126 (Or.inl rfl), q1]
      have := congrFun (q2 126 (by omega)) 3
      simp [wi, this, p2]
    · simp [wi]
    · intro j hj
      by_cases hj9 : j = 9
      · subst hj9
        have hso : ((o + 1) % 10 + 9) % 10 = o := by omega
        rw [hso]
        refine ⟨?_, nc, nt, np, nw, tm, ?_, ?_, ?_⟩
        · rw [key 428 (by decide) (by decide) (by decide), h1 428 (Or.inr ⟨by decide, by decide⟩), q1]
          simp [wi, hkk]
        · exact hV.row (fun i hi => key3 i hi)
        · have g := (q6.frame (M' := wi (wi (cpR (wi (shR (shR N 495 331 2979) 496 1 9) 492 6 (nI 9)) 494 0 495 2979 331) 496 9 k) 492 6 (nI 10)) hc5 ht5 hp5 hw5 (fun a ha1 ha2 => by
            rw [key a (by omega) (by omega) (by omega), h1 a (Or.inr ⟨by omega, by omega⟩), q1, wi_ne (by omega), wi_ne (by omega)]))
          exact g.row hc5 ht5 hp5 hw5 (fun i hi => key3 i hi)
        · unfold Nh at q7 ⊢
          rw [key _ (by omega) (by omega) (by omega), h1 _ (Or.inr ⟨by omega, by omega⟩), q1, wi_ne (by omega), wi_ne (by omega)]
          exact q7
      · obtain ⟨g1, a1, a2, a3, a4, a5, g2, g3, g4⟩ := p6 (j + 1) (by omega)
        have hso : ((o + 1) % 10 + j) % 10 = (o + (j + 1)) % 10 := by omega
        rw [hso]
        have hsj : (o + (j + 1)) % 10 < 10 := Nat.mod_lt _ (by decide)
        have hne : (o + (j + 1)) % 10 ≠ o := by omega
        have hb := g2.2.1
        refine ⟨?_, a1, a2, a3, a4, a5, ?_, ?_, ?_⟩
        · rw [key 428 (by decide) (by decide) (by decide), h1 428 (Or.inr ⟨by decide, by decide⟩), q1, wi_ne (a := 126) (by decide)]
          have z := congrFun (q2 428 (by omega)) ((o + (j + 1)) % 10)
          have y : (wi (wi (cpR (wi (shR (shR N 495 331 2979) 496 1 9) 492 6 (nI 9)) 494 0 495 2979 331) 496 9 k) 492 6 (nI 10)).1 496 j = M.1 496 (j + 1) := by
            rw [wi_ne (by decide), wi_ns (by omega), cpR_ne (by decide), wi_ne (by decide), shR_in (by omega), shR_ne (by decide), h5]
          rw [y]
          simp only [wi]
          rw [if_neg (by omega), z]
          exact g1
        · exact g2.row (fun i hi => key2 j i (by omega) hi)
        · have g := (g3.frame (M' := wi (wi (cpR (wi (shR (shR N 495 331 2979) 496 1 9) 492 6 (nI 9)) 494 0 495 2979 331) 496 9 k) 492 6 (nI 10)) hb.1 hb.2.1 hb.2.2.1 hb.2.2.2.1 (fun a ha1 ha2 => by
            rw [key a (by omega) (by omega) (by omega), h1 a (Or.inr ⟨by omega, by omega⟩), q1, wi_ne (by omega), wi_ne (by omega), q2 a (by omega)]))
          exact g.row hb.1 hb.2.1 hb.2.2.1 hb.2.2.2.1 (fun i hi => key2 j i (by omega) hi)
        · unfold Nh at g4 ⊢
          rw [key _ (by omega) (by omega) (by omega), h1 _ (Or.inr ⟨by omega, by omega⟩), q1, wi_ne (by omega), wi_ne (by omega), q2 _ (by omega)]
          exact g4
    · intro j hj
      have z := congrFun (cpR_ne (M := wi (shR (shR N 495 331 2979) 496 1 9) 492 6 (nI 9)) (a := 494) (x := 0) (b := 495) (y := 2979) (n := 331) (q := 492) (by decide)) j
      have z2 := congrFun (shR_ne (M := shR N 495 331 2979) (a := 496) (d := 1) (n := 9) (q := 492) (by decide)) j
      have z3 := congrFun (shR_ne (M := N) (a := 495) (d := 331) (n := 2979) (q := 492) (by decide)) j
      simp [wi, hj] at z ⊢
      rw [z, z2, z3]
