/-! ===== drop ===== -/
def crd (M : Me) (w n : Nat) : Me := (fun q j => if 24 + w ≤ q ∧ q < 24 + w + n ∧ j < 6 then M.1 (q + 1) j else M.1 q j, M.2)
set_option maxRecDepth 20000 in
theorem crd_0 {M : Me} {w : Nat} : crd M w 0 = M := by
  unfold crd
  have : (fun q j => if 24 + w ≤ q ∧ q < 24 + w + 0 ∧ j < 6 then M.1 (q + 1) j else M.1 q j) = M.1 := by
    funext q j
    rw [if_neg (by omega)]
  rw [this]
set_option maxRecDepth 20000 in
theorem crd_s {M : Me} {w n a b : Nat} (hb : b = 24 + w + n) (ha : a = 24 + w + n + 1) : cpi (crd M w n) a 0 b 0 6 = crd M w (n + 1) := by
  subst hb ha
  unfold crd cpi va_cpy
  simp only [Prod.mk.injEq, and_true]
  funext q j
  by_cases e1 : q = 24 + w + n
  · subst e1
    by_cases e2 : j < 6
    · simp [e2]
      intro y1 y2
      exfalso
      omega
    · simp [e2]
  · rw [if_neg e1]
    by_cases e3 : 24 + w ≤ q ∧ q < 24 + w + n ∧ j < 6
    · rw [if_pos e3, if_pos (by omega)]
    · rw [if_neg e3, if_neg (by omega)]
set_option maxRecDepth 20000 in
theorem crd_ne {M : Me} {w n q : Nat} (h : q < 24 + w ∨ 24 + w + n ≤ q) : (crd M w n).1 q = M.1 q := by
  funext j
  simp only [crd]
  rw [if_neg (by omega)]
set_option maxRecDepth 20000 in
theorem crd_in {M : Me} {w n q j : Nat} (h : 24 + w ≤ q) (h2 : q < 24 + w + n) (hj : j < 6) : (crd M w n).1 q j = M.1 (q + 1) j := by
  simp only [crd]
  rw [if_pos ⟨h, h2, hj⟩]
def shS (M : Me) (lo n : Nat) : Me := (fun q j => if q = 494 ∧ lo ≤ j ∧ j < lo + n then M.1 494 (j + 6) else M.1 q j, M.2)
set_option maxRecDepth 20000 in
theorem shS_0 {M : Me} {lo : Nat} : shS M lo 0 = M := by
  unfold shS
  have : (fun q j => if q = 494 ∧ lo ≤ j ∧ j < lo + 0 then M.1 494 (j + 6) else M.1 q j) = M.1 := by
    funext q j
    rw [if_neg (by omega)]
  rw [this]
set_option maxRecDepth 20000 in
theorem shS_s {M : Me} {lo n : Nat} : wi (shS M lo n) 494 (lo + n) ((shS M lo n).1 494 (lo + n + 6)) = shS M lo (n + 1) := by
  have z : (shS M lo n).1 494 (lo + n + 6) = M.1 494 (lo + n + 6) := by
    simp only [shS]
    rw [if_neg (by omega)]
  rw [z]
  unfold shS wi
  simp only [Prod.mk.injEq, and_true]
  funext q j
  by_cases e1 : q = 494 ∧ j = lo + n
  · obtain ⟨rfl, rfl⟩ := e1
    rw [if_pos ⟨rfl, rfl⟩, if_pos ⟨rfl, by omega, by omega⟩]
  · rw [if_neg e1]
    by_cases e3 : q = 494 ∧ lo ≤ j ∧ j < lo + n
    · rw [if_pos e3, if_pos (by omega)]
    · rw [if_neg e3, if_neg (by omega)]
set_option maxRecDepth 20000 in
theorem shS_ne {M : Me} {lo n q : Nat} (h : q ≠ 494) : (shS M lo n).1 q = M.1 q := by
  funext j
  simp [shS, h]
set_option maxRecDepth 20000 in
theorem shS_out {M : Me} {lo n j : Nat} (h : j < lo ∨ lo + n ≤ j) : (shS M lo n).1 494 j = M.1 494 j := by
  simp only [shS]
  rw [if_neg (by omega)]
set_option maxRecDepth 20000 in
theorem shS_in {M : Me} {lo n j : Nat} (h : lo ≤ j) (h2 : j < lo + n) : (shS M lo n).1 494 j = M.1 494 (j + 6) := by
  simp only [shS]
  rw [if_pos ⟨by trivial, h, h2⟩]
set_option maxRecDepth 20000 in
theorem ac_drop {M : Me} {nc nt np nw tm o u : Nat} (h : Core M nc nt np nw tm o u) (x : Int32) : Act DX7_drop DX8_drop [.int x] M := by
  have hb := h.1.2.1
  have hn1 := h.2.1.2.1.2.2.2.1
  have hr1 := h.1.1.2.2.2.1
  by_cases hx : inr x nw = true
  · obtain ⟨w, hw, rfl⟩ := inr_ex hx
    obtain ⟨v, rfl⟩ : ∃ v, nw = v + 1 := ⟨nw - 1, by omega⟩
    have hv5 : v ≤ 5 := by omega
    obtain ⟨n, rfl⟩ : ∃ n, v = w + n := ⟨v - w, by omega⟩
    obtain ⟨Ma, Mk, a1, -, -, a4, a5, -⟩ := c_accept (nI 9) h
    have eA : Ma.1 1 3 = nI (w + n + 1) := by rw [a4 1 (by omega)]; exact hn1
    obtain ⟨M1, eM1⟩ : ∃ M1 : Me, M1 = wi (crd Ma w n) 1 3 (nI (w + n)) := ⟨_, rfl⟩
    have cc : DX1_removeWatch [.ref 1, .int (nI w)] Ma = some (nI (w + n), M1) := by
      have z0 : ∀ i, (crd Ma w i).1 1 3 = nI (w + n + 1) := fun i => by rw [crd_ne (by omega), eA]
      have l1 : swh qX1_removeWatch_1 wX1_removeWatch_1 [.ref 1, .int (nI w), .int (nI w)] Ma = some (none, [.ref 1, .int (nI w), .int (nI (w + n))], crd Ma w n) := by
        have := swh_count (c := qX1_removeWatch_1) (b := wX1_removeWatch_1) (fun i => [.ref 1, .int (nI w), .int (nI (w + i))]) (fun i => crd Ma w i) n
          (fun i hi => by simp -implicitDefEqProofs (disch := omega) [qX1_removeWatch_1, kp_, bsome, bnone, gi_s, gj_s, gr_s, gv_s, ik_, jk_, il_, jl_, rl_, i2_, i2_a, i2_b, j2_, j2_a, j2_b, i2d_, i2d_a, i2d_b, j2d_, j2d_a, j2d_b, i1_, i1_a, j1_, j1_a, i2l_, i2l_a, l2i_, l2i_a, fgi_, fgi_a, fgj_, fgj_a, fgr_, fgr_a, iald_, iald_a, iald_b, zald_, zald_a, zald_b, jald_, jald_a, jald_b, rald_, rald_a, rald_b, alen_, alen_a, sald_, sald_a, ic_, ic_a, jc_, jc_a, bc_, bc_a, bc_b, bj_, bj_a, bj_b, bz_, bz_a, band_, band_a, bor_, bor_a, bnot_, bnot_a, anil_, ai_, ai_a, ai_b, aj_, aj_a, aj_b, ar_, ar_a, ar_b, kb2i_, cvi_, cvi_a, cvi_b, cvj_, cvj_a, cvj_b, cvz_, cvz_a, cvz_b, csi_, csi_a, csj_, csj_a, csz_, csz_a, snop_, sseq_, sseq_n, sseq_s, sif_, sif_a, scut_, scut_a, ssi_, ssi_a, ssj_, ssj_a, ssr_, ssr_a, sinc_, sinc_a, sret_, sret_a, sretj_, sretj_a, sretv_, spop_, spop_a, kc_scv_, scv_, scv_a, scv_b, scs_, scs_a, fpi_, fpi_a, fpi_b, fpj_, fpj_a, fpj_b, foi_, foi_a, foi_b, foj_, foj_a, foj_b, aii_, aii_a, aii_b, aii_c, aiz_, aiz_a, aiz_b, aiz_c, aij_, aij_a, aij_b, aij_c, aoi_, aoi_a, aoi_b, aoi_c, aoj_, aoj_a, aoj_b, aoj_c, scopy_, scopy_a, scopy_b, scopy_c, scopy_d, scopy_e, ssw_, ssw_a, sel_n, sel_c, mfi_, mfi_a, mfj_, mfj_a, mfz_, mfz_a, kb_mfv_, mfv_, mfv_a, cut, lset, lset2, isL, Value.category, ent, entn, if_some, if_pair, if_cons, if_int, if_long, if_ref, ite_self, gz_b, ↓icb, ↓icb2, b2i_ne, ge0, ge1, ge2, ge3, ge4, ge5, ge6, ge7, ge8, ge9, ge10, ge11, ge12, ge13, ge14, lit32, nI_add, pk_mul, clt_nI, cle_nI, cgt_nI, cge_nI, ceq_nI, cne_nI, inr_nI, nI_clamp, nI_eq, nI_leI, nI_ltI, hi, k1_, z0])
          (fun i hi => by
            have kT := a_kw m1_ (w + i) (by omega)
            have lT := a_lw m1_ (w + i) (by omega)
            have kT2 := a_kw m1_ (w + (i + 1)) (by omega)
            have lT2 := a_lw m1_ (w + (i + 1)) (by omega)
            simp -implicitDefEqProofs (disch := omega) [wX1_removeWatch_1, kp_, bsome, bnone, gi_s, gj_s, gr_s, gv_s, ik_, jk_, il_, jl_, rl_, i2_, i2_a, i2_b, j2_, j2_a, j2_b, i2d_, i2d_a, i2d_b, j2d_, j2d_a, j2d_b, i1_, i1_a, j1_, j1_a, i2l_, i2l_a, l2i_, l2i_a, fgi_, fgi_a, fgj_, fgj_a, fgr_, fgr_a, iald_, iald_a, iald_b, zald_, zald_a, zald_b, jald_, jald_a, jald_b, rald_, rald_a, rald_b, alen_, alen_a, sald_, sald_a, ic_, ic_a, jc_, jc_a, bc_, bc_a, bc_b, bj_, bj_a, bj_b, bz_, bz_a, band_, band_a, bor_, bor_a, bnot_, bnot_a, anil_, ai_, ai_a, ai_b, aj_, aj_a, aj_b, ar_, ar_a, ar_b, kb2i_, cvi_, cvi_a, cvi_b, cvj_, cvj_a, cvj_b, cvz_, cvz_a, cvz_b, csi_, csi_a, csj_, csj_a, csz_, csz_a, snop_, sseq_, sseq_n, sseq_s, sif_, sif_a, scut_, scut_a, ssi_, ssi_a, ssj_, ssj_a, ssr_, ssr_a, sinc_, sinc_a, sret_, sret_a, sretj_, sretj_a, sretv_, spop_, spop_a, kc_scv_, scv_, scv_a, scv_b, scs_, scs_a, fpi_, fpi_a, fpi_b, fpj_, fpj_a, fpj_b, foi_, foi_a, foi_b, foj_, foj_a, foj_b, aii_, aii_a, aii_b, aii_c, aiz_, aiz_a, aiz_b, aiz_c, aij_, aij_a, aij_b, aij_c, aoi_, aoi_a, aoi_b, aoi_c, aoj_, aoj_a, aoj_b, aoj_c, scopy_, scopy_a, scopy_b, scopy_c, scopy_d, scopy_e, ssw_, ssw_a, sel_n, sel_c, mfi_, mfi_a, mfj_, mfj_a, mfz_, mfz_a, kb_mfv_, mfv_, mfv_a, cut, lset, lset2, isL, Value.category, ent, entn, if_some, if_pair, if_cons, if_int, if_long, if_ref, ite_self, gz_b, ↓icb, ↓icb2, b2i_ne, ge0, ge1, ge2, ge3, ge4, ge5, ge6, ge7, ge8, ge9, ge10, ge11, ge12, ge13, ge14, lit32, nI_add, pk_mul, clt_nI, cle_nI, cgt_nI, cge_nI, ceq_nI, cne_nI, inr_nI, nI_clamp, nI_eq, nI_leI, nI_ltI, k1_, a_12 m1_, a_k22 m1_, a_l22 m1_, a_rw m1_, kT, lT, kT2, lT2, crd_s, Nat.add_assoc])
          (by simp -implicitDefEqProofs (disch := omega) [qX1_removeWatch_1, kp_, bsome, bnone, gi_s, gj_s, gr_s, gv_s, ik_, jk_, il_, jl_, rl_, i2_, i2_a, i2_b, j2_, j2_a, j2_b, i2d_, i2d_a, i2d_b, j2d_, j2d_a, j2d_b, i1_, i1_a, j1_, j1_a, i2l_, i2l_a, l2i_, l2i_a, fgi_, fgi_a, fgj_, fgj_a, fgr_, fgr_a, iald_, iald_a, iald_b, zald_, zald_a, zald_b, jald_, jald_a, jald_b, rald_, rald_a, rald_b, alen_, alen_a, sald_, sald_a, ic_, ic_a, jc_, jc_a, bc_, bc_a, bc_b, bj_, bj_a, bj_b, bz_, bz_a, band_, band_a, bor_, bor_a, bnot_, bnot_a, anil_, ai_, ai_a, ai_b, aj_, aj_a, aj_b, ar_, ar_a, ar_b, kb2i_, cvi_, cvi_a, cvi_b, cvj_, cvj_a, cvj_b, cvz_, cvz_a, cvz_b, csi_, csi_a, csj_, csj_a, csz_, csz_a, snop_, sseq_, sseq_n, sseq_s, sif_, sif_a, scut_, scut_a, ssi_, ssi_a, ssj_, ssj_a, ssr_, ssr_a, sinc_, sinc_a, sret_, sret_a, sretj_, sretj_a, sretv_, spop_, spop_a, kc_scv_, scv_, scv_a, scv_b, scs_, scs_a, fpi_, fpi_a, fpi_b, fpj_, fpj_a, fpj_b, foi_, foi_a, foi_b, foj_, foj_a, foj_b, aii_, aii_a, aii_b, aii_c, aiz_, aiz_a, aiz_b, aiz_c, aij_, aij_a, aij_b, aij_c, aoi_, aoi_a, aoi_b, aoi_c, aoj_, aoj_a, aoj_b, aoj_c, scopy_, scopy_a, scopy_b, scopy_c, scopy_d, scopy_e, ssw_, ssw_a, sel_n, sel_c, mfi_, mfi_a, mfj_, mfj_a, mfz_, mfz_a, kb_mfv_, mfv_, mfv_a, cut, lset, lset2, isL, Value.category, ent, entn, if_some, if_pair, if_cons, if_int, if_long, if_ref, ite_self, gz_b, ↓icb, ↓icb2, b2i_ne, ge0, ge1, ge2, ge3, ge4, ge5, ge6, ge7, ge8, ge9, ge10, ge11, ge12, ge13, ge14, lit32, nI_add, pk_mul, clt_nI, cle_nI, cgt_nI, cge_nI, ceq_nI, cne_nI, inr_nI, nI_clamp, nI_eq, nI_leI, nI_ltI, k1_, z0])
        rwa [crd_0] at this
      have z2 : ∀ Q : Me, (wi Q 1 3 (nI (w + n))).1 1 3 = nI (w + n) := fun Q => by simp [wi]
      rw [eM1]
      simp -implicitDefEqProofs (disch := omega) [DX1_removeWatch, EX1_removeWatch, kp_, bsome, bnone, gi_s, gj_s, gr_s, gv_s, ik_, jk_, il_, jl_, rl_, i2_, i2_a, i2_b, j2_, j2_a, j2_b, i2d_, i2d_a, i2d_b, j2d_, j2d_a, j2d_b, i1_, i1_a, j1_, j1_a, i2l_, i2l_a, l2i_, l2i_a, fgi_, fgi_a, fgj_, fgj_a, fgr_, fgr_a, iald_, iald_a, iald_b, zald_, zald_a, zald_b, jald_, jald_a, jald_b, rald_, rald_a, rald_b, alen_, alen_a, sald_, sald_a, ic_, ic_a, jc_, jc_a, bc_, bc_a, bc_b, bj_, bj_a, bj_b, bz_, bz_a, band_, band_a, bor_, bor_a, bnot_, bnot_a, anil_, ai_, ai_a, ai_b, aj_, aj_a, aj_b, ar_, ar_a, ar_b, kb2i_, cvi_, cvi_a, cvi_b, cvj_, cvj_a, cvj_b, cvz_, cvz_a, cvz_b, csi_, csi_a, csj_, csj_a, csz_, csz_a, snop_, sseq_, sseq_n, sseq_s, sif_, sif_a, scut_, scut_a, ssi_, ssi_a, ssj_, ssj_a, ssr_, ssr_a, sinc_, sinc_a, sret_, sret_a, sretj_, sretj_a, sretv_, spop_, spop_a, kc_scv_, scv_, scv_a, scv_b, scs_, scs_a, fpi_, fpi_a, fpi_b, fpj_, fpj_a, fpj_b, foi_, foi_a, foi_b, foj_, foj_a, foj_b, aii_, aii_a, aii_b, aii_c, aiz_, aiz_a, aiz_b, aiz_c, aij_, aij_a, aij_b, aij_c, aoi_, aoi_a, aoi_b, aoi_c, aoj_, aoj_a, aoj_b, aoj_c, scopy_, scopy_a, scopy_b, scopy_c, scopy_d, scopy_e, ssw_, ssw_a, sel_n, sel_c, mfi_, mfi_a, mfj_, mfj_a, mfz_, mfz_a, kb_mfv_, mfv_, mfv_a, cut, lset, lset2, isL, Value.category, ent, entn, if_some, if_pair, if_cons, if_int, if_long, if_ref, ite_self, gz_b, ↓icb, ↓icb2, b2i_ne, ge0, ge1, ge2, ge3, ge4, ge5, ge6, ge7, ge8, ge9, ge10, ge11, ge12, ge13, ge14, lit32, nI_add, pk_mul, clt_nI, cle_nI, cgt_nI, cge_nI, ceq_nI, cne_nI, inr_nI, nI_clamp, nI_eq, nI_leI, nI_ltI, k1_, l1, z0, z2, pk_sub]
    have f1 : ∀ a, ¬ (1 ≤ a ∧ a < 31) → M1.1 a = Ma.1 a := fun a z => by rw [eM1, wi_ne (by omega), crd_ne (by omega)]
    obtain ⟨Nz, hr, n1, n2, n3⟩ := r_rem (M1 := M1) (nI 9) h a4 f1
    have c : DX7_drop [.ref 0, .int (nI w)] M = some (nI (w + n), M1) := by
      simp -implicitDefEqProofs (disch := omega) [DX7_drop, EX7_drop, kp_, bsome, bnone, gi_s, gj_s, gr_s, gv_s, ik_, jk_, il_, jl_, rl_, i2_, i2_a, i2_b, j2_, j2_a, j2_b, i2d_, i2d_a, i2d_b, j2d_, j2d_a, j2d_b, i1_, i1_a, j1_, j1_a, i2l_, i2l_a, l2i_, l2i_a, fgi_, fgi_a, fgj_, fgj_a, fgr_, fgr_a, iald_, iald_a, iald_b, zald_, zald_a, zald_b, jald_, jald_a, jald_b, rald_, rald_a, rald_b, alen_, alen_a, sald_, sald_a, ic_, ic_a, jc_, jc_a, bc_, bc_a, bc_b, bj_, bj_a, bj_b, bz_, bz_a, band_, band_a, bor_, bor_a, bnot_, bnot_a, anil_, ai_, ai_a, ai_b, aj_, aj_a, aj_b, ar_, ar_a, ar_b, kb2i_, cvi_, cvi_a, cvi_b, cvj_, cvj_a, cvj_b, cvz_, cvz_a, cvz_b, csi_, csi_a, csj_, csj_a, csz_, csz_a, snop_, sseq_, sseq_n, sseq_s, sif_, sif_a, scut_, scut_a, ssi_, ssi_a, ssj_, ssj_a, ssr_, ssr_a, sinc_, sinc_a, sret_, sret_a, sretj_, sretj_a, sretv_, spop_, spop_a, kc_scv_, scv_, scv_a, scv_b, scs_, scs_a, fpi_, fpi_a, fpi_b, fpj_, fpj_a, fpj_b, foi_, foi_a, foi_b, foj_, foj_a, foj_b, aii_, aii_a, aii_b, aii_c, aiz_, aiz_a, aiz_b, aiz_c, aij_, aij_a, aij_b, aij_c, aoi_, aoi_a, aoi_b, aoi_c, aoj_, aoj_a, aoj_b, aoj_c, scopy_, scopy_a, scopy_b, scopy_c, scopy_d, scopy_e, ssw_, ssw_a, sel_n, sel_c, mfi_, mfi_a, mfj_, mfj_a, mfz_, mfz_a, kb_mfv_, mfv_, mfv_a, cut, lset, lset2, isL, Value.category, ent, entn, if_some, if_pair, if_cons, if_int, if_long, if_ref, ite_self, gz_b, ↓icb, ↓icb2, b2i_ne, ge0, ge1, ge2, ge3, ge4, ge5, ge6, ge7, ge8, ge9, ge10, ge11, ge12, ge13, ge14, lit32, nI_add, pk_mul, clt_nI, cle_nI, cgt_nI, cge_nI, ceq_nI, cne_nI, inr_nI, nI_clamp, nI_eq, nI_leI, nI_ltI, k0, f0_0, k1_, c_isWatch hn1, hx, a1, cc]
    have hq : (wi M1 492 0 (nI 0)).1 494 3 = nI (w + n + 1) := by rw [wi_ne (by decide), n3]; exact hr1
    obtain ⟨N0, eN0⟩ : ∃ N0 : Me, N0 = wi Nz 494 3 (nI (w + n)) := ⟨_, rfl⟩
    have l2 : swh qX8_drop_1 wX8_drop_1 [.ref 492, .int (nI w), .int (nI (95 + 6 * w))] N0 = some (none, [.ref 492, .int (nI w), .int (nI (95 + 6 * w + 6 * n))], shS N0 (95 + 6 * w) (6 * n)) := by
      have z : ∀ i, (shS N0 (95 + 6 * w) i).1 494 3 = nI (w + n) := fun i => by rw [shS_out (by omega), eN0]; simp [wi]
      have := swh_count (c := qX8_drop_1) (b := wX8_drop_1) (fun i => [.ref 492, .int (nI w), .int (nI (95 + 6 * w + i))]) (fun i => shS N0 (95 + 6 * w) i) (6 * n)
        (fun i hi => by
          have y : 95 + 6 * w + i < 95 + 6 * (w + n) := by omega
          simp -implicitDefEqProofs (disch := omega) [qX8_drop_1, kp_, bsome, bnone, gi_s, gj_s, gr_s, gv_s, ik_, jk_, il_, jl_, rl_, i2_, i2_a, i2_b, j2_, j2_a, j2_b, i2d_, i2d_a, i2d_b, j2d_, j2d_a, j2d_b, i1_, i1_a, j1_, j1_a, i2l_, i2l_a, l2i_, l2i_a, fgi_, fgi_a, fgj_, fgj_a, fgr_, fgr_a, iald_, iald_a, iald_b, zald_, zald_a, zald_b, jald_, jald_a, jald_b, rald_, rald_a, rald_b, alen_, alen_a, sald_, sald_a, ic_, ic_a, jc_, jc_a, bc_, bc_a, bc_b, bj_, bj_a, bj_b, bz_, bz_a, band_, band_a, bor_, bor_a, bnot_, bnot_a, anil_, ai_, ai_a, ai_b, aj_, aj_a, aj_b, ar_, ar_a, ar_b, kb2i_, cvi_, cvi_a, cvi_b, cvj_, cvj_a, cvj_b, cvz_, cvz_a, cvz_b, csi_, csi_a, csj_, csj_a, csz_, csz_a, snop_, sseq_, sseq_n, sseq_s, sif_, sif_a, scut_, scut_a, ssi_, ssi_a, ssj_, ssj_a, ssr_, ssr_a, sinc_, sinc_a, sret_, sret_a, sretj_, sretj_a, sretv_, spop_, spop_a, kc_scv_, scv_, scv_a, scv_b, scs_, scs_a, fpi_, fpi_a, fpi_b, fpj_, fpj_a, fpj_b, foi_, foi_a, foi_b, foj_, foj_a, foj_b, aii_, aii_a, aii_b, aii_c, aiz_, aiz_a, aiz_b, aiz_c, aij_, aij_a, aij_b, aij_c, aoi_, aoi_a, aoi_b, aoi_c, aoj_, aoj_a, aoj_b, aoj_c, scopy_, scopy_a, scopy_b, scopy_c, scopy_d, scopy_e, ssw_, ssw_a, sel_n, sel_c, mfi_, mfi_a, mfj_, mfj_a, mfz_, mfz_a, kb_mfv_, mfv_, mfv_a, cut, lset, lset2, isL, Value.category, ent, entn, if_some, if_pair, if_cons, if_int, if_long, if_ref, ite_self, gz_b, ↓icb, ↓icb2, b2i_ne, ge0, ge1, ge2, ge3, ge4, ge5, ge6, ge7, ge8, ge9, ge10, ge11, ge12, ge13, ge14, lit32, nI_add, pk_mul, clt_nI, cle_nI, cgt_nI, cge_nI, ceq_nI, cne_nI, inr_nI, nI_clamp, nI_eq, nI_leI, nI_ltI, k492, f492_2, f492_3, f492_4, f492_5, f492_7, f492_8, f492_9, f492_10, k493, k494, k495, k496, k497, k498, k499, k500, l493, l494, l495, l496, l497, l498, l499, l500, z, r_watchAt, y])
        (fun i hi => by
          simp -implicitDefEqProofs (disch := omega) [wX8_drop_1, kp_, bsome, bnone, gi_s, gj_s, gr_s, gv_s, ik_, jk_, il_, jl_, rl_, i2_, i2_a, i2_b, j2_, j2_a, j2_b, i2d_, i2d_a, i2d_b, j2d_, j2d_a, j2d_b, i1_, i1_a, j1_, j1_a, i2l_, i2l_a, l2i_, l2i_a, fgi_, fgi_a, fgj_, fgj_a, fgr_, fgr_a, iald_, iald_a, iald_b, zald_, zald_a, zald_b, jald_, jald_a, jald_b, rald_, rald_a, rald_b, alen_, alen_a, sald_, sald_a, ic_, ic_a, jc_, jc_a, bc_, bc_a, bc_b, bj_, bj_a, bj_b, bz_, bz_a, band_, band_a, bor_, bor_a, bnot_, bnot_a, anil_, ai_, ai_a, ai_b, aj_, aj_a, aj_b, ar_, ar_a, ar_b, kb2i_, cvi_, cvi_a, cvi_b, cvj_, cvj_a, cvj_b, cvz_, cvz_a, cvz_b, csi_, csi_a, csj_, csj_a, csz_, csz_a, snop_, sseq_, sseq_n, sseq_s, sif_, sif_a, scut_, scut_a, ssi_, ssi_a, ssj_, ssj_a, ssr_, ssr_a, sinc_, sinc_a, sret_, sret_a, sretj_, sretj_a, sretv_, spop_, spop_a, kc_scv_, scv_, scv_a, scv_b, scs_, scs_a, fpi_, fpi_a, fpi_b, fpj_, fpj_a, fpj_b, foi_, foi_a, foi_b, foj_, foj_a, foj_b, aii_, aii_a, aii_b, aii_c, aiz_, aiz_a, aiz_b, aiz_c, aij_, aij_a, aij_b, aij_c, aoi_, aoi_a, aoi_b, aoi_c, aoj_, aoj_a, aoj_b, aoj_c, scopy_, scopy_a, scopy_b, scopy_c, scopy_d, scopy_e, ssw_, ssw_a, sel_n, sel_c, mfi_, mfi_a, mfj_, mfj_a, mfz_, mfz_a, kb_mfv_, mfv_, mfv_a, cut, lset, lset2, isL, Value.category, ent, entn, if_some, if_pair, if_cons, if_int, if_long, if_ref, ite_self, gz_b, ↓icb, ↓icb2, b2i_ne, ge0, ge1, ge2, ge3, ge4, ge5, ge6, ge7, ge8, ge9, ge10, ge11, ge12, ge13, ge14, lit32, nI_add, pk_mul, clt_nI, cle_nI, cgt_nI, cge_nI, ceq_nI, cne_nI, inr_nI, nI_clamp, nI_eq, nI_leI, nI_ltI, k492, f492_2, f492_3, f492_4, f492_5, f492_7, f492_8, f492_9, f492_10, k493, k494, k495, k496, k497, k498, k499, k500, l493, l494, l495, l496, l497, l498, l499, l500, ← shS_s]
          omega)
        (by
          have y : ¬ 95 + 6 * w + 6 * n < 95 + 6 * (w + n) := by omega
          simp -implicitDefEqProofs (disch := omega) [qX8_drop_1, kp_, bsome, bnone, gi_s, gj_s, gr_s, gv_s, ik_, jk_, il_, jl_, rl_, i2_, i2_a, i2_b, j2_, j2_a, j2_b, i2d_, i2d_a, i2d_b, j2d_, j2d_a, j2d_b, i1_, i1_a, j1_, j1_a, i2l_, i2l_a, l2i_, l2i_a, fgi_, fgi_a, fgj_, fgj_a, fgr_, fgr_a, iald_, iald_a, iald_b, zald_, zald_a, zald_b, jald_, jald_a, jald_b, rald_, rald_a, rald_b, alen_, alen_a, sald_, sald_a, ic_, ic_a, jc_, jc_a, bc_, bc_a, bc_b, bj_, bj_a, bj_b, bz_, bz_a, band_, band_a, bor_, bor_a, bnot_, bnot_a, anil_, ai_, ai_a, ai_b, aj_, aj_a, aj_b, ar_, ar_a, ar_b, kb2i_, cvi_, cvi_a, cvi_b, cvj_, cvj_a, cvj_b, cvz_, cvz_a, cvz_b, csi_, csi_a, csj_, csj_a, csz_, csz_a, snop_, sseq_, sseq_n, sseq_s, sif_, sif_a, scut_, scut_a, ssi_, ssi_a, ssj_, ssj_a, ssr_, ssr_a, sinc_, sinc_a, sret_, sret_a, sretj_, sretj_a, sretv_, spop_, spop_a, kc_scv_, scv_, scv_a, scv_b, scs_, scs_a, fpi_, fpi_a, fpi_b, fpj_, fpj_a, fpj_b, foi_, foi_a, foi_b, foj_, foj_a, foj_b, aii_, aii_a, aii_b, aii_c, aiz_, aiz_a, aiz_b, aiz_c, aij_, aij_a, aij_b, aij_c, aoi_, aoi_a, aoi_b, aoi_c, aoj_, aoj_a, aoj_b, aoj_c, scopy_, scopy_a, scopy_b, scopy_c, scopy_d, scopy_e, ssw_, ssw_a, sel_n, sel_c, mfi_, mfi_a, mfj_, mfj_a, mfz_, mfz_a, kb_mfv_, mfv_, mfv_a, cut, lset, lset2, isL, Value.category, ent, entn, if_some, if_pair, if_cons, if_int, if_long, if_ref, ite_self, gz_b, ↓icb, ↓icb2, b2i_ne, ge0, ge1, ge2, ge3, ge4, ge5, ge6, ge7, ge8, ge9, ge10, ge11, ge12, ge13, ge14, lit32, nI_add, pk_mul, clt_nI, cle_nI, cgt_nI, cge_nI, ceq_nI, cne_nI, inr_nI, nI_clamp, nI_eq, nI_leI, nI_ltI, k492, f492_2, f492_3, f492_4, f492_5, f492_7, f492_8, f492_9, f492_10, k493, k494, k495, k496, k497, k498, k499, k500, l493, l494, l495, l496, l497, l498, l499, l500, z, r_watchAt, y])
      rwa [shS_0] at this
    obtain ⟨M2, eM2⟩ : ∃ M2 : Me, M2 = wi (shS N0 (95 + 6 * w) (6 * n)) 492 1 (nI 0) := ⟨_, rfl⟩
    have r : DX8_drop [.ref 492, .int (nI w)] M1 = some (nI (w + n), M2) := by
      have z : (shS N0 (95 + 6 * w) (6 * n)).1 494 3 = nI (w + n) := by rw [shS_out (by omega), eN0]; simp [wi]
      have z1 : Nz.1 494 3 = nI (w + n + 1) := by rw [n1]; exact hr1
      rw [eM2]
      simp -implicitDefEqProofs (disch := omega) [DX8_drop, EX8_drop, kp_, bsome, bnone, gi_s, gj_s, gr_s, gv_s, ik_, jk_, il_, jl_, rl_, i2_, i2_a, i2_b, j2_, j2_a, j2_b, i2d_, i2d_a, i2d_b, j2d_, j2d_a, j2d_b, i1_, i1_a, j1_, j1_a, i2l_, i2l_a, l2i_, l2i_a, fgi_, fgi_a, fgj_, fgj_a, fgr_, fgr_a, iald_, iald_a, iald_b, zald_, zald_a, zald_b, jald_, jald_a, jald_b, rald_, rald_a, rald_b, alen_, alen_a, sald_, sald_a, ic_, ic_a, jc_, jc_a, bc_, bc_a, bc_b, bj_, bj_a, bj_b, bz_, bz_a, band_, band_a, bor_, bor_a, bnot_, bnot_a, anil_, ai_, ai_a, ai_b, aj_, aj_a, aj_b, ar_, ar_a, ar_b, kb2i_, cvi_, cvi_a, cvi_b, cvj_, cvj_a, cvj_b, cvz_, cvz_a, cvz_b, csi_, csi_a, csj_, csj_a, csz_, csz_a, snop_, sseq_, sseq_n, sseq_s, sif_, sif_a, scut_, scut_a, ssi_, ssi_a, ssj_, ssj_a, ssr_, ssr_a, sinc_, sinc_a, sret_, sret_a, sretj_, sretj_a, sretv_, spop_, spop_a, kc_scv_, scv_, scv_a, scv_b, scs_, scs_a, fpi_, fpi_a, fpi_b, fpj_, fpj_a, fpj_b, foi_, foi_a, foi_b, foj_, foj_a, foj_b, aii_, aii_a, aii_b, aii_c, aiz_, aiz_a, aiz_b, aiz_c, aij_, aij_a, aij_b, aij_c, aoi_, aoi_a, aoi_b, aoi_c, aoj_, aoj_a, aoj_b, aoj_c, scopy_, scopy_a, scopy_b, scopy_c, scopy_d, scopy_e, ssw_, ssw_a, sel_n, sel_c, mfi_, mfi_a, mfj_, mfj_a, mfz_, mfz_a, kb_mfv_, mfv_, mfv_a, cut, lset, lset2, isL, Value.category, ent, entn, if_some, if_pair, if_cons, if_int, if_long, if_ref, ite_self, gz_b, ↓icb, ↓icb2, b2i_ne, ge0, ge1, ge2, ge3, ge4, ge5, ge6, ge7, ge8, ge9, ge10, ge11, ge12, ge13, ge14, lit32, nI_add, pk_mul, clt_nI, cle_nI, cgt_nI, cge_nI, ceq_nI, cne_nI, inr_nI, nI_clamp, nI_eq, nI_leI, nI_ltI, k492, f492_2, f492_3, f492_4, f492_5, f492_7, f492_8, f492_9, f492_10, k493, k494, k495, k496, k497, k498, k499, k500, l493, l494, l495, l496, l497, l498, l499, l500, r_isWatch hq, hx, hr, z1, pk_sub, ← eN0, r_watchAt, l2, z, r_tell]
    have hY : M2.1 494 = (shS N0 (95 + 6 * w) (6 * n)).1 494 := by rw [eM2, wi_ne (by decide)]
    have hN : ∀ i, i ≠ 3 → N0.1 494 i = M.1 494 i := fun i hi => by rw [eN0, wi_ns hi, n1]
    have hf : ∀ i, i < 331 → i ≠ 3 → ¬ (95 ≤ i ∧ i < 131) → M2.1 494 i = M.1 494 i := fun i z1 z2 z3 => by rw [hY, shS_out (by omega), hN i z2]
    have hin : ∀ s j, j < 6 → s < w + n → M2.1 494 (95 + 6 * s + j) = if s < w then M.1 494 (95 + 6 * s + j) else M.1 494 (95 + 6 * (s + 1) + j) := fun s j hj hs => by
      rw [hY]
      by_cases e : s < w
      · rw [if_pos e, shS_out (by omega), hN _ (by omega)]
      · rw [if_neg e, shS_in (by omega) (by omega), hN _ (by omega), show 95 + 6 * s + j + 6 = 95 + 6 * (s + 1) + j by omega]
    have hV : Vx (M2.1 494) nc nt np (w + n) tm := by
      refine h.1.wN hf (by rw [hY, shS_out (by omega), eN0]; simp [wi]) (by omega) (fun s hs => ?_)
      unfold VxW
      rw [show 95 + 6 * s = 95 + 6 * s + 0 from rfl, hin s 0 (by decide) hs, hin s 1 (by decide) hs, hin s 2 (by decide) hs, hin s 3 (by decide) hs, hin s 4 (by decide) hs]
      by_cases e : s < w
      · simp only [if_pos e]
        exact h.1.2.2.2.2.2.2.1 s (by omega)
      · simp only [if_neg e]
        exact h.1.2.2.2.2.2.2.1 (s + 1) (by omega)
    have hLa : Lr Ma 1 (M.1 494) nc nt np (w + n + 1) tm := h.2.1.frame hb.1 hb.2.1 hb.2.2.1 hb.2.2.2.1 (fun a z1 z2 => a4 a (by omega))
    have hL : Lr M1 1 (M2.1 494) nc nt np (w + n) tm := by
      refine hLa.wN hb.1 hb.2.1 hb.2.2.1 (by omega) hf (fun a z1 z2 z3 => by rw [eM1, wi_ne (by omega), crd_ne (by omega)]) (fun j hj => by rw [eM1, wi_ns hj, crd_ne (by omega)]) (by rw [eM1]; simp [wi]) (fun s hs j hj => ?_)
      rw [hin s j hj hs, eM1, wi_ne (by omega)]
      by_cases e : s < w
      · rw [if_pos e, crd_ne (by omega), hLa.2.2.2.2.2.2.1 s (by omega) j hj]
      · rw [if_neg e, crd_in (by omega) (by omega) hj]
        exact hLa.2.2.2.2.2.2.1 (s + 1) (by omega) j hj
    have cr := core_act h a1 (M1 := M1) f1 (by rw [eM1]; rfl) hr (M2 := M2) (fun a z1 z2 => by rw [eM2, wi_ne z1, shS_ne z2, eN0, wi_ne z2]) (by rw [eM2, eN0]; rfl) (by rw [eM2]; simp [wi]) (by rw [eM2, wi_ns (by decide), shS_ne (by decide), eN0, wi_ne (by decide)]) hV hL (by
        have q7 : ∀ j, j ≠ 3 → M1.1 1 j = M.1 1 j := fun j hj => by rw [eM1, wi_ns hj, crd_ne (by omega), a4 1 (by omega)]
        unfold Nh; rw [q7 7 (by decide), q7 8 (by decide)]; exact h.2.2.1)
    obtain ⟨⟨o2, u2, k1⟩, k2⟩ := cr
    exact ⟨_, _, _, c, r, ⟨_, _, _, _, _, _, _, k1⟩, k2⟩
  · have hx : inr x nw = false := by simpa using hx
    refine act_rf2 (k := 2) (i := 1) h (by omega) ?_ ?_
    · simp -implicitDefEqProofs (disch := omega) [DX7_drop, EX7_drop, kp_, bsome, bnone, gi_s, gj_s, gr_s, gv_s, ik_, jk_, il_, jl_, rl_, i2_, i2_a, i2_b, j2_, j2_a, j2_b, i2d_, i2d_a, i2d_b, j2d_, j2d_a, j2d_b, i1_, i1_a, j1_, j1_a, i2l_, i2l_a, l2i_, l2i_a, fgi_, fgi_a, fgj_, fgj_a, fgr_, fgr_a, iald_, iald_a, iald_b, zald_, zald_a, zald_b, jald_, jald_a, jald_b, rald_, rald_a, rald_b, alen_, alen_a, sald_, sald_a, ic_, ic_a, jc_, jc_a, bc_, bc_a, bc_b, bj_, bj_a, bj_b, bz_, bz_a, band_, band_a, bor_, bor_a, bnot_, bnot_a, anil_, ai_, ai_a, ai_b, aj_, aj_a, aj_b, ar_, ar_a, ar_b, kb2i_, cvi_, cvi_a, cvi_b, cvj_, cvj_a, cvj_b, cvz_, cvz_a, cvz_b, csi_, csi_a, csj_, csj_a, csz_, csz_a, snop_, sseq_, sseq_n, sseq_s, sif_, sif_a, scut_, scut_a, ssi_, ssi_a, ssj_, ssj_a, ssr_, ssr_a, sinc_, sinc_a, sret_, sret_a, sretj_, sretj_a, sretv_, spop_, spop_a, kc_scv_, scv_, scv_a, scv_b, scs_, scs_a, fpi_, fpi_a, fpi_b, fpj_, fpj_a, fpj_b, foi_, foi_a, foi_b, foj_, foj_a, foj_b, aii_, aii_a, aii_b, aii_c, aiz_, aiz_a, aiz_b, aiz_c, aij_, aij_a, aij_b, aij_c, aoi_, aoi_a, aoi_b, aoi_c, aoj_, aoj_a, aoj_b, aoj_c, scopy_, scopy_a, scopy_b, scopy_c, scopy_d, scopy_e, ssw_, ssw_a, sel_n, sel_c, mfi_, mfi_a, mfj_, mfj_a, mfz_, mfz_a, kb_mfv_, mfv_, mfv_a, cut, lset, lset2, isL, Value.category, ent, entn, if_some, if_pair, if_cons, if_int, if_long, if_ref, ite_self, gz_b, ↓icb, ↓icb2, b2i_ne, ge0, ge1, ge2, ge3, ge4, ge5, ge6, ge7, ge8, ge9, ge10, ge11, ge12, ge13, ge14, lit32, nI_add, pk_mul, clt_nI, cle_nI, cgt_nI, cge_nI, ceq_nI, cne_nI, inr_nI, nI_clamp, nI_eq, nI_leI, nI_ltI, k0, f0_0, k1_, c_isWatch hn1, hx, c_refuse2]
    · have hq : (wi (rfC M 2 1) 492 0 (nI 0)).1 494 3 = nI nw := by rw [wi_ne (by decide), rfC_r (by decide) (by decide)]; exact hr1
      simp -implicitDefEqProofs (disch := omega) [DX8_drop, EX8_drop, kp_, bsome, bnone, gi_s, gj_s, gr_s, gv_s, ik_, jk_, il_, jl_, rl_, i2_, i2_a, i2_b, j2_, j2_a, j2_b, i2d_, i2d_a, i2d_b, j2d_, j2d_a, j2d_b, i1_, i1_a, j1_, j1_a, i2l_, i2l_a, l2i_, l2i_a, fgi_, fgi_a, fgj_, fgj_a, fgr_, fgr_a, iald_, iald_a, iald_b, zald_, zald_a, zald_b, jald_, jald_a, jald_b, rald_, rald_a, rald_b, alen_, alen_a, sald_, sald_a, ic_, ic_a, jc_, jc_a, bc_, bc_a, bc_b, bj_, bj_a, bj_b, bz_, bz_a, band_, band_a, bor_, bor_a, bnot_, bnot_a, anil_, ai_, ai_a, ai_b, aj_, aj_a, aj_b, ar_, ar_a, ar_b, kb2i_, cvi_, cvi_a, cvi_b, cvj_, cvj_a, cvj_b, cvz_, cvz_a, cvz_b, csi_, csi_a, csj_, csj_a, csz_, csz_a, snop_, sseq_, sseq_n, sseq_s, sif_, sif_a, scut_, scut_a, ssi_, ssi_a, ssj_, ssj_a, ssr_, ssr_a, sinc_, sinc_a, sret_, sret_a, sretj_, sretj_a, sretv_, spop_, spop_a, kc_scv_, scv_, scv_a, scv_b, scs_, scs_a, fpi_, fpi_a, fpi_b, fpj_, fpj_a, fpj_b, foi_, foi_a, foi_b, foj_, foj_a, foj_b, aii_, aii_a, aii_b, aii_c, aiz_, aiz_a, aiz_b, aiz_c, aij_, aij_a, aij_b, aij_c, aoi_, aoi_a, aoi_b, aoi_c, aoj_, aoj_a, aoj_b, aoj_c, scopy_, scopy_a, scopy_b, scopy_c, scopy_d, scopy_e, ssw_, ssw_a, sel_n, sel_c, mfi_, mfi_a, mfj_, mfj_a, mfz_, mfz_a, kb_mfv_, mfv_, mfv_a, cut, lset, lset2, isL, Value.category, ent, entn, if_some, if_pair, if_cons, if_int, if_long, if_ref, ite_self, gz_b, ↓icb, ↓icb2, b2i_ne, ge0, ge1, ge2, ge3, ge4, ge5, ge6, ge7, ge8, ge9, ge10, ge11, ge12, ge13, ge14, lit32, nI_add, pk_mul, clt_nI, cle_nI, cgt_nI, cge_nI, ceq_nI, cne_nI, inr_nI, nI_clamp, nI_eq, nI_leI, nI_ltI, k492, f492_2, f492_3, f492_4, f492_5, f492_7, f492_8, f492_9, f492_10, k493, k494, k495, k496, k497, k498, k499, k500, l493, l494, l495, l496, l497, l498, l499, l500, r_isWatch hq, hx, r_refuse2']
