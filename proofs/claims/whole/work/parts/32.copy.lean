/-! ===== lines copied; the past ===== -/
theorem k0 : kd 0 = 6 := by decide +kernel
theorem f0_0 : rf 0 0 = 1 := by decide +kernel
theorem f0_1 : rf 0 1 = 31 := by decide +kernel
theorem f0_2 : rf 0 2 = 61 := by decide +kernel
theorem f0_3 : rf 0 3 = 97 := by decide +kernel
theorem f0_4 : rf 0 4 = 98 := by decide +kernel
theorem f0_5 : rf 0 5 = 122 := by decide +kernel
theorem f0_6 : rf 0 6 = 126 := by decide +kernel
theorem f0_7 : rf 0 7 = 429 := by decide +kernel
theorem f0_8 : rf 0 8 = 490 := by decide +kernel
theorem f0_9 : rf 0 9 = 491 := by decide +kernel
theorem k1_ : kd 1 = 1 := by decide +kernel
theorem k31_ : kd 31 = 1 := by decide +kernel
theorem k61 : kd 61 = 0 := by decide +kernel
theorem k97 : kd 97 = 5 := by decide +kernel
theorem k98 : kd 98 = 4 := by decide +kernel
theorem k122 : kd 122 = 3 := by decide +kernel
theorem k126 : kd 126 = 2 := by decide +kernel
theorem f126_0 : rf 126 0 = 127 := by decide +kernel
theorem f126_1 : rf 126 1 = 428 := by decide +kernel
theorem k127 : kd 127 = 11 := by decide +kernel
theorem l127 : ln 127 = 10 := by decide +kernel
theorem f127 : ∀ i, i < 10 → rf 127 i = 128 + 30 * i := by decide +kernel
theorem k428 : kd 428 = 8 := by decide +kernel
theorem l428 : ln 428 = 10 := by decide +kernel
theorem k429 : kd 429 = 11 := by decide +kernel
theorem l429 : ln 429 = 2 := by decide +kernel
theorem f429 : ∀ i, i < 2 → rf 429 i = 430 + 30 * i := by decide +kernel
theorem k490 : kd 490 = 10 := by decide +kernel
theorem l490 : ln 490 = 2 := by decide +kernel
theorem k491 : kd 491 = 8 := by decide +kernel
theorem l491 : ln 491 = 4 := by decide +kernel
theorem m1_ : 1 ∈ lnb := by decide
theorem m31_ : 31 ∈ lnb := by decide
theorem mPast : ∀ i, i < 10 → 128 + 30 * i ∈ lnb := by decide
theorem mImg : ∀ i, i < 2 → 430 + 30 * i ∈ lnb := by decide
theorem ln_apart : ∀ b ∈ lnb, ∀ d ∈ lnb, b ≠ d → b + 30 ≤ d ∨ d + 30 ≤ b := by decide
theorem ln_le : ∀ b ∈ lnb, b + 30 ≤ 490 := by decide
def crw (M : Me) (fb tb n w : Nat) : Me := (fun q j => if tb ≤ q ∧ q < tb + n ∧ j < w then M.1 (fb + (q - tb)) j else M.1 q j, M.2)
set_option maxRecDepth 20000 in
theorem crw_out {M : Me} {fb tb n w q : Nat} (h : q < tb ∨ tb + n ≤ q) : (crw M fb tb n w).1 q = M.1 q := by
  funext j
  simp only [crw]
  rw [if_neg (by omega)]
set_option maxRecDepth 20000 in
theorem crw_in {M : Me} {fb tb n w k j : Nat} (h : k < n) (hj : j < w) : (crw M fb tb n w).1 (tb + k) j = M.1 (fb + k) j := by
  simp only [crw]
  rw [if_pos (by omega), Nat.add_sub_cancel_left]
theorem crw_2 {M : Me} {fb tb n w : Nat} : (crw M fb tb n w).2 = M.2 := rfl
set_option maxRecDepth 20000 in
theorem cpi_out {M : Me} {a sp b dp n q : Nat} (h : q ≠ b) : (cpi M a sp b dp n).1 q = M.1 q := by
  funext j
  simp [cpi, h]
set_option maxRecDepth 20000 in
theorem cpi_in {M : Me} {a b n j : Nat} (hj : j < n) : (cpi M a 0 b 0 n).1 b j = M.1 a j := by
  simp [cpi, va_cpy, hj]
theorem cpi_2 {M : Me} {a sp b dp n : Nat} : (cpi M a sp b dp n).2 = M.2 := rfl
theorem wi_2 {M : Me} {a i : Nat} {x : Int32} : (wi M a i x).2 = M.2 := rfl
set_option maxRecDepth 20000 in
theorem c_copyRows {fa ta fb tb n w : Nat} {M : Me} (hka : kd fa = 12) (hkt : kd ta = 12) (hla : ln fa = n) (hlt : ln ta = n) (hn : n ≤ 20) (hra : ∀ k, k < n → rf fa k = fb + k) (hrt : ∀ k, k < n → rf ta k = tb + k) (hk1 : ∀ k, k < n → kd (fb + k) = 8 ∧ ln (fb + k) = w) (hk2 : ∀ k, k < n → kd (tb + k) = 8 ∧ ln (tb + k) = w) (hw : w ≤ 200) (hap : fb + n ≤ tb ∨ tb + n ≤ fb) : DX1_copyRows [.ref fa, .ref ta, .int (nI w)] M = some (crw M fb tb n w) := by
  have z1 : ∀ k, k < n → kd (fb + k) = 8 := fun k hk => (hk1 k hk).1
  have z2 : ∀ k, k < n → ln (fb + k) = w := fun k hk => (hk1 k hk).2
  have z3 : ∀ k, k < n → kd (tb + k) = 8 := fun k hk => (hk2 k hk).1
  have z4 : ∀ k, k < n → ln (tb + k) = w := fun k hk => (hk2 k hk).2
  have e0 : crw M fb tb 0 w = M := by
    unfold crw
    have : (fun q j => if tb ≤ q ∧ q < tb + 0 ∧ j < w then M.1 (fb + (q - tb)) j else M.1 q j) = M.1 := by
      funext q j
      rw [if_neg (by omega)]
    rw [this]
  have l1 : swh qX1_copyRows_1 wX1_copyRows_1 [.ref fa, .ref ta, .int (nI w), .int (nI 0)] (crw M fb tb 0 w) = some (none, [.ref fa, .ref ta, .int (nI w), .int (nI n)], crw M fb tb n w) := swh_count (fun i => [.ref fa, .ref ta, .int (nI w), .int (nI i)]) (fun i => crw M fb tb i w) n
    (fun i hi => by simp -implicitDefEqProofs (disch := omega) [qX1_copyRows_1, kp_, bsome, bnone, gi_s, gj_s, gr_s, gv_s, ik_, jk_, il_, jl_, rl_, i2_, i2_a, i2_b, j2_, j2_a, j2_b, i2d_, i2d_a, i2d_b, j2d_, j2d_a, j2d_b, i1_, i1_a, j1_, j1_a, i2l_, i2l_a, l2i_, l2i_a, fgi_, fgi_a, fgj_, fgj_a, fgr_, fgr_a, iald_, iald_a, iald_b, zald_, zald_a, zald_b, jald_, jald_a, jald_b, rald_, rald_a, rald_b, alen_, alen_a, sald_, sald_a, ic_, ic_a, jc_, jc_a, bc_, bc_a, bc_b, bj_, bj_a, bj_b, bz_, bz_a, band_, band_a, bor_, bor_a, bnot_, bnot_a, anil_, ai_, ai_a, ai_b, aj_, aj_a, aj_b, ar_, ar_a, ar_b, kb2i_, cvi_, cvi_a, cvi_b, cvj_, cvj_a, cvj_b, cvz_, cvz_a, cvz_b, csi_, csi_a, csj_, csj_a, csz_, csz_a, snop_, sseq_, sseq_n, sseq_s, sif_, sif_a, scut_, scut_a, ssi_, ssi_a, ssj_, ssj_a, ssr_, ssr_a, sinc_, sinc_a, sret_, sret_a, sretj_, sretj_a, sretv_, spop_, spop_a, kc_scv_, scv_, scv_a, scv_b, scs_, scs_a, fpi_, fpi_a, fpi_b, fpj_, fpj_a, fpj_b, foi_, foi_a, foi_b, foj_, foj_a, foj_b, aii_, aii_a, aii_b, aii_c, aiz_, aiz_a, aiz_b, aiz_c, aij_, aij_a, aij_b, aij_c, aoi_, aoi_a, aoi_b, aoi_c, aoj_, aoj_a, aoj_b, aoj_c, scopy_, scopy_a, scopy_b, scopy_c, scopy_d, scopy_e, ssw_, ssw_a, sel_n, sel_c, mfi_, mfi_a, mfj_, mfj_a, mfz_, mfz_a, kb_mfv_, mfv_, mfv_a, cut, lset, lset2, isL, Value.category, ent, entn, if_some, if_pair, if_cons, if_int, if_long, if_ref, ite_self, gz_b, ↓icb, ↓icb2, b2i_ne, ge0, ge1, ge2, ge3, ge4, ge5, ge6, ge7, ge8, ge9, ge10, ge11, ge12, ge13, ge14, lit32, nI_add, pk_mul, clt_nI, cle_nI, cgt_nI, cge_nI, ceq_nI, cne_nI, inr_nI, nI_clamp, nI_eq, nI_leI, nI_ltI, hka, hkt, hla, hlt, hi, ofN])
    (fun i hi => by
      have g0 : ¬ nI 0 < 0 := by decide
      have g1 : ¬ nI w < 0 := nI_pos (by omega)
      have g2 : (nI w).toNatClampNeg = w := nI_clamp (by omega)
      have g3 : (nI 0).toNatClampNeg = 0 := by decide
      simp -implicitDefEqProofs (disch := omega) [wX1_copyRows_1, kp_, bsome, bnone, gi_s, gj_s, gr_s, gv_s, ik_, jk_, il_, jl_, rl_, i2_, i2_a, i2_b, j2_, j2_a, j2_b, i2d_, i2d_a, i2d_b, j2d_, j2d_a, j2d_b, i1_, i1_a, j1_, j1_a, i2l_, i2l_a, l2i_, l2i_a, fgi_, fgi_a, fgj_, fgj_a, fgr_, fgr_a, iald_, iald_a, iald_b, zald_, zald_a, zald_b, jald_, jald_a, jald_b, rald_, rald_a, rald_b, alen_, alen_a, sald_, sald_a, ic_, ic_a, jc_, jc_a, bc_, bc_a, bc_b, bj_, bj_a, bj_b, bz_, bz_a, band_, band_a, bor_, bor_a, bnot_, bnot_a, anil_, ai_, ai_a, ai_b, aj_, aj_a, aj_b, ar_, ar_a, ar_b, kb2i_, cvi_, cvi_a, cvi_b, cvj_, cvj_a, cvj_b, cvz_, cvz_a, cvz_b, csi_, csi_a, csj_, csj_a, csz_, csz_a, snop_, sseq_, sseq_n, sseq_s, sif_, sif_a, scut_, scut_a, ssi_, ssi_a, ssj_, ssj_a, ssr_, ssr_a, sinc_, sinc_a, sret_, sret_a, sretj_, sretj_a, sretv_, spop_, spop_a, kc_scv_, scv_, scv_a, scv_b, scs_, scs_a, fpi_, fpi_a, fpi_b, fpj_, fpj_a, fpj_b, foi_, foi_a, foi_b, foj_, foj_a, foj_b, aii_, aii_a, aii_b, aii_c, aiz_, aiz_a, aiz_b, aiz_c, aij_, aij_a, aij_b, aij_c, aoi_, aoi_a, aoi_b, aoi_c, aoj_, aoj_a, aoj_b, aoj_c, scopy_, scopy_a, scopy_b, scopy_c, scopy_d, scopy_e, ssw_, ssw_a, sel_n, sel_c, mfi_, mfi_a, mfj_, mfj_a, mfz_, mfz_a, kb_mfv_, mfv_, mfv_a, cut, lset, lset2, isL, Value.category, ent, entn, if_some, if_pair, if_cons, if_int, if_long, if_ref, ite_self, gz_b, ↓icb, ↓icb2, b2i_ne, ge0, ge1, ge2, ge3, ge4, ge5, ge6, ge7, ge8, ge9, ge10, ge11, ge12, ge13, ge14, lit32, nI_add, pk_mul, clt_nI, cle_nI, cgt_nI, cge_nI, ceq_nI, cne_nI, inr_nI, nI_clamp, nI_eq, nI_leI, nI_ltI, hka, hkt, hla, hlt, hra, hrt, z1, z2, z3, z4]
      unfold crw cpi va_cpy
      simp only [Prod.mk.injEq, and_true]
      funext q j
      by_cases e1 : q = tb + i
      · subst e1
        by_cases e2 : j < w
        · simp [e2]
          intro h1 h2
          exfalso
          omega
        · simp [e2]
      · rw [if_neg e1]
        by_cases e3 : tb ≤ q ∧ q < tb + i ∧ j < w
        · rw [if_pos e3, if_pos (by omega)]
        · rw [if_neg e3, if_neg (by omega)])
    (by simp -implicitDefEqProofs (disch := omega) [qX1_copyRows_1, kp_, bsome, bnone, gi_s, gj_s, gr_s, gv_s, ik_, jk_, il_, jl_, rl_, i2_, i2_a, i2_b, j2_, j2_a, j2_b, i2d_, i2d_a, i2d_b, j2d_, j2d_a, j2d_b, i1_, i1_a, j1_, j1_a, i2l_, i2l_a, l2i_, l2i_a, fgi_, fgi_a, fgj_, fgj_a, fgr_, fgr_a, iald_, iald_a, iald_b, zald_, zald_a, zald_b, jald_, jald_a, jald_b, rald_, rald_a, rald_b, alen_, alen_a, sald_, sald_a, ic_, ic_a, jc_, jc_a, bc_, bc_a, bc_b, bj_, bj_a, bj_b, bz_, bz_a, band_, band_a, bor_, bor_a, bnot_, bnot_a, anil_, ai_, ai_a, ai_b, aj_, aj_a, aj_b, ar_, ar_a, ar_b, kb2i_, cvi_, cvi_a, cvi_b, cvj_, cvj_a, cvj_b, cvz_, cvz_a, cvz_b, csi_, csi_a, csj_, csj_a, csz_, csz_a, snop_, sseq_, sseq_n, sseq_s, sif_, sif_a, scut_, scut_a, ssi_, ssi_a, ssj_, ssj_a, ssr_, ssr_a, sinc_, sinc_a, sret_, sret_a, sretj_, sretj_a, sretv_, spop_, spop_a, kc_scv_, scv_, scv_a, scv_b, scs_, scs_a, fpi_, fpi_a, fpi_b, fpj_, fpj_a, fpj_b, foi_, foi_a, foi_b, foj_, foj_a, foj_b, aii_, aii_a, aii_b, aii_c, aiz_, aiz_a, aiz_b, aiz_c, aij_, aij_a, aij_b, aij_c, aoi_, aoi_a, aoi_b, aoi_c, aoj_, aoj_a, aoj_b, aoj_c, scopy_, scopy_a, scopy_b, scopy_c, scopy_d, scopy_e, ssw_, ssw_a, sel_n, sel_c, mfi_, mfi_a, mfj_, mfj_a, mfz_, mfz_a, kb_mfv_, mfv_, mfv_a, cut, lset, lset2, isL, Value.category, ent, entn, if_some, if_pair, if_cons, if_int, if_long, if_ref, ite_self, gz_b, ↓icb, ↓icb2, b2i_ne, ge0, ge1, ge2, ge3, ge4, ge5, ge6, ge7, ge8, ge9, ge10, ge11, ge12, ge13, ge14, lit32, nI_add, pk_mul, clt_nI, cle_nI, cgt_nI, cge_nI, ceq_nI, cne_nI, inr_nI, nI_clamp, nI_eq, nI_leI, nI_ltI, hka, hkt, hla, hlt, ofN])
  rw [e0] at l1
  simp -implicitDefEqProofs (disch := omega) [DX1_copyRows, EX1_copyRows, kp_, bsome, bnone, gi_s, gj_s, gr_s, gv_s, ik_, jk_, il_, jl_, rl_, i2_, i2_a, i2_b, j2_, j2_a, j2_b, i2d_, i2d_a, i2d_b, j2d_, j2d_a, j2d_b, i1_, i1_a, j1_, j1_a, i2l_, i2l_a, l2i_, l2i_a, fgi_, fgi_a, fgj_, fgj_a, fgr_, fgr_a, iald_, iald_a, iald_b, zald_, zald_a, zald_b, jald_, jald_a, jald_b, rald_, rald_a, rald_b, alen_, alen_a, sald_, sald_a, ic_, ic_a, jc_, jc_a, bc_, bc_a, bc_b, bj_, bj_a, bj_b, bz_, bz_a, band_, band_a, bor_, bor_a, bnot_, bnot_a, anil_, ai_, ai_a, ai_b, aj_, aj_a, aj_b, ar_, ar_a, ar_b, kb2i_, cvi_, cvi_a, cvi_b, cvj_, cvj_a, cvj_b, cvz_, cvz_a, cvz_b, csi_, csi_a, csj_, csj_a, csz_, csz_a, snop_, sseq_, sseq_n, sseq_s, sif_, sif_a, scut_, scut_a, ssi_, ssi_a, ssj_, ssj_a, ssr_, ssr_a, sinc_, sinc_a, sret_, sret_a, sretj_, sretj_a, sretv_, spop_, spop_a, kc_scv_, scv_, scv_a, scv_b, scs_, scs_a, fpi_, fpi_a, fpi_b, fpj_, fpj_a, fpj_b, foi_, foi_a, foi_b, foj_, foj_a, foj_b, aii_, aii_a, aii_b, aii_c, aiz_, aiz_a, aiz_b, aiz_c, aij_, aij_a, aij_b, aij_c, aoi_, aoi_a, aoi_b, aoi_c, aoj_, aoj_a, aoj_b, aoj_c, scopy_, scopy_a, scopy_b, scopy_c, scopy_d, scopy_e, ssw_, ssw_a, sel_n, sel_c, mfi_, mfi_a, mfj_, mfj_a, mfz_, mfz_a, kb_mfv_, mfv_, mfv_a, cut, lset, lset2, isL, Value.category, ent, entn, if_some, if_pair, if_cons, if_int, if_long, if_ref, ite_self, gz_b, ↓icb, ↓icb2, b2i_ne, ge0, ge1, ge2, ge3, ge4, ge5, ge6, ge7, ge8, ge9, ge10, ge11, ge12, ge13, ge14, lit32, nI_add, pk_mul, clt_nI, cle_nI, cgt_nI, cge_nI, ceq_nI, cne_nI, inr_nI, nI_clamp, nI_eq, nI_leI, nI_ltI, l1]
set_option maxRecDepth 20000 in
theorem c_copyFrom {b d : Nat} {M : Me} (hb : b ∈ lnb) (hd : d ∈ lnb) (hne : b ≠ d) : ∃ Mz, DX1_copyFrom [.ref b, .ref d] M = some Mz ∧ (∀ a, a < b ∨ b + 30 ≤ a → Mz.1 a = M.1 a) ∧ Mz.2 = M.2 ∧ (∀ j, j < 9 → Mz.1 b j = M.1 d j) ∧ (∀ c, c < 5 → ∀ j, j < 4 → Mz.1 (b + 2 + c) j = M.1 (d + 2 + c) j) ∧ (∀ c, c < 10 → ∀ j, j < 4 → Mz.1 (b + 8 + c) j = M.1 (d + 8 + c) j) ∧ (∀ c, c < 3 → ∀ j, j < 9 → Mz.1 (b + 19 + c) j = M.1 (d + 19 + c) j) ∧ (∀ c, c < 6 → ∀ j, j < 6 → Mz.1 (b + 23 + c) j = M.1 (d + 23 + c) j) ∧ (∀ j, j < 200 → Mz.1 (b + 29) j = M.1 (d + 29) j) := by
  have hap := ln_apart b hb d hd hne
  have M0 : ∃ M0 : Me, M0 = wi (wi (wi (wi (wi (wi (wi (wi (wi M b 0 (M.1 d 0)) b 1 (M.1 d 1)) b 2 (M.1 d 2)) b 3 (M.1 d 3)) b 4 (M.1 d 4)) b 5 (M.1 d 5)) b 6 (M.1 d 6)) b 7 (M.1 d 7)) b 8 (M.1 d 8) := ⟨_, rfl⟩
  obtain ⟨M0, e0⟩ := M0
  have r1 := c_copyRows (M := M0) (fa := d + 1) (ta := b + 1) (fb := d + 2) (tb := b + 2) (n := 5) (w := 4) (a_k1 hd) (a_k1 hb) (a_l1 hd) (a_l1 hb) (by decide) (a_rc hd) (a_rc hb) (fun k hk => ⟨a_kc hd k hk, a_lc hd k hk⟩) (fun k hk => ⟨a_kc hb k hk, a_lc hb k hk⟩) (by decide) (by omega)
  have r2 := c_copyRows (M := crw M0 (d + 2) (b + 2) 5 4) (fa := d + 7) (ta := b + 7) (fb := d + 8) (tb := b + 8) (n := 10) (w := 4) (a_k7 hd) (a_k7 hb) (a_l7 hd) (a_l7 hb) (by decide) (a_rt hd) (a_rt hb) (fun k hk => ⟨a_kt hd k hk, a_lt hd k hk⟩) (fun k hk => ⟨a_kt hb k hk, a_lt hb k hk⟩) (by decide) (by omega)
  have r3 := c_copyRows (M := crw (crw M0 (d + 2) (b + 2) 5 4) (d + 8) (b + 8) 10 4) (fa := d + 18) (ta := b + 18) (fb := d + 19) (tb := b + 19) (n := 3) (w := 9) (a_k18 hd) (a_k18 hb) (a_l18 hd) (a_l18 hb) (by decide) (a_rp hd) (a_rp hb) (fun k hk => ⟨a_kp hd k hk, a_lp hd k hk⟩) (fun k hk => ⟨a_kp hb k hk, a_lp hb k hk⟩) (by decide) (by omega)
  have r4 := c_copyRows (M := crw (crw (crw M0 (d + 2) (b + 2) 5 4) (d + 8) (b + 8) 10 4) (d + 19) (b + 19) 3 9) (fa := d + 22) (ta := b + 22) (fb := d + 23) (tb := b + 23) (n := 6) (w := 6) (a_k22 hd) (a_k22 hb) (a_l22 hd) (a_l22 hb) (by decide) (a_rw hd) (a_rw hb) (fun k hk => ⟨a_kw hd k hk, a_lw hd k hk⟩) (fun k hk => ⟨a_kw hb k hk, a_lw hb k hk⟩) (by decide) (by omega)
  refine ⟨cpi (crw (crw (crw (crw M0 (d + 2) (b + 2) 5 4) (d + 8) (b + 8) 10 4) (d + 19) (b + 19) 3 9) (d + 23) (b + 23) 6 6) (d + 29) 0 (b + 29) 0 200, ?_, ?_, ?_, ?_, ?_, ?_, ?_, ?_, ?_⟩
  · have g : ∀ j, (wi (wi (wi (wi (wi (wi (wi (wi (wi M b 0 (M.1 d 0)) b 1 (M.1 d 1)) b 2 (M.1 d 2)) b 3 (M.1 d 3)) b 4 (M.1 d 4)) b 5 (M.1 d 5)) b 6 (M.1 d 6)) b 7 (M.1 d 7)) b 8 (M.1 d 8)).1 d j = M.1 d j := fun j => by simp [wi, Ne.symm hne]
    have hnd : ¬ d = b := fun q => hne q.symm
    simp -implicitDefEqProofs (disch := omega) [DX1_copyFrom, EX1_copyFrom, kp_, bsome, bnone, gi_s, gj_s, gr_s, gv_s, ik_, jk_, il_, jl_, rl_, i2_, i2_a, i2_b, j2_, j2_a, j2_b, i2d_, i2d_a, i2d_b, j2d_, j2d_a, j2d_b, i1_, i1_a, j1_, j1_a, i2l_, i2l_a, l2i_, l2i_a, fgi_, fgi_a, fgj_, fgj_a, fgr_, fgr_a, iald_, iald_a, iald_b, zald_, zald_a, zald_b, jald_, jald_a, jald_b, rald_, rald_a, rald_b, alen_, alen_a, sald_, sald_a, ic_, ic_a, jc_, jc_a, bc_, bc_a, bc_b, bj_, bj_a, bj_b, bz_, bz_a, band_, band_a, bor_, bor_a, bnot_, bnot_a, anil_, ai_, ai_a, ai_b, aj_, aj_a, aj_b, ar_, ar_a, ar_b, kb2i_, cvi_, cvi_a, cvi_b, cvj_, cvj_a, cvj_b, cvz_, cvz_a, cvz_b, csi_, csi_a, csj_, csj_a, csz_, csz_a, snop_, sseq_, sseq_n, sseq_s, sif_, sif_a, scut_, scut_a, ssi_, ssi_a, ssj_, ssj_a, ssr_, ssr_a, sinc_, sinc_a, sret_, sret_a, sretj_, sretj_a, sretv_, spop_, spop_a, kc_scv_, scv_, scv_a, scv_b, scs_, scs_a, fpi_, fpi_a, fpi_b, fpj_, fpj_a, fpj_b, foi_, foi_a, foi_b, foj_, foj_a, foj_b, aii_, aii_a, aii_b, aii_c, aiz_, aiz_a, aiz_b, aiz_c, aij_, aij_a, aij_b, aij_c, aoi_, aoi_a, aoi_b, aoi_c, aoj_, aoj_a, aoj_b, aoj_c, scopy_, scopy_a, scopy_b, scopy_c, scopy_d, scopy_e, ssw_, ssw_a, sel_n, sel_c, mfi_, mfi_a, mfj_, mfj_a, mfz_, mfz_a, kb_mfv_, mfv_, mfv_a, cut, lset, lset2, isL, Value.category, ent, entn, if_some, if_pair, if_cons, if_int, if_long, if_ref, ite_self, gz_b, ↓icb, ↓icb2, b2i_ne, ge0, ge1, ge2, ge3, ge4, ge5, ge6, ge7, ge8, ge9, ge10, ge11, ge12, ge13, ge14, lit32, nI_add, pk_mul, clt_nI, cle_nI, cgt_nI, cge_nI, ceq_nI, cne_nI, inr_nI, nI_clamp, nI_eq, nI_leI, nI_ltI, a_kb hb, a_9 hb, a_10 hb, a_11 hb, a_12 hb, a_13 hb, a_k1 hb, a_l1 hb, a_k7 hb, a_l7 hb, a_k18 hb, a_l18 hb, a_k22 hb, a_l22 hb, a_k29 hb, a_l29 hb, a_rc hb, a_kc hb, a_lc hb, a_rt hb, a_kt hb, a_lt hb, a_rp hb, a_kp hb, a_lp hb, a_rw hb, a_kw hb, a_lw hb, a_kb hd, a_9 hd, a_10 hd, a_11 hd, a_12 hd, a_13 hd, a_k29 hd, a_l29 hd, wi_ne hnd, ← e0, r1, r2, r3, r4]
  · intro a ha
    rw [cpi_out (by omega), crw_out (by omega), crw_out (by omega), crw_out (by omega), crw_out (by omega), e0]
    simp (disch := omega) only [wi_ne]
  · rw [e0]; rfl
  · intro j hj
    rw [cpi_out (by omega), crw_out (by omega), crw_out (by omega), crw_out (by omega), crw_out (by omega), e0]
    match j, hj with
    | 0, _ | 1, _ | 2, _ | 3, _ | 4, _ | 5, _ | 6, _ | 7, _ | 8, _ => simp [wi]
    | j + 9, hj => omega
  · intro c hc j hj
    rw [cpi_out (by omega), crw_out (by omega), crw_out (by omega), crw_out (by omega), crw_in hc hj, e0]
    simp (disch := omega) only [wi_ne]
  · intro c hc j hj
    rw [cpi_out (by omega), crw_out (by omega), crw_out (by omega), crw_in hc hj, crw_out (by omega), e0]
    simp (disch := omega) only [wi_ne]
  · intro c hc j hj
    rw [cpi_out (by omega), crw_out (by omega), crw_in hc hj, crw_out (by omega), crw_out (by omega), e0]
    simp (disch := omega) only [wi_ne]
  · intro c hc j hj
    rw [cpi_out (by omega), crw_in hc hj, crw_out (by omega), crw_out (by omega), crw_out (by omega), e0]
    simp (disch := omega) only [wi_ne]
  · intro j hj
    rw [cpi_in hj, crw_out (by omega), crw_out (by omega), crw_out (by omega), crw_out (by omega), e0]
    simp (disch := omega) only [wi_ne]
set_option maxRecDepth 20000 in
theorem c_copyLine {b d : Nat} {M : Me} (hb : b ∈ lnb) (hd : d ∈ lnb) (hne : b ≠ d) : ∃ Mz, DX1_copyFrom [.ref b, .ref d] M = some Mz ∧ (∀ a, a < b ∨ b + 30 ≤ a → Mz.1 a = M.1 a) ∧ Mz.2 = M.2 ∧ (Nh M d → Nh Mz b) ∧ ∀ X nc nt np nw tm, nc ≤ 5 → nt ≤ 10 → np ≤ 3 → nw ≤ 6 → Lr M d X nc nt np nw tm → Lr Mz b X nc nt np nw tm := by
  obtain ⟨Mz, h0, h1, h2, h3, h4, h5, h6, h7, h8⟩ := c_copyFrom (M := M) hb hd hne
  refine ⟨Mz, h0, h1, h2, fun hn => ?_, fun X nc nt np nw tm hc ht hp hw hL => ?_⟩
  · unfold Nh
    rw [h3 7 (by omega), h3 8 (by omega)]
    exact hn
  · obtain ⟨-, g1, g2, g3, g4, g5, g6, g7⟩ := hL
    refine ⟨hb, ?_, fun c hc1 j hj => ?_, fun c hc1 => ?_, fun t ht1 j hj => ?_, fun p hp1 j hj => ?_, fun w hw1 j hj => ?_, fun k hk c hc1 => ?_⟩
    · rw [h3 0 (by omega), h3 1 (by omega), h3 2 (by omega), h3 3 (by omega), h3 4 (by omega), h3 5 (by omega), h3 6 (by omega)]; exact g1
    · rw [h4 _ (by omega) _ (by omega)]; exact g2 c hc1 j hj
    · rw [h4 _ (by omega) _ (by omega)]; exact g3 c hc1
    · rw [h5 _ (by omega) _ (by omega)]; exact g4 t ht1 j hj
    · rw [h6 _ (by omega) _ (by omega)]; exact g5 p hp1 j hj
    · rw [h7 _ (by omega) _ (by omega)]; exact g6 w hw1 j hj
    · rw [h8 _ (by omega)]; exact g7 k hk c hc1
