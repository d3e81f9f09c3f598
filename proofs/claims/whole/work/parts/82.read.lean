/-! ===== readings ===== -/
set_option maxRecDepth 20000 in
theorem jI_quot {a b : Int} (h0 : 0 ≤ a) (h1 : a ≤ 9000000000000000000) (h2 : 0 < b) (h3 : b ≤ 9000000000000000000) : jI a / jI b = jI (a / b) := by
  apply Int64.toInt_inj.mp
  rw [Int64.toInt_div, jI_toInt (by omega) (by omega), jI_toInt (by omega) (by omega), Int.tdiv_eq_ediv_of_nonneg h0]
  show _ = (Int64.ofInt (a / b)).toInt
  rw [Int64.toInt_ofInt]
set_option maxRecDepth 20000 in
theorem jI_l2i {z : Int} (h0 : 0 ≤ z) (h1 : z < 2147483648) : (jI z).toInt32 = nI z.toNat := by
  apply Int32.toInt_inj.mp
  rw [Int64.toInt_toInt32, jI_toInt (by omega) (by omega), nI_toInt (by omega)]
  rw [show ((z.toNat : Nat) : Int) = z by omega]
  exact bm32 (by omega) (by omega)
theorem jI_lt {a b : Int} (h1 : -9000000000000000000 ≤ a) (h2 : a ≤ 9000000000000000000) (h3 : -9000000000000000000 ≤ b) (h4 : b ≤ 9000000000000000000) : (jI a < jI b) = (a < b) := propext (by rw [Int64.lt_iff_toInt_lt, jI_toInt (by omega) (by omega), jI_toInt (by omega) (by omega)])
noncomputable def rdN (k : Nat → Nat) (r c : Nat) : Nat := if kEn k r c = true then 99999999 else min 99999999 (1000 * kup k r c / (2 * kdet k r)).toNat
theorem rdN_le {k : Nat → Nat} {r c : Nat} : rdN k r c ≤ 99999999 := by unfold rdN; split <;> omega
set_option maxRecDepth 20000 in
theorem c_overJ {a : Int64} {b : Int} {M : Me} (h0 : 0 < b) (h1 : b ≤ 9000000000000000000) : DX2_over [.long a, .long (jI b)] M = some (a / jI b, M) := by
  have q0 := jI_ne0 h0 h1
  have q1 := jI_nz h0 h1
  simp -implicitDefEqProofs (disch := omega) [DX2_over, EX2_over, kp_, bsome, bnone, gi_s, gj_s, gr_s, gv_s, ik_, jk_, il_, jl_, rl_, i2_, i2_a, i2_b, j2_, j2_a, j2_b, i2d_, i2d_a, i2d_b, j2d_, j2d_a, j2d_b, i1_, i1_a, j1_, j1_a, i2l_, i2l_a, l2i_, l2i_a, fgi_, fgi_a, fgj_, fgj_a, fgr_, fgr_a, iald_, iald_a, iald_b, zald_, zald_a, zald_b, jald_, jald_a, jald_b, rald_, rald_a, rald_b, alen_, alen_a, sald_, sald_a, ic_, ic_a, jc_, jc_a, bc_, bc_a, bc_b, bj_, bj_a, bj_b, bz_, bz_a, band_, band_a, bor_, bor_a, bnot_, bnot_a, anil_, ai_, ai_a, ai_b, aj_, aj_a, aj_b, ar_, ar_a, ar_b, kb2i_, cvi_, cvi_a, cvi_b, cvj_, cvj_a, cvj_b, cvz_, cvz_a, cvz_b, csi_, csi_a, csj_, csj_a, csz_, csz_a, snop_, sseq_, sseq_n, sseq_s, sif_, sif_a, scut_, scut_a, ssi_, ssi_a, ssj_, ssj_a, ssr_, ssr_a, sinc_, sinc_a, sret_, sret_a, sretj_, sretj_a, sretv_, spop_, spop_a, kc_scv_, scv_, scv_a, scv_b, scs_, scs_a, fpi_, fpi_a, fpi_b, fpj_, fpj_a, fpj_b, foi_, foi_a, foi_b, foj_, foj_a, foj_b, aii_, aii_a, aii_b, aii_c, aiz_, aiz_a, aiz_b, aiz_c, aij_, aij_a, aij_b, aij_c, aoi_, aoi_a, aoi_b, aoi_c, aoj_, aoj_a, aoj_b, aoj_c, scopy_, scopy_a, scopy_b, scopy_c, scopy_d, scopy_e, ssw_, ssw_a, sel_n, sel_c, mfi_, mfi_a, mfj_, mfj_a, mfz_, mfz_a, kb_mfv_, mfv_, mfv_a, cut, lset, lset2, isL, Value.category, ent, entn, if_some, if_pair, if_cons, if_int, if_long, if_ref, ite_self, gz_b, ↓icb, ↓icb2, b2i_ne, ge0, ge1, ge2, ge3, ge4, ge5, ge6, ge7, ge8, ge9, ge10, ge11, ge12, ge13, ge14, lit32, nI_add, pk_mul, clt_nI, cle_nI, cgt_nI, cge_nI, ceq_nI, cne_nI, inr_nI, nI_clamp, nI_eq, nI_leI, nI_ltI, q0, q1]
section
variable {N M : Me} {k : Nat → Nat} {r c p : Nat}
set_option maxRecDepth 20000 in
theorem BRow.row (h : BRow N k) (hf : fR (kok k) 27 = some r) : N.1 61 8 = nI r ∧ N.2 61 11 = jI (2 * kdet k r) ∧ (∀ c, c < k 0 → N.2 96 c = jI (kup k r c)) ∧ N.1 61 9 = nI (msk (kEn k r) (k 0)) := by
  unfold BRow at h
  rw [hf] at h
  exact h
set_option maxRecDepth 20000 in
theorem BRow.non (h : BRow N k) (hf : fR (kok k) 27 = none) : N.1 61 8 = -(nI 1) := by
  unfold BRow at h
  rw [hf] at h
  exact h
theorem ceq_m1 {x : Nat} (h : x < 2 ^ 31) : ceq (nI x) (-(nI 1)) = false := by unfold ceq; exact decide_eq_false (nI_nm1 h)
theorem ceq_mm : ceq (-(nI 1)) (-(nI 1)) = true := by decide
set_option maxRecDepth 20000 in
theorem c_hunts1 (h : BAt N k) (hf : fR (kok k) 27 = none) : DX0_hunts [.ref 61] N = some (true, N) := by
  have e := h.2.2.2.2.non hf
  simp -implicitDefEqProofs (disch := omega) [DX0_hunts, EX0_hunts, kp_, bsome, bnone, gi_s, gj_s, gr_s, gv_s, ik_, jk_, il_, jl_, rl_, i2_, i2_a, i2_b, j2_, j2_a, j2_b, i2d_, i2d_a, i2d_b, j2d_, j2d_a, j2d_b, i1_, i1_a, j1_, j1_a, i2l_, i2l_a, l2i_, l2i_a, fgi_, fgi_a, fgj_, fgj_a, fgr_, fgr_a, iald_, iald_a, iald_b, zald_, zald_a, zald_b, jald_, jald_a, jald_b, rald_, rald_a, rald_b, alen_, alen_a, sald_, sald_a, ic_, ic_a, jc_, jc_a, bc_, bc_a, bc_b, bj_, bj_a, bj_b, bz_, bz_a, band_, band_a, bor_, bor_a, bnot_, bnot_a, anil_, ai_, ai_a, ai_b, aj_, aj_a, aj_b, ar_, ar_a, ar_b, kb2i_, cvi_, cvi_a, cvi_b, cvj_, cvj_a, cvj_b, cvz_, cvz_a, cvz_b, csi_, csi_a, csj_, csj_a, csz_, csz_a, snop_, sseq_, sseq_n, sseq_s, sif_, sif_a, scut_, scut_a, ssi_, ssi_a, ssj_, ssj_a, ssr_, ssr_a, sinc_, sinc_a, sret_, sret_a, sretj_, sretj_a, sretv_, spop_, spop_a, kc_scv_, scv_, scv_a, scv_b, scs_, scs_a, fpi_, fpi_a, fpi_b, fpj_, fpj_a, fpj_b, foi_, foi_a, foi_b, foj_, foj_a, foj_b, aii_, aii_a, aii_b, aii_c, aiz_, aiz_a, aiz_b, aiz_c, aij_, aij_a, aij_b, aij_c, aoi_, aoi_a, aoi_b, aoi_c, aoj_, aoj_a, aoj_b, aoj_c, scopy_, scopy_a, scopy_b, scopy_c, scopy_d, scopy_e, ssw_, ssw_a, sel_n, sel_c, mfi_, mfi_a, mfj_, mfj_a, mfz_, mfz_a, kb_mfv_, mfv_, mfv_a, cut, lset, lset2, isL, Value.category, ent, entn, if_some, if_pair, if_cons, if_int, if_long, if_ref, ite_self, gz_b, ↓icb, ↓icb2, b2i_ne, ge0, ge1, ge2, ge3, ge4, ge5, ge6, ge7, ge8, ge9, ge10, ge11, ge12, ge13, ge14, lit32, nI_add, pk_mul, clt_nI, cle_nI, cgt_nI, cge_nI, ceq_nI, cne_nI, inr_nI, nI_clamp, nI_eq, nI_leI, nI_ltI, k61, e, ceq_mm]
set_option maxRecDepth 20000 in
theorem c_hunts0 (h : BAt N k) (hf : fR (kok k) 27 = some r) : DX0_hunts [.ref 61] N = some (false, N) := by
  have hr := (fR_some 27 hf).1
  have e := (h.2.2.2.2.row hf).1
  have e2 := ceq_m1 (x := r) (by omega)
  simp -implicitDefEqProofs (disch := omega) [DX0_hunts, EX0_hunts, kp_, bsome, bnone, gi_s, gj_s, gr_s, gv_s, ik_, jk_, il_, jl_, rl_, i2_, i2_a, i2_b, j2_, j2_a, j2_b, i2d_, i2d_a, i2d_b, j2d_, j2d_a, j2d_b, i1_, i1_a, j1_, j1_a, i2l_, i2l_a, l2i_, l2i_a, fgi_, fgi_a, fgj_, fgj_a, fgr_, fgr_a, iald_, iald_a, iald_b, zald_, zald_a, zald_b, jald_, jald_a, jald_b, rald_, rald_a, rald_b, alen_, alen_a, sald_, sald_a, ic_, ic_a, jc_, jc_a, bc_, bc_a, bc_b, bj_, bj_a, bj_b, bz_, bz_a, band_, band_a, bor_, bor_a, bnot_, bnot_a, anil_, ai_, ai_a, ai_b, aj_, aj_a, aj_b, ar_, ar_a, ar_b, kb2i_, cvi_, cvi_a, cvi_b, cvj_, cvj_a, cvj_b, cvz_, cvz_a, cvz_b, csi_, csi_a, csj_, csj_a, csz_, csz_a, snop_, sseq_, sseq_n, sseq_s, sif_, sif_a, scut_, scut_a, ssi_, ssi_a, ssj_, ssj_a, ssr_, ssr_a, sinc_, sinc_a, sret_, sret_a, sretj_, sretj_a, sretv_, spop_, spop_a, kc_scv_, scv_, scv_a, scv_b, scs_, scs_a, fpi_, fpi_a, fpi_b, fpj_, fpj_a, fpj_b, foi_, foi_a, foi_b, foj_, foj_a, foj_b, aii_, aii_a, aii_b, aii_c, aiz_, aiz_a, aiz_b, aiz_c, aij_, aij_a, aij_b, aij_c, aoi_, aoi_a, aoi_b, aoi_c, aoj_, aoj_a, aoj_b, aoj_c, scopy_, scopy_a, scopy_b, scopy_c, scopy_d, scopy_e, ssw_, ssw_a, sel_n, sel_c, mfi_, mfi_a, mfj_, mfj_a, mfz_, mfz_a, kb_mfv_, mfv_, mfv_a, cut, lset, lset2, isL, Value.category, ent, entn, if_some, if_pair, if_cons, if_int, if_long, if_ref, ite_self, gz_b, ↓icb, ↓icb2, b2i_ne, ge0, ge1, ge2, ge3, ge4, ge5, ge6, ge7, ge8, ge9, ge10, ge11, ge12, ge13, ge14, lit32, nI_add, pk_mul, clt_nI, cle_nI, cgt_nI, cge_nI, ceq_nI, cne_nI, inr_nI, nI_clamp, nI_eq, nI_leI, nI_ltI, k61, e, e2]
set_option maxRecDepth 20000 in
theorem c_isEndless (h : BAt N k) (hf : fR (kok k) 27 = some r) (hc : c < k 0) : DX0_isEndless [.ref 61, .int (nI c)] N = some (kEn k r c, N) := by
  have n5 := h.2.1.1
  have e := (h.2.2.2.2.row hf).2.2.2
  have lt : msk (kEn k r) (k 0) < 1024 := Nat.lt_of_lt_of_le (msk_lt _) (Nat.pow_le_pow_right (i := k 0) (j := 10) (by decide) (by omega))
  have b := nI_bit (a := msk (kEn k r) (k 0)) (k := c) lt (by omega)
  rw [msk_bit] at b
  simp only [hc, decide_true, Bool.true_and] at b
  cases z : kEn k r c with
  | true =>
    rw [z, if_pos rfl] at b
    simp -implicitDefEqProofs (disch := omega) [DX0_isEndless, EX0_isEndless, kp_, bsome, bnone, gi_s, gj_s, gr_s, gv_s, ik_, jk_, il_, jl_, rl_, i2_, i2_a, i2_b, j2_, j2_a, j2_b, i2d_, i2d_a, i2d_b, j2d_, j2d_a, j2d_b, i1_, i1_a, j1_, j1_a, i2l_, i2l_a, l2i_, l2i_a, fgi_, fgi_a, fgj_, fgj_a, fgr_, fgr_a, iald_, iald_a, iald_b, zald_, zald_a, zald_b, jald_, jald_a, jald_b, rald_, rald_a, rald_b, alen_, alen_a, sald_, sald_a, ic_, ic_a, jc_, jc_a, bc_, bc_a, bc_b, bj_, bj_a, bj_b, bz_, bz_a, band_, band_a, bor_, bor_a, bnot_, bnot_a, anil_, ai_, ai_a, ai_b, aj_, aj_a, aj_b, ar_, ar_a, ar_b, kb2i_, cvi_, cvi_a, cvi_b, cvj_, cvj_a, cvj_b, cvz_, cvz_a, cvz_b, csi_, csi_a, csj_, csj_a, csz_, csz_a, snop_, sseq_, sseq_n, sseq_s, sif_, sif_a, scut_, scut_a, ssi_, ssi_a, ssj_, ssj_a, ssr_, ssr_a, sinc_, sinc_a, sret_, sret_a, sretj_, sretj_a, sretv_, spop_, spop_a, kc_scv_, scv_, scv_a, scv_b, scs_, scs_a, fpi_, fpi_a, fpi_b, fpj_, fpj_a, fpj_b, foi_, foi_a, foi_b, foj_, foj_a, foj_b, aii_, aii_a, aii_b, aii_c, aiz_, aiz_a, aiz_b, aiz_c, aij_, aij_a, aij_b, aij_c, aoi_, aoi_a, aoi_b, aoi_c, aoj_, aoj_a, aoj_b, aoj_c, scopy_, scopy_a, scopy_b, scopy_c, scopy_d, scopy_e, ssw_, ssw_a, sel_n, sel_c, mfi_, mfi_a, mfj_, mfj_a, mfz_, mfz_a, kb_mfv_, mfv_, mfv_a, cut, lset, lset2, isL, Value.category, ent, entn, if_some, if_pair, if_cons, if_int, if_long, if_ref, ite_self, gz_b, ↓icb, ↓icb2, b2i_ne, ge0, ge1, ge2, ge3, ge4, ge5, ge6, ge7, ge8, ge9, ge10, ge11, ge12, ge13, ge14, lit32, nI_add, pk_mul, clt_nI, cle_nI, cgt_nI, cge_nI, ceq_nI, cne_nI, inr_nI, nI_clamp, nI_eq, nI_leI, nI_ltI, k61, e, b]
  | false =>
    rw [z, if_neg (by decide)] at b
    simp -implicitDefEqProofs (disch := omega) [DX0_isEndless, EX0_isEndless, kp_, bsome, bnone, gi_s, gj_s, gr_s, gv_s, ik_, jk_, il_, jl_, rl_, i2_, i2_a, i2_b, j2_, j2_a, j2_b, i2d_, i2d_a, i2d_b, j2d_, j2d_a, j2d_b, i1_, i1_a, j1_, j1_a, i2l_, i2l_a, l2i_, l2i_a, fgi_, fgi_a, fgj_, fgj_a, fgr_, fgr_a, iald_, iald_a, iald_b, zald_, zald_a, zald_b, jald_, jald_a, jald_b, rald_, rald_a, rald_b, alen_, alen_a, sald_, sald_a, ic_, ic_a, jc_, jc_a, bc_, bc_a, bc_b, bj_, bj_a, bj_b, bz_, bz_a, band_, band_a, bor_, bor_a, bnot_, bnot_a, anil_, ai_, ai_a, ai_b, aj_, aj_a, aj_b, ar_, ar_a, ar_b, kb2i_, cvi_, cvi_a, cvi_b, cvj_, cvj_a, cvj_b, cvz_, cvz_a, cvz_b, csi_, csi_a, csj_, csj_a, csz_, csz_a, snop_, sseq_, sseq_n, sseq_s, sif_, sif_a, scut_, scut_a, ssi_, ssi_a, ssj_, ssj_a, ssr_, ssr_a, sinc_, sinc_a, sret_, sret_a, sretj_, sretj_a, sretv_, spop_, spop_a, kc_scv_, scv_, scv_a, scv_b, scs_, scs_a, fpi_, fpi_a, fpi_b, fpj_, fpj_a, fpj_b, foi_, foi_a, foi_b, foj_, foj_a, foj_b, aii_, aii_a, aii_b, aii_c, aiz_, aiz_a, aiz_b, aiz_c, aij_, aij_a, aij_b, aij_c, aoi_, aoi_a, aoi_b, aoi_c, aoj_, aoj_a, aoj_b, aoj_c, scopy_, scopy_a, scopy_b, scopy_c, scopy_d, scopy_e, ssw_, ssw_a, sel_n, sel_c, mfi_, mfi_a, mfj_, mfj_a, mfz_, mfz_a, kb_mfv_, mfv_, mfv_a, cut, lset, lset2, isL, Value.category, ent, entn, if_some, if_pair, if_cons, if_int, if_long, if_ref, ite_self, gz_b, ↓icb, ↓icb2, b2i_ne, ge0, ge1, ge2, ge3, ge4, ge5, ge6, ge7, ge8, ge9, ge10, ge11, ge12, ge13, ge14, lit32, nI_add, pk_mul, clt_nI, cle_nI, cgt_nI, cge_nI, ceq_nI, cne_nI, inr_nI, nI_clamp, nI_eq, nI_leI, nI_ltI, k61, e, b]
set_option maxRecDepth 20000 in
theorem c_stageNow (h : BAt N k) (hf : fR (kok k) 27 = some r) (hp : p < 3) : DX0_stageNow [.ref 61, .int (nI p)] N = some (nI (dg r p), N) := by
  have hr := (fR_some 27 hf).1
  have e := (h.2.2.2.2.row hf).1
  have e2 := ceq_m1 (x := r) (by omega)
  have s := c_stageIn (M := N) (r := r) hr hp
  simp -implicitDefEqProofs (disch := omega) [DX0_stageNow, EX0_stageNow, kp_, bsome, bnone, gi_s, gj_s, gr_s, gv_s, ik_, jk_, il_, jl_, rl_, i2_, i2_a, i2_b, j2_, j2_a, j2_b, i2d_, i2d_a, i2d_b, j2d_, j2d_a, j2d_b, i1_, i1_a, j1_, j1_a, i2l_, i2l_a, l2i_, l2i_a, fgi_, fgi_a, fgj_, fgj_a, fgr_, fgr_a, iald_, iald_a, iald_b, zald_, zald_a, zald_b, jald_, jald_a, jald_b, rald_, rald_a, rald_b, alen_, alen_a, sald_, sald_a, ic_, ic_a, jc_, jc_a, bc_, bc_a, bc_b, bj_, bj_a, bj_b, bz_, bz_a, band_, band_a, bor_, bor_a, bnot_, bnot_a, anil_, ai_, ai_a, ai_b, aj_, aj_a, aj_b, ar_, ar_a, ar_b, kb2i_, cvi_, cvi_a, cvi_b, cvj_, cvj_a, cvj_b, cvz_, cvz_a, cvz_b, csi_, csi_a, csj_, csj_a, csz_, csz_a, snop_, sseq_, sseq_n, sseq_s, sif_, sif_a, scut_, scut_a, ssi_, ssi_a, ssj_, ssj_a, ssr_, ssr_a, sinc_, sinc_a, sret_, sret_a, sretj_, sretj_a, sretv_, spop_, spop_a, kc_scv_, scv_, scv_a, scv_b, scs_, scs_a, fpi_, fpi_a, fpi_b, fpj_, fpj_a, fpj_b, foi_, foi_a, foi_b, foj_, foj_a, foj_b, aii_, aii_a, aii_b, aii_c, aiz_, aiz_a, aiz_b, aiz_c, aij_, aij_a, aij_b, aij_c, aoi_, aoi_a, aoi_b, aoi_c, aoj_, aoj_a, aoj_b, aoj_c, scopy_, scopy_a, scopy_b, scopy_c, scopy_d, scopy_e, ssw_, ssw_a, sel_n, sel_c, mfi_, mfi_a, mfj_, mfj_a, mfz_, mfz_a, kb_mfv_, mfv_, mfv_a, cut, lset, lset2, isL, Value.category, ent, entn, if_some, if_pair, if_cons, if_int, if_long, if_ref, ite_self, gz_b, ↓icb, ↓icb2, b2i_ne, ge0, ge1, ge2, ge3, ge4, ge5, ge6, ge7, ge8, ge9, ge10, ge11, ge12, ge13, ge14, lit32, nI_add, pk_mul, clt_nI, cle_nI, cgt_nI, cge_nI, ceq_nI, cne_nI, inr_nI, nI_clamp, nI_eq, nI_leI, nI_ltI, k61, e, e2, s]
set_option maxRecDepth 20000 in
theorem rd_q (hg : GK k) (hr : r < 27) (hc : c < 5) : jI (1000 * kup k r c) / jI (2 * kdet k r) = jI (1000 * kup k r c / (2 * kdet k r)) ∧ 0 ≤ 1000 * kup k r c / (2 * kdet k r) ∧ 1000 * kup k r c / (2 * kdet k r) ≤ 32768000000000000 := by
  have u := kup_b hg hr hc
  have d := kdet_b hg hr
  have z := Int.ediv_nonneg (a := 1000 * kup k r c) (b := 2 * kdet k r) (by omega) (by omega)
  have y := Int.ediv_le_self (a := 1000 * kup k r c) (2 * kdet k r) (by omega)
  exact ⟨jI_quot (by omega) (by omega) (by omega) (by omega), z, by omega⟩
set_option maxRecDepth 20000 in
theorem c_gauge1 (h : BAt N k) (hf : fR (kok k) 27 = none) : DX0_gauge [.ref 61, .int (nI c)] N = some (-(nI 3), N) := by
  have e := h.2.2.2.2.non hf
  simp -implicitDefEqProofs (disch := omega) [DX0_gauge, EX0_gauge, kp_, bsome, bnone, gi_s, gj_s, gr_s, gv_s, ik_, jk_, il_, jl_, rl_, i2_, i2_a, i2_b, j2_, j2_a, j2_b, i2d_, i2d_a, i2d_b, j2d_, j2d_a, j2d_b, i1_, i1_a, j1_, j1_a, i2l_, i2l_a, l2i_, l2i_a, fgi_, fgi_a, fgj_, fgj_a, fgr_, fgr_a, iald_, iald_a, iald_b, zald_, zald_a, zald_b, jald_, jald_a, jald_b, rald_, rald_a, rald_b, alen_, alen_a, sald_, sald_a, ic_, ic_a, jc_, jc_a, bc_, bc_a, bc_b, bj_, bj_a, bj_b, bz_, bz_a, band_, band_a, bor_, bor_a, bnot_, bnot_a, anil_, ai_, ai_a, ai_b, aj_, aj_a, aj_b, ar_, ar_a, ar_b, kb2i_, cvi_, cvi_a, cvi_b, cvj_, cvj_a, cvj_b, cvz_, cvz_a, cvz_b, csi_, csi_a, csj_, csj_a, csz_, csz_a, snop_, sseq_, sseq_n, sseq_s, sif_, sif_a, scut_, scut_a, ssi_, ssi_a, ssj_, ssj_a, ssr_, ssr_a, sinc_, sinc_a, sret_, sret_a, sretj_, sretj_a, sretv_, spop_, spop_a, kc_scv_, scv_, scv_a, scv_b, scs_, scs_a, fpi_, fpi_a, fpi_b, fpj_, fpj_a, fpj_b, foi_, foi_a, foi_b, foj_, foj_a, foj_b, aii_, aii_a, aii_b, aii_c, aiz_, aiz_a, aiz_b, aiz_c, aij_, aij_a, aij_b, aij_c, aoi_, aoi_a, aoi_b, aoi_c, aoj_, aoj_a, aoj_b, aoj_c, scopy_, scopy_a, scopy_b, scopy_c, scopy_d, scopy_e, ssw_, ssw_a, sel_n, sel_c, mfi_, mfi_a, mfj_, mfj_a, mfz_, mfz_a, kb_mfv_, mfv_, mfv_a, cut, lset, lset2, isL, Value.category, ent, entn, if_some, if_pair, if_cons, if_int, if_long, if_ref, ite_self, gz_b, ↓icb, ↓icb2, b2i_ne, ge0, ge1, ge2, ge3, ge4, ge5, ge6, ge7, ge8, ge9, ge10, ge11, ge12, ge13, ge14, lit32, nI_add, pk_mul, clt_nI, cle_nI, cgt_nI, cge_nI, ceq_nI, cne_nI, inr_nI, nI_clamp, nI_eq, nI_leI, nI_ltI, k61, e, ceq_mm]
set_option maxRecDepth 20000 in
theorem c_gauge (h : BAt N k) (hf : fR (kok k) 27 = some r) (hc : c < k 0) : DX0_gauge [.ref 61, .int (nI c)] N = some (nI (rdN k r c), N) := by
  have hr := (fR_some 27 hf).1
  have n5 := h.2.1.1
  have c5 : c < 5 := by omega
  obtain ⟨e8, e11, e97, -⟩ := h.2.2.2.2.row hf
  have e2 := ceq_m1 (x := r) (by omega)
  have en := c_isEndless h hf hc
  have e7 := e97 c hc
  obtain ⟨q1, q2, q3⟩ := rd_q (c := c) h.2.1 hr c5
  have d := kdet_b h.2.1 hr
  unfold rdN
  obtain ⟨Q, eQ⟩ : ∃ Q, Q = 1000 * kup k r c / (2 * kdet k r) := ⟨_, rfl⟩
  rw [← eQ] at q1 q2 q3 ⊢
  cases z : kEn k r c with
  | true =>
    rw [z] at en
    rw [if_pos rfl]
    simp -implicitDefEqProofs (disch := omega) [DX0_gauge, EX0_gauge, kp_, bsome, bnone, gi_s, gj_s, gr_s, gv_s, ik_, jk_, il_, jl_, rl_, i2_, i2_a, i2_b, j2_, j2_a, j2_b, i2d_, i2d_a, i2d_b, j2d_, j2d_a, j2d_b, i1_, i1_a, j1_, j1_a, i2l_, i2l_a, l2i_, l2i_a, fgi_, fgi_a, fgj_, fgj_a, fgr_, fgr_a, iald_, iald_a, iald_b, zald_, zald_a, zald_b, jald_, jald_a, jald_b, rald_, rald_a, rald_b, alen_, alen_a, sald_, sald_a, ic_, ic_a, jc_, jc_a, bc_, bc_a, bc_b, bj_, bj_a, bj_b, bz_, bz_a, band_, band_a, bor_, bor_a, bnot_, bnot_a, anil_, ai_, ai_a, ai_b, aj_, aj_a, aj_b, ar_, ar_a, ar_b, kb2i_, cvi_, cvi_a, cvi_b, cvj_, cvj_a, cvj_b, cvz_, cvz_a, cvz_b, csi_, csi_a, csj_, csj_a, csz_, csz_a, snop_, sseq_, sseq_n, sseq_s, sif_, sif_a, scut_, scut_a, ssi_, ssi_a, ssj_, ssj_a, ssr_, ssr_a, sinc_, sinc_a, sret_, sret_a, sretj_, sretj_a, sretv_, spop_, spop_a, kc_scv_, scv_, scv_a, scv_b, scs_, scs_a, fpi_, fpi_a, fpi_b, fpj_, fpj_a, fpj_b, foi_, foi_a, foi_b, foj_, foj_a, foj_b, aii_, aii_a, aii_b, aii_c, aiz_, aiz_a, aiz_b, aiz_c, aij_, aij_a, aij_b, aij_c, aoi_, aoi_a, aoi_b, aoi_c, aoj_, aoj_a, aoj_b, aoj_c, scopy_, scopy_a, scopy_b, scopy_c, scopy_d, scopy_e, ssw_, ssw_a, sel_n, sel_c, mfi_, mfi_a, mfj_, mfj_a, mfz_, mfz_a, kb_mfv_, mfv_, mfv_a, cut, lset, lset2, isL, Value.category, ent, entn, if_some, if_pair, if_cons, if_int, if_long, if_ref, ite_self, gz_b, ↓icb, ↓icb2, b2i_ne, ge0, ge1, ge2, ge3, ge4, ge5, ge6, ge7, ge8, ge9, ge10, ge11, ge12, ge13, ge14, lit32, nI_add, pk_mul, clt_nI, cle_nI, cgt_nI, cge_nI, ceq_nI, cne_nI, inr_nI, nI_clamp, nI_eq, nI_leI, nI_ltI, k61, e8, e2, en]
  | false =>
    rw [z] at en
    rw [if_neg (by decide)]
    have ov := c_overJ (a := jI (1000 * kup k r c)) (b := 2 * kdet k r) (M := N) (by omega) (by omega)
    rw [q1] at ov
    have k1 : (1000 : Int64) = jI 1000 := rfl
    have k2 : (99999999 : Int64) = jI 99999999 := rfl
    have lt := jI_lt (a := Q) (b := 99999999) (by omega) (by omega) (by omega) (by omega)
    have mn : (mnj (jI 99999999) (jI Q)).toInt32 = nI (min 99999999 Q.toNat) := by
      unfold mnj
      by_cases w : Q < 99999999
      · rw [if_pos (by rw [lt]; exact w), jI_l2i (by omega) (by omega)]
        congr 1
        omega
      · rw [if_neg (by rw [lt]; exact w), jI_l2i (by omega) (by omega)]
        congr 1
        omega
    simp -implicitDefEqProofs (disch := omega) [DX0_gauge, EX0_gauge, kp_, bsome, bnone, gi_s, gj_s, gr_s, gv_s, ik_, jk_, il_, jl_, rl_, i2_, i2_a, i2_b, j2_, j2_a, j2_b, i2d_, i2d_a, i2d_b, j2d_, j2d_a, j2d_b, i1_, i1_a, j1_, j1_a, i2l_, i2l_a, l2i_, l2i_a, fgi_, fgi_a, fgj_, fgj_a, fgr_, fgr_a, iald_, iald_a, iald_b, zald_, zald_a, zald_b, jald_, jald_a, jald_b, rald_, rald_a, rald_b, alen_, alen_a, sald_, sald_a, ic_, ic_a, jc_, jc_a, bc_, bc_a, bc_b, bj_, bj_a, bj_b, bz_, bz_a, band_, band_a, bor_, bor_a, bnot_, bnot_a, anil_, ai_, ai_a, ai_b, aj_, aj_a, aj_b, ar_, ar_a, ar_b, kb2i_, cvi_, cvi_a, cvi_b, cvj_, cvj_a, cvj_b, cvz_, cvz_a, cvz_b, csi_, csi_a, csj_, csj_a, csz_, csz_a, snop_, sseq_, sseq_n, sseq_s, sif_, sif_a, scut_, scut_a, ssi_, ssi_a, ssj_, ssj_a, ssr_, ssr_a, sinc_, sinc_a, sret_, sret_a, sretj_, sretj_a, sretv_, spop_, spop_a, kc_scv_, scv_, scv_a, scv_b, scs_, scs_a, fpi_, fpi_a, fpi_b, fpj_, fpj_a, fpj_b, foi_, foi_a, foi_b, foj_, foj_a, foj_b, aii_, aii_a, aii_b, aii_c, aiz_, aiz_a, aiz_b, aiz_c, aij_, aij_a, aij_b, aij_c, aoi_, aoi_a, aoi_b, aoi_c, aoj_, aoj_a, aoj_b, aoj_c, scopy_, scopy_a, scopy_b, scopy_c, scopy_d, scopy_e, ssw_, ssw_a, sel_n, sel_c, mfi_, mfi_a, mfj_, mfj_a, mfz_, mfz_a, kb_mfv_, mfv_, mfv_a, cut, lset, lset2, isL, Value.category, ent, entn, if_some, if_pair, if_cons, if_int, if_long, if_ref, ite_self, gz_b, ↓icb, ↓icb2, b2i_ne, ge0, ge1, ge2, ge3, ge4, ge5, ge6, ge7, ge8, ge9, ge10, ge11, ge12, ge13, ge14, lit32, nI_add, pk_mul, clt_nI, cle_nI, cgt_nI, cge_nI, ceq_nI, cne_nI, inr_nI, nI_clamp, nI_eq, nI_leI, nI_ltI, k61, f61_0, f61_1, f61_2, f61_3, f61_5, f61_6, f61_7, f61_10, k62, k63, k64, k92, k93, k94, k95, k96, l62, l63, l64, l92, l93, l94, l95, l96, f64_, k65_, l65_, e8, e2, en, e7, e11, k1, k2, jI_mul, ov, mn]
set_option maxRecDepth 20000 in
theorem r_readingOf (h : SolAt N k r) (hg : GK k) (hr : r < 27) (hc : c < 5) : DX8_readingOf [.ref 492, .int (nI c)] N = some (nI (rdN k r c), N) := by
  obtain ⟨h1, h2, h3, -⟩ := h
  have u := h1 c hc
  have en := h3 c hc
  obtain ⟨q1, q2, q3⟩ := rd_q (c := c) hg hr hc
  have d := kdet_b hg hr
  have nz := jI_nz (d := 2 * kdet k r) (by omega) (by omega)
  have k1 : (1000 : Int64) = jI 1000 := rfl
  have k2 : (99999999 : Int64) = jI 99999999 := rfl
  unfold rdN
  obtain ⟨Q, eQ⟩ : ∃ Q, Q = 1000 * kup k r c / (2 * kdet k r) := ⟨_, rfl⟩
  rw [← eQ] at q1 q2 q3 ⊢
  cases z : kEn k r c with
  | true =>
    rw [z] at en
    rw [if_pos rfl]
    have g : qgt (jI 99999999) (jI 99999999) = false := by decide
    have t : (jI 99999999).toInt32 = nI 99999999 := by decide
    simp -implicitDefEqProofs (disch := omega) [DX8_readingOf, EX8_readingOf, kp_, bsome, bnone, gi_s, gj_s, gr_s, gv_s, ik_, jk_, il_, jl_, rl_, i2_, i2_a, i2_b, j2_, j2_a, j2_b, i2d_, i2d_a, i2d_b, j2d_, j2d_a, j2d_b, i1_, i1_a, j1_, j1_a, i2l_, i2l_a, l2i_, l2i_a, fgi_, fgi_a, fgj_, fgj_a, fgr_, fgr_a, iald_, iald_a, iald_b, zald_, zald_a, zald_b, jald_, jald_a, jald_b, rald_, rald_a, rald_b, alen_, alen_a, sald_, sald_a, ic_, ic_a, jc_, jc_a, bc_, bc_a, bc_b, bj_, bj_a, bj_b, bz_, bz_a, band_, band_a, bor_, bor_a, bnot_, bnot_a, anil_, ai_, ai_a, ai_b, aj_, aj_a, aj_b, ar_, ar_a, ar_b, kb2i_, cvi_, cvi_a, cvi_b, cvj_, cvj_a, cvj_b, cvz_, cvz_a, cvz_b, csi_, csi_a, csj_, csj_a, csz_, csz_a, snop_, sseq_, sseq_n, sseq_s, sif_, sif_a, scut_, scut_a, ssi_, ssi_a, ssj_, ssj_a, ssr_, ssr_a, sinc_, sinc_a, sret_, sret_a, sretj_, sretj_a, sretv_, spop_, spop_a, kc_scv_, scv_, scv_a, scv_b, scs_, scs_a, fpi_, fpi_a, fpi_b, fpj_, fpj_a, fpj_b, foi_, foi_a, foi_b, foj_, foj_a, foj_b, aii_, aii_a, aii_b, aii_c, aiz_, aiz_a, aiz_b, aiz_c, aij_, aij_a, aij_b, aij_c, aoi_, aoi_a, aoi_b, aoi_c, aoj_, aoj_a, aoj_b, aoj_c, scopy_, scopy_a, scopy_b, scopy_c, scopy_d, scopy_e, ssw_, ssw_a, sel_n, sel_c, mfi_, mfi_a, mfj_, mfj_a, mfz_, mfz_a, kb_mfv_, mfv_, mfv_a, cut, lset, lset2, isL, Value.category, ent, entn, if_some, if_pair, if_cons, if_int, if_long, if_ref, ite_self, gz_b, ↓icb, ↓icb2, b2i_ne, ge0, ge1, ge2, ge3, ge4, ge5, ge6, ge7, ge8, ge9, ge10, ge11, ge12, ge13, ge14, lit32, nI_add, pk_mul, clt_nI, cle_nI, cgt_nI, cge_nI, ceq_nI, cne_nI, inr_nI, nI_clamp, nI_eq, nI_leI, nI_ltI, k492, f492_2, f492_3, f492_4, f492_5, f492_7, f492_8, f492_9, f492_10, k493, k494, k495, k496, k497, k498, k499, k500, l493, l494, l495, l496, l497, l498, l499, l500, f492_11, f492_12, f492_13, f492_15, f492_16, f492_17, f492_19, f492_20, f492_26, f492_27, f492_28, f492_29, f492_30, f492_32, f492_33, f492_34, k501, k502, k503, k504, k505, k506, k507, k508, k509, k510, k511, k512, k513, k514, k515, k516, l501, l502, l503, l504, l505, l506, l507, l508, l509, l510, l511, l512, l513, l514, l515, l516, en, b2i_t, k2, g, t]
  | false =>
    rw [z] at en
    rw [if_neg (by decide)]
    have gt : qgt (jI Q) (jI 99999999) = decide (99999999 < Q) := by
      unfold qgt
      exact decide_eq_decide.mpr (by rw [jI_lt (by omega) (by omega) (by omega) (by omega)])
    by_cases w : 99999999 < Q
    · rw [show min 99999999 Q.toNat = 99999999 by omega]
      simp -implicitDefEqProofs (disch := omega) [DX8_readingOf, EX8_readingOf, kp_, bsome, bnone, gi_s, gj_s, gr_s, gv_s, ik_, jk_, il_, jl_, rl_, i2_, i2_a, i2_b, j2_, j2_a, j2_b, i2d_, i2d_a, i2d_b, j2d_, j2d_a, j2d_b, i1_, i1_a, j1_, j1_a, i2l_, i2l_a, l2i_, l2i_a, fgi_, fgi_a, fgj_, fgj_a, fgr_, fgr_a, iald_, iald_a, iald_b, zald_, zald_a, zald_b, jald_, jald_a, jald_b, rald_, rald_a, rald_b, alen_, alen_a, sald_, sald_a, ic_, ic_a, jc_, jc_a, bc_, bc_a, bc_b, bj_, bj_a, bj_b, bz_, bz_a, band_, band_a, bor_, bor_a, bnot_, bnot_a, anil_, ai_, ai_a, ai_b, aj_, aj_a, aj_b, ar_, ar_a, ar_b, kb2i_, cvi_, cvi_a, cvi_b, cvj_, cvj_a, cvj_b, cvz_, cvz_a, cvz_b, csi_, csi_a, csj_, csj_a, csz_, csz_a, snop_, sseq_, sseq_n, sseq_s, sif_, sif_a, scut_, scut_a, ssi_, ssi_a, ssj_, ssj_a, ssr_, ssr_a, sinc_, sinc_a, sret_, sret_a, sretj_, sretj_a, sretv_, spop_, spop_a, kc_scv_, scv_, scv_a, scv_b, scs_, scs_a, fpi_, fpi_a, fpi_b, fpj_, fpj_a, fpj_b, foi_, foi_a, foi_b, foj_, foj_a, foj_b, aii_, aii_a, aii_b, aii_c, aiz_, aiz_a, aiz_b, aiz_c, aij_, aij_a, aij_b, aij_c, aoi_, aoi_a, aoi_b, aoi_c, aoj_, aoj_a, aoj_b, aoj_c, scopy_, scopy_a, scopy_b, scopy_c, scopy_d, scopy_e, ssw_, ssw_a, sel_n, sel_c, mfi_, mfi_a, mfj_, mfj_a, mfz_, mfz_a, kb_mfv_, mfv_, mfv_a, cut, lset, lset2, isL, Value.category, ent, entn, if_some, if_pair, if_cons, if_int, if_long, if_ref, ite_self, gz_b, ↓icb, ↓icb2, b2i_ne, ge0, ge1, ge2, ge3, ge4, ge5, ge6, ge7, ge8, ge9, ge10, ge11, ge12, ge13, ge14, lit32, nI_add, pk_mul, clt_nI, cle_nI, cgt_nI, cge_nI, ceq_nI, cne_nI, inr_nI, nI_clamp, nI_eq, nI_leI, nI_ltI, k492, f492_2, f492_3, f492_4, f492_5, f492_7, f492_8, f492_9, f492_10, k493, k494, k495, k496, k497, k498, k499, k500, l493, l494, l495, l496, l497, l498, l499, l500, f492_11, f492_12, f492_13, f492_15, f492_16, f492_17, f492_19, f492_20, f492_26, f492_27, f492_28, f492_29, f492_30, f492_32, f492_33, f492_34, k501, k502, k503, k504, k505, k506, k507, k508, k509, k510, k511, k512, k513, k514, k515, k516, l501, l502, l503, l504, l505, l506, l507, l508, l509, l510, l511, l512, l513, l514, l515, l516, en, b2i_f, k1, k2, u, h2, jI_mul, nz, q1, gt, w]
    · have t := jI_l2i (z := Q) (by omega) (by omega)
      rw [show min 99999999 Q.toNat = Q.toNat by omega]
      simp -implicitDefEqProofs (disch := omega) [DX8_readingOf, EX8_readingOf, kp_, bsome, bnone, gi_s, gj_s, gr_s, gv_s, ik_, jk_, il_, jl_, rl_, i2_, i2_a, i2_b, j2_, j2_a, j2_b, i2d_, i2d_a, i2d_b, j2d_, j2d_a, j2d_b, i1_, i1_a, j1_, j1_a, i2l_, i2l_a, l2i_, l2i_a, fgi_, fgi_a, fgj_, fgj_a, fgr_, fgr_a, iald_, iald_a, iald_b, zald_, zald_a, zald_b, jald_, jald_a, jald_b, rald_, rald_a, rald_b, alen_, alen_a, sald_, sald_a, ic_, ic_a, jc_, jc_a, bc_, bc_a, bc_b, bj_, bj_a, bj_b, bz_, bz_a, band_, band_a, bor_, bor_a, bnot_, bnot_a, anil_, ai_, ai_a, ai_b, aj_, aj_a, aj_b, ar_, ar_a, ar_b, kb2i_, cvi_, cvi_a, cvi_b, cvj_, cvj_a, cvj_b, cvz_, cvz_a, cvz_b, csi_, csi_a, csj_, csj_a, csz_, csz_a, snop_, sseq_, sseq_n, sseq_s, sif_, sif_a, scut_, scut_a, ssi_, ssi_a, ssj_, ssj_a, ssr_, ssr_a, sinc_, sinc_a, sret_, sret_a, sretj_, sretj_a, sretv_, spop_, spop_a, kc_scv_, scv_, scv_a, scv_b, scs_, scs_a, fpi_, fpi_a, fpi_b, fpj_, fpj_a, fpj_b, foi_, foi_a, foi_b, foj_, foj_a, foj_b, aii_, aii_a, aii_b, aii_c, aiz_, aiz_a, aiz_b, aiz_c, aij_, aij_a, aij_b, aij_c, aoi_, aoi_a, aoi_b, aoi_c, aoj_, aoj_a, aoj_b, aoj_c, scopy_, scopy_a, scopy_b, scopy_c, scopy_d, scopy_e, ssw_, ssw_a, sel_n, sel_c, mfi_, mfi_a, mfj_, mfj_a, mfz_, mfz_a, kb_mfv_, mfv_, mfv_a, cut, lset, lset2, isL, Value.category, ent, entn, if_some, if_pair, if_cons, if_int, if_long, if_ref, ite_self, gz_b, ↓icb, ↓icb2, b2i_ne, ge0, ge1, ge2, ge3, ge4, ge5, ge6, ge7, ge8, ge9, ge10, ge11, ge12, ge13, ge14, lit32, nI_add, pk_mul, clt_nI, cle_nI, cgt_nI, cge_nI, ceq_nI, cne_nI, inr_nI, nI_clamp, nI_eq, nI_leI, nI_ltI, k492, f492_2, f492_3, f492_4, f492_5, f492_7, f492_8, f492_9, f492_10, k493, k494, k495, k496, k497, k498, k499, k500, l493, l494, l495, l496, l497, l498, l499, l500, f492_11, f492_12, f492_13, f492_15, f492_16, f492_17, f492_19, f492_20, f492_26, f492_27, f492_28, f492_29, f492_30, f492_32, f492_33, f492_34, k501, k502, k503, k504, k505, k506, k507, k508, k509, k510, k511, k512, k513, k514, k515, k516, l501, l502, l503, l504, l505, l506, l507, l508, l509, l510, l511, l512, l513, l514, l515, l516, en, b2i_f, k1, k2, u, h2, jI_mul, nz, q1, gt, w, t]
end
/-! ===== now ===== -/
/-! what the reference alone may change -/
def QR (M N : Me) : Prop := (∀ a, a < 492 ∨ (493 ≤ a ∧ a ≤ 499) ∨ 510 ≤ a → N.1 a = M.1 a) ∧ (∀ j, j < 20 → N.1 492 j = M.1 492 j) ∧ ∀ a, a < 492 → N.2 a = M.2 a
theorem QR.trans {M N O : Me} (h : QR M N) (g : QR N O) : QR M O := ⟨fun a ha => (g.1 a ha).trans (h.1 a ha), fun j hj => (g.2.1 j hj).trans (h.2.1 j hj), fun a ha => (g.2.2 a ha).trans (h.2.2 a ha)⟩
theorem RF.qr {M N : Me} (h : RF M N) : QR M N := ⟨h.1, fun j hj => h.2.1 j (by omega), h.2.2⟩
def Inv (M : Me) : Prop := (∃ nc nt np nw tm o u, Core M nc nt np nw tm o u) ∧ BInv M
def CallI (F G : Fi) (args : List Value) (M : Me) : Prop := ∃ r M1 M2, F (.ref 0 :: args) M = some (r, M1) ∧ G (.ref 492 :: args) M1 = some (r, M2) ∧ Inv M2
def CallJ (F G : Fj) (args : List Value) (M : Me) : Prop := ∃ r M1 M2, F (.ref 0 :: args) M = some (r, M1) ∧ G (.ref 492 :: args) M1 = some (r, M2) ∧ Inv M2
set_option maxRecDepth 20000 in
theorem act_call {F G : Fi} {args : List Value} {M : Me} (h : Act F G args M) (hB : BInv M) : CallI F G args M := by
  obtain ⟨r, M1, M2, h1, h2, h3, h4⟩ := h
  exact ⟨r, M1, M2, h1, h2, h3, hB.frame (fun a _ z1 z2 => (h4 a z1 z2).1) (fun a z1 z2 => (h4 a z1 z2).2)⟩
section
variable {M M1 : Me} {nc nt np nw tm o u : Nat}
/-! behind a question: the class changed its balance and paper, the reference its own rows -/
set_option maxRecDepth 20000 in
theorem inv_q {N : Me} {k : Nat → Nat} (h : Core M nc nt np nw tm o u) (hs : ∀ a, a ≤ 30 ∨ (126 ≤ a ∧ a ≤ 498) → M1.1 a = M.1 a) (hb : BAt M1 k) (hq : QR (wi M1 492 0 (nI 0)) N) : Inv N := by
  have e : ∀ a, a ≠ 492 → (wi M1 492 0 (nI 0)).1 a = M1.1 a := fun a ha => wi_ne ha
  refine ⟨⟨_, _, _, _, _, _, _, qf_core h ⟨fun a ha => ?_, ?_, ?_⟩⟩, Or.inr ⟨k, hb.frame (fun a _ z1 z2 => ?_) (fun a z1 z2 => ?_)⟩⟩
  · rw [hq.1 a (by omega), e a (by omega), hs a (by omega)]
  · rw [hq.2.1 1 (by decide), wi_ns (by decide), hs 492 (by omega)]
  · rw [hq.2.1 6 (by decide), wi_ns (by decide), hs 492 (by omega)]
  · rw [hq.1 a (by omega), e a (by omega)]
  · rw [hq.2.2 a (by omega)]; rfl
set_option maxRecDepth 20000 in
theorem bal_now (h : Core M nc nt np nw tm o u) (hB : BInv M) : ∃ N, DX0_solve [.ref 61, .ref 1] M = some N ∧ BAt N (kyN (M.1 494) nc nt np 9 0) ∧ SF M N :=
  c_bal h.2.1 h.1 (by omega) (Or.inl ⟨rfl, rfl⟩) (Or.inl ⟨h.2.2.1.1, h.2.2.1.2, rfl, rfl⟩) hB
theorem lkr_now {X : Nat → Int32} {N : Me} (h22 : N.1 492 22 = X 5) (h23 : N.1 492 23 = X 6) : LkR N X := ⟨h23, fun _ => h22⟩
set_option maxRecDepth 20000 in
theorem rek_now {tB : Nat} {X : Nat → Int32} {N0 : Me} (hX : N0.1 494 = X) (hv : VxB X nc nt np nw tm tB) : ∃ N, DX8_reckonNow [.ref 492] N0 = some ((fR (kok (kyN X nc nt np 9 0)) 27).isSome, N) ∧ QR N0 N ∧ ∀ r, fR (kok (kyN X nc nt np 9 0)) 27 = some r → SolAt N (kyN X nc nt np 9 0) r := by
  obtain ⟨A, eA⟩ : ∃ A : Me, A = wi (wi (wi (wi N0 492 22 (X 5)) 492 23 (X 6)) 492 24 (-(nI 1))) 492 25 (nI 0) := ⟨_, rfl⟩
  have a1 : ∀ a, a ≠ 492 → A.1 a = N0.1 a := fun a ha => by rw [eA, wi_ne ha, wi_ne ha, wi_ne ha, wi_ne ha]
  have as : DX8_asItIs [.ref 492] N0 = some A := by
    have e1 : (wi N0 492 22 (X 5)).1 494 = X := by rw [wi_ne (by decide)]; exact hX
    simp -implicitDefEqProofs (disch := omega) [DX8_asItIs, EX8_asItIs, kp_, bsome, bnone, gi_s, gj_s, gr_s, gv_s, ik_, jk_, il_, jl_, rl_, i2_, i2_a, i2_b, j2_, j2_a, j2_b, i2d_, i2d_a, i2d_b, j2d_, j2d_a, j2d_b, i1_, i1_a, j1_, j1_a, i2l_, i2l_a, l2i_, l2i_a, fgi_, fgi_a, fgj_, fgj_a, fgr_, fgr_a, iald_, iald_a, iald_b, zald_, zald_a, zald_b, jald_, jald_a, jald_b, rald_, rald_a, rald_b, alen_, alen_a, sald_, sald_a, ic_, ic_a, jc_, jc_a, bc_, bc_a, bc_b, bj_, bj_a, bj_b, bz_, bz_a, band_, band_a, bor_, bor_a, bnot_, bnot_a, anil_, ai_, ai_a, ai_b, aj_, aj_a, aj_b, ar_, ar_a, ar_b, kb2i_, cvi_, cvi_a, cvi_b, cvj_, cvj_a, cvj_b, cvz_, cvz_a, cvz_b, csi_, csi_a, csj_, csj_a, csz_, csz_a, snop_, sseq_, sseq_n, sseq_s, sif_, sif_a, scut_, scut_a, ssi_, ssi_a, ssj_, ssj_a, ssr_, ssr_a, sinc_, sinc_a, sret_, sret_a, sretj_, sretj_a, sretv_, spop_, spop_a, kc_scv_, scv_, scv_a, scv_b, scs_, scs_a, fpi_, fpi_a, fpi_b, fpj_, fpj_a, fpj_b, foi_, foi_a, foi_b, foj_, foj_a, foj_b, aii_, aii_a, aii_b, aii_c, aiz_, aiz_a, aiz_b, aiz_c, aij_, aij_a, aij_b, aij_c, aoi_, aoi_a, aoi_b, aoi_c, aoj_, aoj_a, aoj_b, aoj_c, scopy_, scopy_a, scopy_b, scopy_c, scopy_d, scopy_e, ssw_, ssw_a, sel_n, sel_c, mfi_, mfi_a, mfj_, mfj_a, mfz_, mfz_a, kb_mfv_, mfv_, mfv_a, cut, lset, lset2, isL, Value.category, ent, entn, if_some, if_pair, if_cons, if_int, if_long, if_ref, ite_self, gz_b, ↓icb, ↓icb2, b2i_ne, ge0, ge1, ge2, ge3, ge4, ge5, ge6, ge7, ge8, ge9, ge10, ge11, ge12, ge13, ge14, lit32, nI_add, pk_mul, clt_nI, cle_nI, cgt_nI, cge_nI, ceq_nI, cne_nI, inr_nI, nI_clamp, nI_eq, nI_leI, nI_ltI, k492, f492_2, f492_3, f492_4, f492_5, f492_7, f492_8, f492_9, f492_10, k493, k494, k495, k496, k497, k498, k499, k500, l493, l494, l495, l496, l497, l498, l499, l500, hX, e1, eA]
  have a22 : A.1 492 22 = X 5 := by rw [eA]; simp [wi]
  have a23 : A.1 492 23 = X 6 := by rw [eA]; simp [wi]
  have a24 : A.1 492 24 = -(nI 1) := by rw [eA]; simp [wi]
  have aj : ∀ j, j < 20 → A.1 492 j = N0.1 492 j := fun j hj => by
    rw [eA, wi_ns (by omega), wi_ns (by omega), wi_ns (by omega), wi_ns (by omega)]
  obtain ⟨N, b, r1, r2, r3, -⟩ := r_reckon (M := A) (X := X) (X2 := X) (al := 0) (hA := 9) (hB := 0) (by rw [a1 494 (by decide)]; exact hX) (fun _ _ _ => rfl) hv hv (Or.inl ⟨rfl, rfl⟩) (Or.inl ⟨a24, rfl, rfl⟩) (lkr_now a22 a23) (by decide)
  obtain ⟨r4, r5⟩ := r3 rfl
  refine ⟨N, ?_, QR.trans ⟨fun a ha => a1 a (by omega), aj, fun a ha => by rw [eA]; rfl⟩ r2.qr, r5⟩
  rw [← r4]
  simp -implicitDefEqProofs (disch := omega) [DX8_reckonNow, EX8_reckonNow, kp_, bsome, bnone, gi_s, gj_s, gr_s, gv_s, ik_, jk_, il_, jl_, rl_, i2_, i2_a, i2_b, j2_, j2_a, j2_b, i2d_, i2d_a, i2d_b, j2d_, j2d_a, j2d_b, i1_, i1_a, j1_, j1_a, i2l_, i2l_a, l2i_, l2i_a, fgi_, fgi_a, fgj_, fgj_a, fgr_, fgr_a, iald_, iald_a, iald_b, zald_, zald_a, zald_b, jald_, jald_a, jald_b, rald_, rald_a, rald_b, alen_, alen_a, sald_, sald_a, ic_, ic_a, jc_, jc_a, bc_, bc_a, bc_b, bj_, bj_a, bj_b, bz_, bz_a, band_, band_a, bor_, bor_a, bnot_, bnot_a, anil_, ai_, ai_a, ai_b, aj_, aj_a, aj_b, ar_, ar_a, ar_b, kb2i_, cvi_, cvi_a, cvi_b, cvj_, cvj_a, cvj_b, cvz_, cvz_a, cvz_b, csi_, csi_a, csj_, csj_a, csz_, csz_a, snop_, sseq_, sseq_n, sseq_s, sif_, sif_a, scut_, scut_a, ssi_, ssi_a, ssj_, ssj_a, ssr_, ssr_a, sinc_, sinc_a, sret_, sret_a, sretj_, sretj_a, sretv_, spop_, spop_a, kc_scv_, scv_, scv_a, scv_b, scs_, scs_a, fpi_, fpi_a, fpi_b, fpj_, fpj_a, fpj_b, foi_, foi_a, foi_b, foj_, foj_a, foj_b, aii_, aii_a, aii_b, aii_c, aiz_, aiz_a, aiz_b, aiz_c, aij_, aij_a, aij_b, aij_c, aoi_, aoi_a, aoi_b, aoi_c, aoj_, aoj_a, aoj_b, aoj_c, scopy_, scopy_a, scopy_b, scopy_c, scopy_d, scopy_e, ssw_, ssw_a, sel_n, sel_c, mfi_, mfi_a, mfj_, mfj_a, mfz_, mfz_a, kb_mfv_, mfv_, mfv_a, cut, lset, lset2, isL, Value.category, ent, entn, if_some, if_pair, if_cons, if_int, if_long, if_ref, ite_self, gz_b, ↓icb, ↓icb2, b2i_ne, ge0, ge1, ge2, ge3, ge4, ge5, ge6, ge7, ge8, ge9, ge10, ge11, ge12, ge13, ge14, lit32, nI_add, pk_mul, clt_nI, cle_nI, cgt_nI, cge_nI, ceq_nI, cne_nI, inr_nI, nI_clamp, nI_eq, nI_leI, nI_ltI, k492, f492_2, f492_3, f492_4, f492_5, f492_7, f492_8, f492_9, f492_10, k493, k494, k495, k496, k497, k498, k499, k500, l493, l494, l495, l496, l497, l498, l499, l500, as, r1]
end
