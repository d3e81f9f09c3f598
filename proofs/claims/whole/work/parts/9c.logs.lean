/-! ===== the log of the class ===== -/
noncomputable def lgV (nc : Nat) (k : Nat → Nat) (c : Nat) : Int32 := if c < nc then (match fR (kok k) 27 with
  | none => -(nI 3)
  | some r => nI (rdN k r c)) else -(nI 1)
def lwX (X : Nat → Int32) (tm : Nat) (V : Nat → Int32) : Nat → Int32 := fun i => if 40 ≤ tm ∧ 131 ≤ i ∧ i < 136 then V (i - 131) else X i
section
variable {P N Q : Me} {X : Nat → Int32} {V : Nat → Int32} {k : Nat → Nat} {nc nt np nw tm tB b c i : Nat}
set_option maxRecDepth 20000 in
theorem lwX_at (h : i < 131 ∨ 136 ≤ i) : lwX X tm V i = X i := by
  unfold lwX
  rw [if_neg (by omega)]
set_option maxRecDepth 20000 in
theorem lwX_vx (hv : VxB X nc nt np nw tm tB) (hV : ∀ c, nc ≤ c → V c = -(nI 1)) : VxB (lwX X tm V) nc nt np nw tm tB := by
  have hb := hv.2.1
  obtain ⟨h1, h2, h3, h4, h5, h6, h7, h8, h9⟩ := hv
  refine ⟨?_, h2, ?_, fun c hc => ?_, fun t ht => ?_, fun p hp => ?_, fun w hw9 => ?_, fun c hc => ?_, fun k hk c hc hc5 => ?_⟩
  · rw [lwX_at (by omega), lwX_at (by omega), lwX_at (by omega), lwX_at (by omega), lwX_at (by omega), lwX_at (by omega)]; exact h1
  · unfold VxL; rw [lwX_at (by omega), lwX_at (by omega)]; exact h3
  · rw [lwX_at (by omega), lwX_at (by omega), lwX_at (by omega), lwX_at (by omega)]; exact h4 c hc
  · unfold VxT; rw [lwX_at (by omega), lwX_at (by omega), lwX_at (by omega), lwX_at (by omega)]; exact h5 t ht
  · unfold VxP; rw [lwX_at (by omega), lwX_at (by omega), lwX_at (by omega), lwX_at (by omega), lwX_at (by omega), lwX_at (by omega), lwX_at (by omega), lwX_at (by omega), lwX_at (by omega)]; exact h6 p hp
  · unfold VxW; rw [lwX_at (by omega), lwX_at (by omega), lwX_at (by omega), lwX_at (by omega), lwX_at (by omega)]; exact h7 w hw9
  · rw [wtP_cg (fun i a1 a2 => lwX_at (by omega)) np h2.2.2.1, wtT_cg (fun i a1 a2 => lwX_at (by omega)) nt h2.2.1]; exact h8 c hc
  · unfold lwX
    by_cases z : 40 ≤ tm ∧ 131 ≤ 131 + 5 * k + c ∧ 131 + 5 * k + c < 136
    · rw [if_pos z]
      exact hV _ (by omega)
    · rw [if_neg z]; exact h9 k hk c hc hc5
set_option maxRecDepth 20000 in
theorem c_logPlace {M : Me} (ht : tm < 2 ^ 31) : DX1_logPlace [.int (nI tm), .int (nI c)] M = some (nI (tm % 40 * 5 + c), M) := by
  have m1 : nI tm - nI tm / nI 40 * nI 40 = nI (tm % 40) := pk_rem (by omega) (by decide) (by decide)
  simp -implicitDefEqProofs (disch := omega) [DX1_logPlace, EX1_logPlace, kp_, bsome, bnone, gi_s, gj_s, gr_s, gv_s, ik_, jk_, il_, jl_, rl_, i2_, i2_a, i2_b, j2_, j2_a, j2_b, i2d_, i2d_a, i2d_b, j2d_, j2d_a, j2d_b, i1_, i1_a, j1_, j1_a, i2l_, i2l_a, l2i_, l2i_a, fgi_, fgi_a, fgj_, fgj_a, fgr_, fgr_a, iald_, iald_a, iald_b, zald_, zald_a, zald_b, jald_, jald_a, jald_b, rald_, rald_a, rald_b, alen_, alen_a, sald_, sald_a, ic_, ic_a, jc_, jc_a, bc_, bc_a, bc_b, bj_, bj_a, bj_b, bz_, bz_a, band_, band_a, bor_, bor_a, bnot_, bnot_a, anil_, ai_, ai_a, ai_b, aj_, aj_a, aj_b, ar_, ar_a, ar_b, kb2i_, cvi_, cvi_a, cvi_b, cvj_, cvj_a, cvj_b, cvz_, cvz_a, cvz_b, csi_, csi_a, csj_, csj_a, csz_, csz_a, snop_, sseq_, sseq_n, sseq_s, sif_, sif_a, scut_, scut_a, ssi_, ssi_a, ssj_, ssj_a, ssr_, ssr_a, sinc_, sinc_a, sret_, sret_a, sretj_, sretj_a, sretv_, spop_, spop_a, kc_scv_, scv_, scv_a, scv_b, scs_, scs_a, fpi_, fpi_a, fpi_b, fpj_, fpj_a, fpj_b, foi_, foi_a, foi_b, foj_, foj_a, foj_b, aii_, aii_a, aii_b, aii_c, aiz_, aiz_a, aiz_b, aiz_c, aij_, aij_a, aij_b, aij_c, aoi_, aoi_a, aoi_b, aoi_c, aoj_, aoj_a, aoj_b, aoj_c, scopy_, scopy_a, scopy_b, scopy_c, scopy_d, scopy_e, ssw_, ssw_a, sel_n, sel_c, mfi_, mfi_a, mfj_, mfj_a, mfz_, mfz_a, kb_mfv_, mfv_, mfv_a, cut, lset, lset2, isL, Value.category, ent, entn, if_some, if_pair, if_cons, if_int, if_long, if_ref, ite_self, gz_b, ↓icb, ↓icb2, b2i_ne, ge0, ge1, ge2, ge3, ge4, ge5, ge6, ge7, ge8, ge9, ge10, ge11, ge12, ge13, ge14, lit32, nI_add, pk_mul, clt_nI, cle_nI, cgt_nI, cge_nI, ceq_nI, cne_nI, inr_nI, nI_clamp, nI_eq, nI_leI, nI_ltI, orem, m1]
set_option maxRecDepth 20000 in
theorem c_logs (hL : Lr P b X nc nt np nw tm) (hv : VxB X nc nt np nw tm tB) (hb63 : b + 30 ≤ 61) (hn : Nh P b) (hI : BInv P) : ∃ Q, DX6_writeLog [.ref 97, .ref b] P = some Q ∧ Lr Q b (lwX X tm (lgV nc (kyN X nc nt np 9 0))) nc nt np nw tm ∧ Nh Q b ∧ BInv Q ∧ CO b P Q ∧ (∀ c, c < 5 → Q.1 (b + 29) (tm % 40 * 5 + c) = lgV nc (kyN X nc nt np 9 0) c) := by
  have hb := hL.1
  have hB := hv.2.1
  obtain ⟨R, s1, s2, s3⟩ := c_bal hL hv (by omega) (Or.inl ⟨rfl, rfl⟩) (Or.inl ⟨hn.1, hn.2, rfl, rfl⟩) hI
  have lR : Lr R b X nc nt np nw tm := hL.frame hB.1 hB.2.1 hB.2.2.1 hB.2.2.2.1 (fun a z1 z2 => (s3 a (by omega)).1)
  have nR : Nh R b := by unfold Nh; rw [(s3 b (by omega)).1]; exact hn
  have r0 := lR.2.1.1
  have r4 := lR.2.1.2.2.2.2.1
  have k0 : kyN X nc nt np 9 0 0 = nc := ky_0
  obtain ⟨k, ek⟩ : ∃ k, k = kyN X nc nt np 9 0 := ⟨_, rfl⟩
  rw [← ek] at s2 k0 ⊢
  obtain ⟨V, eV⟩ : ∃ V, V = lgV nc k := ⟨_, rfl⟩
  rw [← eV]
  have tl : tm % 40 < 40 := Nat.mod_lt _ (by decide)
  obtain ⟨Q, l1, y1, y2, y3⟩ := swh_inv (c := qX6_writeLog_1) (b := wX6_writeLog_1) (fun c => [.ref 97, .ref b, .int (nI c)]) (fun c Q => (∀ a, a ≠ b + 29 → Q.1 a = R.1 a) ∧ Q.2 = R.2 ∧ (∀ i, Q.1 (b + 29) i = if tm % 40 * 5 ≤ i ∧ i < tm % 40 * 5 + c then V (i - tm % 40 * 5) else R.1 (b + 29) i)) 5
    (fun c hc Q hQ => by simp -implicitDefEqProofs (disch := omega) [qX6_writeLog_1, kp_, bsome, bnone, gi_s, gj_s, gr_s, gv_s, ik_, jk_, il_, jl_, rl_, i2_, i2_a, i2_b, j2_, j2_a, j2_b, i2d_, i2d_a, i2d_b, j2d_, j2d_a, j2d_b, i1_, i1_a, j1_, j1_a, i2l_, i2l_a, l2i_, l2i_a, fgi_, fgi_a, fgj_, fgj_a, fgr_, fgr_a, iald_, iald_a, iald_b, zald_, zald_a, zald_b, jald_, jald_a, jald_b, rald_, rald_a, rald_b, alen_, alen_a, sald_, sald_a, ic_, ic_a, jc_, jc_a, bc_, bc_a, bc_b, bj_, bj_a, bj_b, bz_, bz_a, band_, band_a, bor_, bor_a, bnot_, bnot_a, anil_, ai_, ai_a, ai_b, aj_, aj_a, aj_b, ar_, ar_a, ar_b, kb2i_, cvi_, cvi_a, cvi_b, cvj_, cvj_a, cvj_b, cvz_, cvz_a, cvz_b, csi_, csi_a, csj_, csj_a, csz_, csz_a, snop_, sseq_, sseq_n, sseq_s, sif_, sif_a, scut_, scut_a, ssi_, ssi_a, ssj_, ssj_a, ssr_, ssr_a, sinc_, sinc_a, sret_, sret_a, sretj_, sretj_a, sretv_, spop_, spop_a, kc_scv_, scv_, scv_a, scv_b, scs_, scs_a, fpi_, fpi_a, fpi_b, fpj_, fpj_a, fpj_b, foi_, foi_a, foi_b, foj_, foj_a, foj_b, aii_, aii_a, aii_b, aii_c, aiz_, aiz_a, aiz_b, aiz_c, aij_, aij_a, aij_b, aij_c, aoi_, aoi_a, aoi_b, aoi_c, aoj_, aoj_a, aoj_b, aoj_c, scopy_, scopy_a, scopy_b, scopy_c, scopy_d, scopy_e, ssw_, ssw_a, sel_n, sel_c, mfi_, mfi_a, mfj_, mfj_a, mfz_, mfz_a, kb_mfv_, mfv_, mfv_a, cut, lset, lset2, isL, Value.category, ent, entn, if_some, if_pair, if_cons, if_int, if_long, if_ref, ite_self, gz_b, ↓icb, ↓icb2, b2i_ne, ge0, ge1, ge2, ge3, ge4, ge5, ge6, ge7, ge8, ge9, ge10, ge11, ge12, ge13, ge14, lit32, nI_add, pk_mul, clt_nI, cle_nI, cgt_nI, cge_nI, ceq_nI, cne_nI, inr_nI, nI_clamp, nI_eq, nI_leI, nI_ltI, hc])
    (fun c hc Q hQ => by
      obtain ⟨y1, y2, y3⟩ := hQ
      have q0 : Q.1 b 0 = nI nc := by rw [y1 b (by omega)]; exact r0
      have q4 : Q.1 b 4 = nI tm := by rw [y1 b (by omega)]; exact r4
      have bQ : BAt Q k := s2.frame (fun a _ z1 z2 => y1 a (by omega)) (fun _ _ _ => by rw [y2])
      have lp := c_logPlace (tm := tm) (c := c) (M := Q) (by omega)
      have ix : tm % 40 * 5 + c < 200 := by omega
      refine ⟨wi Q (b + 29) (tm % 40 * 5 + c) (V c), ?_, fun a ha => by rw [wi_ne ha]; exact y1 a ha, y2, fun i => ?_⟩
      · rw [eV]
        unfold lgV
        by_cases z : c < nc
        · cases ef : fR (kok k) 27 with
          | none =>
            have ga := c_gauge1 (c := c) bQ ef
            simp only [if_pos z]
            simp -implicitDefEqProofs (disch := omega) [wX6_writeLog_1, kp_, bsome, bnone, gi_s, gj_s, gr_s, gv_s, ik_, jk_, il_, jl_, rl_, i2_, i2_a, i2_b, j2_, j2_a, j2_b, i2d_, i2d_a, i2d_b, j2d_, j2d_a, j2d_b, i1_, i1_a, j1_, j1_a, i2l_, i2l_a, l2i_, l2i_a, fgi_, fgi_a, fgj_, fgj_a, fgr_, fgr_a, iald_, iald_a, iald_b, zald_, zald_a, zald_b, jald_, jald_a, jald_b, rald_, rald_a, rald_b, alen_, alen_a, sald_, sald_a, ic_, ic_a, jc_, jc_a, bc_, bc_a, bc_b, bj_, bj_a, bj_b, bz_, bz_a, band_, band_a, bor_, bor_a, bnot_, bnot_a, anil_, ai_, ai_a, ai_b, aj_, aj_a, aj_b, ar_, ar_a, ar_b, kb2i_, cvi_, cvi_a, cvi_b, cvj_, cvj_a, cvj_b, cvz_, cvz_a, cvz_b, csi_, csi_a, csj_, csj_a, csz_, csz_a, snop_, sseq_, sseq_n, sseq_s, sif_, sif_a, scut_, scut_a, ssi_, ssi_a, ssj_, ssj_a, ssr_, ssr_a, sinc_, sinc_a, sret_, sret_a, sretj_, sretj_a, sretv_, spop_, spop_a, kc_scv_, scv_, scv_a, scv_b, scs_, scs_a, fpi_, fpi_a, fpi_b, fpj_, fpj_a, fpj_b, foi_, foi_a, foi_b, foj_, foj_a, foj_b, aii_, aii_a, aii_b, aii_c, aiz_, aiz_a, aiz_b, aiz_c, aij_, aij_a, aij_b, aij_c, aoi_, aoi_a, aoi_b, aoi_c, aoj_, aoj_a, aoj_b, aoj_c, scopy_, scopy_a, scopy_b, scopy_c, scopy_d, scopy_e, ssw_, ssw_a, sel_n, sel_c, mfi_, mfi_a, mfj_, mfj_a, mfz_, mfz_a, kb_mfv_, mfv_, mfv_a, cut, lset, lset2, isL, Value.category, ent, entn, if_some, if_pair, if_cons, if_int, if_long, if_ref, ite_self, gz_b, ↓icb, ↓icb2, b2i_ne, ge0, ge1, ge2, ge3, ge4, ge5, ge6, ge7, ge8, ge9, ge10, ge11, ge12, ge13, ge14, lit32, nI_add, pk_mul, clt_nI, cle_nI, cgt_nI, cge_nI, ceq_nI, cne_nI, inr_nI, nI_clamp, nI_eq, nI_leI, nI_ltI, a_kb hb, a_9 hb, a_10 hb, a_11 hb, a_12 hb, a_13 hb, a_k1 hb, a_l1 hb, a_k7 hb, a_l7 hb, a_k18 hb, a_l18 hb, a_k22 hb, a_l22 hb, a_k29 hb, a_l29 hb, a_rc hb, a_kc hb, a_lc hb, a_rt hb, a_kt hb, a_lt hb, a_rp hb, a_kp hb, a_lp hb, a_rw hb, a_kw hb, a_lw hb, k97, f97_0, k61, q0, q4, lp, z, ga]
          | some r =>
            have ga := c_gauge (c := c) bQ ef (by rw [k0]; exact z)
            simp only [if_pos z]
            simp -implicitDefEqProofs (disch := omega) [wX6_writeLog_1, kp_, bsome, bnone, gi_s, gj_s, gr_s, gv_s, ik_, jk_, il_, jl_, rl_, i2_, i2_a, i2_b, j2_, j2_a, j2_b, i2d_, i2d_a, i2d_b, j2d_, j2d_a, j2d_b, i1_, i1_a, j1_, j1_a, i2l_, i2l_a, l2i_, l2i_a, fgi_, fgi_a, fgj_, fgj_a, fgr_, fgr_a, iald_, iald_a, iald_b, zald_, zald_a, zald_b, jald_, jald_a, jald_b, rald_, rald_a, rald_b, alen_, alen_a, sald_, sald_a, ic_, ic_a, jc_, jc_a, bc_, bc_a, bc_b, bj_, bj_a, bj_b, bz_, bz_a, band_, band_a, bor_, bor_a, bnot_, bnot_a, anil_, ai_, ai_a, ai_b, aj_, aj_a, aj_b, ar_, ar_a, ar_b, kb2i_, cvi_, cvi_a, cvi_b, cvj_, cvj_a, cvj_b, cvz_, cvz_a, cvz_b, csi_, csi_a, csj_, csj_a, csz_, csz_a, snop_, sseq_, sseq_n, sseq_s, sif_, sif_a, scut_, scut_a, ssi_, ssi_a, ssj_, ssj_a, ssr_, ssr_a, sinc_, sinc_a, sret_, sret_a, sretj_, sretj_a, sretv_, spop_, spop_a, kc_scv_, scv_, scv_a, scv_b, scs_, scs_a, fpi_, fpi_a, fpi_b, fpj_, fpj_a, fpj_b, foi_, foi_a, foi_b, foj_, foj_a, foj_b, aii_, aii_a, aii_b, aii_c, aiz_, aiz_a, aiz_b, aiz_c, aij_, aij_a, aij_b, aij_c, aoi_, aoi_a, aoi_b, aoi_c, aoj_, aoj_a, aoj_b, aoj_c, scopy_, scopy_a, scopy_b, scopy_c, scopy_d, scopy_e, ssw_, ssw_a, sel_n, sel_c, mfi_, mfi_a, mfj_, mfj_a, mfz_, mfz_a, kb_mfv_, mfv_, mfv_a, cut, lset, lset2, isL, Value.category, ent, entn, if_some, if_pair, if_cons, if_int, if_long, if_ref, ite_self, gz_b, ↓icb, ↓icb2, b2i_ne, ge0, ge1, ge2, ge3, ge4, ge5, ge6, ge7, ge8, ge9, ge10, ge11, ge12, ge13, ge14, lit32, nI_add, pk_mul, clt_nI, cle_nI, cgt_nI, cge_nI, ceq_nI, cne_nI, inr_nI, nI_clamp, nI_eq, nI_leI, nI_ltI, a_kb hb, a_9 hb, a_10 hb, a_11 hb, a_12 hb, a_13 hb, a_k1 hb, a_l1 hb, a_k7 hb, a_l7 hb, a_k18 hb, a_l18 hb, a_k22 hb, a_l22 hb, a_k29 hb, a_l29 hb, a_rc hb, a_kc hb, a_lc hb, a_rt hb, a_kt hb, a_lt hb, a_rp hb, a_kp hb, a_lp hb, a_rw hb, a_kw hb, a_lw hb, k97, f97_0, k61, q0, q4, lp, z, ga]
        · simp only [if_neg z]
          simp -implicitDefEqProofs (disch := omega) [wX6_writeLog_1, kp_, bsome, bnone, gi_s, gj_s, gr_s, gv_s, ik_, jk_, il_, jl_, rl_, i2_, i2_a, i2_b, j2_, j2_a, j2_b, i2d_, i2d_a, i2d_b, j2d_, j2d_a, j2d_b, i1_, i1_a, j1_, j1_a, i2l_, i2l_a, l2i_, l2i_a, fgi_, fgi_a, fgj_, fgj_a, fgr_, fgr_a, iald_, iald_a, iald_b, zald_, zald_a, zald_b, jald_, jald_a, jald_b, rald_, rald_a, rald_b, alen_, alen_a, sald_, sald_a, ic_, ic_a, jc_, jc_a, bc_, bc_a, bc_b, bj_, bj_a, bj_b, bz_, bz_a, band_, band_a, bor_, bor_a, bnot_, bnot_a, anil_, ai_, ai_a, ai_b, aj_, aj_a, aj_b, ar_, ar_a, ar_b, kb2i_, cvi_, cvi_a, cvi_b, cvj_, cvj_a, cvj_b, cvz_, cvz_a, cvz_b, csi_, csi_a, csj_, csj_a, csz_, csz_a, snop_, sseq_, sseq_n, sseq_s, sif_, sif_a, scut_, scut_a, ssi_, ssi_a, ssj_, ssj_a, ssr_, ssr_a, sinc_, sinc_a, sret_, sret_a, sretj_, sretj_a, sretv_, spop_, spop_a, kc_scv_, scv_, scv_a, scv_b, scs_, scs_a, fpi_, fpi_a, fpi_b, fpj_, fpj_a, fpj_b, foi_, foi_a, foi_b, foj_, foj_a, foj_b, aii_, aii_a, aii_b, aii_c, aiz_, aiz_a, aiz_b, aiz_c, aij_, aij_a, aij_b, aij_c, aoi_, aoi_a, aoi_b, aoi_c, aoj_, aoj_a, aoj_b, aoj_c, scopy_, scopy_a, scopy_b, scopy_c, scopy_d, scopy_e, ssw_, ssw_a, sel_n, sel_c, mfi_, mfi_a, mfj_, mfj_a, mfz_, mfz_a, kb_mfv_, mfv_, mfv_a, cut, lset, lset2, isL, Value.category, ent, entn, if_some, if_pair, if_cons, if_int, if_long, if_ref, ite_self, gz_b, ↓icb, ↓icb2, b2i_ne, ge0, ge1, ge2, ge3, ge4, ge5, ge6, ge7, ge8, ge9, ge10, ge11, ge12, ge13, ge14, lit32, nI_add, pk_mul, clt_nI, cle_nI, cgt_nI, cge_nI, ceq_nI, cne_nI, inr_nI, nI_clamp, nI_eq, nI_leI, nI_ltI, a_kb hb, a_9 hb, a_10 hb, a_11 hb, a_12 hb, a_13 hb, a_k1 hb, a_l1 hb, a_k7 hb, a_l7 hb, a_k18 hb, a_l18 hb, a_k22 hb, a_l22 hb, a_k29 hb, a_l29 hb, a_rc hb, a_kc hb, a_lc hb, a_rt hb, a_kt hb, a_lt hb, a_rp hb, a_kp hb, a_lp hb, a_rw hb, a_kw hb, a_lw hb, k97, f97_0, k61, q0, q4, lp, z]
      · rw [wi_same]
        simp only [upd]
        by_cases e : i = tm % 40 * 5 + c
        · rw [if_pos e, if_pos (by omega), e, Nat.add_sub_cancel_left]
        · rw [if_neg e, y3 i]
          by_cases z : tm % 40 * 5 ≤ i ∧ i < tm % 40 * 5 + c
          · rw [if_pos z, if_pos (by omega)]
          · rw [if_neg z, if_neg (by omega)])
    (fun Q hQ => by simp -implicitDefEqProofs (disch := omega) [qX6_writeLog_1, kp_, bsome, bnone, gi_s, gj_s, gr_s, gv_s, ik_, jk_, il_, jl_, rl_, i2_, i2_a, i2_b, j2_, j2_a, j2_b, i2d_, i2d_a, i2d_b, j2d_, j2d_a, j2d_b, i1_, i1_a, j1_, j1_a, i2l_, i2l_a, l2i_, l2i_a, fgi_, fgi_a, fgj_, fgj_a, fgr_, fgr_a, iald_, iald_a, iald_b, zald_, zald_a, zald_b, jald_, jald_a, jald_b, rald_, rald_a, rald_b, alen_, alen_a, sald_, sald_a, ic_, ic_a, jc_, jc_a, bc_, bc_a, bc_b, bj_, bj_a, bj_b, bz_, bz_a, band_, band_a, bor_, bor_a, bnot_, bnot_a, anil_, ai_, ai_a, ai_b, aj_, aj_a, aj_b, ar_, ar_a, ar_b, kb2i_, cvi_, cvi_a, cvi_b, cvj_, cvj_a, cvj_b, cvz_, cvz_a, cvz_b, csi_, csi_a, csj_, csj_a, csz_, csz_a, snop_, sseq_, sseq_n, sseq_s, sif_, sif_a, scut_, scut_a, ssi_, ssi_a, ssj_, ssj_a, ssr_, ssr_a, sinc_, sinc_a, sret_, sret_a, sretj_, sretj_a, sretv_, spop_, spop_a, kc_scv_, scv_, scv_a, scv_b, scs_, scs_a, fpi_, fpi_a, fpi_b, fpj_, fpj_a, fpj_b, foi_, foi_a, foi_b, foj_, foj_a, foj_b, aii_, aii_a, aii_b, aii_c, aiz_, aiz_a, aiz_b, aiz_c, aij_, aij_a, aij_b, aij_c, aoi_, aoi_a, aoi_b, aoi_c, aoj_, aoj_a, aoj_b, aoj_c, scopy_, scopy_a, scopy_b, scopy_c, scopy_d, scopy_e, ssw_, ssw_a, sel_n, sel_c, mfi_, mfi_a, mfj_, mfj_a, mfz_, mfz_a, kb_mfv_, mfv_, mfv_a, cut, lset, lset2, isL, Value.category, ent, entn, if_some, if_pair, if_cons, if_int, if_long, if_ref, ite_self, gz_b, ↓icb, ↓icb2, b2i_ne, ge0, ge1, ge2, ge3, ge4, ge5, ge6, ge7, ge8, ge9, ge10, ge11, ge12, ge13, ge14, lit32, nI_add, pk_mul, clt_nI, cle_nI, cgt_nI, cge_nI, ceq_nI, cne_nI, inr_nI, nI_clamp, nI_eq, nI_leI, nI_ltI])
    R ⟨fun _ _ => rfl, rfl, fun i => by rw [if_neg (by omega)]⟩
  refine ⟨Q, ?_, ?_, by unfold Nh; rw [y1 b (by omega)]; exact nR, Or.inr ⟨k, s2.frame (fun a _ z1 z2 => y1 a (by omega)) (fun _ _ _ => by rw [y2])⟩, fun a ha => ⟨by rw [y1 a (by omega)]; exact (s3 a (by omega)).1, by rw [y2]; exact (s3 a (by omega)).2⟩, fun c hc => by rw [y3, if_pos (by omega), Nat.add_sub_cancel_left]⟩
  · simp -implicitDefEqProofs (disch := omega) [DX6_writeLog, EX6_writeLog, kp_, bsome, bnone, gi_s, gj_s, gr_s, gv_s, ik_, jk_, il_, jl_, rl_, i2_, i2_a, i2_b, j2_, j2_a, j2_b, i2d_, i2d_a, i2d_b, j2d_, j2d_a, j2d_b, i1_, i1_a, j1_, j1_a, i2l_, i2l_a, l2i_, l2i_a, fgi_, fgi_a, fgj_, fgj_a, fgr_, fgr_a, iald_, iald_a, iald_b, zald_, zald_a, zald_b, jald_, jald_a, jald_b, rald_, rald_a, rald_b, alen_, alen_a, sald_, sald_a, ic_, ic_a, jc_, jc_a, bc_, bc_a, bc_b, bj_, bj_a, bj_b, bz_, bz_a, band_, band_a, bor_, bor_a, bnot_, bnot_a, anil_, ai_, ai_a, ai_b, aj_, aj_a, aj_b, ar_, ar_a, ar_b, kb2i_, cvi_, cvi_a, cvi_b, cvj_, cvj_a, cvj_b, cvz_, cvz_a, cvz_b, csi_, csi_a, csj_, csj_a, csz_, csz_a, snop_, sseq_, sseq_n, sseq_s, sif_, sif_a, scut_, scut_a, ssi_, ssi_a, ssj_, ssj_a, ssr_, ssr_a, sinc_, sinc_a, sret_, sret_a, sretj_, sretj_a, sretv_, spop_, spop_a, kc_scv_, scv_, scv_a, scv_b, scs_, scs_a, fpi_, fpi_a, fpi_b, fpj_, fpj_a, fpj_b, foi_, foi_a, foi_b, foj_, foj_a, foj_b, aii_, aii_a, aii_b, aii_c, aiz_, aiz_a, aiz_b, aiz_c, aij_, aij_a, aij_b, aij_c, aoi_, aoi_a, aoi_b, aoi_c, aoj_, aoj_a, aoj_b, aoj_c, scopy_, scopy_a, scopy_b, scopy_c, scopy_d, scopy_e, ssw_, ssw_a, sel_n, sel_c, mfi_, mfi_a, mfj_, mfj_a, mfz_, mfz_a, kb_mfv_, mfv_, mfv_a, cut, lset, lset2, isL, Value.category, ent, entn, if_some, if_pair, if_cons, if_int, if_long, if_ref, ite_self, gz_b, ↓icb, ↓icb2, b2i_ne, ge0, ge1, ge2, ge3, ge4, ge5, ge6, ge7, ge8, ge9, ge10, ge11, ge12, ge13, ge14, lit32, nI_add, pk_mul, clt_nI, cle_nI, cgt_nI, cge_nI, ceq_nI, cne_nI, inr_nI, nI_clamp, nI_eq, nI_leI, nI_ltI, k97, f97_0, k61, s1, l1]
  · obtain ⟨h0, h1, h2, h3, h4, h5, h6, h7⟩ := lR
    refine ⟨h0, ?_, fun c hc1 j hj => ?_, fun c hc1 => ?_, fun t ht1 j hj => ?_, fun p hp1 j hj => ?_, fun w hw1 j hj => ?_, fun k hk c hc1 => ?_⟩
    · rw [y1 b (by omega), lwX_at (by omega), lwX_at (by omega)]; exact h1
    · rw [y1 _ (by omega), lwX_at (by omega)]; exact h2 c hc1 j hj
    · rw [y1 _ (by omega), lwX_at (by omega)]; exact h3 c hc1
    · rw [y1 _ (by omega), lwX_at (by omega)]; exact h4 t ht1 j hj
    · rw [y1 _ (by omega), lwX_at (by omega)]; exact h5 p hp1 j hj
    · rw [y1 _ (by omega), lwX_at (by omega)]; exact h6 w hw1 j hj
    · have h7' := h7 k hk c hc1
      rw [y3]
      unfold lwX
      by_cases z : 40 ≤ tm ∧ k = 0
      · rw [if_pos (by omega), if_pos (by omega)]
        congr 1
        omega
      · rw [if_neg (by omega), if_neg (by omega)]
        exact h7'
end
