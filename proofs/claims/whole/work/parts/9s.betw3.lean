/-! ===== between ===== -/
def actB (S t c : Nat) : Bool := S.testBit c && decide (c ≠ t)
section
variable {M N : Me} {X : Nat → Int32} {nc nt np nw tm tB o u f t S : Nat}
theorem nX_lt (hv : VxB X nc nt np nw tm tB) (hf : f < nc) : nX X nt f < 2 ^ nc := gN_lt (ends_lt hv) hf
theorem nX_32 (hv : VxB X nc nt np nw tm tB) (hf : f < nc) : nX X nt f < 32 := Nat.lt_of_lt_of_le (nX_lt hv hf) (Nat.pow_le_pow_right (i := nc) (j := 5) (by decide) hv.2.1.1)
set_option maxRecDepth 20000 in
theorem nX_in (hv : VxB X nc nt np nw tm tB) (hf : f < nc) {c : Nat} (h : (nX X nt f).testBit c = true) : c < nc := by
  by_cases z : c < nc
  · exact z
  · have l := nX_lt hv hf
    have l2 : nX X nt f < 2 ^ c := Nat.lt_of_lt_of_le l (Nat.pow_le_pow_right (by decide) (by omega))
    rw [Nat.testBit_lt_two_pow l2] at h
    cases h
set_option maxRecDepth 20000 in
theorem c_across (hL : Lr M 1 X nc nt np nw tm) (hv : VxB X nc nt np nw tm tB) (hf : f < nc) (ht : t < nc) (hh : (nX X nt f).testBit t = true) : ∃ Y, DX4_across [.ref 122, .ref 1, .int (nI f), .int (nI t)] M = some (wj (wj (sJ M 123 25 Y) 122 3 (jI (detI (bM (actB (nX X nt f) t) X nt)))) 122 4 (jI (cofI (bM (actB (nX X nt f) t) X nt) f f))) := by
  have hb := hv.2.1
  have n0 := hL.2.1.1
  have n1 := hL.2.1.2.1
  have s32 := nX_32 hv hf
  have net := c_net (M := M) hL hv hf
  obtain ⟨S, eS⟩ : ∃ S, S = nX X nt f := ⟨_, rfl⟩
  rw [← eS] at s32 net hh ⊢
  obtain ⟨c1, c2⟩ := clr_n (S := S) (t := t) s32 (by omega)
  have sh := nI_shl t (by omega)
  obtain ⟨F, eF⟩ : ∃ F, F = clr S t := ⟨_, rfl⟩
  rw [← eF] at c1 c2
  obtain ⟨act, eA⟩ : ∃ act, act = actB S t := ⟨_, rfl⟩
  rw [← eA]
  have hact : ∀ c, c < 5 → F.testBit c = act c := fun c hc => by rw [eF, clr_bit s32 (by omega) hc, eA]; rfl
  have ha : ∀ c, act c = true → c < nc ∧ (nX X nt f).testBit c = true ∧ c ≠ t := fun c hc => by
    rw [eA] at hc
    unfold actB at hc
    rw [eS] at hc
    simp only [Bool.and_eq_true, decide_eq_true_eq] at hc
    exact ⟨nX_in hv hf hc.1, hc.1, hc.2⟩
  have j0 : (0 : Int64) = jI 0 := rfl
  have j1 : (1 : Int64) = jI 1 := rfl
  have fl := j_fillJ (M := M) (a := 123) (n := 25) (v := jI 0) k123 l123 (by decide)
  obtain ⟨Z, eZ⟩ : ∃ Z : Nat → Nat → Int64, Z = fun m q => jI (if q / 5 = q % 5 ∧ q / 5 < m ∧ ¬ act (q / 5) = true then 1 else 0) := ⟨_, rfl⟩
  have z0 : ∀ m q, Z m q = jI (if q / 5 = q % 5 ∧ q / 5 < m ∧ ¬ act (q / 5) = true then 1 else 0) := fun m q => by rw [eZ]
  have f0 : sJ M 123 25 (fun _ => jI 0) = sJ M 123 25 (Z 0) := sJ_congr (fun q hq => by rw [z0, if_neg (by omega)])
  rw [f0] at fl
  have l1 := swh_count (c := qX4_across_1) (b := wX4_across_1) (fun c => [.ref 122, .ref 1, .int (nI f), .int (nI t), .int (nI F), .int (nI c), .null]) (fun c => sJ M 123 25 (Z c)) nc
    (fun c hc => by simp -implicitDefEqProofs (disch := omega) [qX4_across_1, kp_, bsome, bnone, gi_s, gj_s, gr_s, gv_s, ik_, jk_, il_, jl_, rl_, i2_, i2_a, i2_b, j2_, j2_a, j2_b, i2d_, i2d_a, i2d_b, j2d_, j2d_a, j2d_b, i1_, i1_a, j1_, j1_a, i2l_, i2l_a, l2i_, l2i_a, fgi_, fgi_a, fgj_, fgj_a, fgr_, fgr_a, iald_, iald_a, iald_b, zald_, zald_a, zald_b, jald_, jald_a, jald_b, rald_, rald_a, rald_b, alen_, alen_a, sald_, sald_a, ic_, ic_a, jc_, jc_a, bc_, bc_a, bc_b, bj_, bj_a, bj_b, bz_, bz_a, band_, band_a, bor_, bor_a, bnot_, bnot_a, anil_, ai_, ai_a, ai_b, aj_, aj_a, aj_b, ar_, ar_a, ar_b, kb2i_, cvi_, cvi_a, cvi_b, cvj_, cvj_a, cvj_b, cvz_, cvz_a, cvz_b, csi_, csi_a, csj_, csj_a, csz_, csz_a, snop_, sseq_, sseq_n, sseq_s, sif_, sif_a, scut_, scut_a, ssi_, ssi_a, ssj_, ssj_a, ssr_, ssr_a, sinc_, sinc_a, sret_, sret_a, sretj_, sretj_a, sretv_, spop_, spop_a, kc_scv_, scv_, scv_a, scv_b, scs_, scs_a, fpi_, fpi_a, fpi_b, fpj_, fpj_a, fpj_b, foi_, foi_a, foi_b, foj_, foj_a, foj_b, aii_, aii_a, aii_b, aii_c, aiz_, aiz_a, aiz_b, aiz_c, aij_, aij_a, aij_b, aij_c, aoi_, aoi_a, aoi_b, aoi_c, aoj_, aoj_a, aoj_b, aoj_c, scopy_, scopy_a, scopy_b, scopy_c, scopy_d, scopy_e, ssw_, ssw_a, sel_n, sel_c, mfi_, mfi_a, mfj_, mfj_a, mfz_, mfz_a, kb_mfv_, mfv_, mfv_a, cut, lset, lset2, isL, Value.category, ent, entn, if_some, if_pair, if_cons, if_int, if_long, if_ref, ite_self, gz_b, ↓icb, ↓icb2, b2i_ne, ge0, ge1, ge2, ge3, ge4, ge5, ge6, ge7, ge8, ge9, ge10, ge11, ge12, ge13, ge14, lit32, nI_add, pk_mul, clt_nI, cle_nI, cgt_nI, cge_nI, ceq_nI, cne_nI, inr_nI, nI_clamp, nI_eq, nI_leI, nI_ltI, k1_, sJ_1, n0, hc])
    (fun c hc => by
      have bt := nI_bit (a := F) (k := c) (by omega) (by omega)
      rw [hact c (by omega)] at bt
      have ix : c * 5 + c < 25 := by omega
      have nx : sJ M 123 25 (vp_updL (Z c) (c * 5 + c) (jI (if act c = true then 0 else 1))) = sJ M 123 25 (Z (c + 1)) := sJ_congr (fun q hq => by
        by_cases w : q = c * 5 + c
        · rw [w, pk_uLs, z0, show (c * 5 + c) / 5 = c by omega, show (c * 5 + c) % 5 = c by omega]
          by_cases a : act c = true
          · rw [if_pos a, if_neg (fun z => z.2.2 a)]
          · rw [if_neg a, if_pos ⟨rfl, by omega, a⟩]
        · rw [pk_uLn w, z0, z0]
          by_cases z : q / 5 = q % 5 ∧ q / 5 < c ∧ ¬ act (q / 5) = true
          · rw [if_pos z, if_pos ⟨z.1, by omega, z.2.2⟩]
          · rw [if_neg z, if_neg (fun y => z ⟨y.1, by omega, y.2.2⟩)])
      cases a : act c with
      | true =>
        rw [a, if_pos rfl] at bt
        rw [a, if_pos rfl] at nx
        simp -implicitDefEqProofs (disch := omega) [wX4_across_1, kp_, bsome, bnone, gi_s, gj_s, gr_s, gv_s, ik_, jk_, il_, jl_, rl_, i2_, i2_a, i2_b, j2_, j2_a, j2_b, i2d_, i2d_a, i2d_b, j2d_, j2d_a, j2d_b, i1_, i1_a, j1_, j1_a, i2l_, i2l_a, l2i_, l2i_a, fgi_, fgi_a, fgj_, fgj_a, fgr_, fgr_a, iald_, iald_a, iald_b, zald_, zald_a, zald_b, jald_, jald_a, jald_b, rald_, rald_a, rald_b, alen_, alen_a, sald_, sald_a, ic_, ic_a, jc_, jc_a, bc_, bc_a, bc_b, bj_, bj_a, bj_b, bz_, bz_a, band_, band_a, bor_, bor_a, bnot_, bnot_a, anil_, ai_, ai_a, ai_b, aj_, aj_a, aj_b, ar_, ar_a, ar_b, kb2i_, cvi_, cvi_a, cvi_b, cvj_, cvj_a, cvj_b, cvz_, cvz_a, cvz_b, csi_, csi_a, csj_, csj_a, csz_, csz_a, snop_, sseq_, sseq_n, sseq_s, sif_, sif_a, scut_, scut_a, ssi_, ssi_a, ssj_, ssj_a, ssr_, ssr_a, sinc_, sinc_a, sret_, sret_a, sretj_, sretj_a, sretv_, spop_, spop_a, kc_scv_, scv_, scv_a, scv_b, scs_, scs_a, fpi_, fpi_a, fpi_b, fpj_, fpj_a, fpj_b, foi_, foi_a, foi_b, foj_, foj_a, foj_b, aii_, aii_a, aii_b, aii_c, aiz_, aiz_a, aiz_b, aiz_c, aij_, aij_a, aij_b, aij_c, aoi_, aoi_a, aoi_b, aoi_c, aoj_, aoj_a, aoj_b, aoj_c, scopy_, scopy_a, scopy_b, scopy_c, scopy_d, scopy_e, ssw_, ssw_a, sel_n, sel_c, mfi_, mfi_a, mfj_, mfj_a, mfz_, mfz_a, kb_mfv_, mfv_, mfv_a, cut, lset, lset2, isL, Value.category, ent, entn, if_some, if_pair, if_cons, if_int, if_long, if_ref, ite_self, gz_b, ↓icb, ↓icb2, b2i_ne, ge0, ge1, ge2, ge3, ge4, ge5, ge6, ge7, ge8, ge9, ge10, ge11, ge12, ge13, ge14, lit32, nI_add, pk_mul, clt_nI, cle_nI, cgt_nI, cge_nI, ceq_nI, cne_nI, inr_nI, nI_clamp, nI_eq, nI_leI, nI_ltI, k122, f122_0, k123, l123, c_cell, bt, j0, wj_sJ, nx]
      | false =>
        rw [a, if_neg (by decide)] at bt
        rw [a, if_neg (by decide)] at nx
        simp -implicitDefEqProofs (disch := omega) [wX4_across_1, kp_, bsome, bnone, gi_s, gj_s, gr_s, gv_s, ik_, jk_, il_, jl_, rl_, i2_, i2_a, i2_b, j2_, j2_a, j2_b, i2d_, i2d_a, i2d_b, j2d_, j2d_a, j2d_b, i1_, i1_a, j1_, j1_a, i2l_, i2l_a, l2i_, l2i_a, fgi_, fgi_a, fgj_, fgj_a, fgr_, fgr_a, iald_, iald_a, iald_b, zald_, zald_a, zald_b, jald_, jald_a, jald_b, rald_, rald_a, rald_b, alen_, alen_a, sald_, sald_a, ic_, ic_a, jc_, jc_a, bc_, bc_a, bc_b, bj_, bj_a, bj_b, bz_, bz_a, band_, band_a, bor_, bor_a, bnot_, bnot_a, anil_, ai_, ai_a, ai_b, aj_, aj_a, aj_b, ar_, ar_a, ar_b, kb2i_, cvi_, cvi_a, cvi_b, cvj_, cvj_a, cvj_b, cvz_, cvz_a, cvz_b, csi_, csi_a, csj_, csj_a, csz_, csz_a, snop_, sseq_, sseq_n, sseq_s, sif_, sif_a, scut_, scut_a, ssi_, ssi_a, ssj_, ssj_a, ssr_, ssr_a, sinc_, sinc_a, sret_, sret_a, sretj_, sretj_a, sretv_, spop_, spop_a, kc_scv_, scv_, scv_a, scv_b, scs_, scs_a, fpi_, fpi_a, fpi_b, fpj_, fpj_a, fpj_b, foi_, foi_a, foi_b, foj_, foj_a, foj_b, aii_, aii_a, aii_b, aii_c, aiz_, aiz_a, aiz_b, aiz_c, aij_, aij_a, aij_b, aij_c, aoi_, aoi_a, aoi_b, aoi_c, aoj_, aoj_a, aoj_b, aoj_c, scopy_, scopy_a, scopy_b, scopy_c, scopy_d, scopy_e, ssw_, ssw_a, sel_n, sel_c, mfi_, mfi_a, mfj_, mfj_a, mfz_, mfz_a, kb_mfv_, mfv_, mfv_a, cut, lset, lset2, isL, Value.category, ent, entn, if_some, if_pair, if_cons, if_int, if_long, if_ref, ite_self, gz_b, ↓icb, ↓icb2, b2i_ne, ge0, ge1, ge2, ge3, ge4, ge5, ge6, ge7, ge8, ge9, ge10, ge11, ge12, ge13, ge14, lit32, nI_add, pk_mul, clt_nI, cle_nI, cgt_nI, cge_nI, ceq_nI, cne_nI, inr_nI, nI_clamp, nI_eq, nI_leI, nI_ltI, k122, f122_0, k123, l123, c_cell, bt, j1, wj_sJ, nx])
    (by simp -implicitDefEqProofs (disch := omega) [qX4_across_1, kp_, bsome, bnone, gi_s, gj_s, gr_s, gv_s, ik_, jk_, il_, jl_, rl_, i2_, i2_a, i2_b, j2_, j2_a, j2_b, i2d_, i2d_a, i2d_b, j2d_, j2d_a, j2d_b, i1_, i1_a, j1_, j1_a, i2l_, i2l_a, l2i_, l2i_a, fgi_, fgi_a, fgj_, fgj_a, fgr_, fgr_a, iald_, iald_a, iald_b, zald_, zald_a, zald_b, jald_, jald_a, jald_b, rald_, rald_a, rald_b, alen_, alen_a, sald_, sald_a, ic_, ic_a, jc_, jc_a, bc_, bc_a, bc_b, bj_, bj_a, bj_b, bz_, bz_a, band_, band_a, bor_, bor_a, bnot_, bnot_a, anil_, ai_, ai_a, ai_b, aj_, aj_a, aj_b, ar_, ar_a, ar_b, kb2i_, cvi_, cvi_a, cvi_b, cvj_, cvj_a, cvj_b, cvz_, cvz_a, cvz_b, csi_, csi_a, csj_, csj_a, csz_, csz_a, snop_, sseq_, sseq_n, sseq_s, sif_, sif_a, scut_, scut_a, ssi_, ssi_a, ssj_, ssj_a, ssr_, ssr_a, sinc_, sinc_a, sret_, sret_a, sretj_, sretj_a, sretv_, spop_, spop_a, kc_scv_, scv_, scv_a, scv_b, scs_, scs_a, fpi_, fpi_a, fpi_b, fpj_, fpj_a, fpj_b, foi_, foi_a, foi_b, foj_, foj_a, foj_b, aii_, aii_a, aii_b, aii_c, aiz_, aiz_a, aiz_b, aiz_c, aij_, aij_a, aij_b, aij_c, aoi_, aoi_a, aoi_b, aoi_c, aoj_, aoj_a, aoj_b, aoj_c, scopy_, scopy_a, scopy_b, scopy_c, scopy_d, scopy_e, ssw_, ssw_a, sel_n, sel_c, mfi_, mfi_a, mfj_, mfj_a, mfz_, mfz_a, kb_mfv_, mfv_, mfv_a, cut, lset, lset2, isL, Value.category, ent, entn, if_some, if_pair, if_cons, if_int, if_long, if_ref, ite_self, gz_b, ↓icb, ↓icb2, b2i_ne, ge0, ge1, ge2, ge3, ge4, ge5, ge6, ge7, ge8, ge9, ge10, ge11, ge12, ge13, ge14, lit32, nI_add, pk_mul, clt_nI, cle_nI, cgt_nI, cge_nI, ceq_nI, cne_nI, inr_nI, nI_clamp, nI_eq, nI_leI, nI_ltI, k1_, sJ_1, n0])
  have f1 : sJ M 123 25 (Z nc) = sJ M 123 25 (fun q => jI (cMt act X nc 0 (q / 5) (q % 5))) := sJ_congr (fun q hq => by
    rw [z0]
    congr 1
    unfold cMt dgS
    simp only [gsm]
    by_cases e : q / 5 = q % 5
    · rw [if_pos e]
      by_cases a : act (q / 5) = true
      · rw [if_pos a, if_neg (fun w => w.2.2 a)]; rfl
      · rw [if_neg a]
        by_cases l : q / 5 < nc
        · rw [if_pos l, if_pos ⟨e, l, a⟩]
        · rw [if_neg l, if_neg (fun w => l w.2.1)]
    · rw [if_neg e, if_neg (fun w => e w.1)]
      split <;> rfl)
  rw [f1] at l1
  have l2 := swh_count (c := qX4_across_2) (b := wX4_across_2) (fun i => [.ref 122, .ref 1, .int (nI f), .int (nI t), .int (nI F), .int (nI i), .null]) (fun i => sJ M 123 25 (fun q => jI (cMt act X nc i (q / 5) (q % 5)))) nt
    (fun i hi => by simp -implicitDefEqProofs (disch := omega) [qX4_across_2, kp_, bsome, bnone, gi_s, gj_s, gr_s, gv_s, ik_, jk_, il_, jl_, rl_, i2_, i2_a, i2_b, j2_, j2_a, j2_b, i2d_, i2d_a, i2d_b, j2d_, j2d_a, j2d_b, i1_, i1_a, j1_, j1_a, i2l_, i2l_a, l2i_, l2i_a, fgi_, fgi_a, fgj_, fgj_a, fgr_, fgr_a, iald_, iald_a, iald_b, zald_, zald_a, zald_b, jald_, jald_a, jald_b, rald_, rald_a, rald_b, alen_, alen_a, sald_, sald_a, ic_, ic_a, jc_, jc_a, bc_, bc_a, bc_b, bj_, bj_a, bj_b, bz_, bz_a, band_, band_a, bor_, bor_a, bnot_, bnot_a, anil_, ai_, ai_a, ai_b, aj_, aj_a, aj_b, ar_, ar_a, ar_b, kb2i_, cvi_, cvi_a, cvi_b, cvj_, cvj_a, cvj_b, cvz_, cvz_a, cvz_b, csi_, csi_a, csj_, csj_a, csz_, csz_a, snop_, sseq_, sseq_n, sseq_s, sif_, sif_a, scut_, scut_a, ssi_, ssi_a, ssj_, ssj_a, ssr_, ssr_a, sinc_, sinc_a, sret_, sret_a, sretj_, sretj_a, sretv_, spop_, spop_a, kc_scv_, scv_, scv_a, scv_b, scs_, scs_a, fpi_, fpi_a, fpi_b, fpj_, fpj_a, fpj_b, foi_, foi_a, foi_b, foj_, foj_a, foj_b, aii_, aii_a, aii_b, aii_c, aiz_, aiz_a, aiz_b, aiz_c, aij_, aij_a, aij_b, aij_c, aoi_, aoi_a, aoi_b, aoi_c, aoj_, aoj_a, aoj_b, aoj_c, scopy_, scopy_a, scopy_b, scopy_c, scopy_d, scopy_e, ssw_, ssw_a, sel_n, sel_c, mfi_, mfi_a, mfj_, mfj_a, mfz_, mfz_a, kb_mfv_, mfv_, mfv_a, cut, lset, lset2, isL, Value.category, ent, entn, if_some, if_pair, if_cons, if_int, if_long, if_ref, ite_self, gz_b, ↓icb, ↓icb2, b2i_ne, ge0, ge1, ge2, ge3, ge4, ge5, ge6, ge7, ge8, ge9, ge10, ge11, ge12, ge13, ge14, lit32, nI_add, pk_mul, clt_nI, cle_nI, cgt_nI, cge_nI, ceq_nI, cne_nI, inr_nI, nI_clamp, nI_eq, nI_leI, nI_ltI, k1_, sJ_1, n1, hi])
    (fun i hi => by
      obtain ⟨d, oo, v1, v2, v3, v4, v5, v6, v7, v8, v9, v10, v11⟩ := tubeX hb.1 (hv.2.2.2.2.1 i hi)
      have i10 : i < 10 := by omega
      have kT := a_kt m1_ i i10
      have lT := a_lt m1_ i i10
      have t3 : M.1 (1 + 8 + i) 3 = nI oo := by rw [hL.2.2.2.2.1 i hi 3 (by decide)]; exact v9
      by_cases e1 : oo = 1
      · subst e1
        have ho : oX X i = true := by rw [v11]; rfl
        have en := c_enter (M := M) (act := act) hv hL hi ho c2 hact (U := fun q => jI (cMt act X nc i (q / 5) (q % 5))) (fun q => rfl)
        simp -implicitDefEqProofs (disch := omega) [wX4_across_2, kp_, bsome, bnone, gi_s, gj_s, gr_s, gv_s, ik_, jk_, il_, jl_, rl_, i2_, i2_a, i2_b, j2_, j2_a, j2_b, i2d_, i2d_a, i2d_b, j2d_, j2d_a, j2d_b, i1_, i1_a, j1_, j1_a, i2l_, i2l_a, l2i_, l2i_a, fgi_, fgi_a, fgj_, fgj_a, fgr_, fgr_a, iald_, iald_a, iald_b, zald_, zald_a, zald_b, jald_, jald_a, jald_b, rald_, rald_a, rald_b, alen_, alen_a, sald_, sald_a, ic_, ic_a, jc_, jc_a, bc_, bc_a, bc_b, bj_, bj_a, bj_b, bz_, bz_a, band_, band_a, bor_, bor_a, bnot_, bnot_a, anil_, ai_, ai_a, ai_b, aj_, aj_a, aj_b, ar_, ar_a, ar_b, kb2i_, cvi_, cvi_a, cvi_b, cvj_, cvj_a, cvj_b, cvz_, cvz_a, cvz_b, csi_, csi_a, csj_, csj_a, csz_, csz_a, snop_, sseq_, sseq_n, sseq_s, sif_, sif_a, scut_, scut_a, ssi_, ssi_a, ssj_, ssj_a, ssr_, ssr_a, sinc_, sinc_a, sret_, sret_a, sretj_, sretj_a, sretv_, spop_, spop_a, kc_scv_, scv_, scv_a, scv_b, scs_, scs_a, fpi_, fpi_a, fpi_b, fpj_, fpj_a, fpj_b, foi_, foi_a, foi_b, foj_, foj_a, foj_b, aii_, aii_a, aii_b, aii_c, aiz_, aiz_a, aiz_b, aiz_c, aij_, aij_a, aij_b, aij_c, aoi_, aoi_a, aoi_b, aoi_c, aoj_, aoj_a, aoj_b, aoj_c, scopy_, scopy_a, scopy_b, scopy_c, scopy_d, scopy_e, ssw_, ssw_a, sel_n, sel_c, mfi_, mfi_a, mfj_, mfj_a, mfz_, mfz_a, kb_mfv_, mfv_, mfv_a, cut, lset, lset2, isL, Value.category, ent, entn, if_some, if_pair, if_cons, if_int, if_long, if_ref, ite_self, gz_b, ↓icb, ↓icb2, b2i_ne, ge0, ge1, ge2, ge3, ge4, ge5, ge6, ge7, ge8, ge9, ge10, ge11, ge12, ge13, ge14, lit32, nI_add, pk_mul, clt_nI, cle_nI, cgt_nI, cge_nI, ceq_nI, cne_nI, inr_nI, nI_clamp, nI_eq, nI_leI, nI_ltI, k122, k1_, sJ_1, a_10 m1_, a_k7 m1_, a_l7 m1_, a_rt m1_, kT, lT, t3, en]
      · have e0 : oo = 0 := by omega
        subst e0
        have ho : ¬ oX X i = true := by rw [v11]; decide
        have gn : ∀ x y, gsm X x y (i + 1) = gsm X x y i := fun x y => by simp only [gsm]; rw [if_neg (fun z => ho z.1)]; rfl
        have fin : (fun q => jI (cMt act X nc (i + 1) (q / 5) (q % 5))) = fun q => jI (cMt act X nc i (q / 5) (q % 5)) := by
          funext q
          unfold cMt dgS
          rw [gn, gn, gn, gn, gn, gn]
        rw [fin]
        simp -implicitDefEqProofs (disch := omega) [wX4_across_2, kp_, bsome, bnone, gi_s, gj_s, gr_s, gv_s, ik_, jk_, il_, jl_, rl_, i2_, i2_a, i2_b, j2_, j2_a, j2_b, i2d_, i2d_a, i2d_b, j2d_, j2d_a, j2d_b, i1_, i1_a, j1_, j1_a, i2l_, i2l_a, l2i_, l2i_a, fgi_, fgi_a, fgj_, fgj_a, fgr_, fgr_a, iald_, iald_a, iald_b, zald_, zald_a, zald_b, jald_, jald_a, jald_b, rald_, rald_a, rald_b, alen_, alen_a, sald_, sald_a, ic_, ic_a, jc_, jc_a, bc_, bc_a, bc_b, bj_, bj_a, bj_b, bz_, bz_a, band_, band_a, bor_, bor_a, bnot_, bnot_a, anil_, ai_, ai_a, ai_b, aj_, aj_a, aj_b, ar_, ar_a, ar_b, kb2i_, cvi_, cvi_a, cvi_b, cvj_, cvj_a, cvj_b, cvz_, cvz_a, cvz_b, csi_, csi_a, csj_, csj_a, csz_, csz_a, snop_, sseq_, sseq_n, sseq_s, sif_, sif_a, scut_, scut_a, ssi_, ssi_a, ssj_, ssj_a, ssr_, ssr_a, sinc_, sinc_a, sret_, sret_a, sretj_, sretj_a, sretv_, spop_, spop_a, kc_scv_, scv_, scv_a, scv_b, scs_, scs_a, fpi_, fpi_a, fpi_b, fpj_, fpj_a, fpj_b, foi_, foi_a, foi_b, foj_, foj_a, foj_b, aii_, aii_a, aii_b, aii_c, aiz_, aiz_a, aiz_b, aiz_c, aij_, aij_a, aij_b, aij_c, aoi_, aoi_a, aoi_b, aoi_c, aoj_, aoj_a, aoj_b, aoj_c, scopy_, scopy_a, scopy_b, scopy_c, scopy_d, scopy_e, ssw_, ssw_a, sel_n, sel_c, mfi_, mfi_a, mfj_, mfj_a, mfz_, mfz_a, kb_mfv_, mfv_, mfv_a, cut, lset, lset2, isL, Value.category, ent, entn, if_some, if_pair, if_cons, if_int, if_long, if_ref, ite_self, gz_b, ↓icb, ↓icb2, b2i_ne, ge0, ge1, ge2, ge3, ge4, ge5, ge6, ge7, ge8, ge9, ge10, ge11, ge12, ge13, ge14, lit32, nI_add, pk_mul, clt_nI, cle_nI, cgt_nI, cge_nI, ceq_nI, cne_nI, inr_nI, nI_clamp, nI_eq, nI_leI, nI_ltI, k122, k1_, sJ_1, a_10 m1_, a_k7 m1_, a_l7 m1_, a_rt m1_, kT, lT, t3])
    (by simp -implicitDefEqProofs (disch := omega) [qX4_across_2, kp_, bsome, bnone, gi_s, gj_s, gr_s, gv_s, ik_, jk_, il_, jl_, rl_, i2_, i2_a, i2_b, j2_, j2_a, j2_b, i2d_, i2d_a, i2d_b, j2d_, j2d_a, j2d_b, i1_, i1_a, j1_, j1_a, i2l_, i2l_a, l2i_, l2i_a, fgi_, fgi_a, fgj_, fgj_a, fgr_, fgr_a, iald_, iald_a, iald_b, zald_, zald_a, zald_b, jald_, jald_a, jald_b, rald_, rald_a, rald_b, alen_, alen_a, sald_, sald_a, ic_, ic_a, jc_, jc_a, bc_, bc_a, bc_b, bj_, bj_a, bj_b, bz_, bz_a, band_, band_a, bor_, bor_a, bnot_, bnot_a, anil_, ai_, ai_a, ai_b, aj_, aj_a, aj_b, ar_, ar_a, ar_b, kb2i_, cvi_, cvi_a, cvi_b, cvj_, cvj_a, cvj_b, cvz_, cvz_a, cvz_b, csi_, csi_a, csj_, csj_a, csz_, csz_a, snop_, sseq_, sseq_n, sseq_s, sif_, sif_a, scut_, scut_a, ssi_, ssi_a, ssj_, ssj_a, ssr_, ssr_a, sinc_, sinc_a, sret_, sret_a, sretj_, sretj_a, sretv_, spop_, spop_a, kc_scv_, scv_, scv_a, scv_b, scs_, scs_a, fpi_, fpi_a, fpi_b, fpj_, fpj_a, fpj_b, foi_, foi_a, foi_b, foj_, foj_a, foj_b, aii_, aii_a, aii_b, aii_c, aiz_, aiz_a, aiz_b, aiz_c, aij_, aij_a, aij_b, aij_c, aoi_, aoi_a, aoi_b, aoi_c, aoj_, aoj_a, aoj_b, aoj_c, scopy_, scopy_a, scopy_b, scopy_c, scopy_d, scopy_e, ssw_, ssw_a, sel_n, sel_c, mfi_, mfi_a, mfj_, mfj_a, mfz_, mfz_a, kb_mfv_, mfv_, mfv_a, cut, lset, lset2, isL, Value.category, ent, entn, if_some, if_pair, if_cons, if_int, if_long, if_ref, ite_self, gz_b, ↓icb, ↓icb2, b2i_ne, ge0, ge1, ge2, ge3, ge4, ge5, ge6, ge7, ge8, ge9, ge10, ge11, ge12, ge13, ge14, lit32, nI_add, pk_mul, clt_nI, cle_nI, cgt_nI, cge_nI, ceq_nI, cne_nI, inr_nI, nI_clamp, nI_eq, nI_leI, nI_ltI, k1_, sJ_1, n1])
  have an : ∀ c, act c = true → c < nc := fun c hc => (ha c hc).1
  obtain ⟨Y, iv, y2⟩ := c_invert (M := M) (n := nc) (a := 123) (A := mA act (fun i l => gsm X i l nt) (bE act X nt) nc) (Y := fun q => jI (cMt act X nc nt (q / 5) (q % 5))) hb.1 k123 l123 (b_gi (n := nc) hv hf ha (by rw [← eS]; exact hh) (Nat.le_refl _) hb.1) (fun p q hp hq => by
    show jI (cMt act X nc nt ((p * 5 + q) / 5) ((p * 5 + q) % 5)) = _
    rw [show (p * 5 + q) / 5 = p by omega, show (p * 5 + q) % 5 = q by omega, bM_mA an hb.1]
    congr 1
    unfold cMt bM
    by_cases e : p = q
    · subst e
      rw [if_pos rfl]
      by_cases a : act p = true
      · rw [if_pos a, if_pos ⟨a, a⟩]
        unfold lpT
        rw [if_pos rfl]
      · rw [if_neg a, if_pos hp, if_neg (fun z => a z.1), if_pos rfl]
    · rw [if_neg e]
      by_cases a : act p = true ∧ act q = true
      · rw [if_pos a, if_pos a]
        unfold lpT
        rw [if_neg e]
      · rw [if_neg a, if_neg a, if_neg e])
  have dd : dK (mA act (fun i l => gsm X i l nt) (bE act X nt) nc) nc = detI (bM act X nt) := detI_congr (b_eK an hb.1)
  have xx : Y (f * 5 + f) = jI (cofI (bM act X nt) f f) := by
    rw [y2 f f hf hf]
    unfold xK
    rw [cofI_congr (b_eK an hb.1) (by omega) (by omega)]
  rw [dd] at iv
  have ix : f * 5 + f < 25 := by omega
  refine ⟨Y, ?_⟩
  have xs : (wj (sJ M 123 25 Y) 122 3 (jI (detI (bM act X nt)))).2 123 (f * 5 + f) = jI (cofI (bM act X nt) f f) := by
    rw [← xx]
    have z : ∀ A : Me, ∀ v : Int64, (wj A 122 3 v).2 123 (f * 5 + f) = A.2 123 (f * 5 + f) := fun A v => by simp [wj]
    rw [z, sJ_at ix]
  simp -implicitDefEqProofs (disch := omega) [DX4_across, EX4_across, kp_, bsome, bnone, gi_s, gj_s, gr_s, gv_s, ik_, jk_, il_, jl_, rl_, i2_, i2_a, i2_b, j2_, j2_a, j2_b, i2d_, i2d_a, i2d_b, j2d_, j2d_a, j2d_b, i1_, i1_a, j1_, j1_a, i2l_, i2l_a, l2i_, l2i_a, fgi_, fgi_a, fgj_, fgj_a, fgr_, fgr_a, iald_, iald_a, iald_b, zald_, zald_a, zald_b, jald_, jald_a, jald_b, rald_, rald_a, rald_b, alen_, alen_a, sald_, sald_a, ic_, ic_a, jc_, jc_a, bc_, bc_a, bc_b, bj_, bj_a, bj_b, bz_, bz_a, band_, band_a, bor_, bor_a, bnot_, bnot_a, anil_, ai_, ai_a, ai_b, aj_, aj_a, aj_b, ar_, ar_a, ar_b, kb2i_, cvi_, cvi_a, cvi_b, cvj_, cvj_a, cvj_b, cvz_, cvz_a, cvz_b, csi_, csi_a, csj_, csj_a, csz_, csz_a, snop_, sseq_, sseq_n, sseq_s, sif_, sif_a, scut_, scut_a, ssi_, ssi_a, ssj_, ssj_a, ssr_, ssr_a, sinc_, sinc_a, sret_, sret_a, sretj_, sretj_a, sretv_, spop_, spop_a, kc_scv_, scv_, scv_a, scv_b, scs_, scs_a, fpi_, fpi_a, fpi_b, fpj_, fpj_a, fpj_b, foi_, foi_a, foi_b, foj_, foj_a, foj_b, aii_, aii_a, aii_b, aii_c, aiz_, aiz_a, aiz_b, aiz_c, aij_, aij_a, aij_b, aij_c, aoi_, aoi_a, aoi_b, aoi_c, aoj_, aoj_a, aoj_b, aoj_c, scopy_, scopy_a, scopy_b, scopy_c, scopy_d, scopy_e, ssw_, ssw_a, sel_n, sel_c, mfi_, mfi_a, mfj_, mfj_a, mfz_, mfz_a, kb_mfv_, mfv_, mfv_a, cut, lset, lset2, isL, Value.category, ent, entn, if_some, if_pair, if_cons, if_int, if_long, if_ref, ite_self, gz_b, ↓icb, ↓icb2, b2i_ne, ge0, ge1, ge2, ge3, ge4, ge5, ge6, ge7, ge8, ge9, ge10, ge11, ge12, ge13, ge14, lit32, nI_add, pk_mul, clt_nI, cle_nI, cgt_nI, cge_nI, ceq_nI, cne_nI, inr_nI, nI_clamp, nI_eq, nI_leI, nI_ltI, k122, k1_, net, sh, c1, f122_0, k123, l123, j0, fl, l1, l2, n0, sJ_1, iv, c_cell, xs]
end
