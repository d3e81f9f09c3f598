/-! ===== the log of the reference ===== -/
def l2X (X : Nat → Int32) (L : Nat) (V : Nat → Int32) (c : Nat) : Nat → Int32 := fun i => if 131 + 5 * L ≤ i ∧ i < 131 + 5 * L + c then V (i - (131 + 5 * L)) else X i
def shX (X : Nat → Int32) (m : Nat) : Nat → Int32 := fun i => if 131 ≤ i ∧ i < 131 + m then X (i + 5) else X i
def lgX (X : Nat → Int32) (tm : Nat) (V : Nat → Int32) : Nat → Int32 := if tm < 40 then upd (l2X X tm V 5) 7 (nI (tm + 1)) else upd (l2X (upd (shX X 195) 7 (nI 39)) 39 V 5) 7 (nI 40)
section
variable {N A : Me} {X Y V : Nat → Int32} {k : Nat → Nat} {nc nt np nw tm tB i m c L : Nat} {g : Int32}
set_option maxRecDepth 20000 in
theorem l2X_at (h : i < 131 + 5 * L ∨ 131 + 5 * L + c ≤ i) : l2X X L V c i = X i := by
  unfold l2X
  rw [if_neg (by omega)]
set_option maxRecDepth 20000 in
theorem l2X_next : upd (l2X X L V c) (131 + 5 * L + c) (V c) = l2X X L V (c + 1) := by
  funext i
  simp only [upd]
  unfold l2X
  by_cases e : i = 131 + 5 * L + c
  · rw [if_pos e, if_pos (by omega), e, Nat.add_sub_cancel_left]
  · rw [if_neg e]
    by_cases z : 131 + 5 * L ≤ i ∧ i < 131 + 5 * L + c
    · rw [if_pos z, if_pos (by omega)]
    · rw [if_neg z, if_neg (by omega)]
set_option maxRecDepth 20000 in
theorem shX_next : upd (shX X m) (131 + m) (X (131 + m + 5)) = shX X (m + 1) := by
  funext i
  simp only [upd]
  unfold shX
  by_cases e : i = 131 + m
  · rw [if_pos e, if_pos (by omega), e]
  · rw [if_neg e]
    by_cases z : 131 ≤ i ∧ i < 131 + m
    · rw [if_pos z, if_pos (by omega)]
    · rw [if_neg z, if_neg (by omega)]
set_option maxRecDepth 20000 in
theorem shX_at (h : i < 131 ∨ 131 + m ≤ i) : shX X m i = X i := by
  unfold shX
  rw [if_neg (by omega)]
set_option maxRecDepth 20000 in
theorem lgX_at (h : i < 131) (h7 : i ≠ 7) : lgX X tm V i = X i := by
  unfold lgX
  split
  · rw [upd_n h7, l2X_at (by omega)]
  · rw [upd_n h7, l2X_at (by omega), upd_n h7, shX_at (by omega)]
set_option maxRecDepth 20000 in
theorem lgX_7 : lgX X tm V 7 = nI (min (tm + 1) 40) := by
  unfold lgX
  split
  · rw [upd_s]; congr 1; omega
  · rw [upd_s]; congr 1; omega
set_option maxRecDepth 20000 in
theorem lgX_l (hc : c < 5) {j : Nat} (hj : j < min (tm + 1) 40) : lgX X tm V (131 + 5 * j + c) = if j + 1 = min (tm + 1) 40 then V c else if tm < 40 then X (131 + 5 * j + c) else X (131 + 5 * (j + 1) + c) := by
  unfold lgX
  by_cases z : tm < 40
  · rw [if_pos z, upd_n (by omega)]
    by_cases e : j + 1 = min (tm + 1) 40
    · rw [if_pos e]
      unfold l2X
      rw [if_pos (by omega), show 131 + 5 * j + c - (131 + 5 * tm) = c by omega]
    · rw [if_neg e, l2X_at (by omega), if_pos z]
  · rw [if_neg z, upd_n (by omega)]
    by_cases e : j + 1 = min (tm + 1) 40
    · rw [if_pos e]
      unfold l2X
      rw [if_pos (by omega), show 131 + 5 * j + c - (131 + 5 * 39) = c by omega]
    · rw [if_neg e, l2X_at (by omega), if_neg z, upd_n (by omega)]
      unfold shX
      rw [if_pos (by omega), show 131 + 5 * j + c + 5 = 131 + 5 * (j + 1) + c by omega]
set_option maxRecDepth 20000 in
theorem r_logs2 (hY : A.1 494 = Y) (h0 : Y 0 = nI nc) (h7 : Y 7 = nI L) (hL : L ≤ 39) (hc5 : nc ≤ 5) (hn : ∀ c, nc ≤ c → V c = -(nI 1)) (hR : ∀ c, c < nc → ∀ B : Me, (∀ a, a ≠ 494 → B.1 a = A.1 a) → B.2 = A.2 → (g = nI 0 ∧ V c = -(nI 3)) ∨ (g = nI 1 ∧ DX8_readingOf [.ref 492, .int (nI c)] B = some (V c, B))) : ∃ O, swh qX8_logs_2 wX8_logs_2 [.ref 492, .int g, .int (nI 0)] A = some (none, [.ref 492, .int g, .int (nI 5)], O) ∧ O.1 494 = l2X Y L V 5 ∧ (∀ a, a ≠ 494 → O.1 a = A.1 a) ∧ O.2 = A.2 := by
  refine swh_inv (c := qX8_logs_2) (b := wX8_logs_2) (fun c => [.ref 492, .int g, .int (nI c)]) (fun c O => O.1 494 = l2X Y L V c ∧ (∀ a, a ≠ 494 → O.1 a = A.1 a) ∧ O.2 = A.2) 5 (fun c hc B hB => by simp -implicitDefEqProofs (disch := omega) [qX8_logs_2, kp_, bsome, bnone, gi_s, gj_s, gr_s, gv_s, ik_, jk_, il_, jl_, rl_, i2_, i2_a, i2_b, j2_, j2_a, j2_b, i2d_, i2d_a, i2d_b, j2d_, j2d_a, j2d_b, i1_, i1_a, j1_, j1_a, i2l_, i2l_a, l2i_, l2i_a, fgi_, fgi_a, fgj_, fgj_a, fgr_, fgr_a, iald_, iald_a, iald_b, zald_, zald_a, zald_b, jald_, jald_a, jald_b, rald_, rald_a, rald_b, alen_, alen_a, sald_, sald_a, ic_, ic_a, jc_, jc_a, bc_, bc_a, bc_b, bj_, bj_a, bj_b, bz_, bz_a, band_, band_a, bor_, bor_a, bnot_, bnot_a, anil_, ai_, ai_a, ai_b, aj_, aj_a, aj_b, ar_, ar_a, ar_b, kb2i_, cvi_, cvi_a, cvi_b, cvj_, cvj_a, cvj_b, cvz_, cvz_a, cvz_b, csi_, csi_a, csj_, csj_a, csz_, csz_a, snop_, sseq_, sseq_n, sseq_s, sif_, sif_a, scut_, scut_a, ssi_, ssi_a, ssj_, ssj_a, ssr_, ssr_a, sinc_, sinc_a, sret_, sret_a, sretj_, sretj_a, sretv_, spop_, spop_a, kc_scv_, scv_, scv_a, scv_b, scs_, scs_a, fpi_, fpi_a, fpi_b, fpj_, fpj_a, fpj_b, foi_, foi_a, foi_b, foj_, foj_a, foj_b, aii_, aii_a, aii_b, aii_c, aiz_, aiz_a, aiz_b, aiz_c, aij_, aij_a, aij_b, aij_c, aoi_, aoi_a, aoi_b, aoi_c, aoj_, aoj_a, aoj_b, aoj_c, scopy_, scopy_a, scopy_b, scopy_c, scopy_d, scopy_e, ssw_, ssw_a, sel_n, sel_c, mfi_, mfi_a, mfj_, mfj_a, mfz_, mfz_a, kb_mfv_, mfv_, mfv_a, cut, lset, lset2, isL, Value.category, ent, entn, if_some, if_pair, if_cons, if_int, if_long, if_ref, ite_self, gz_b, ↓icb, ↓icb2, b2i_ne, ge0, ge1, ge2, ge3, ge4, ge5, ge6, ge7, ge8, ge9, ge10, ge11, ge12, ge13, ge14, lit32, nI_add, pk_mul, clt_nI, cle_nI, cgt_nI, cge_nI, ceq_nI, cne_nI, inr_nI, nI_clamp, nI_eq, nI_leI, nI_ltI, k492, f492_2, f492_3, f492_4, f492_5, f492_7, f492_8, f492_9, f492_10, k493, k494, k495, k496, k497, k498, k499, k500, l493, l494, l495, l496, l497, l498, l499, l500, hc]) (fun c hc B hB => ?_) (fun B hB => by simp -implicitDefEqProofs (disch := omega) [qX8_logs_2, kp_, bsome, bnone, gi_s, gj_s, gr_s, gv_s, ik_, jk_, il_, jl_, rl_, i2_, i2_a, i2_b, j2_, j2_a, j2_b, i2d_, i2d_a, i2d_b, j2d_, j2d_a, j2d_b, i1_, i1_a, j1_, j1_a, i2l_, i2l_a, l2i_, l2i_a, fgi_, fgi_a, fgj_, fgj_a, fgr_, fgr_a, iald_, iald_a, iald_b, zald_, zald_a, zald_b, jald_, jald_a, jald_b, rald_, rald_a, rald_b, alen_, alen_a, sald_, sald_a, ic_, ic_a, jc_, jc_a, bc_, bc_a, bc_b, bj_, bj_a, bj_b, bz_, bz_a, band_, band_a, bor_, bor_a, bnot_, bnot_a, anil_, ai_, ai_a, ai_b, aj_, aj_a, aj_b, ar_, ar_a, ar_b, kb2i_, cvi_, cvi_a, cvi_b, cvj_, cvj_a, cvj_b, cvz_, cvz_a, cvz_b, csi_, csi_a, csj_, csj_a, csz_, csz_a, snop_, sseq_, sseq_n, sseq_s, sif_, sif_a, scut_, scut_a, ssi_, ssi_a, ssj_, ssj_a, ssr_, ssr_a, sinc_, sinc_a, sret_, sret_a, sretj_, sretj_a, sretv_, spop_, spop_a, kc_scv_, scv_, scv_a, scv_b, scs_, scs_a, fpi_, fpi_a, fpi_b, fpj_, fpj_a, fpj_b, foi_, foi_a, foi_b, foj_, foj_a, foj_b, aii_, aii_a, aii_b, aii_c, aiz_, aiz_a, aiz_b, aiz_c, aij_, aij_a, aij_b, aij_c, aoi_, aoi_a, aoi_b, aoi_c, aoj_, aoj_a, aoj_b, aoj_c, scopy_, scopy_a, scopy_b, scopy_c, scopy_d, scopy_e, ssw_, ssw_a, sel_n, sel_c, mfi_, mfi_a, mfj_, mfj_a, mfz_, mfz_a, kb_mfv_, mfv_, mfv_a, cut, lset, lset2, isL, Value.category, ent, entn, if_some, if_pair, if_cons, if_int, if_long, if_ref, ite_self, gz_b, ↓icb, ↓icb2, b2i_ne, ge0, ge1, ge2, ge3, ge4, ge5, ge6, ge7, ge8, ge9, ge10, ge11, ge12, ge13, ge14, lit32, nI_add, pk_mul, clt_nI, cle_nI, cgt_nI, cge_nI, ceq_nI, cne_nI, inr_nI, nI_clamp, nI_eq, nI_leI, nI_ltI, k492, f492_2, f492_3, f492_4, f492_5, f492_7, f492_8, f492_9, f492_10, k493, k494, k495, k496, k497, k498, k499, k500, l493, l494, l495, l496, l497, l498, l499, l500]) A ⟨?_, fun _ _ => rfl, rfl⟩
  · obtain ⟨y1, y2, y3⟩ := hB
    have e0 : B.1 494 0 = nI nc := by rw [y1, l2X_at (by omega)]; exact h0
    have e7 : B.1 494 7 = nI L := by rw [y1, l2X_at (by omega)]; exact h7
    have ix : 131 + 5 * L + c < 331 := by omega
    refine ⟨wi B 494 (131 + 5 * L + c) (V c), ?_, by rw [wi_same, y1, l2X_next], fun a ha => by rw [wi_ne ha]; exact y2 a ha, by rw [wi_2]; exact y3⟩
    by_cases z : nc ≤ c
    · have v := hn c z
      simp -implicitDefEqProofs (disch := omega) [wX8_logs_2, kp_, bsome, bnone, gi_s, gj_s, gr_s, gv_s, ik_, jk_, il_, jl_, rl_, i2_, i2_a, i2_b, j2_, j2_a, j2_b, i2d_, i2d_a, i2d_b, j2d_, j2d_a, j2d_b, i1_, i1_a, j1_, j1_a, i2l_, i2l_a, l2i_, l2i_a, fgi_, fgi_a, fgj_, fgj_a, fgr_, fgr_a, iald_, iald_a, iald_b, zald_, zald_a, zald_b, jald_, jald_a, jald_b, rald_, rald_a, rald_b, alen_, alen_a, sald_, sald_a, ic_, ic_a, jc_, jc_a, bc_, bc_a, bc_b, bj_, bj_a, bj_b, bz_, bz_a, band_, band_a, bor_, bor_a, bnot_, bnot_a, anil_, ai_, ai_a, ai_b, aj_, aj_a, aj_b, ar_, ar_a, ar_b, kb2i_, cvi_, cvi_a, cvi_b, cvj_, cvj_a, cvj_b, cvz_, cvz_a, cvz_b, csi_, csi_a, csj_, csj_a, csz_, csz_a, snop_, sseq_, sseq_n, sseq_s, sif_, sif_a, scut_, scut_a, ssi_, ssi_a, ssj_, ssj_a, ssr_, ssr_a, sinc_, sinc_a, sret_, sret_a, sretj_, sretj_a, sretv_, spop_, spop_a, kc_scv_, scv_, scv_a, scv_b, scs_, scs_a, fpi_, fpi_a, fpi_b, fpj_, fpj_a, fpj_b, foi_, foi_a, foi_b, foj_, foj_a, foj_b, aii_, aii_a, aii_b, aii_c, aiz_, aiz_a, aiz_b, aiz_c, aij_, aij_a, aij_b, aij_c, aoi_, aoi_a, aoi_b, aoi_c, aoj_, aoj_a, aoj_b, aoj_c, scopy_, scopy_a, scopy_b, scopy_c, scopy_d, scopy_e, ssw_, ssw_a, sel_n, sel_c, mfi_, mfi_a, mfj_, mfj_a, mfz_, mfz_a, kb_mfv_, mfv_, mfv_a, cut, lset, lset2, isL, Value.category, ent, entn, if_some, if_pair, if_cons, if_int, if_long, if_ref, ite_self, gz_b, ↓icb, ↓icb2, b2i_ne, ge0, ge1, ge2, ge3, ge4, ge5, ge6, ge7, ge8, ge9, ge10, ge11, ge12, ge13, ge14, lit32, nI_add, pk_mul, clt_nI, cle_nI, cgt_nI, cge_nI, ceq_nI, cne_nI, inr_nI, nI_clamp, nI_eq, nI_leI, nI_ltI, k492, f492_2, f492_3, f492_4, f492_5, f492_7, f492_8, f492_9, f492_10, k493, k494, k495, k496, k497, k498, k499, k500, l493, l494, l495, l496, l497, l498, l499, l500, e0, e7, z, v]
    · rcases hR c (by omega) B y2 y3 with ⟨g0, v⟩ | ⟨g1, v⟩
      · rw [g0]
        simp -implicitDefEqProofs (disch := omega) [wX8_logs_2, kp_, bsome, bnone, gi_s, gj_s, gr_s, gv_s, ik_, jk_, il_, jl_, rl_, i2_, i2_a, i2_b, j2_, j2_a, j2_b, i2d_, i2d_a, i2d_b, j2d_, j2d_a, j2d_b, i1_, i1_a, j1_, j1_a, i2l_, i2l_a, l2i_, l2i_a, fgi_, fgi_a, fgj_, fgj_a, fgr_, fgr_a, iald_, iald_a, iald_b, zald_, zald_a, zald_b, jald_, jald_a, jald_b, rald_, rald_a, rald_b, alen_, alen_a, sald_, sald_a, ic_, ic_a, jc_, jc_a, bc_, bc_a, bc_b, bj_, bj_a, bj_b, bz_, bz_a, band_, band_a, bor_, bor_a, bnot_, bnot_a, anil_, ai_, ai_a, ai_b, aj_, aj_a, aj_b, ar_, ar_a, ar_b, kb2i_, cvi_, cvi_a, cvi_b, cvj_, cvj_a, cvj_b, cvz_, cvz_a, cvz_b, csi_, csi_a, csj_, csj_a, csz_, csz_a, snop_, sseq_, sseq_n, sseq_s, sif_, sif_a, scut_, scut_a, ssi_, ssi_a, ssj_, ssj_a, ssr_, ssr_a, sinc_, sinc_a, sret_, sret_a, sretj_, sretj_a, sretv_, spop_, spop_a, kc_scv_, scv_, scv_a, scv_b, scs_, scs_a, fpi_, fpi_a, fpi_b, fpj_, fpj_a, fpj_b, foi_, foi_a, foi_b, foj_, foj_a, foj_b, aii_, aii_a, aii_b, aii_c, aiz_, aiz_a, aiz_b, aiz_c, aij_, aij_a, aij_b, aij_c, aoi_, aoi_a, aoi_b, aoi_c, aoj_, aoj_a, aoj_b, aoj_c, scopy_, scopy_a, scopy_b, scopy_c, scopy_d, scopy_e, ssw_, ssw_a, sel_n, sel_c, mfi_, mfi_a, mfj_, mfj_a, mfz_, mfz_a, kb_mfv_, mfv_, mfv_a, cut, lset, lset2, isL, Value.category, ent, entn, if_some, if_pair, if_cons, if_int, if_long, if_ref, ite_self, gz_b, ↓icb, ↓icb2, b2i_ne, ge0, ge1, ge2, ge3, ge4, ge5, ge6, ge7, ge8, ge9, ge10, ge11, ge12, ge13, ge14, lit32, nI_add, pk_mul, clt_nI, cle_nI, cgt_nI, cge_nI, ceq_nI, cne_nI, inr_nI, nI_clamp, nI_eq, nI_leI, nI_ltI, k492, f492_2, f492_3, f492_4, f492_5, f492_7, f492_8, f492_9, f492_10, k493, k494, k495, k496, k497, k498, k499, k500, l493, l494, l495, l496, l497, l498, l499, l500, e0, e7, z, v]
      · rw [g1]
        simp -implicitDefEqProofs (disch := omega) [wX8_logs_2, kp_, bsome, bnone, gi_s, gj_s, gr_s, gv_s, ik_, jk_, il_, jl_, rl_, i2_, i2_a, i2_b, j2_, j2_a, j2_b, i2d_, i2d_a, i2d_b, j2d_, j2d_a, j2d_b, i1_, i1_a, j1_, j1_a, i2l_, i2l_a, l2i_, l2i_a, fgi_, fgi_a, fgj_, fgj_a, fgr_, fgr_a, iald_, iald_a, iald_b, zald_, zald_a, zald_b, jald_, jald_a, jald_b, rald_, rald_a, rald_b, alen_, alen_a, sald_, sald_a, ic_, ic_a, jc_, jc_a, bc_, bc_a, bc_b, bj_, bj_a, bj_b, bz_, bz_a, band_, band_a, bor_, bor_a, bnot_, bnot_a, anil_, ai_, ai_a, ai_b, aj_, aj_a, aj_b, ar_, ar_a, ar_b, kb2i_, cvi_, cvi_a, cvi_b, cvj_, cvj_a, cvj_b, cvz_, cvz_a, cvz_b, csi_, csi_a, csj_, csj_a, csz_, csz_a, snop_, sseq_, sseq_n, sseq_s, sif_, sif_a, scut_, scut_a, ssi_, ssi_a, ssj_, ssj_a, ssr_, ssr_a, sinc_, sinc_a, sret_, sret_a, sretj_, sretj_a, sretv_, spop_, spop_a, kc_scv_, scv_, scv_a, scv_b, scs_, scs_a, fpi_, fpi_a, fpi_b, fpj_, fpj_a, fpj_b, foi_, foi_a, foi_b, foj_, foj_a, foj_b, aii_, aii_a, aii_b, aii_c, aiz_, aiz_a, aiz_b, aiz_c, aij_, aij_a, aij_b, aij_c, aoi_, aoi_a, aoi_b, aoi_c, aoj_, aoj_a, aoj_b, aoj_c, scopy_, scopy_a, scopy_b, scopy_c, scopy_d, scopy_e, ssw_, ssw_a, sel_n, sel_c, mfi_, mfi_a, mfj_, mfj_a, mfz_, mfz_a, kb_mfv_, mfv_, mfv_a, cut, lset, lset2, isL, Value.category, ent, entn, if_some, if_pair, if_cons, if_int, if_long, if_ref, ite_self, gz_b, ↓icb, ↓icb2, b2i_ne, ge0, ge1, ge2, ge3, ge4, ge5, ge6, ge7, ge8, ge9, ge10, ge11, ge12, ge13, ge14, lit32, nI_add, pk_mul, clt_nI, cle_nI, cgt_nI, cge_nI, ceq_nI, cne_nI, inr_nI, nI_clamp, nI_eq, nI_leI, nI_ltI, k492, f492_2, f492_3, f492_4, f492_5, f492_7, f492_8, f492_9, f492_10, k493, k494, k495, k496, k497, k498, k499, k500, l493, l494, l495, l496, l497, l498, l499, l500, e0, e7, z, v]
  · rw [hY]
    funext i
    rw [l2X_at (by omega)]
set_option maxRecDepth 20000 in
theorem r_logs (hX : N.1 494 = X) (hv : VxB X nc nt np nw tm tB) : ∃ O, DX8_logs [.ref 492] N = some O ∧ O.1 494 = lgX X tm (lgV nc (kyN X nc nt np 9 0)) ∧ Q6 N O := by
  have hB := hv.2.1
  obtain ⟨A, r1, r2, r3⟩ := rek_now hX hv
  have aX : A.1 494 = X := by rw [r2.1 494 (by omega)]; exact hX
  have hg := ky_good (hA := 9) (hB := 0) hv (Or.inl ⟨rfl, rfl⟩)
  obtain ⟨k, ek⟩ : ∃ k, k = kyN X nc nt np 9 0 := ⟨_, rfl⟩
  rw [← ek] at r1 r3 hg ⊢
  obtain ⟨V, eV⟩ : ∃ V, V = lgV nc k := ⟨_, rfl⟩
  rw [← eV]
  have hn : ∀ c, nc ≤ c → V c = -(nI 1) := fun c hc => by rw [eV]; unfold lgV; rw [if_neg (by omega)]
  obtain ⟨g, hg1, hR⟩ : ∃ g : Int32, b2i (fR (kok k) 27).isSome = g ∧ ∀ c, c < nc → ∀ B : Me, (∀ a, a ≠ 494 → B.1 a = A.1 a) → B.2 = A.2 → (g = nI 0 ∧ V c = -(nI 3)) ∨ (g = nI 1 ∧ DX8_readingOf [.ref 492, .int (nI c)] B = some (V c, B)) := by
    cases ef : fR (kok k) 27 with
    | none => exact ⟨nI 0, rfl, fun c hc B _ _ => Or.inl ⟨rfl, by rw [eV]; unfold lgV; rw [if_pos hc, ef]⟩⟩
    | some r => exact ⟨nI 1, rfl, fun c hc B b1 b2 => Or.inr ⟨rfl, by
        have rd := r_readingOf (c := c) ((r3 r ef).fr b1 b2) hg (fR_some 27 ef).1 (by omega)
        rw [rd, eV]
        unfold lgV
        rw [if_pos hc, ef]⟩⟩
  obtain ⟨bb, eb⟩ : ∃ bb, bb = (fR (kok k) 27).isSome := ⟨_, rfl⟩
  rw [← eb] at r1 hg1
  have h7 := hv.1.2.2.2.2.2
  have a0 : A.1 494 0 = nI nc := by rw [aX]; exact hv.1.1
  have a7 : A.1 494 7 = nI (min tm 40) := by rw [aX]; exact h7
  by_cases z : tm < 40
  · have a7' : A.1 494 7 = nI tm := by rw [a7]; congr 1; omega
    obtain ⟨O, l1, y1, y2, y3⟩ := r_logs2 (A := A) (V := V) (g := g) (L := tm) aX hv.1.1 (by rw [← aX]; exact a7') (by omega) hB.1 hn hR
    have o7 : O.1 494 7 = nI tm := by rw [y1, l2X_at (by omega), ← aX]; exact a7'
    refine ⟨wi O 494 7 (nI (tm + 1)), ?_, by rw [wi_same, y1]; unfold lgX; rw [if_pos z], r2.q6.trans (Q6.trans ⟨fun a ha => y2 a (by omega), fun j _ => by rw [y2 492 (by decide)], fun _ _ => by rw [y3]⟩ q6_w)⟩
    have z' : ¬ tm = 40 := by omega
    simp -implicitDefEqProofs (disch := omega) [DX8_logs, EX8_logs, kp_, bsome, bnone, gi_s, gj_s, gr_s, gv_s, ik_, jk_, il_, jl_, rl_, i2_, i2_a, i2_b, j2_, j2_a, j2_b, i2d_, i2d_a, i2d_b, j2d_, j2d_a, j2d_b, i1_, i1_a, j1_, j1_a, i2l_, i2l_a, l2i_, l2i_a, fgi_, fgi_a, fgj_, fgj_a, fgr_, fgr_a, iald_, iald_a, iald_b, zald_, zald_a, zald_b, jald_, jald_a, jald_b, rald_, rald_a, rald_b, alen_, alen_a, sald_, sald_a, ic_, ic_a, jc_, jc_a, bc_, bc_a, bc_b, bj_, bj_a, bj_b, bz_, bz_a, band_, band_a, bor_, bor_a, bnot_, bnot_a, anil_, ai_, ai_a, ai_b, aj_, aj_a, aj_b, ar_, ar_a, ar_b, kb2i_, cvi_, cvi_a, cvi_b, cvj_, cvj_a, cvj_b, cvz_, cvz_a, cvz_b, csi_, csi_a, csj_, csj_a, csz_, csz_a, snop_, sseq_, sseq_n, sseq_s, sif_, sif_a, scut_, scut_a, ssi_, ssi_a, ssj_, ssj_a, ssr_, ssr_a, sinc_, sinc_a, sret_, sret_a, sretj_, sretj_a, sretv_, spop_, spop_a, kc_scv_, scv_, scv_a, scv_b, scs_, scs_a, fpi_, fpi_a, fpi_b, fpj_, fpj_a, fpj_b, foi_, foi_a, foi_b, foj_, foj_a, foj_b, aii_, aii_a, aii_b, aii_c, aiz_, aiz_a, aiz_b, aiz_c, aij_, aij_a, aij_b, aij_c, aoi_, aoi_a, aoi_b, aoi_c, aoj_, aoj_a, aoj_b, aoj_c, scopy_, scopy_a, scopy_b, scopy_c, scopy_d, scopy_e, ssw_, ssw_a, sel_n, sel_c, mfi_, mfi_a, mfj_, mfj_a, mfz_, mfz_a, kb_mfv_, mfv_, mfv_a, cut, lset, lset2, isL, Value.category, ent, entn, if_some, if_pair, if_cons, if_int, if_long, if_ref, ite_self, gz_b, ↓icb, ↓icb2, b2i_ne, ge0, ge1, ge2, ge3, ge4, ge5, ge6, ge7, ge8, ge9, ge10, ge11, ge12, ge13, ge14, lit32, nI_add, pk_mul, clt_nI, cle_nI, cgt_nI, cge_nI, ceq_nI, cne_nI, inr_nI, nI_clamp, nI_eq, nI_leI, nI_ltI, k492, f492_2, f492_3, f492_4, f492_5, f492_7, f492_8, f492_9, f492_10, k493, k494, k495, k496, k497, k498, k499, k500, l493, l494, l495, l496, l497, l498, l499, l500, r1, hg1, a7', z', l1, o7]
  · have a7' : A.1 494 7 = nI 40 := by rw [a7]; congr 1; omega
    obtain ⟨B, l0, w1, w2, w3⟩ := swh_inv (c := qX8_logs_1) (b := wX8_logs_1) (fun c => [.ref 492, .int g, .int (nI (131 + c))]) (fun c O => O.1 494 = shX X c ∧ (∀ a, a ≠ 494 → O.1 a = A.1 a) ∧ O.2 = A.2) 195
      (fun c hc B hB => by
        have q : 131 + c < 326 := by omega
        simp -implicitDefEqProofs (disch := omega) [qX8_logs_1, kp_, bsome, bnone, gi_s, gj_s, gr_s, gv_s, ik_, jk_, il_, jl_, rl_, i2_, i2_a, i2_b, j2_, j2_a, j2_b, i2d_, i2d_a, i2d_b, j2d_, j2d_a, j2d_b, i1_, i1_a, j1_, j1_a, i2l_, i2l_a, l2i_, l2i_a, fgi_, fgi_a, fgj_, fgj_a, fgr_, fgr_a, iald_, iald_a, iald_b, zald_, zald_a, zald_b, jald_, jald_a, jald_b, rald_, rald_a, rald_b, alen_, alen_a, sald_, sald_a, ic_, ic_a, jc_, jc_a, bc_, bc_a, bc_b, bj_, bj_a, bj_b, bz_, bz_a, band_, band_a, bor_, bor_a, bnot_, bnot_a, anil_, ai_, ai_a, ai_b, aj_, aj_a, aj_b, ar_, ar_a, ar_b, kb2i_, cvi_, cvi_a, cvi_b, cvj_, cvj_a, cvj_b, cvz_, cvz_a, cvz_b, csi_, csi_a, csj_, csj_a, csz_, csz_a, snop_, sseq_, sseq_n, sseq_s, sif_, sif_a, scut_, scut_a, ssi_, ssi_a, ssj_, ssj_a, ssr_, ssr_a, sinc_, sinc_a, sret_, sret_a, sretj_, sretj_a, sretv_, spop_, spop_a, kc_scv_, scv_, scv_a, scv_b, scs_, scs_a, fpi_, fpi_a, fpi_b, fpj_, fpj_a, fpj_b, foi_, foi_a, foi_b, foj_, foj_a, foj_b, aii_, aii_a, aii_b, aii_c, aiz_, aiz_a, aiz_b, aiz_c, aij_, aij_a, aij_b, aij_c, aoi_, aoi_a, aoi_b, aoi_c, aoj_, aoj_a, aoj_b, aoj_c, scopy_, scopy_a, scopy_b, scopy_c, scopy_d, scopy_e, ssw_, ssw_a, sel_n, sel_c, mfi_, mfi_a, mfj_, mfj_a, mfz_, mfz_a, kb_mfv_, mfv_, mfv_a, cut, lset, lset2, isL, Value.category, ent, entn, if_some, if_pair, if_cons, if_int, if_long, if_ref, ite_self, gz_b, ↓icb, ↓icb2, b2i_ne, ge0, ge1, ge2, ge3, ge4, ge5, ge6, ge7, ge8, ge9, ge10, ge11, ge12, ge13, ge14, lit32, nI_add, pk_mul, clt_nI, cle_nI, cgt_nI, cge_nI, ceq_nI, cne_nI, inr_nI, nI_clamp, nI_eq, nI_leI, nI_ltI, k492, f492_2, f492_3, f492_4, f492_5, f492_7, f492_8, f492_9, f492_10, k493, k494, k495, k496, k497, k498, k499, k500, l493, l494, l495, l496, l497, l498, l499, l500, q])
      (fun c hc B hB => by
        obtain ⟨y1, y2, y3⟩ := hB
        have q : 131 + c < 326 := by omega
        have q2 : 131 + c + 5 < 331 := by omega
        have e5 : B.1 494 (131 + c + 5) = X (131 + c + 5) := by rw [y1, shX_at (by omega)]
        refine ⟨wi B 494 (131 + c) (X (131 + c + 5)), ?_, by rw [wi_same, y1, shX_next], fun a ha => by rw [wi_ne ha]; exact y2 a ha, by rw [wi_2]; exact y3⟩
        rw [← Nat.add_assoc]
        simp -implicitDefEqProofs (disch := omega) [wX8_logs_1, kp_, bsome, bnone, gi_s, gj_s, gr_s, gv_s, ik_, jk_, il_, jl_, rl_, i2_, i2_a, i2_b, j2_, j2_a, j2_b, i2d_, i2d_a, i2d_b, j2d_, j2d_a, j2d_b, i1_, i1_a, j1_, j1_a, i2l_, i2l_a, l2i_, l2i_a, fgi_, fgi_a, fgj_, fgj_a, fgr_, fgr_a, iald_, iald_a, iald_b, zald_, zald_a, zald_b, jald_, jald_a, jald_b, rald_, rald_a, rald_b, alen_, alen_a, sald_, sald_a, ic_, ic_a, jc_, jc_a, bc_, bc_a, bc_b, bj_, bj_a, bj_b, bz_, bz_a, band_, band_a, bor_, bor_a, bnot_, bnot_a, anil_, ai_, ai_a, ai_b, aj_, aj_a, aj_b, ar_, ar_a, ar_b, kb2i_, cvi_, cvi_a, cvi_b, cvj_, cvj_a, cvj_b, cvz_, cvz_a, cvz_b, csi_, csi_a, csj_, csj_a, csz_, csz_a, snop_, sseq_, sseq_n, sseq_s, sif_, sif_a, scut_, scut_a, ssi_, ssi_a, ssj_, ssj_a, ssr_, ssr_a, sinc_, sinc_a, sret_, sret_a, sretj_, sretj_a, sretv_, spop_, spop_a, kc_scv_, scv_, scv_a, scv_b, scs_, scs_a, fpi_, fpi_a, fpi_b, fpj_, fpj_a, fpj_b, foi_, foi_a, foi_b, foj_, foj_a, foj_b, aii_, aii_a, aii_b, aii_c, aiz_, aiz_a, aiz_b, aiz_c, aij_, aij_a, aij_b, aij_c, aoi_, aoi_a, aoi_b, aoi_c, aoj_, aoj_a, aoj_b, aoj_c, scopy_, scopy_a, scopy_b, scopy_c, scopy_d, scopy_e, ssw_, ssw_a, sel_n, sel_c, mfi_, mfi_a, mfj_, mfj_a, mfz_, mfz_a, kb_mfv_, mfv_, mfv_a, cut, lset, lset2, isL, Value.category, ent, entn, if_some, if_pair, if_cons, if_int, if_long, if_ref, ite_self, gz_b, ↓icb, ↓icb2, b2i_ne, ge0, ge1, ge2, ge3, ge4, ge5, ge6, ge7, ge8, ge9, ge10, ge11, ge12, ge13, ge14, lit32, nI_add, pk_mul, clt_nI, cle_nI, cgt_nI, cge_nI, ceq_nI, cne_nI, inr_nI, nI_clamp, nI_eq, nI_leI, nI_ltI, k492, f492_2, f492_3, f492_4, f492_5, f492_7, f492_8, f492_9, f492_10, k493, k494, k495, k496, k497, k498, k499, k500, l493, l494, l495, l496, l497, l498, l499, l500, e5])
      (fun B hB => by simp -implicitDefEqProofs (disch := omega) [qX8_logs_1, kp_, bsome, bnone, gi_s, gj_s, gr_s, gv_s, ik_, jk_, il_, jl_, rl_, i2_, i2_a, i2_b, j2_, j2_a, j2_b, i2d_, i2d_a, i2d_b, j2d_, j2d_a, j2d_b, i1_, i1_a, j1_, j1_a, i2l_, i2l_a, l2i_, l2i_a, fgi_, fgi_a, fgj_, fgj_a, fgr_, fgr_a, iald_, iald_a, iald_b, zald_, zald_a, zald_b, jald_, jald_a, jald_b, rald_, rald_a, rald_b, alen_, alen_a, sald_, sald_a, ic_, ic_a, jc_, jc_a, bc_, bc_a, bc_b, bj_, bj_a, bj_b, bz_, bz_a, band_, band_a, bor_, bor_a, bnot_, bnot_a, anil_, ai_, ai_a, ai_b, aj_, aj_a, aj_b, ar_, ar_a, ar_b, kb2i_, cvi_, cvi_a, cvi_b, cvj_, cvj_a, cvj_b, cvz_, cvz_a, cvz_b, csi_, csi_a, csj_, csj_a, csz_, csz_a, snop_, sseq_, sseq_n, sseq_s, sif_, sif_a, scut_, scut_a, ssi_, ssi_a, ssj_, ssj_a, ssr_, ssr_a, sinc_, sinc_a, sret_, sret_a, sretj_, sretj_a, sretv_, spop_, spop_a, kc_scv_, scv_, scv_a, scv_b, scs_, scs_a, fpi_, fpi_a, fpi_b, fpj_, fpj_a, fpj_b, foi_, foi_a, foi_b, foj_, foj_a, foj_b, aii_, aii_a, aii_b, aii_c, aiz_, aiz_a, aiz_b, aiz_c, aij_, aij_a, aij_b, aij_c, aoi_, aoi_a, aoi_b, aoi_c, aoj_, aoj_a, aoj_b, aoj_c, scopy_, scopy_a, scopy_b, scopy_c, scopy_d, scopy_e, ssw_, ssw_a, sel_n, sel_c, mfi_, mfi_a, mfj_, mfj_a, mfz_, mfz_a, kb_mfv_, mfv_, mfv_a, cut, lset, lset2, isL, Value.category, ent, entn, if_some, if_pair, if_cons, if_int, if_long, if_ref, ite_self, gz_b, ↓icb, ↓icb2, b2i_ne, ge0, ge1, ge2, ge3, ge4, ge5, ge6, ge7, ge8, ge9, ge10, ge11, ge12, ge13, ge14, lit32, nI_add, pk_mul, clt_nI, cle_nI, cgt_nI, cge_nI, ceq_nI, cne_nI, inr_nI, nI_clamp, nI_eq, nI_leI, nI_ltI, k492, f492_2, f492_3, f492_4, f492_5, f492_7, f492_8, f492_9, f492_10, k493, k494, k495, k496, k497, k498, k499, k500, l493, l494, l495, l496, l497, l498, l499, l500])
      A ⟨by rw [aX]; funext i; rw [shX_at (by omega)], fun _ _ => rfl, rfl⟩
    have b7 : B.1 494 7 = nI 40 := by rw [w1, shX_at (by omega), ← aX]; exact a7'
    have sb := pk_sub (a := 40) (b := 1) (by decide)
    obtain ⟨C, eC⟩ : ∃ C, C = wi B 494 7 (nI 39) := ⟨_, rfl⟩
    have c1 : ∀ a, a ≠ 494 → C.1 a = A.1 a := fun a ha => by rw [eC, wi_ne ha]; exact w2 a ha
    have c2 : C.2 = A.2 := by rw [eC, wi_2]; exact w3
    have cY : C.1 494 = upd (shX X 195) 7 (nI 39) := by rw [eC, wi_same, w1]
    obtain ⟨O, l1, y1, y2, y3⟩ := r_logs2 (A := C) (V := V) (g := g) (nc := nc) (L := 39) cY (by rw [upd_n (by decide), shX_at (by omega)]; exact hv.1.1) upd_s (by decide) hB.1 hn (fun c hc B b1 b2 => hR c hc B (fun a ha => (b1 a ha).trans (c1 a ha)) (b2.trans c2))
    have o7 : O.1 494 7 = nI 39 := by rw [y1, l2X_at (by omega), upd_s]
    refine ⟨wi O 494 7 (nI 40), ?_, by rw [wi_same, y1]; unfold lgX; rw [if_neg z], r2.q6.trans (Q6.trans ⟨fun a ha => by rw [y2 a (by omega), c1 a (by omega)], fun j _ => by rw [y2 492 (by decide), c1 492 (by decide)], fun _ _ => by rw [y3, c2]⟩ q6_w)⟩
    rw [eC] at l1
    simp -implicitDefEqProofs (disch := omega) [DX8_logs, EX8_logs, kp_, bsome, bnone, gi_s, gj_s, gr_s, gv_s, ik_, jk_, il_, jl_, rl_, i2_, i2_a, i2_b, j2_, j2_a, j2_b, i2d_, i2d_a, i2d_b, j2d_, j2d_a, j2d_b, i1_, i1_a, j1_, j1_a, i2l_, i2l_a, l2i_, l2i_a, fgi_, fgi_a, fgj_, fgj_a, fgr_, fgr_a, iald_, iald_a, iald_b, zald_, zald_a, zald_b, jald_, jald_a, jald_b, rald_, rald_a, rald_b, alen_, alen_a, sald_, sald_a, ic_, ic_a, jc_, jc_a, bc_, bc_a, bc_b, bj_, bj_a, bj_b, bz_, bz_a, band_, band_a, bor_, bor_a, bnot_, bnot_a, anil_, ai_, ai_a, ai_b, aj_, aj_a, aj_b, ar_, ar_a, ar_b, kb2i_, cvi_, cvi_a, cvi_b, cvj_, cvj_a, cvj_b, cvz_, cvz_a, cvz_b, csi_, csi_a, csj_, csj_a, csz_, csz_a, snop_, sseq_, sseq_n, sseq_s, sif_, sif_a, scut_, scut_a, ssi_, ssi_a, ssj_, ssj_a, ssr_, ssr_a, sinc_, sinc_a, sret_, sret_a, sretj_, sretj_a, sretv_, spop_, spop_a, kc_scv_, scv_, scv_a, scv_b, scs_, scs_a, fpi_, fpi_a, fpi_b, fpj_, fpj_a, fpj_b, foi_, foi_a, foi_b, foj_, foj_a, foj_b, aii_, aii_a, aii_b, aii_c, aiz_, aiz_a, aiz_b, aiz_c, aij_, aij_a, aij_b, aij_c, aoi_, aoi_a, aoi_b, aoi_c, aoj_, aoj_a, aoj_b, aoj_c, scopy_, scopy_a, scopy_b, scopy_c, scopy_d, scopy_e, ssw_, ssw_a, sel_n, sel_c, mfi_, mfi_a, mfj_, mfj_a, mfz_, mfz_a, kb_mfv_, mfv_, mfv_a, cut, lset, lset2, isL, Value.category, ent, entn, if_some, if_pair, if_cons, if_int, if_long, if_ref, ite_self, gz_b, ↓icb, ↓icb2, b2i_ne, ge0, ge1, ge2, ge3, ge4, ge5, ge6, ge7, ge8, ge9, ge10, ge11, ge12, ge13, ge14, lit32, nI_add, pk_mul, clt_nI, cle_nI, cgt_nI, cge_nI, ceq_nI, cne_nI, inr_nI, nI_clamp, nI_eq, nI_leI, nI_ltI, k492, f492_2, f492_3, f492_4, f492_5, f492_7, f492_8, f492_9, f492_10, k493, k494, k495, k496, k497, k498, k499, k500, l493, l494, l495, l496, l497, l498, l499, l500, r1, hg1, a7', l0, b7, sb, l1, o7]
end
