/-! ===== the walls give gas ===== -/
def bkX (X : Nat → Int32) (m : Nat) : Nat → Int32 := fun i => if 8 ≤ i ∧ i < 8 + 4 * m ∧ (i - 8) % 4 = 1 then X i - X i * X (i + 1) / nI 64 else X i
section
variable {P N : Me} {X : Nat → Int32} {nc nt np nw tm b m c : Nat}
set_option maxRecDepth 20000 in
theorem bkX_0 : bkX X 0 = X := by
  funext i
  unfold bkX
  rw [if_neg (by omega)]
set_option maxRecDepth 20000 in
theorem bkX_next : upd (bkX X m) (8 + 4 * m + 1) (X (8 + 4 * m + 1) - X (8 + 4 * m + 1) * X (8 + 4 * m + 2) / nI 64) = bkX X (m + 1) := by
  funext i
  simp only [upd]
  unfold bkX
  by_cases e : i = 8 + 4 * m + 1
  · rw [if_pos e, if_pos (by omega), e]
  · rw [if_neg e]
    by_cases z : 8 ≤ i ∧ i < 8 + 4 * m ∧ (i - 8) % 4 = 1
    · rw [if_pos z, if_pos (by omega)]
    · rw [if_neg z, if_neg (by omega)]
theorem bkX_at {i : Nat} (h : ¬ (8 ≤ i ∧ i < 8 + 4 * m ∧ (i - 8) % 4 = 1)) : bkX X m i = X i := by unfold bkX; rw [if_neg h]
set_option maxRecDepth 20000 in
theorem bk_bd {tB : Nat} (hv : VxB X nc nt np nw tm tB) (hc : c < nc) : Bd (X (8 + 4 * c + 1) - X (8 + 4 * c + 1) * X (8 + 4 * c + 2) / nI 64) 4999 := by
  obtain ⟨-, ⟨g, g1, g2⟩, ⟨d, d1, d2⟩, -⟩ := hv.2.2.2.1 c hc
  have m : g * d ≤ 4999 * 9 := Nat.mul_le_mul g2 d2
  have m2 : g * d / 64 ≤ g := by
    have : g * d ≤ g * 9 := Nat.mul_le_mul (Nat.le_refl g) d2
    omega
  rw [g1, d1, pk_mul, pk_div (by omega) (by decide) (by decide), pk_sub m2]
  exact ⟨_, rfl, by omega⟩
set_option maxRecDepth 20000 in
theorem bkX_vx {tB : Nat} (hv : VxB X nc nt np nw tm tB) : VxB (bkX X nc) nc nt np nw tm tB := by
  have hb := hv.2.1
  refine hv.ch (fun i hi hn => bkX_at (by omega)) (fun c hc => ?_)
  obtain ⟨b0, b1, b2, b3⟩ := hv.2.2.2.1 c hc
  refine ⟨by rw [bkX_at (by omega)]; exact b0, ?_, by rw [bkX_at (by omega)]; exact b2, by rw [bkX_at (by omega)]; exact b3⟩
  have e : bkX X nc (8 + 4 * c + 1) = X (8 + 4 * c + 1) - X (8 + 4 * c + 1) * X (8 + 4 * c + 2) / nI 64 := by
    unfold bkX
    rw [if_pos (by omega)]
  rw [e]
  exact bk_bd hv hc
set_option maxRecDepth 20000 in
theorem r_bakeL (hX : N.1 494 = X) (hv0 : X 0 = nI nc) (hb : nc ≤ 5) {n : Int32} : ∃ O, swh qX8_step_2 wX8_step_2 [.ref 492, .int n, .int (nI 0), .null] N = some (none, [.ref 492, .int n, .int (nI nc), .null], O) ∧ O.1 494 = bkX X nc ∧ (∀ a, a ≠ 494 → O.1 a = N.1 a) ∧ O.2 = N.2 := by
  obtain ⟨O, l1, y1, y2, y3⟩ := swh_inv (c := qX8_step_2) (b := wX8_step_2) (fun c => [.ref 492, .int n, .int (nI c), .null]) (fun c O => O.1 494 = bkX X c ∧ (∀ a, a ≠ 494 → O.1 a = N.1 a) ∧ O.2 = N.2) nc
    (fun c hc O hO => by
      have z : O.1 494 0 = nI nc := by rw [hO.1, bkX_at (by omega)]; exact hv0
      simp -implicitDefEqProofs (disch := omega) [qX8_step_2, kp_, bsome, bnone, gi_s, gj_s, gr_s, gv_s, ik_, jk_, il_, jl_, rl_, i2_, i2_a, i2_b, j2_, j2_a, j2_b, i2d_, i2d_a, i2d_b, j2d_, j2d_a, j2d_b, i1_, i1_a, j1_, j1_a, i2l_, i2l_a, l2i_, l2i_a, fgi_, fgi_a, fgj_, fgj_a, fgr_, fgr_a, iald_, iald_a, iald_b, zald_, zald_a, zald_b, jald_, jald_a, jald_b, rald_, rald_a, rald_b, alen_, alen_a, sald_, sald_a, ic_, ic_a, jc_, jc_a, bc_, bc_a, bc_b, bj_, bj_a, bj_b, bz_, bz_a, band_, band_a, bor_, bor_a, bnot_, bnot_a, anil_, ai_, ai_a, ai_b, aj_, aj_a, aj_b, ar_, ar_a, ar_b, kb2i_, cvi_, cvi_a, cvi_b, cvj_, cvj_a, cvj_b, cvz_, cvz_a, cvz_b, csi_, csi_a, csj_, csj_a, csz_, csz_a, snop_, sseq_, sseq_n, sseq_s, sif_, sif_a, scut_, scut_a, ssi_, ssi_a, ssj_, ssj_a, ssr_, ssr_a, sinc_, sinc_a, sret_, sret_a, sretj_, sretj_a, sretv_, spop_, spop_a, kc_scv_, scv_, scv_a, scv_b, scs_, scs_a, fpi_, fpi_a, fpi_b, fpj_, fpj_a, fpj_b, foi_, foi_a, foi_b, foj_, foj_a, foj_b, aii_, aii_a, aii_b, aii_c, aiz_, aiz_a, aiz_b, aiz_c, aij_, aij_a, aij_b, aij_c, aoi_, aoi_a, aoi_b, aoi_c, aoj_, aoj_a, aoj_b, aoj_c, scopy_, scopy_a, scopy_b, scopy_c, scopy_d, scopy_e, ssw_, ssw_a, sel_n, sel_c, mfi_, mfi_a, mfj_, mfj_a, mfz_, mfz_a, kb_mfv_, mfv_, mfv_a, cut, lset, lset2, isL, Value.category, ent, entn, if_some, if_pair, if_cons, if_int, if_long, if_ref, ite_self, gz_b, ↓icb, ↓icb2, b2i_ne, ge0, ge1, ge2, ge3, ge4, ge5, ge6, ge7, ge8, ge9, ge10, ge11, ge12, ge13, ge14, lit32, nI_add, pk_mul, clt_nI, cle_nI, cgt_nI, cge_nI, ceq_nI, cne_nI, inr_nI, nI_clamp, nI_eq, nI_leI, nI_ltI, k492, f492_2, f492_3, f492_4, f492_5, f492_7, f492_8, f492_9, f492_10, k493, k494, k495, k496, k497, k498, k499, k500, l493, l494, l495, l496, l497, l498, l499, l500, z, hc])
    (fun c hc O hO => by
      obtain ⟨y1, y2, y3⟩ := hO
      have e1 : O.1 494 (8 + 4 * c + 1) = X (8 + 4 * c + 1) := by rw [y1, bkX_at (by omega)]
      have e2 : O.1 494 (8 + 4 * c + 2) = X (8 + 4 * c + 2) := by rw [y1, bkX_at (by omega)]
      have ix : 8 + 4 * c + 2 < 331 := by omega
      refine ⟨wi O 494 (8 + 4 * c + 1) (X (8 + 4 * c + 1) - X (8 + 4 * c + 1) * X (8 + 4 * c + 2) / nI 64), ?_, by rw [wi_same, y1, bkX_next], fun a ha => by rw [wi_ne ha]; exact y2 a ha, by rw [wi_2]; exact y3⟩
      simp -implicitDefEqProofs (disch := omega) [wX8_step_2, kp_, bsome, bnone, gi_s, gj_s, gr_s, gv_s, ik_, jk_, il_, jl_, rl_, i2_, i2_a, i2_b, j2_, j2_a, j2_b, i2d_, i2d_a, i2d_b, j2d_, j2d_a, j2d_b, i1_, i1_a, j1_, j1_a, i2l_, i2l_a, l2i_, l2i_a, fgi_, fgi_a, fgj_, fgj_a, fgr_, fgr_a, iald_, iald_a, iald_b, zald_, zald_a, zald_b, jald_, jald_a, jald_b, rald_, rald_a, rald_b, alen_, alen_a, sald_, sald_a, ic_, ic_a, jc_, jc_a, bc_, bc_a, bc_b, bj_, bj_a, bj_b, bz_, bz_a, band_, band_a, bor_, bor_a, bnot_, bnot_a, anil_, ai_, ai_a, ai_b, aj_, aj_a, aj_b, ar_, ar_a, ar_b, kb2i_, cvi_, cvi_a, cvi_b, cvj_, cvj_a, cvj_b, cvz_, cvz_a, cvz_b, csi_, csi_a, csj_, csj_a, csz_, csz_a, snop_, sseq_, sseq_n, sseq_s, sif_, sif_a, scut_, scut_a, ssi_, ssi_a, ssj_, ssj_a, ssr_, ssr_a, sinc_, sinc_a, sret_, sret_a, sretj_, sretj_a, sretv_, spop_, spop_a, kc_scv_, scv_, scv_a, scv_b, scs_, scs_a, fpi_, fpi_a, fpi_b, fpj_, fpj_a, fpj_b, foi_, foi_a, foi_b, foj_, foj_a, foj_b, aii_, aii_a, aii_b, aii_c, aiz_, aiz_a, aiz_b, aiz_c, aij_, aij_a, aij_b, aij_c, aoi_, aoi_a, aoi_b, aoi_c, aoj_, aoj_a, aoj_b, aoj_c, scopy_, scopy_a, scopy_b, scopy_c, scopy_d, scopy_e, ssw_, ssw_a, sel_n, sel_c, mfi_, mfi_a, mfj_, mfj_a, mfz_, mfz_a, kb_mfv_, mfv_, mfv_a, cut, lset, lset2, isL, Value.category, ent, entn, if_some, if_pair, if_cons, if_int, if_long, if_ref, ite_self, gz_b, ↓icb, ↓icb2, b2i_ne, ge0, ge1, ge2, ge3, ge4, ge5, ge6, ge7, ge8, ge9, ge10, ge11, ge12, ge13, ge14, lit32, nI_add, pk_mul, clt_nI, cle_nI, cgt_nI, cge_nI, ceq_nI, cne_nI, inr_nI, nI_clamp, nI_eq, nI_leI, nI_ltI, k492, f492_2, f492_3, f492_4, f492_5, f492_7, f492_8, f492_9, f492_10, k493, k494, k495, k496, k497, k498, k499, k500, l493, l494, l495, l496, l497, l498, l499, l500, r_chamberAt, e1, e2])
    (fun O hO => by
      have z : O.1 494 0 = nI nc := by rw [hO.1, bkX_at (by omega)]; exact hv0
      simp -implicitDefEqProofs (disch := omega) [qX8_step_2, kp_, bsome, bnone, gi_s, gj_s, gr_s, gv_s, ik_, jk_, il_, jl_, rl_, i2_, i2_a, i2_b, j2_, j2_a, j2_b, i2d_, i2d_a, i2d_b, j2d_, j2d_a, j2d_b, i1_, i1_a, j1_, j1_a, i2l_, i2l_a, l2i_, l2i_a, fgi_, fgi_a, fgj_, fgj_a, fgr_, fgr_a, iald_, iald_a, iald_b, zald_, zald_a, zald_b, jald_, jald_a, jald_b, rald_, rald_a, rald_b, alen_, alen_a, sald_, sald_a, ic_, ic_a, jc_, jc_a, bc_, bc_a, bc_b, bj_, bj_a, bj_b, bz_, bz_a, band_, band_a, bor_, bor_a, bnot_, bnot_a, anil_, ai_, ai_a, ai_b, aj_, aj_a, aj_b, ar_, ar_a, ar_b, kb2i_, cvi_, cvi_a, cvi_b, cvj_, cvj_a, cvj_b, cvz_, cvz_a, cvz_b, csi_, csi_a, csj_, csj_a, csz_, csz_a, snop_, sseq_, sseq_n, sseq_s, sif_, sif_a, scut_, scut_a, ssi_, ssi_a, ssj_, ssj_a, ssr_, ssr_a, sinc_, sinc_a, sret_, sret_a, sretj_, sretj_a, sretv_, spop_, spop_a, kc_scv_, scv_, scv_a, scv_b, scs_, scs_a, fpi_, fpi_a, fpi_b, fpj_, fpj_a, fpj_b, foi_, foi_a, foi_b, foj_, foj_a, foj_b, aii_, aii_a, aii_b, aii_c, aiz_, aiz_a, aiz_b, aiz_c, aij_, aij_a, aij_b, aij_c, aoi_, aoi_a, aoi_b, aoi_c, aoj_, aoj_a, aoj_b, aoj_c, scopy_, scopy_a, scopy_b, scopy_c, scopy_d, scopy_e, ssw_, ssw_a, sel_n, sel_c, mfi_, mfi_a, mfj_, mfj_a, mfz_, mfz_a, kb_mfv_, mfv_, mfv_a, cut, lset, lset2, isL, Value.category, ent, entn, if_some, if_pair, if_cons, if_int, if_long, if_ref, ite_self, gz_b, ↓icb, ↓icb2, b2i_ne, ge0, ge1, ge2, ge3, ge4, ge5, ge6, ge7, ge8, ge9, ge10, ge11, ge12, ge13, ge14, lit32, nI_add, pk_mul, clt_nI, cle_nI, cgt_nI, cge_nI, ceq_nI, cne_nI, inr_nI, nI_clamp, nI_eq, nI_leI, nI_ltI, k492, f492_2, f492_3, f492_4, f492_5, f492_7, f492_8, f492_9, f492_10, k493, k494, k495, k496, k497, k498, k499, k500, l493, l494, l495, l496, l497, l498, l499, l500, z])
    N ⟨by rw [bkX_0]; exact hX, fun _ _ => rfl, rfl⟩
  exact ⟨O, l1, y1, y2, y3⟩
def bcA (x : Int32) : Int32 := x - (oushr x (nI 1) &&& nI 1431655765)
def bcB (x : Int32) : Int32 := (x &&& nI 858993459) + (oushr x (nI 2) &&& nI 858993459)
def bcC (x : Int32) : Int32 := (x + oushr x (nI 4)) &&& nI 252645135
def bcD (x : Int32) : Int32 := x + oushr x (nI 8)
def bcE (x : Int32) : Int32 := x + oushr x (nI 16)
def bcF (x : Int32) : Int32 := bcE (bcD (bcC (bcB (bcA x)))) &&& nI 63
set_option maxRecDepth 20000 in
theorem j_bits {M : Me} {x : Int32} : DJ6_bitCount_0f7a4 [.int x] M = some (bcF x, M) := by
  simp -implicitDefEqProofs (disch := omega) [DJ6_bitCount_0f7a4, EJ6_bitCount_0f7a4, kp_, bsome, bnone, gi_s, gj_s, gr_s, gv_s, ik_, jk_, il_, jl_, rl_, i2_, i2_a, i2_b, j2_, j2_a, j2_b, i2d_, i2d_a, i2d_b, j2d_, j2d_a, j2d_b, i1_, i1_a, j1_, j1_a, i2l_, i2l_a, l2i_, l2i_a, fgi_, fgi_a, fgj_, fgj_a, fgr_, fgr_a, iald_, iald_a, iald_b, zald_, zald_a, zald_b, jald_, jald_a, jald_b, rald_, rald_a, rald_b, alen_, alen_a, sald_, sald_a, ic_, ic_a, jc_, jc_a, bc_, bc_a, bc_b, bj_, bj_a, bj_b, bz_, bz_a, band_, band_a, bor_, bor_a, bnot_, bnot_a, anil_, ai_, ai_a, ai_b, aj_, aj_a, aj_b, ar_, ar_a, ar_b, kb2i_, cvi_, cvi_a, cvi_b, cvj_, cvj_a, cvj_b, cvz_, cvz_a, cvz_b, csi_, csi_a, csj_, csj_a, csz_, csz_a, snop_, sseq_, sseq_n, sseq_s, sif_, sif_a, scut_, scut_a, ssi_, ssi_a, ssj_, ssj_a, ssr_, ssr_a, sinc_, sinc_a, sret_, sret_a, sretj_, sretj_a, sretv_, spop_, spop_a, kc_scv_, scv_, scv_a, scv_b, scs_, scs_a, fpi_, fpi_a, fpi_b, fpj_, fpj_a, fpj_b, foi_, foi_a, foi_b, foj_, foj_a, foj_b, aii_, aii_a, aii_b, aii_c, aiz_, aiz_a, aiz_b, aiz_c, aij_, aij_a, aij_b, aij_c, aoi_, aoi_a, aoi_b, aoi_c, aoj_, aoj_a, aoj_b, aoj_c, scopy_, scopy_a, scopy_b, scopy_c, scopy_d, scopy_e, ssw_, ssw_a, sel_n, sel_c, mfi_, mfi_a, mfj_, mfj_a, mfz_, mfz_a, kb_mfv_, mfv_, mfv_a, cut, lset, lset2, isL, Value.category, ent, entn, if_some, if_pair, if_cons, if_int, if_long, if_ref, ite_self, gz_b, ↓icb, ↓icb2, b2i_ne, ge0, ge1, ge2, ge3, ge4, ge5, ge6, ge7, ge8, ge9, ge10, ge11, ge12, ge13, ge14, lit32, nI_add, pk_mul, clt_nI, cle_nI, cgt_nI, cge_nI, ceq_nI, cne_nI, inr_nI, nI_clamp, nI_eq, nI_leI, nI_ltI, bcF, bcE, bcD, bcC, bcB, bcA]
def pc10 (a : Nat) : Nat := pc5 (a % 32) + pc5 (a / 32)
theorem bc_chk : ∀ S, S < 1024 → bcF (nI S) = nI (pc10 S) := by decide +kernel
end
