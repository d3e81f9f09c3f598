/-! ===== the watches of a step ===== -/
section
variable {P N : Me} {X Y : Nat → Int32} {nc nt np nw tm b w : Nat} {v : Int32}
set_option maxRecDepth 20000 in
theorem vx_done (hv : Vx X nc nt np nw tm) (hw : w < nw) : Vx (upd X (95 + 6 * w + 5) v) nc nt np nw tm := by
  have hb := hv.2.1
  refine hv.wa (fun i hi hn => upd_n (by omega)) (fun s hs => ?_)
  obtain ⟨k, x, n, q, y, v0, v1, v2, v3, v4, z⟩ := hv.2.2.2.2.2.2.1 s hs
  exact ⟨k, x, n, q, y, by rw [upd_n (by omega)]; exact v0, by rw [upd_n (by omega)]; exact v1, by rw [upd_n (by omega)]; exact v2, by rw [upd_n (by omega)]; exact v3, by rw [upd_n (by omega)]; exact v4, z⟩
set_option maxRecDepth 20000 in
theorem lr_done (h : Lr P b X nc nt np nw tm) (hc : nc ≤ 5) (h2 : nt ≤ 10) (hp : np ≤ 3) (hw : nw ≤ 6) (hww : w < nw) : Lr (wi P (b + 23 + w) 5 v) b (upd X (95 + 6 * w + 5) v) nc nt np nw tm := by
  refine h.wa hc h2 hp hw (fun i hi hn => upd_n (by omega)) (fun a z1 z2 z3 => wi_ne (by omega)) (fun s hs j hj => ?_)
  by_cases e : s = w
  · subst e
    by_cases e2 : j = 5
    · subst e2
      rw [upd_s]; simp [wi]
    · rw [upd_n (by omega), wi_ns (by omega)]; exact h.2.2.2.2.2.2.1 s hs j hj
  · rw [upd_n (by omega), wi_ne (by omega)]; exact h.2.2.2.2.2.2.1 s hs j hj
/-! one watch -/
noncomputable def w1S (Y : Nat → Int32) (nc nt np tm w : Nat) : (Nat → Int32) × Nat :=
  if soS Y nc tm (kyN Y nc nt np 9 0) w = true then (if acB Y (acI nc nt np (wX Y w 3) (wX Y w 4)) = true then (upd (acX Y (acI nc nt np (wX Y w 3) (wX Y w 4))) (95 + 6 * w + 5) (acX Y (acI nc nt np (wX Y w 3) (wX Y w 4)) (95 + 6 * w + 5) + nI 1), 1) else (acX Y (acI nc nt np (wX Y w 3) (wX Y w 4)), 0)) else (Y, 0)
noncomputable def wtS (X : Nat → Int32) (nc nt np tm : Nat) : Nat → (Nat → Int32) × Nat
  | 0 => (X, 0)
  | w + 1 => ((w1S (wtS X nc nt np tm w).1 nc nt np tm w).1, (wtS X nc nt np tm w).2 + (w1S (wtS X nc nt np tm w).1 nc nt np tm w).2)
set_option maxRecDepth 20000 in
theorem w1S_vx (hv : Vx Y nc nt np nw tm) (hw : w < nw) : Vx (w1S Y nc nt np tm w).1 nc nt np nw tm := by
  obtain ⟨-, -, -, -, q3, q4⟩ := watchX (hv.2.2.2.2.2.2.1 w hw)
  unfold w1S
  split
  · split
    · exact vx_done (acX_vx hv q3) hw
    · exact acX_vx hv q3
  · exact hv
set_option maxRecDepth 20000 in
theorem wtS_vx (hv : Vx X nc nt np nw tm) : ∀ w, w ≤ nw → Vx (wtS X nc nt np tm w).1 nc nt np nw tm
  | 0, _ => hv
  | w + 1, h => w1S_vx (wtS_vx hv w (by omega)) (by omega)
theorem w1S_le : (w1S Y nc nt np tm w).2 ≤ 1 := by unfold w1S; (repeat' split) <;> simp
set_option maxRecDepth 20000 in
theorem wtS_le : ∀ w, (wtS X nc nt np tm w).2 ≤ w
  | 0 => Nat.le_refl 0
  | w + 1 => by
    have a := wtS_le w
    have b := w1S_le (Y := (wtS X nc nt np tm w).1) (nc := nc) (nt := nt) (np := np) (tm := tm) (w := w)
    show (wtS X nc nt np tm w).2 + (w1S (wtS X nc nt np tm w).1 nc nt np tm w).2 ≤ w + 1
    omega
set_option maxRecDepth 20000 in
theorem r_watch {n : Nat} (hX : N.1 494 = Y) (hv : Vx Y nc nt np nw tm) (hw : w < nw) (hn : n ≤ 10) : ∃ O, wX8_step_1 [.ref 492, .int (nI n), .int (nI w), .null] N = some (none, [.ref 492, .int (nI (n + (w1S Y nc nt np tm w).2)), .int (nI (w + 1)), .null], O) ∧ O.1 494 = (w1S Y nc nt np tm w).1 ∧ Q6 N O := by
  have hB := hv.2.1
  obtain ⟨a, -, -, -, a3, a4⟩ := watchX (hv.2.2.2.2.2.2.1 w hw)
  have w6 : w < 6 := by omega
  have x3 := a 3 (by decide)
  have x4 := a 4 (by decide)
  obtain ⟨A, so, qr⟩ := r_isSo hX hv hw
  have aX : A.1 494 = Y := by rw [qr.1 494 (by omega)]; exact hX
  unfold w1S
  cases es : soS Y nc tm (kyN Y nc nt np 9 0) w with
  | false =>
    rw [es] at so
    refine ⟨A, ?_, aX, qr.q6⟩
    simp -implicitDefEqProofs (disch := omega) [wX8_step_1, kp_, bsome, bnone, gi_s, gj_s, gr_s, gv_s, ik_, jk_, il_, jl_, rl_, i2_, i2_a, i2_b, j2_, j2_a, j2_b, i2d_, i2d_a, i2d_b, j2d_, j2d_a, j2d_b, i1_, i1_a, j1_, j1_a, i2l_, i2l_a, l2i_, l2i_a, fgi_, fgi_a, fgj_, fgj_a, fgr_, fgr_a, iald_, iald_a, iald_b, zald_, zald_a, zald_b, jald_, jald_a, jald_b, rald_, rald_a, rald_b, alen_, alen_a, sald_, sald_a, ic_, ic_a, jc_, jc_a, bc_, bc_a, bc_b, bj_, bj_a, bj_b, bz_, bz_a, band_, band_a, bor_, bor_a, bnot_, bnot_a, anil_, ai_, ai_a, ai_b, aj_, aj_a, aj_b, ar_, ar_a, ar_b, kb2i_, cvi_, cvi_a, cvi_b, cvj_, cvj_a, cvj_b, cvz_, cvz_a, cvz_b, csi_, csi_a, csj_, csj_a, csz_, csz_a, snop_, sseq_, sseq_n, sseq_s, sif_, sif_a, scut_, scut_a, ssi_, ssi_a, ssj_, ssj_a, ssr_, ssr_a, sinc_, sinc_a, sret_, sret_a, sretj_, sretj_a, sretv_, spop_, spop_a, kc_scv_, scv_, scv_a, scv_b, scs_, scs_a, fpi_, fpi_a, fpi_b, fpj_, fpj_a, fpj_b, foi_, foi_a, foi_b, foj_, foj_a, foj_b, aii_, aii_a, aii_b, aii_c, aiz_, aiz_a, aiz_b, aiz_c, aij_, aij_a, aij_b, aij_c, aoi_, aoi_a, aoi_b, aoi_c, aoj_, aoj_a, aoj_b, aoj_c, scopy_, scopy_a, scopy_b, scopy_c, scopy_d, scopy_e, ssw_, ssw_a, sel_n, sel_c, mfi_, mfi_a, mfj_, mfj_a, mfz_, mfz_a, kb_mfv_, mfv_, mfv_a, cut, lset, lset2, isL, Value.category, ent, entn, if_some, if_pair, if_cons, if_int, if_long, if_ref, ite_self, gz_b, ↓icb, ↓icb2, b2i_ne, ge0, ge1, ge2, ge3, ge4, ge5, ge6, ge7, ge8, ge9, ge10, ge11, ge12, ge13, ge14, lit32, nI_add, pk_mul, clt_nI, cle_nI, cgt_nI, cge_nI, ceq_nI, cne_nI, inr_nI, nI_clamp, nI_eq, nI_leI, nI_ltI, k492, f492_2, f492_3, f492_4, f492_5, f492_7, f492_8, f492_9, f492_10, k493, k494, k495, k496, k497, k498, k499, k500, l493, l494, l495, l496, l497, l498, l499, l500, r_watchAt, so]
  | true =>
    rw [es] at so
    simp only [if_true]
    obtain ⟨B, ac, bX, b1, b2⟩ := r_acts aX hv a3 a4
    have qB : Q6 A B := ⟨fun c hc => b1 c (by omega), fun j _ => by rw [b1 492 (by decide)], fun _ _ => by rw [b2]⟩
    cases eb : acB Y (acI nc nt np (wX Y w 3) (wX Y w 4)) with
    | false =>
      rw [eb] at ac
      refine ⟨B, ?_, by simpa using bX, qr.q6.trans qB⟩
      simp -implicitDefEqProofs (disch := omega) [wX8_step_1, kp_, bsome, bnone, gi_s, gj_s, gr_s, gv_s, ik_, jk_, il_, jl_, rl_, i2_, i2_a, i2_b, j2_, j2_a, j2_b, i2d_, i2d_a, i2d_b, j2d_, j2d_a, j2d_b, i1_, i1_a, j1_, j1_a, i2l_, i2l_a, l2i_, l2i_a, fgi_, fgi_a, fgj_, fgj_a, fgr_, fgr_a, iald_, iald_a, iald_b, zald_, zald_a, zald_b, jald_, jald_a, jald_b, rald_, rald_a, rald_b, alen_, alen_a, sald_, sald_a, ic_, ic_a, jc_, jc_a, bc_, bc_a, bc_b, bj_, bj_a, bj_b, bz_, bz_a, band_, band_a, bor_, bor_a, bnot_, bnot_a, anil_, ai_, ai_a, ai_b, aj_, aj_a, aj_b, ar_, ar_a, ar_b, kb2i_, cvi_, cvi_a, cvi_b, cvj_, cvj_a, cvj_b, cvz_, cvz_a, cvz_b, csi_, csi_a, csj_, csj_a, csz_, csz_a, snop_, sseq_, sseq_n, sseq_s, sif_, sif_a, scut_, scut_a, ssi_, ssi_a, ssj_, ssj_a, ssr_, ssr_a, sinc_, sinc_a, sret_, sret_a, sretj_, sretj_a, sretv_, spop_, spop_a, kc_scv_, scv_, scv_a, scv_b, scs_, scs_a, fpi_, fpi_a, fpi_b, fpj_, fpj_a, fpj_b, foi_, foi_a, foi_b, foj_, foj_a, foj_b, aii_, aii_a, aii_b, aii_c, aiz_, aiz_a, aiz_b, aiz_c, aij_, aij_a, aij_b, aij_c, aoi_, aoi_a, aoi_b, aoi_c, aoj_, aoj_a, aoj_b, aoj_c, scopy_, scopy_a, scopy_b, scopy_c, scopy_d, scopy_e, ssw_, ssw_a, sel_n, sel_c, mfi_, mfi_a, mfj_, mfj_a, mfz_, mfz_a, kb_mfv_, mfv_, mfv_a, cut, lset, lset2, isL, Value.category, ent, entn, if_some, if_pair, if_cons, if_int, if_long, if_ref, ite_self, gz_b, ↓icb, ↓icb2, b2i_ne, ge0, ge1, ge2, ge3, ge4, ge5, ge6, ge7, ge8, ge9, ge10, ge11, ge12, ge13, ge14, lit32, nI_add, pk_mul, clt_nI, cle_nI, cgt_nI, cge_nI, ceq_nI, cne_nI, inr_nI, nI_clamp, nI_eq, nI_leI, nI_ltI, k492, f492_2, f492_3, f492_4, f492_5, f492_7, f492_8, f492_9, f492_10, k493, k494, k495, k496, k497, k498, k499, k500, l493, l494, l495, l496, l497, l498, l499, l500, r_watchAt, so, aX, x3, x4, ac]
    | true =>
      rw [eb] at ac
      simp only [if_true]
      obtain ⟨Z, eZ⟩ : ∃ Z, Z = acX Y (acI nc nt np (wX Y w 3) (wX Y w 4)) := ⟨_, rfl⟩
      rw [← eZ] at bX ⊢
      have ix : 95 + 6 * w + 5 < 331 := by omega
      refine ⟨wi B 494 (95 + 6 * w + 5) (Z (95 + 6 * w + 5) + nI 1), ?_, by rw [wi_same, bX], qr.q6.trans (qB.trans q6_w)⟩
      simp -implicitDefEqProofs (disch := omega) [wX8_step_1, kp_, bsome, bnone, gi_s, gj_s, gr_s, gv_s, ik_, jk_, il_, jl_, rl_, i2_, i2_a, i2_b, j2_, j2_a, j2_b, i2d_, i2d_a, i2d_b, j2d_, j2d_a, j2d_b, i1_, i1_a, j1_, j1_a, i2l_, i2l_a, l2i_, l2i_a, fgi_, fgi_a, fgj_, fgj_a, fgr_, fgr_a, iald_, iald_a, iald_b, zald_, zald_a, zald_b, jald_, jald_a, jald_b, rald_, rald_a, rald_b, alen_, alen_a, sald_, sald_a, ic_, ic_a, jc_, jc_a, bc_, bc_a, bc_b, bj_, bj_a, bj_b, bz_, bz_a, band_, band_a, bor_, bor_a, bnot_, bnot_a, anil_, ai_, ai_a, ai_b, aj_, aj_a, aj_b, ar_, ar_a, ar_b, kb2i_, cvi_, cvi_a, cvi_b, cvj_, cvj_a, cvj_b, cvz_, cvz_a, cvz_b, csi_, csi_a, csj_, csj_a, csz_, csz_a, snop_, sseq_, sseq_n, sseq_s, sif_, sif_a, scut_, scut_a, ssi_, ssi_a, ssj_, ssj_a, ssr_, ssr_a, sinc_, sinc_a, sret_, sret_a, sretj_, sretj_a, sretv_, spop_, spop_a, kc_scv_, scv_, scv_a, scv_b, scs_, scs_a, fpi_, fpi_a, fpi_b, fpj_, fpj_a, fpj_b, foi_, foi_a, foi_b, foj_, foj_a, foj_b, aii_, aii_a, aii_b, aii_c, aiz_, aiz_a, aiz_b, aiz_c, aij_, aij_a, aij_b, aij_c, aoi_, aoi_a, aoi_b, aoi_c, aoj_, aoj_a, aoj_b, aoj_c, scopy_, scopy_a, scopy_b, scopy_c, scopy_d, scopy_e, ssw_, ssw_a, sel_n, sel_c, mfi_, mfi_a, mfj_, mfj_a, mfz_, mfz_a, kb_mfv_, mfv_, mfv_a, cut, lset, lset2, isL, Value.category, ent, entn, if_some, if_pair, if_cons, if_int, if_long, if_ref, ite_self, gz_b, ↓icb, ↓icb2, b2i_ne, ge0, ge1, ge2, ge3, ge4, ge5, ge6, ge7, ge8, ge9, ge10, ge11, ge12, ge13, ge14, lit32, nI_add, pk_mul, clt_nI, cle_nI, cgt_nI, cge_nI, ceq_nI, cne_nI, inr_nI, nI_clamp, nI_eq, nI_leI, nI_ltI, k492, f492_2, f492_3, f492_4, f492_5, f492_7, f492_8, f492_9, f492_10, k493, k494, k495, k496, k497, k498, k499, k500, l493, l494, l495, l496, l497, l498, l499, l500, r_watchAt, so, aX, x3, x4, ac, bX]
set_option maxRecDepth 20000 in
theorem c_watch {n : Nat} (hL : Lr P b Y nc nt np nw tm) (hv : Vx Y nc nt np nw tm) (hb63 : b + 30 ≤ 61) (hn : Nh P b) (hI : BInv P) (hw : w < nw) (hn10 : n ≤ 10) : ∃ Q, wX6_askWatches_1 [.ref 97, .ref b, .int (nI n), .int (nI w), .null] P = some (none, [.ref 97, .ref b, .int (nI (n + (w1S Y nc nt np tm w).2)), .int (nI (w + 1)), .null], Q) ∧ Lr Q b (w1S Y nc nt np tm w).1 nc nt np nw tm ∧ Nh Q b ∧ BInv Q ∧ (∀ a, a < b ∨ (b + 30 ≤ a ∧ a < 61) ∨ 96 < a → Q.1 a = P.1 a ∧ Q.2 a = P.2 a) := by
  have hb := hL.1
  have hB := hv.2.1
  obtain ⟨a, -, -, -, a3, a4⟩ := watchX (hv.2.2.2.2.2.2.1 w hw)
  have w6 : w < 6 := by omega
  obtain ⟨R, s1, s2, s3⟩ := c_bal hL hv (by omega) (Or.inl ⟨rfl, rfl⟩) (Or.inl ⟨hn.1, hn.2, rfl, rfl⟩) hI
  have lR : Lr R b Y nc nt np nw tm := hL.frame hB.1 hB.2.1 hB.2.2.1 hB.2.2.2.1 (fun a z1 z2 => (s3 a (by omega)).1)
  have nR : Nh R b := by unfold Nh; rw [(s3 b (by omega)).1]; exact hn
  have fR1 : ∀ a, a < b ∨ (b + 30 ≤ a ∧ a < 61) ∨ 96 < a → R.1 a = P.1 a ∧ R.2 a = P.2 a := fun a ha => s3 a (by omega)
  have so := c_isSo lR hv s2 ky_0 hw
  have lw := lR.2.2.2.2.2.2.1 w hw
  have m3 : R.1 (b + 23 + w) 3 = nI (wX Y w 3) := by rw [lw 3 (by decide)]; exact a 3 (by decide)
  have m4 : R.1 (b + 23 + w) 4 = nI (wX Y w 4) := by rw [lw 4 (by decide)]; exact a 4 (by decide)
  unfold w1S
  cases es : soS Y nc tm (kyN Y nc nt np 9 0) w with
  | false =>
    rw [es] at so
    refine ⟨R, ?_, lR, nR, Or.inr ⟨_, s2⟩, fR1⟩
    simp -implicitDefEqProofs (disch := omega) [wX6_askWatches_1, kp_, bsome, bnone, gi_s, gj_s, gr_s, gv_s, ik_, jk_, il_, jl_, rl_, i2_, i2_a, i2_b, j2_, j2_a, j2_b, i2d_, i2d_a, i2d_b, j2d_, j2d_a, j2d_b, i1_, i1_a, j1_, j1_a, i2l_, i2l_a, l2i_, l2i_a, fgi_, fgi_a, fgj_, fgj_a, fgr_, fgr_a, iald_, iald_a, iald_b, zald_, zald_a, zald_b, jald_, jald_a, jald_b, rald_, rald_a, rald_b, alen_, alen_a, sald_, sald_a, ic_, ic_a, jc_, jc_a, bc_, bc_a, bc_b, bj_, bj_a, bj_b, bz_, bz_a, band_, band_a, bor_, bor_a, bnot_, bnot_a, anil_, ai_, ai_a, ai_b, aj_, aj_a, aj_b, ar_, ar_a, ar_b, kb2i_, cvi_, cvi_a, cvi_b, cvj_, cvj_a, cvj_b, cvz_, cvz_a, cvz_b, csi_, csi_a, csj_, csj_a, csz_, csz_a, snop_, sseq_, sseq_n, sseq_s, sif_, sif_a, scut_, scut_a, ssi_, ssi_a, ssj_, ssj_a, ssr_, ssr_a, sinc_, sinc_a, sret_, sret_a, sretj_, sretj_a, sretv_, spop_, spop_a, kc_scv_, scv_, scv_a, scv_b, scs_, scs_a, fpi_, fpi_a, fpi_b, fpj_, fpj_a, fpj_b, foi_, foi_a, foi_b, foj_, foj_a, foj_b, aii_, aii_a, aii_b, aii_c, aiz_, aiz_a, aiz_b, aiz_c, aij_, aij_a, aij_b, aij_c, aoi_, aoi_a, aoi_b, aoi_c, aoj_, aoj_a, aoj_b, aoj_c, scopy_, scopy_a, scopy_b, scopy_c, scopy_d, scopy_e, ssw_, ssw_a, sel_n, sel_c, mfi_, mfi_a, mfj_, mfj_a, mfz_, mfz_a, kb_mfv_, mfv_, mfv_a, cut, lset, lset2, isL, Value.category, ent, entn, if_some, if_pair, if_cons, if_int, if_long, if_ref, ite_self, gz_b, ↓icb, ↓icb2, b2i_ne, ge0, ge1, ge2, ge3, ge4, ge5, ge6, ge7, ge8, ge9, ge10, ge11, ge12, ge13, ge14, lit32, nI_add, pk_mul, clt_nI, cle_nI, cgt_nI, cge_nI, ceq_nI, cne_nI, inr_nI, nI_clamp, nI_eq, nI_leI, nI_ltI, a_kb hb, a_9 hb, a_10 hb, a_11 hb, a_12 hb, a_13 hb, a_k1 hb, a_l1 hb, a_k7 hb, a_l7 hb, a_k18 hb, a_l18 hb, a_k22 hb, a_l22 hb, a_k29 hb, a_l29 hb, a_rc hb, a_kc hb, a_lc hb, a_rt hb, a_kt hb, a_lt hb, a_rp hb, a_kp hb, a_lp hb, a_rw hb, a_kw hb, a_lw hb, k97, f97_0, k61, s1, so]
  | true =>
    rw [es] at so
    simp only [if_true]
    obtain ⟨A, ac, lA, f1, f2⟩ := c_act lR hv a3 a4
    have nA : Nh A b := by unfold Nh; rw [f1 b (by omega)]; exact nR
    have bA : BInv A := BInv.frame (Or.inr ⟨_, s2⟩) (fun a _ z1 z2 => f1 a (by omega)) (fun _ _ _ => by rw [f2])
    have fA : ∀ a, a < b ∨ (b + 30 ≤ a ∧ a < 61) ∨ 96 < a → A.1 a = P.1 a ∧ A.2 a = P.2 a := fun a ha => ⟨by rw [f1 a (by omega)]; exact (fR1 a ha).1, by rw [f2]; exact (fR1 a ha).2⟩
    cases eb : acB Y (acI nc nt np (wX Y w 3) (wX Y w 4)) with
    | false =>
      rw [eb] at ac
      refine ⟨A, ?_, by simpa using lA, nA, bA, fA⟩
      simp -implicitDefEqProofs (disch := omega) [wX6_askWatches_1, kp_, bsome, bnone, gi_s, gj_s, gr_s, gv_s, ik_, jk_, il_, jl_, rl_, i2_, i2_a, i2_b, j2_, j2_a, j2_b, i2d_, i2d_a, i2d_b, j2d_, j2d_a, j2d_b, i1_, i1_a, j1_, j1_a, i2l_, i2l_a, l2i_, l2i_a, fgi_, fgi_a, fgj_, fgj_a, fgr_, fgr_a, iald_, iald_a, iald_b, zald_, zald_a, zald_b, jald_, jald_a, jald_b, rald_, rald_a, rald_b, alen_, alen_a, sald_, sald_a, ic_, ic_a, jc_, jc_a, bc_, bc_a, bc_b, bj_, bj_a, bj_b, bz_, bz_a, band_, band_a, bor_, bor_a, bnot_, bnot_a, anil_, ai_, ai_a, ai_b, aj_, aj_a, aj_b, ar_, ar_a, ar_b, kb2i_, cvi_, cvi_a, cvi_b, cvj_, cvj_a, cvj_b, cvz_, cvz_a, cvz_b, csi_, csi_a, csj_, csj_a, csz_, csz_a, snop_, sseq_, sseq_n, sseq_s, sif_, sif_a, scut_, scut_a, ssi_, ssi_a, ssj_, ssj_a, ssr_, ssr_a, sinc_, sinc_a, sret_, sret_a, sretj_, sretj_a, sretv_, spop_, spop_a, kc_scv_, scv_, scv_a, scv_b, scs_, scs_a, fpi_, fpi_a, fpi_b, fpj_, fpj_a, fpj_b, foi_, foi_a, foi_b, foj_, foj_a, foj_b, aii_, aii_a, aii_b, aii_c, aiz_, aiz_a, aiz_b, aiz_c, aij_, aij_a, aij_b, aij_c, aoi_, aoi_a, aoi_b, aoi_c, aoj_, aoj_a, aoj_b, aoj_c, scopy_, scopy_a, scopy_b, scopy_c, scopy_d, scopy_e, ssw_, ssw_a, sel_n, sel_c, mfi_, mfi_a, mfj_, mfj_a, mfz_, mfz_a, kb_mfv_, mfv_, mfv_a, cut, lset, lset2, isL, Value.category, ent, entn, if_some, if_pair, if_cons, if_int, if_long, if_ref, ite_self, gz_b, ↓icb, ↓icb2, b2i_ne, ge0, ge1, ge2, ge3, ge4, ge5, ge6, ge7, ge8, ge9, ge10, ge11, ge12, ge13, ge14, lit32, nI_add, pk_mul, clt_nI, cle_nI, cgt_nI, cge_nI, ceq_nI, cne_nI, inr_nI, nI_clamp, nI_eq, nI_leI, nI_ltI, a_kb hb, a_9 hb, a_10 hb, a_11 hb, a_12 hb, a_13 hb, a_k1 hb, a_l1 hb, a_k7 hb, a_l7 hb, a_k18 hb, a_l18 hb, a_k22 hb, a_l22 hb, a_k29 hb, a_l29 hb, a_rc hb, a_kc hb, a_lc hb, a_rt hb, a_kt hb, a_lt hb, a_rp hb, a_kp hb, a_lp hb, a_rw hb, a_kw hb, a_lw hb, k97, f97_0, k61, s1, so, m3, m4, ac]
    | true =>
      rw [eb] at ac
      simp only [if_true]
      obtain ⟨Z, eZ⟩ : ∃ Z, Z = acX Y (acI nc nt np (wX Y w 3) (wX Y w 4)) := ⟨_, rfl⟩
      rw [← eZ] at lA ⊢
      have m5 := lA.2.2.2.2.2.2.1 w hw 5 (by decide)
      refine ⟨wi A (b + 23 + w) 5 (Z (95 + 6 * w + 5) + nI 1), ?_, lr_done lA hB.1 hB.2.1 hB.2.2.1 hB.2.2.2.1 hw, ?_, bA.frame (fun a _ z1 z2 => wi_ne (by omega)) (fun _ _ _ => rfl), fun a ha => ⟨by rw [wi_ne (by omega)]; exact (fA a ha).1, (fA a ha).2⟩⟩
      · simp -implicitDefEqProofs (disch := omega) [wX6_askWatches_1, kp_, bsome, bnone, gi_s, gj_s, gr_s, gv_s, ik_, jk_, il_, jl_, rl_, i2_, i2_a, i2_b, j2_, j2_a, j2_b, i2d_, i2d_a, i2d_b, j2d_, j2d_a, j2d_b, i1_, i1_a, j1_, j1_a, i2l_, i2l_a, l2i_, l2i_a, fgi_, fgi_a, fgj_, fgj_a, fgr_, fgr_a, iald_, iald_a, iald_b, zald_, zald_a, zald_b, jald_, jald_a, jald_b, rald_, rald_a, rald_b, alen_, alen_a, sald_, sald_a, ic_, ic_a, jc_, jc_a, bc_, bc_a, bc_b, bj_, bj_a, bj_b, bz_, bz_a, band_, band_a, bor_, bor_a, bnot_, bnot_a, anil_, ai_, ai_a, ai_b, aj_, aj_a, aj_b, ar_, ar_a, ar_b, kb2i_, cvi_, cvi_a, cvi_b, cvj_, cvj_a, cvj_b, cvz_, cvz_a, cvz_b, csi_, csi_a, csj_, csj_a, csz_, csz_a, snop_, sseq_, sseq_n, sseq_s, sif_, sif_a, scut_, scut_a, ssi_, ssi_a, ssj_, ssj_a, ssr_, ssr_a, sinc_, sinc_a, sret_, sret_a, sretj_, sretj_a, sretv_, spop_, spop_a, kc_scv_, scv_, scv_a, scv_b, scs_, scs_a, fpi_, fpi_a, fpi_b, fpj_, fpj_a, fpj_b, foi_, foi_a, foi_b, foj_, foj_a, foj_b, aii_, aii_a, aii_b, aii_c, aiz_, aiz_a, aiz_b, aiz_c, aij_, aij_a, aij_b, aij_c, aoi_, aoi_a, aoi_b, aoi_c, aoj_, aoj_a, aoj_b, aoj_c, scopy_, scopy_a, scopy_b, scopy_c, scopy_d, scopy_e, ssw_, ssw_a, sel_n, sel_c, mfi_, mfi_a, mfj_, mfj_a, mfz_, mfz_a, kb_mfv_, mfv_, mfv_a, cut, lset, lset2, isL, Value.category, ent, entn, if_some, if_pair, if_cons, if_int, if_long, if_ref, ite_self, gz_b, ↓icb, ↓icb2, b2i_ne, ge0, ge1, ge2, ge3, ge4, ge5, ge6, ge7, ge8, ge9, ge10, ge11, ge12, ge13, ge14, lit32, nI_add, pk_mul, clt_nI, cle_nI, cgt_nI, cge_nI, ceq_nI, cne_nI, inr_nI, nI_clamp, nI_eq, nI_leI, nI_ltI, a_kb hb, a_9 hb, a_10 hb, a_11 hb, a_12 hb, a_13 hb, a_k1 hb, a_l1 hb, a_k7 hb, a_l7 hb, a_k18 hb, a_l18 hb, a_k22 hb, a_l22 hb, a_k29 hb, a_l29 hb, a_rc hb, a_kc hb, a_lc hb, a_rt hb, a_kt hb, a_lt hb, a_rp hb, a_kp hb, a_lp hb, a_rw hb, a_kw hb, a_lw hb, k97, f97_0, k61, s1, so, m3, m4, ac, m5]
      · unfold Nh
        rw [wi_ne (by omega)]
        exact nA
end
