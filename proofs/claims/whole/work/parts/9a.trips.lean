/-! ===== pumps that trip ===== -/
noncomputable def tpB (X : Nat → Int32) (k : Nat → Nat) (r p : Nat) : Bool := decide (pX X p 1 = 1 ∧ 1 ≤ pX X p 7 ∧ 1000 * pX X p 7 ≤ rdN k r (pX X p 0))
noncomputable def tpT (X : Nat → Int32) (k : Nat → Nat) : Nat → Bool := match fR (kok k) 27 with
  | none => fun _ => false
  | some r => tpB X k r
def tpX (X : Nat → Int32) (T : Nat → Bool) (m : Nat) : Nat → Int32 := fun i => if 68 ≤ i ∧ i < 68 + 9 * m ∧ T ((i - 68) / 9) = true then (if (i - 68) % 9 = 1 then nI 0 else if (i - 68) % 9 = 8 then X i + nI 1 else X i) else X i
def tpN (T : Nat → Bool) : Nat → Nat
  | 0 => 0
  | n + 1 => tpN T n + (if T n = true then 1 else 0)
def CP (b : Nat) (P Q : Me) : Prop := ∀ a, a < b ∨ (b + 30 ≤ a ∧ a < 61) ∨ 97 < a → Q.1 a = P.1 a ∧ Q.2 a = P.2 a
section
variable {P N Q R : Me} {X : Nat → Int32} {T : Nat → Bool} {k : Nat → Nat} {nc nt np nw tm b m p i : Nat}
theorem CP.refl : CP b P P := fun _ _ => ⟨rfl, rfl⟩
theorem CP.trans (h : CP b P Q) (g : CP b Q R) : CP b P R := fun a ha => ⟨(g a ha).1.trans (h a ha).1, (g a ha).2.trans (h a ha).2⟩
theorem CO.cp (h : CO b P Q) : CP b P Q := fun a ha => h a (by omega)
set_option maxRecDepth 20000 in
theorem tpN_le : ∀ n, tpN T n ≤ n
  | 0 => Nat.le_refl 0
  | n + 1 => by
    have := tpN_le n
    simp only [tpN]
    split <;> omega
set_option maxRecDepth 20000 in
theorem tpX_0 : tpX X T 0 = X := by
  funext i
  unfold tpX
  rw [if_neg (by omega)]
set_option maxRecDepth 20000 in
theorem tpX_lo (h : i < 68 ∨ 68 + 9 * m ≤ i) : tpX X T m i = X i := by
  unfold tpX
  rw [if_neg (by omega)]
set_option maxRecDepth 20000 in
theorem tpX_f (h : T m = false) : tpX X T (m + 1) = tpX X T m := by
  funext i
  unfold tpX
  by_cases z : 68 ≤ i ∧ i < 68 + 9 * m ∧ T ((i - 68) / 9) = true
  · rw [if_pos z, if_pos ⟨z.1, by omega, z.2.2⟩]
  · rw [if_neg z, if_neg]
    rintro ⟨z1, z2, z3⟩
    by_cases e : i < 68 + 9 * m
    · exact z ⟨z1, e, z3⟩
    · rw [show (i - 68) / 9 = m by omega, h] at z3
      cases z3
set_option maxRecDepth 20000 in
theorem tpX_t (h : T m = true) : upd (upd (tpX X T m) (68 + 9 * m + 1) (nI 0)) (68 + 9 * m + 8) (X (68 + 9 * m + 8) + nI 1) = tpX X T (m + 1) := by
  funext i
  simp only [upd]
  by_cases e8 : i = 68 + 9 * m + 8
  · rw [if_pos e8]
    unfold tpX
    rw [if_pos ⟨by omega, by omega, by rw [show (i - 68) / 9 = m by omega]; exact h⟩, if_neg (by omega), if_pos (by omega), e8]
  rw [if_neg e8]
  by_cases e1 : i = 68 + 9 * m + 1
  · rw [if_pos e1]
    unfold tpX
    rw [if_pos ⟨by omega, by omega, by rw [show (i - 68) / 9 = m by omega]; exact h⟩, if_pos (by omega)]
  rw [if_neg e1]
  by_cases e : i < 68 + 9 * m ∨ 68 + 9 * m + 9 ≤ i
  · unfold tpX
    by_cases z : 68 ≤ i ∧ i < 68 + 9 * m ∧ T ((i - 68) / 9) = true
    · have z' : 68 ≤ i ∧ i < 68 + 9 * (m + 1) ∧ T ((i - 68) / 9) = true := ⟨z.1, by omega, z.2.2⟩
      rw [if_pos z, if_pos z']
    · rw [if_neg z, if_neg]
      rintro ⟨z1, z2, z3⟩
      exact z ⟨z1, by omega, z3⟩
  · rw [tpX_lo (by omega)]
    unfold tpX
    rw [if_pos ⟨by omega, by omega, by rw [show (i - 68) / 9 = m by omega]; exact h⟩, if_neg (by omega), if_neg (by omega)]
set_option maxRecDepth 20000 in
theorem tpX_j {j : Nat} (hj : j < 9) (h1 : j ≠ 1) (h8 : j ≠ 8) : tpX X T m (68 + 9 * p + j) = X (68 + 9 * p + j) := by
  unfold tpX
  by_cases z : 68 ≤ 68 + 9 * p + j ∧ 68 + 9 * p + j < 68 + 9 * m ∧ T ((68 + 9 * p + j - 68) / 9) = true
  · rw [if_pos z, if_neg (by omega), if_neg (by omega)]
  · rw [if_neg z]
set_option maxRecDepth 20000 in
theorem tpX_8 (hp : p < m) : tpX X T m (68 + 9 * p + 8) = if T p = true then X (68 + 9 * p + 8) + nI 1 else X (68 + 9 * p + 8) := by
  unfold tpX
  rw [show (68 + 9 * p + 8 - 68) / 9 = p by omega]
  by_cases z : T p = true
  · rw [if_pos ⟨by omega, by omega, z⟩, if_neg (by omega), if_pos (by omega), if_pos z]
  · rw [if_neg (fun q => z q.2.2), if_neg z]
set_option maxRecDepth 20000 in
theorem tpX_1 (hp : p < m) : tpX X T m (68 + 9 * p + 1) = if T p = true then nI 0 else X (68 + 9 * p + 1) := by
  unfold tpX
  rw [show (68 + 9 * p + 1 - 68) / 9 = p by omega]
  by_cases z : T p = true
  · rw [if_pos ⟨by omega, by omega, z⟩, if_pos (by omega), if_pos z]
  · rw [if_neg (fun q => z q.2.2), if_neg z]
set_option maxRecDepth 20000 in
theorem tpX_vx (hv : Vx X nc nt np nw tm) : VxB (tpX X T np) nc nt np nw tm (tm + 1) := by
  have hb := hv.2.1
  have hv1 : VxB X nc nt np nw tm (tm + 1) := by
    obtain ⟨h1, h2, h3, h4, h5, h6, h7, h8, h9⟩ := hv
    refine ⟨h1, h2, h3, h4, h5, fun p hp => ?_, h7, h8, h9⟩
    obtain ⟨a, o, s0, s1, s2, b0, b1, tr, td, e, y0, y1, y2, y3, y4, y5, y6, y7, y8, y9, y10, y11⟩ := h6 p hp
    exact ⟨a, o, s0, s1, s2, b0, b1, tr, td, e, y0, y1, y2, y3, y4, y5, y6, y7, y8, y9, by omega, y11⟩
  refine hv1.pu (fun i hi hn => tpX_lo (by omega)) (fun s hs => ?_) (fun c hc => ?_)
  · obtain ⟨a, o, s0, s1, s2, b0, b1, tr, td, ⟨v1, v2, v3, v4, v5, v6, v7, v8, v9⟩, y0, y1, y2, y3, y4, y5, y6, y7, y8, y9, y10, y11⟩ := hv.2.2.2.2.2.1 s hs
    have v1' := tpX_j (X := X) (T := T) (m := np) (p := s) (j := 0) (by decide) (by decide) (by decide)
    rw [Nat.add_zero] at v1'
    by_cases z : T s = true
    · refine ⟨a, 0, s0, s1, s2, b0, b1, tr, td + 1, ⟨by rw [v1']; exact v1, ?_, ?_, ?_, ?_, ?_, ?_, ?_, ?_⟩, y0, by omega, y2, y3, y4, y5, y6, y7, y8, y9, by omega, by omega⟩
      · rw [tpX_1 hs, if_pos z]
      · rw [tpX_j (by decide) (by decide) (by decide)]; exact v3
      · rw [tpX_j (by decide) (by decide) (by decide)]; exact v4
      · rw [tpX_j (by decide) (by decide) (by decide)]; exact v5
      · rw [tpX_j (by decide) (by decide) (by decide)]; exact v6
      · rw [tpX_j (by decide) (by decide) (by decide)]; exact v7
      · rw [tpX_j (by decide) (by decide) (by decide)]; exact v8
      · rw [tpX_8 hs, if_pos z, v9, nI_add]
    · refine ⟨a, o, s0, s1, s2, b0, b1, tr, td, ⟨by rw [v1']; exact v1, ?_, ?_, ?_, ?_, ?_, ?_, ?_, ?_⟩, y0, y1, y2, y3, y4, y5, y6, y7, y8, y9, by omega, y11⟩
      · rw [tpX_1 hs, if_neg z]; exact v2
      · rw [tpX_j (by decide) (by decide) (by decide)]; exact v3
      · rw [tpX_j (by decide) (by decide) (by decide)]; exact v4
      · rw [tpX_j (by decide) (by decide) (by decide)]; exact v5
      · rw [tpX_j (by decide) (by decide) (by decide)]; exact v6
      · rw [tpX_j (by decide) (by decide) (by decide)]; exact v7
      · rw [tpX_j (by decide) (by decide) (by decide)]; exact v8
      · rw [tpX_8 hs, if_neg z]; exact v9
  · rw [wtT_c3 nt (fun s hs => ⟨tpX_lo (by omega), tpX_lo (by omega), tpX_lo (by omega)⟩), wtP_c3 np (fun p hp => ⟨?_, fun k hk => ?_⟩)]
    · exact hv.2.2.2.2.2.2.2.1 c hc
    · have v1' := tpX_j (X := X) (T := T) (m := np) (p := p) (j := 0) (by decide) (by decide) (by decide)
      rw [Nat.add_zero] at v1'
      exact v1'
    · rw [show 68 + 9 * p + 2 + k = 68 + 9 * p + (2 + k) by omega]
      exact tpX_j (by omega) (by omega) (by omega)
set_option maxRecDepth 20000 in
theorem c_tripL {r : Nat} (hv : Vx X nc nt np nw tm) (hf : fR (kok k) 27 = some r) (hk0 : k 0 = nc) (hT : T = tpB X k r) (hp : p < np) (hL : Lr Q b (tpX X T p) nc nt np nw tm) (hb63 : b + 30 ≤ 61) (hB : BAt Q k) (h98 : Q.1 97 1 = nI (msk T p)) : ∃ R, wX6_tripPumps_1 [.ref 97, .ref b, .int (nI p), .null] Q = some (none, [.ref 97, .ref b, .int (nI (p + 1)), .null], R) ∧ Lr R b (tpX X T (p + 1)) nc nt np nw tm ∧ BAt R k ∧ R.1 97 1 = nI (msk T (p + 1)) ∧ (∀ a, ¬ (b < a ∧ a < b + 30) → a ≠ 97 → R.1 a = Q.1 a) ∧ R.2 = Q.2 := by
  have hb := hL.1
  have hB9 := hv.2.1
  have p3 : p < 3 := by omega
  obtain ⟨ax, a0, a1, -⟩ := pumpX hB9.1 hB9.2.2.2.2 (hv.2.2.2.2.2.1 p hp)
  have lp := hL.2.2.2.2.2.1 p hp
  have mj : ∀ j, j < 9 → Q.1 (b + 19 + p) j = nI (pX X p j) := fun j hj => by rw [lp j hj, tpX_lo (by omega)]; exact (ax j hj).1
  have m0 := mj 0 (by decide)
  have m1 := mj 1 (by decide)
  have m7 := mj 7 (by decide)
  have m8 : Q.1 (b + 19 + p) 8 = X (68 + 9 * p + 8) := by rw [lp 8 (by decide), tpX_lo (by omega)]
  have b7 := (ax 7 (by decide)).2
  have ga := c_gauge (c := pX X p 0) hB hf (by rw [hk0]; exact a0)
  have rl := rdN_le (k := k) (r := r) (c := pX X p 0)
  cases eT : T p with
  | false =>
    have nT : ¬ (pX X p 1 = 1 ∧ 1 ≤ pX X p 7 ∧ 1000 * pX X p 7 ≤ rdN k r (pX X p 0)) := by
      rw [hT] at eT
      exact of_decide_eq_false eT
    have eM : msk T (p + 1) = msk T p := by simp [msk, eT]
    refine ⟨Q, ?_, by rw [tpX_f eT]; exact hL, hB, by rw [eM]; exact h98, fun _ _ _ => rfl, rfl⟩
    by_cases q1 : pX X p 1 = 1
    · rw [q1] at m1
      by_cases q7 : pX X p 7 = 0
      · rw [q7] at m7
        simp -implicitDefEqProofs (disch := omega) [wX6_tripPumps_1, kp_, bsome, bnone, gi_s, gj_s, gr_s, gv_s, ik_, jk_, il_, jl_, rl_, i2_, i2_a, i2_b, j2_, j2_a, j2_b, i2d_, i2d_a, i2d_b, j2d_, j2d_a, j2d_b, i1_, i1_a, j1_, j1_a, i2l_, i2l_a, l2i_, l2i_a, fgi_, fgi_a, fgj_, fgj_a, fgr_, fgr_a, iald_, iald_a, iald_b, zald_, zald_a, zald_b, jald_, jald_a, jald_b, rald_, rald_a, rald_b, alen_, alen_a, sald_, sald_a, ic_, ic_a, jc_, jc_a, bc_, bc_a, bc_b, bj_, bj_a, bj_b, bz_, bz_a, band_, band_a, bor_, bor_a, bnot_, bnot_a, anil_, ai_, ai_a, ai_b, aj_, aj_a, aj_b, ar_, ar_a, ar_b, kb2i_, cvi_, cvi_a, cvi_b, cvj_, cvj_a, cvj_b, cvz_, cvz_a, cvz_b, csi_, csi_a, csj_, csj_a, csz_, csz_a, snop_, sseq_, sseq_n, sseq_s, sif_, sif_a, scut_, scut_a, ssi_, ssi_a, ssj_, ssj_a, ssr_, ssr_a, sinc_, sinc_a, sret_, sret_a, sretj_, sretj_a, sretv_, spop_, spop_a, kc_scv_, scv_, scv_a, scv_b, scs_, scs_a, fpi_, fpi_a, fpi_b, fpj_, fpj_a, fpj_b, foi_, foi_a, foi_b, foj_, foj_a, foj_b, aii_, aii_a, aii_b, aii_c, aiz_, aiz_a, aiz_b, aiz_c, aij_, aij_a, aij_b, aij_c, aoi_, aoi_a, aoi_b, aoi_c, aoj_, aoj_a, aoj_b, aoj_c, scopy_, scopy_a, scopy_b, scopy_c, scopy_d, scopy_e, ssw_, ssw_a, sel_n, sel_c, mfi_, mfi_a, mfj_, mfj_a, mfz_, mfz_a, kb_mfv_, mfv_, mfv_a, cut, lset, lset2, isL, Value.category, ent, entn, if_some, if_pair, if_cons, if_int, if_long, if_ref, ite_self, gz_b, ↓icb, ↓icb2, b2i_ne, ge0, ge1, ge2, ge3, ge4, ge5, ge6, ge7, ge8, ge9, ge10, ge11, ge12, ge13, ge14, lit32, nI_add, pk_mul, clt_nI, cle_nI, cgt_nI, cge_nI, ceq_nI, cne_nI, inr_nI, nI_clamp, nI_eq, nI_leI, nI_ltI, a_kb hb, a_9 hb, a_10 hb, a_11 hb, a_12 hb, a_13 hb, a_k1 hb, a_l1 hb, a_k7 hb, a_l7 hb, a_k18 hb, a_l18 hb, a_k22 hb, a_l22 hb, a_k29 hb, a_l29 hb, a_rc hb, a_kc hb, a_lc hb, a_rt hb, a_kt hb, a_lt hb, a_rp hb, a_kp hb, a_lp hb, a_rw hb, a_kw hb, a_lw hb, k97, f97_0, k61, m0, m1, m7, m8]
      · have q7' : 0 < pX X p 7 := by omega
        have q8 : ¬ pX X p 7 * 1000 ≤ rdN k r (pX X p 0) := by omega
        simp -implicitDefEqProofs (disch := omega) [wX6_tripPumps_1, kp_, bsome, bnone, gi_s, gj_s, gr_s, gv_s, ik_, jk_, il_, jl_, rl_, i2_, i2_a, i2_b, j2_, j2_a, j2_b, i2d_, i2d_a, i2d_b, j2d_, j2d_a, j2d_b, i1_, i1_a, j1_, j1_a, i2l_, i2l_a, l2i_, l2i_a, fgi_, fgi_a, fgj_, fgj_a, fgr_, fgr_a, iald_, iald_a, iald_b, zald_, zald_a, zald_b, jald_, jald_a, jald_b, rald_, rald_a, rald_b, alen_, alen_a, sald_, sald_a, ic_, ic_a, jc_, jc_a, bc_, bc_a, bc_b, bj_, bj_a, bj_b, bz_, bz_a, band_, band_a, bor_, bor_a, bnot_, bnot_a, anil_, ai_, ai_a, ai_b, aj_, aj_a, aj_b, ar_, ar_a, ar_b, kb2i_, cvi_, cvi_a, cvi_b, cvj_, cvj_a, cvj_b, cvz_, cvz_a, cvz_b, csi_, csi_a, csj_, csj_a, csz_, csz_a, snop_, sseq_, sseq_n, sseq_s, sif_, sif_a, scut_, scut_a, ssi_, ssi_a, ssj_, ssj_a, ssr_, ssr_a, sinc_, sinc_a, sret_, sret_a, sretj_, sretj_a, sretv_, spop_, spop_a, kc_scv_, scv_, scv_a, scv_b, scs_, scs_a, fpi_, fpi_a, fpi_b, fpj_, fpj_a, fpj_b, foi_, foi_a, foi_b, foj_, foj_a, foj_b, aii_, aii_a, aii_b, aii_c, aiz_, aiz_a, aiz_b, aiz_c, aij_, aij_a, aij_b, aij_c, aoi_, aoi_a, aoi_b, aoi_c, aoj_, aoj_a, aoj_b, aoj_c, scopy_, scopy_a, scopy_b, scopy_c, scopy_d, scopy_e, ssw_, ssw_a, sel_n, sel_c, mfi_, mfi_a, mfj_, mfj_a, mfz_, mfz_a, kb_mfv_, mfv_, mfv_a, cut, lset, lset2, isL, Value.category, ent, entn, if_some, if_pair, if_cons, if_int, if_long, if_ref, ite_self, gz_b, ↓icb, ↓icb2, b2i_ne, ge0, ge1, ge2, ge3, ge4, ge5, ge6, ge7, ge8, ge9, ge10, ge11, ge12, ge13, ge14, lit32, nI_add, pk_mul, clt_nI, cle_nI, cgt_nI, cge_nI, ceq_nI, cne_nI, inr_nI, nI_clamp, nI_eq, nI_leI, nI_ltI, a_kb hb, a_9 hb, a_10 hb, a_11 hb, a_12 hb, a_13 hb, a_k1 hb, a_l1 hb, a_k7 hb, a_l7 hb, a_k18 hb, a_l18 hb, a_k22 hb, a_l22 hb, a_k29 hb, a_l29 hb, a_rc hb, a_kc hb, a_lc hb, a_rt hb, a_kt hb, a_lt hb, a_rp hb, a_kp hb, a_lp hb, a_rw hb, a_kw hb, a_lw hb, k97, f97_0, k61, m0, m1, m7, m8, q7', ga, q8]
    · rw [show pX X p 1 = 0 by omega] at m1
      simp -implicitDefEqProofs (disch := omega) [wX6_tripPumps_1, kp_, bsome, bnone, gi_s, gj_s, gr_s, gv_s, ik_, jk_, il_, jl_, rl_, i2_, i2_a, i2_b, j2_, j2_a, j2_b, i2d_, i2d_a, i2d_b, j2d_, j2d_a, j2d_b, i1_, i1_a, j1_, j1_a, i2l_, i2l_a, l2i_, l2i_a, fgi_, fgi_a, fgj_, fgj_a, fgr_, fgr_a, iald_, iald_a, iald_b, zald_, zald_a, zald_b, jald_, jald_a, jald_b, rald_, rald_a, rald_b, alen_, alen_a, sald_, sald_a, ic_, ic_a, jc_, jc_a, bc_, bc_a, bc_b, bj_, bj_a, bj_b, bz_, bz_a, band_, band_a, bor_, bor_a, bnot_, bnot_a, anil_, ai_, ai_a, ai_b, aj_, aj_a, aj_b, ar_, ar_a, ar_b, kb2i_, cvi_, cvi_a, cvi_b, cvj_, cvj_a, cvj_b, cvz_, cvz_a, cvz_b, csi_, csi_a, csj_, csj_a, csz_, csz_a, snop_, sseq_, sseq_n, sseq_s, sif_, sif_a, scut_, scut_a, ssi_, ssi_a, ssj_, ssj_a, ssr_, ssr_a, sinc_, sinc_a, sret_, sret_a, sretj_, sretj_a, sretv_, spop_, spop_a, kc_scv_, scv_, scv_a, scv_b, scs_, scs_a, fpi_, fpi_a, fpi_b, fpj_, fpj_a, fpj_b, foi_, foi_a, foi_b, foj_, foj_a, foj_b, aii_, aii_a, aii_b, aii_c, aiz_, aiz_a, aiz_b, aiz_c, aij_, aij_a, aij_b, aij_c, aoi_, aoi_a, aoi_b, aoi_c, aoj_, aoj_a, aoj_b, aoj_c, scopy_, scopy_a, scopy_b, scopy_c, scopy_d, scopy_e, ssw_, ssw_a, sel_n, sel_c, mfi_, mfi_a, mfj_, mfj_a, mfz_, mfz_a, kb_mfv_, mfv_, mfv_a, cut, lset, lset2, isL, Value.category, ent, entn, if_some, if_pair, if_cons, if_int, if_long, if_ref, ite_self, gz_b, ↓icb, ↓icb2, b2i_ne, ge0, ge1, ge2, ge3, ge4, ge5, ge6, ge7, ge8, ge9, ge10, ge11, ge12, ge13, ge14, lit32, nI_add, pk_mul, clt_nI, cle_nI, cgt_nI, cge_nI, ceq_nI, cne_nI, inr_nI, nI_clamp, nI_eq, nI_leI, nI_ltI, a_kb hb, a_9 hb, a_10 hb, a_11 hb, a_12 hb, a_13 hb, a_k1 hb, a_l1 hb, a_k7 hb, a_l7 hb, a_k18 hb, a_l18 hb, a_k22 hb, a_l22 hb, a_k29 hb, a_l29 hb, a_rc hb, a_kc hb, a_lc hb, a_rt hb, a_kt hb, a_lt hb, a_rp hb, a_kp hb, a_lp hb, a_rw hb, a_kw hb, a_lw hb, k97, f97_0, k61, m0, m1, m7, m8]
  | true =>
    have nT : (pX X p 1 = 1 ∧ 1 ≤ pX X p 7 ∧ 1000 * pX X p 7 ≤ rdN k r (pX X p 0)) := by
      rw [hT] at eT
      exact of_decide_eq_true eT
    obtain ⟨q1, q7, q8⟩ := nT
    rw [q1] at m1
    have q7' : 0 < pX X p 7 := by omega
    have q8' : pX X p 7 * 1000 ≤ rdN k r (pX X p 0) := by omega
    have eM : nI (msk T p) ||| oshl (nI 1) (nI p) = nI (msk T (p + 1)) := by
      rw [nI_shl p (by omega), nI_or]
      simp only [msk, eT, if_true]
    have s1 := hL.runs (v := nI 0) hB9.1 hB9.2.1 hB9.2.2.1 hB9.2.2.2.1 hp 1 (by decide)
    have s2 := s1.runs (v := X (68 + 9 * p + 8) + nI 1) hB9.1 hB9.2.1 hB9.2.2.1 hB9.2.2.2.1 hp 8 (by decide)
    rw [tpX_t eT] at s2
    have m8' : (wi Q (b + 19 + p) 1 (nI 0)).1 (b + 19 + p) 8 = X (68 + 9 * p + 8) := by rw [wi_ns (by decide)]; exact m8
    have h98' : (wi (wi Q (b + 19 + p) 1 (nI 0)) (b + 19 + p) 8 (X (68 + 9 * p + 8) + nI 1)).1 97 1 = nI (msk T p) := by rw [wi_ne (by omega), wi_ne (by omega)]; exact h98
    refine ⟨wi (wi (wi Q (b + 19 + p) 1 (nI 0)) (b + 19 + p) 8 (X (68 + 9 * p + 8) + nI 1)) 97 1 (nI (msk T (p + 1))), ?_, s2.frame hB9.1 hB9.2.1 hB9.2.2.1 hB9.2.2.2.1 (fun a z1 z2 => wi_ne (by omega)), hB.frame (fun a _ z1 z2 => by rw [wi_ne (by omega), wi_ne (by omega), wi_ne (by omega)]) (fun _ _ _ => rfl), wi_at, fun a z1 z2 => by rw [wi_ne z2, wi_ne (by omega), wi_ne (by omega)], rfl⟩
    rw [← eM]
    simp -implicitDefEqProofs (disch := omega) [wX6_tripPumps_1, kp_, bsome, bnone, gi_s, gj_s, gr_s, gv_s, ik_, jk_, il_, jl_, rl_, i2_, i2_a, i2_b, j2_, j2_a, j2_b, i2d_, i2d_a, i2d_b, j2d_, j2d_a, j2d_b, i1_, i1_a, j1_, j1_a, i2l_, i2l_a, l2i_, l2i_a, fgi_, fgi_a, fgj_, fgj_a, fgr_, fgr_a, iald_, iald_a, iald_b, zald_, zald_a, zald_b, jald_, jald_a, jald_b, rald_, rald_a, rald_b, alen_, alen_a, sald_, sald_a, ic_, ic_a, jc_, jc_a, bc_, bc_a, bc_b, bj_, bj_a, bj_b, bz_, bz_a, band_, band_a, bor_, bor_a, bnot_, bnot_a, anil_, ai_, ai_a, ai_b, aj_, aj_a, aj_b, ar_, ar_a, ar_b, kb2i_, cvi_, cvi_a, cvi_b, cvj_, cvj_a, cvj_b, cvz_, cvz_a, cvz_b, csi_, csi_a, csj_, csj_a, csz_, csz_a, snop_, sseq_, sseq_n, sseq_s, sif_, sif_a, scut_, scut_a, ssi_, ssi_a, ssj_, ssj_a, ssr_, ssr_a, sinc_, sinc_a, sret_, sret_a, sretj_, sretj_a, sretv_, spop_, spop_a, kc_scv_, scv_, scv_a, scv_b, scs_, scs_a, fpi_, fpi_a, fpi_b, fpj_, fpj_a, fpj_b, foi_, foi_a, foi_b, foj_, foj_a, foj_b, aii_, aii_a, aii_b, aii_c, aiz_, aiz_a, aiz_b, aiz_c, aij_, aij_a, aij_b, aij_c, aoi_, aoi_a, aoi_b, aoi_c, aoj_, aoj_a, aoj_b, aoj_c, scopy_, scopy_a, scopy_b, scopy_c, scopy_d, scopy_e, ssw_, ssw_a, sel_n, sel_c, mfi_, mfi_a, mfj_, mfj_a, mfz_, mfz_a, kb_mfv_, mfv_, mfv_a, cut, lset, lset2, isL, Value.category, ent, entn, if_some, if_pair, if_cons, if_int, if_long, if_ref, ite_self, gz_b, ↓icb, ↓icb2, b2i_ne, ge0, ge1, ge2, ge3, ge4, ge5, ge6, ge7, ge8, ge9, ge10, ge11, ge12, ge13, ge14, lit32, nI_add, pk_mul, clt_nI, cle_nI, cgt_nI, cge_nI, ceq_nI, cne_nI, inr_nI, nI_clamp, nI_eq, nI_leI, nI_ltI, a_kb hb, a_9 hb, a_10 hb, a_11 hb, a_12 hb, a_13 hb, a_k1 hb, a_l1 hb, a_k7 hb, a_l7 hb, a_k18 hb, a_l18 hb, a_k22 hb, a_l22 hb, a_k29 hb, a_l29 hb, a_rc hb, a_kc hb, a_lc hb, a_rt hb, a_kt hb, a_lt hb, a_rp hb, a_kp hb, a_lp hb, a_rw hb, a_kw hb, a_lw hb, k97, f97_0, k61, m0, m1, m7, q7', ga, q8', m8', h98']
set_option maxRecDepth 20000 in
theorem c_trips (hL : Lr P b X nc nt np nw tm) (hv : Vx X nc nt np nw tm) (hb63 : b + 30 ≤ 61) (hn : Nh P b) (hI : BInv P) : ∃ Q, DX6_tripPumps [.ref 97, .ref b] P = some Q ∧ Lr Q b (tpX X (tpT X (kyN X nc nt np 9 0)) np) nc nt np nw tm ∧ Nh Q b ∧ BInv Q ∧ CP b P Q ∧ Q.1 97 1 = nI (msk (tpT X (kyN X nc nt np 9 0)) np) := by
  have hb := hL.1
  have hB := hv.2.1
  have l0 : Lr (wi P 97 1 (nI 0)) b X nc nt np nw tm := hL.frame hB.1 hB.2.1 hB.2.2.1 hB.2.2.2.1 (fun a z1 z2 => wi_ne (by omega))
  have n0 : Nh (wi P 97 1 (nI 0)) b := by unfold Nh; rw [wi_ne (by omega)]; exact hn
  have i0 : BInv (wi P 97 1 (nI 0)) := hI.frame (fun a _ z1 z2 => wi_ne (by omega)) (fun _ _ _ => rfl)
  obtain ⟨R, s1, s2, s3⟩ := c_bal l0 hv (by omega) (Or.inl ⟨rfl, rfl⟩) (Or.inl ⟨n0.1, n0.2, rfl, rfl⟩) i0
  have lR : Lr R b X nc nt np nw tm := l0.frame hB.1 hB.2.1 hB.2.2.1 hB.2.2.2.1 (fun a z1 z2 => (s3 a (by omega)).1)
  have nR : Nh R b := by unfold Nh; rw [(s3 b (by omega)).1]; exact n0
  have r98 : R.1 97 1 = nI 0 := by rw [(s3 97 (by omega)).1]; exact wi_at
  have cR : CP b P R := fun a ha => ⟨by rw [(s3 a (by omega)).1, wi_ne (by omega)], by rw [(s3 a (by omega)).2]; rfl⟩
  obtain ⟨k, ek⟩ : ∃ k, k = kyN X nc nt np 9 0 := ⟨_, rfl⟩
  have k0 : k 0 = nc := by rw [ek]; exact ky_0
  rw [← ek] at s2 ⊢
  cases ef : fR (kok k) 27 with
  | none =>
    have eT : tpT X k = fun _ => false := by unfold tpT; rw [ef]
    have g := c_hunts1 s2 ef
    have eX : tpX X (fun _ => false) np = X := by
      funext i
      unfold tpX
      rw [if_neg (fun q => by cases q.2.2)]
    have eM : ∀ n, msk (fun _ => false) n = 0 := by
      intro n
      induction n with
      | zero => rfl
      | succ n ih => simp [msk, ih]
    rw [eT, eX, eM]
    have lw : swh qX6_tripPumps_1 wX6_tripPumps_1 [.ref 97, .ref b, .int (nI 0), .null] R = some (none, [.ref 97, .ref b, .int (nI 0), .null], R) := by
      refine swh_f ?_
      have n2 := lR.2.1.2.2.1
      by_cases z : 0 < np
      · simp -implicitDefEqProofs (disch := omega) [qX6_tripPumps_1, kp_, bsome, bnone, gi_s, gj_s, gr_s, gv_s, ik_, jk_, il_, jl_, rl_, i2_, i2_a, i2_b, j2_, j2_a, j2_b, i2d_, i2d_a, i2d_b, j2d_, j2d_a, j2d_b, i1_, i1_a, j1_, j1_a, i2l_, i2l_a, l2i_, l2i_a, fgi_, fgi_a, fgj_, fgj_a, fgr_, fgr_a, iald_, iald_a, iald_b, zald_, zald_a, zald_b, jald_, jald_a, jald_b, rald_, rald_a, rald_b, alen_, alen_a, sald_, sald_a, ic_, ic_a, jc_, jc_a, bc_, bc_a, bc_b, bj_, bj_a, bj_b, bz_, bz_a, band_, band_a, bor_, bor_a, bnot_, bnot_a, anil_, ai_, ai_a, ai_b, aj_, aj_a, aj_b, ar_, ar_a, ar_b, kb2i_, cvi_, cvi_a, cvi_b, cvj_, cvj_a, cvj_b, cvz_, cvz_a, cvz_b, csi_, csi_a, csj_, csj_a, csz_, csz_a, snop_, sseq_, sseq_n, sseq_s, sif_, sif_a, scut_, scut_a, ssi_, ssi_a, ssj_, ssj_a, ssr_, ssr_a, sinc_, sinc_a, sret_, sret_a, sretj_, sretj_a, sretv_, spop_, spop_a, kc_scv_, scv_, scv_a, scv_b, scs_, scs_a, fpi_, fpi_a, fpi_b, fpj_, fpj_a, fpj_b, foi_, foi_a, foi_b, foj_, foj_a, foj_b, aii_, aii_a, aii_b, aii_c, aiz_, aiz_a, aiz_b, aiz_c, aij_, aij_a, aij_b, aij_c, aoi_, aoi_a, aoi_b, aoi_c, aoj_, aoj_a, aoj_b, aoj_c, scopy_, scopy_a, scopy_b, scopy_c, scopy_d, scopy_e, ssw_, ssw_a, sel_n, sel_c, mfi_, mfi_a, mfj_, mfj_a, mfz_, mfz_a, kb_mfv_, mfv_, mfv_a, cut, lset, lset2, isL, Value.category, ent, entn, if_some, if_pair, if_cons, if_int, if_long, if_ref, ite_self, gz_b, ↓icb, ↓icb2, b2i_ne, ge0, ge1, ge2, ge3, ge4, ge5, ge6, ge7, ge8, ge9, ge10, ge11, ge12, ge13, ge14, lit32, nI_add, pk_mul, clt_nI, cle_nI, cgt_nI, cge_nI, ceq_nI, cne_nI, inr_nI, nI_clamp, nI_eq, nI_leI, nI_ltI, a_kb hb, a_9 hb, a_10 hb, a_11 hb, a_12 hb, a_13 hb, a_k1 hb, a_l1 hb, a_k7 hb, a_l7 hb, a_k18 hb, a_l18 hb, a_k22 hb, a_l22 hb, a_k29 hb, a_l29 hb, a_rc hb, a_kc hb, a_lc hb, a_rt hb, a_kt hb, a_lt hb, a_rp hb, a_kp hb, a_lp hb, a_rw hb, a_kw hb, a_lw hb, k97, f97_0, k61, n2, z, g]
      · simp -implicitDefEqProofs (disch := omega) [qX6_tripPumps_1, kp_, bsome, bnone, gi_s, gj_s, gr_s, gv_s, ik_, jk_, il_, jl_, rl_, i2_, i2_a, i2_b, j2_, j2_a, j2_b, i2d_, i2d_a, i2d_b, j2d_, j2d_a, j2d_b, i1_, i1_a, j1_, j1_a, i2l_, i2l_a, l2i_, l2i_a, fgi_, fgi_a, fgj_, fgj_a, fgr_, fgr_a, iald_, iald_a, iald_b, zald_, zald_a, zald_b, jald_, jald_a, jald_b, rald_, rald_a, rald_b, alen_, alen_a, sald_, sald_a, ic_, ic_a, jc_, jc_a, bc_, bc_a, bc_b, bj_, bj_a, bj_b, bz_, bz_a, band_, band_a, bor_, bor_a, bnot_, bnot_a, anil_, ai_, ai_a, ai_b, aj_, aj_a, aj_b, ar_, ar_a, ar_b, kb2i_, cvi_, cvi_a, cvi_b, cvj_, cvj_a, cvj_b, cvz_, cvz_a, cvz_b, csi_, csi_a, csj_, csj_a, csz_, csz_a, snop_, sseq_, sseq_n, sseq_s, sif_, sif_a, scut_, scut_a, ssi_, ssi_a, ssj_, ssj_a, ssr_, ssr_a, sinc_, sinc_a, sret_, sret_a, sretj_, sretj_a, sretv_, spop_, spop_a, kc_scv_, scv_, scv_a, scv_b, scs_, scs_a, fpi_, fpi_a, fpi_b, fpj_, fpj_a, fpj_b, foi_, foi_a, foi_b, foj_, foj_a, foj_b, aii_, aii_a, aii_b, aii_c, aiz_, aiz_a, aiz_b, aiz_c, aij_, aij_a, aij_b, aij_c, aoi_, aoi_a, aoi_b, aoi_c, aoj_, aoj_a, aoj_b, aoj_c, scopy_, scopy_a, scopy_b, scopy_c, scopy_d, scopy_e, ssw_, ssw_a, sel_n, sel_c, mfi_, mfi_a, mfj_, mfj_a, mfz_, mfz_a, kb_mfv_, mfv_, mfv_a, cut, lset, lset2, isL, Value.category, ent, entn, if_some, if_pair, if_cons, if_int, if_long, if_ref, ite_self, gz_b, ↓icb, ↓icb2, b2i_ne, ge0, ge1, ge2, ge3, ge4, ge5, ge6, ge7, ge8, ge9, ge10, ge11, ge12, ge13, ge14, lit32, nI_add, pk_mul, clt_nI, cle_nI, cgt_nI, cge_nI, ceq_nI, cne_nI, inr_nI, nI_clamp, nI_eq, nI_leI, nI_ltI, a_kb hb, a_9 hb, a_10 hb, a_11 hb, a_12 hb, a_13 hb, a_k1 hb, a_l1 hb, a_k7 hb, a_l7 hb, a_k18 hb, a_l18 hb, a_k22 hb, a_l22 hb, a_k29 hb, a_l29 hb, a_rc hb, a_kc hb, a_lc hb, a_rt hb, a_kt hb, a_lt hb, a_rp hb, a_kp hb, a_lp hb, a_rw hb, a_kw hb, a_lw hb, k97, f97_0, k61, n2, z, g]
    refine ⟨R, ?_, lR, nR, Or.inr ⟨_, s2⟩, cR, r98⟩
    simp -implicitDefEqProofs (disch := omega) [DX6_tripPumps, EX6_tripPumps, kp_, bsome, bnone, gi_s, gj_s, gr_s, gv_s, ik_, jk_, il_, jl_, rl_, i2_, i2_a, i2_b, j2_, j2_a, j2_b, i2d_, i2d_a, i2d_b, j2d_, j2d_a, j2d_b, i1_, i1_a, j1_, j1_a, i2l_, i2l_a, l2i_, l2i_a, fgi_, fgi_a, fgj_, fgj_a, fgr_, fgr_a, iald_, iald_a, iald_b, zald_, zald_a, zald_b, jald_, jald_a, jald_b, rald_, rald_a, rald_b, alen_, alen_a, sald_, sald_a, ic_, ic_a, jc_, jc_a, bc_, bc_a, bc_b, bj_, bj_a, bj_b, bz_, bz_a, band_, band_a, bor_, bor_a, bnot_, bnot_a, anil_, ai_, ai_a, ai_b, aj_, aj_a, aj_b, ar_, ar_a, ar_b, kb2i_, cvi_, cvi_a, cvi_b, cvj_, cvj_a, cvj_b, cvz_, cvz_a, cvz_b, csi_, csi_a, csj_, csj_a, csz_, csz_a, snop_, sseq_, sseq_n, sseq_s, sif_, sif_a, scut_, scut_a, ssi_, ssi_a, ssj_, ssj_a, ssr_, ssr_a, sinc_, sinc_a, sret_, sret_a, sretj_, sretj_a, sretv_, spop_, spop_a, kc_scv_, scv_, scv_a, scv_b, scs_, scs_a, fpi_, fpi_a, fpi_b, fpj_, fpj_a, fpj_b, foi_, foi_a, foi_b, foj_, foj_a, foj_b, aii_, aii_a, aii_b, aii_c, aiz_, aiz_a, aiz_b, aiz_c, aij_, aij_a, aij_b, aij_c, aoi_, aoi_a, aoi_b, aoi_c, aoj_, aoj_a, aoj_b, aoj_c, scopy_, scopy_a, scopy_b, scopy_c, scopy_d, scopy_e, ssw_, ssw_a, sel_n, sel_c, mfi_, mfi_a, mfj_, mfj_a, mfz_, mfz_a, kb_mfv_, mfv_, mfv_a, cut, lset, lset2, isL, Value.category, ent, entn, if_some, if_pair, if_cons, if_int, if_long, if_ref, ite_self, gz_b, ↓icb, ↓icb2, b2i_ne, ge0, ge1, ge2, ge3, ge4, ge5, ge6, ge7, ge8, ge9, ge10, ge11, ge12, ge13, ge14, lit32, nI_add, pk_mul, clt_nI, cle_nI, cgt_nI, cge_nI, ceq_nI, cne_nI, inr_nI, nI_clamp, nI_eq, nI_leI, nI_ltI, k97, f97_0, k61, s1, lw]
  | some r =>
    have eT : tpT X k = tpB X k r := by unfold tpT; rw [ef]
    rw [eT]
    obtain ⟨T, hT⟩ : ∃ T, T = tpB X k r := ⟨_, rfl⟩
    rw [← hT]
    obtain ⟨Q, l1, y1, y2, y3, y4, y5⟩ := swh_inv (c := qX6_tripPumps_1) (b := wX6_tripPumps_1) (fun p => [.ref 97, .ref b, .int (nI p), .null]) (fun p Q => Lr Q b (tpX X T p) nc nt np nw tm ∧ BAt Q k ∧ Q.1 97 1 = nI (msk T p) ∧ (∀ a, ¬ (b < a ∧ a < b + 30) → a ≠ 97 → Q.1 a = R.1 a) ∧ Q.2 = R.2) np
      (fun p hp Q hQ => by
        have n2 := hQ.1.2.1.2.2.1
        have g := c_hunts0 hQ.2.1 ef
        simp -implicitDefEqProofs (disch := omega) [qX6_tripPumps_1, kp_, bsome, bnone, gi_s, gj_s, gr_s, gv_s, ik_, jk_, il_, jl_, rl_, i2_, i2_a, i2_b, j2_, j2_a, j2_b, i2d_, i2d_a, i2d_b, j2d_, j2d_a, j2d_b, i1_, i1_a, j1_, j1_a, i2l_, i2l_a, l2i_, l2i_a, fgi_, fgi_a, fgj_, fgj_a, fgr_, fgr_a, iald_, iald_a, iald_b, zald_, zald_a, zald_b, jald_, jald_a, jald_b, rald_, rald_a, rald_b, alen_, alen_a, sald_, sald_a, ic_, ic_a, jc_, jc_a, bc_, bc_a, bc_b, bj_, bj_a, bj_b, bz_, bz_a, band_, band_a, bor_, bor_a, bnot_, bnot_a, anil_, ai_, ai_a, ai_b, aj_, aj_a, aj_b, ar_, ar_a, ar_b, kb2i_, cvi_, cvi_a, cvi_b, cvj_, cvj_a, cvj_b, cvz_, cvz_a, cvz_b, csi_, csi_a, csj_, csj_a, csz_, csz_a, snop_, sseq_, sseq_n, sseq_s, sif_, sif_a, scut_, scut_a, ssi_, ssi_a, ssj_, ssj_a, ssr_, ssr_a, sinc_, sinc_a, sret_, sret_a, sretj_, sretj_a, sretv_, spop_, spop_a, kc_scv_, scv_, scv_a, scv_b, scs_, scs_a, fpi_, fpi_a, fpi_b, fpj_, fpj_a, fpj_b, foi_, foi_a, foi_b, foj_, foj_a, foj_b, aii_, aii_a, aii_b, aii_c, aiz_, aiz_a, aiz_b, aiz_c, aij_, aij_a, aij_b, aij_c, aoi_, aoi_a, aoi_b, aoi_c, aoj_, aoj_a, aoj_b, aoj_c, scopy_, scopy_a, scopy_b, scopy_c, scopy_d, scopy_e, ssw_, ssw_a, sel_n, sel_c, mfi_, mfi_a, mfj_, mfj_a, mfz_, mfz_a, kb_mfv_, mfv_, mfv_a, cut, lset, lset2, isL, Value.category, ent, entn, if_some, if_pair, if_cons, if_int, if_long, if_ref, ite_self, gz_b, ↓icb, ↓icb2, b2i_ne, ge0, ge1, ge2, ge3, ge4, ge5, ge6, ge7, ge8, ge9, ge10, ge11, ge12, ge13, ge14, lit32, nI_add, pk_mul, clt_nI, cle_nI, cgt_nI, cge_nI, ceq_nI, cne_nI, inr_nI, nI_clamp, nI_eq, nI_leI, nI_ltI, a_kb hb, a_9 hb, a_10 hb, a_11 hb, a_12 hb, a_13 hb, a_k1 hb, a_l1 hb, a_k7 hb, a_l7 hb, a_k18 hb, a_l18 hb, a_k22 hb, a_l22 hb, a_k29 hb, a_l29 hb, a_rc hb, a_kc hb, a_lc hb, a_rt hb, a_kt hb, a_lt hb, a_rp hb, a_kp hb, a_lp hb, a_rw hb, a_kw hb, a_lw hb, k97, f97_0, k61, n2, hp, g])
      (fun p hp Q hQ => by
        obtain ⟨y1, y2, y3, y4, y5⟩ := hQ
        obtain ⟨S, e, z1, z2, z3, z4, z5⟩ := c_tripL hv ef k0 hT hp y1 hb63 y2 y3
        exact ⟨S, e, z1, z2, z3, fun a h1 h2 => (z4 a h1 h2).trans (y4 a h1 h2), z5.trans y5⟩)
      (fun Q hQ => by
        have n2 := hQ.1.2.1.2.2.1
        have g := c_hunts0 hQ.2.1 ef
        simp -implicitDefEqProofs (disch := omega) [qX6_tripPumps_1, kp_, bsome, bnone, gi_s, gj_s, gr_s, gv_s, ik_, jk_, il_, jl_, rl_, i2_, i2_a, i2_b, j2_, j2_a, j2_b, i2d_, i2d_a, i2d_b, j2d_, j2d_a, j2d_b, i1_, i1_a, j1_, j1_a, i2l_, i2l_a, l2i_, l2i_a, fgi_, fgi_a, fgj_, fgj_a, fgr_, fgr_a, iald_, iald_a, iald_b, zald_, zald_a, zald_b, jald_, jald_a, jald_b, rald_, rald_a, rald_b, alen_, alen_a, sald_, sald_a, ic_, ic_a, jc_, jc_a, bc_, bc_a, bc_b, bj_, bj_a, bj_b, bz_, bz_a, band_, band_a, bor_, bor_a, bnot_, bnot_a, anil_, ai_, ai_a, ai_b, aj_, aj_a, aj_b, ar_, ar_a, ar_b, kb2i_, cvi_, cvi_a, cvi_b, cvj_, cvj_a, cvj_b, cvz_, cvz_a, cvz_b, csi_, csi_a, csj_, csj_a, csz_, csz_a, snop_, sseq_, sseq_n, sseq_s, sif_, sif_a, scut_, scut_a, ssi_, ssi_a, ssj_, ssj_a, ssr_, ssr_a, sinc_, sinc_a, sret_, sret_a, sretj_, sretj_a, sretv_, spop_, spop_a, kc_scv_, scv_, scv_a, scv_b, scs_, scs_a, fpi_, fpi_a, fpi_b, fpj_, fpj_a, fpj_b, foi_, foi_a, foi_b, foj_, foj_a, foj_b, aii_, aii_a, aii_b, aii_c, aiz_, aiz_a, aiz_b, aiz_c, aij_, aij_a, aij_b, aij_c, aoi_, aoi_a, aoi_b, aoi_c, aoj_, aoj_a, aoj_b, aoj_c, scopy_, scopy_a, scopy_b, scopy_c, scopy_d, scopy_e, ssw_, ssw_a, sel_n, sel_c, mfi_, mfi_a, mfj_, mfj_a, mfz_, mfz_a, kb_mfv_, mfv_, mfv_a, cut, lset, lset2, isL, Value.category, ent, entn, if_some, if_pair, if_cons, if_int, if_long, if_ref, ite_self, gz_b, ↓icb, ↓icb2, b2i_ne, ge0, ge1, ge2, ge3, ge4, ge5, ge6, ge7, ge8, ge9, ge10, ge11, ge12, ge13, ge14, lit32, nI_add, pk_mul, clt_nI, cle_nI, cgt_nI, cge_nI, ceq_nI, cne_nI, inr_nI, nI_clamp, nI_eq, nI_leI, nI_ltI, a_kb hb, a_9 hb, a_10 hb, a_11 hb, a_12 hb, a_13 hb, a_k1 hb, a_l1 hb, a_k7 hb, a_l7 hb, a_k18 hb, a_l18 hb, a_k22 hb, a_l22 hb, a_k29 hb, a_l29 hb, a_rc hb, a_kc hb, a_lc hb, a_rt hb, a_kt hb, a_lt hb, a_rp hb, a_kp hb, a_lp hb, a_rw hb, a_kw hb, a_lw hb, k97, f97_0, k61, n2, g])
      R ⟨by rw [tpX_0]; exact lR, s2, by rw [r98]; rfl, fun _ _ _ => rfl, rfl⟩
    refine ⟨Q, ?_, y1, by unfold Nh; rw [y4 b (by omega) (by omega)]; exact nR, Or.inr ⟨_, y2⟩, cR.trans (fun a ha => ⟨y4 a (by omega) (by omega), by rw [y5]⟩), y3⟩
    simp -implicitDefEqProofs (disch := omega) [DX6_tripPumps, EX6_tripPumps, kp_, bsome, bnone, gi_s, gj_s, gr_s, gv_s, ik_, jk_, il_, jl_, rl_, i2_, i2_a, i2_b, j2_, j2_a, j2_b, i2d_, i2d_a, i2d_b, j2d_, j2d_a, j2d_b, i1_, i1_a, j1_, j1_a, i2l_, i2l_a, l2i_, l2i_a, fgi_, fgi_a, fgj_, fgj_a, fgr_, fgr_a, iald_, iald_a, iald_b, zald_, zald_a, zald_b, jald_, jald_a, jald_b, rald_, rald_a, rald_b, alen_, alen_a, sald_, sald_a, ic_, ic_a, jc_, jc_a, bc_, bc_a, bc_b, bj_, bj_a, bj_b, bz_, bz_a, band_, band_a, bor_, bor_a, bnot_, bnot_a, anil_, ai_, ai_a, ai_b, aj_, aj_a, aj_b, ar_, ar_a, ar_b, kb2i_, cvi_, cvi_a, cvi_b, cvj_, cvj_a, cvj_b, cvz_, cvz_a, cvz_b, csi_, csi_a, csj_, csj_a, csz_, csz_a, snop_, sseq_, sseq_n, sseq_s, sif_, sif_a, scut_, scut_a, ssi_, ssi_a, ssj_, ssj_a, ssr_, ssr_a, sinc_, sinc_a, sret_, sret_a, sretj_, sretj_a, sretv_, spop_, spop_a, kc_scv_, scv_, scv_a, scv_b, scs_, scs_a, fpi_, fpi_a, fpi_b, fpj_, fpj_a, fpj_b, foi_, foi_a, foi_b, foj_, foj_a, foj_b, aii_, aii_a, aii_b, aii_c, aiz_, aiz_a, aiz_b, aiz_c, aij_, aij_a, aij_b, aij_c, aoi_, aoi_a, aoi_b, aoi_c, aoj_, aoj_a, aoj_b, aoj_c, scopy_, scopy_a, scopy_b, scopy_c, scopy_d, scopy_e, ssw_, ssw_a, sel_n, sel_c, mfi_, mfi_a, mfj_, mfj_a, mfz_, mfz_a, kb_mfv_, mfv_, mfv_a, cut, lset, lset2, isL, Value.category, ent, entn, if_some, if_pair, if_cons, if_int, if_long, if_ref, ite_self, gz_b, ↓icb, ↓icb2, b2i_ne, ge0, ge1, ge2, ge3, ge4, ge5, ge6, ge7, ge8, ge9, ge10, ge11, ge12, ge13, ge14, lit32, nI_add, pk_mul, clt_nI, cle_nI, cgt_nI, cge_nI, ceq_nI, cne_nI, inr_nI, nI_clamp, nI_eq, nI_leI, nI_ltI, k97, f97_0, k61, s1, l1]
end
