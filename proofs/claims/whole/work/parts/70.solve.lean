/-! ===== the pressures told ===== -/
set_option maxRecDepth 20000 in
theorem wi_wi {M : Me} {a i : Nat} {x y : Int32} : wi (wi M a i x) a i y = wi M a i y := by
  unfold wi
  refine Prod.ext ?_ rfl
  funext q j
  simp only
  by_cases e : q = a ∧ j = i
  · simp [e]
  · simp [e]
theorem wj_wi {M : Me} {a i b j : Nat} {x : Int32} {y : Int64} : wj (wi M a i x) b j y = wi (wj M b j y) a i x := rfl
def BRow (M : Me) (k : Nat → Nat) : Prop := match fR (kok k) 27 with
  | none => M.1 61 8 = -(nI 1)
  | some r => M.1 61 8 = nI r ∧ M.2 61 11 = jI (2 * kdet k r) ∧ (∀ c, c < k 0 → M.2 96 c = jI (kup k r c)) ∧ M.1 61 9 = nI (msk (kEn k r) (k 0))
def BAt (M : Me) (k : Nat → Nat) : Prop := KV (M.1 62) k ∧ GK k ∧ BN M k ∧ (∀ q, q < 27 → BI M k q) ∧ BRow M k
def BInv (M : Me) : Prop := M.1 62 0 = -(nI 1) ∨ ∃ k, BAt M k
/-! outside of the balance -/
def SF (M N : Me) : Prop := ∀ a, ¬ (61 ≤ a ∧ a ≤ 96) → N.1 a = M.1 a ∧ N.2 a = M.2 a
section
variable {M : Me} {k : Nat → Nat} {r : Nat}
theorem SF.refl : SF M M := fun _ _ => ⟨rfl, rfl⟩
theorem SF.trans {N O : Me} (h : SF M N) (g : SF N O) : SF M O := fun a ha => ⟨(g a ha).1.trans (h a ha).1, (g a ha).2.trans (h a ha).2⟩
set_option maxRecDepth 20000 in
theorem c_tell (hk : KV (M.1 62) k) (hg : GK k) (hn : BN M k) (hr : r < 27) (hb : BP M k r) (h8 : M.1 61 8 = nI r) : ∃ N, DX0_tellPressures [.ref 61] M = some N ∧ N.2 61 11 = jI (2 * kdet k r) ∧ (∀ c, c < k 0 → N.2 96 c = jI (kup k r c)) ∧ N.1 61 9 = nI (msk (kEn k r) (k 0)) ∧ (∀ j, j ≠ 9 → N.1 61 j = M.1 61 j) ∧ (∀ a, a ≠ 61 → N.1 a = M.1 a) ∧ (∀ a, a ≠ 61 → a ≠ 96 → N.2 a = M.2 a) := by
  have n5 := hg.1
  have e0 := kv_r hk (i := 0) (by decide) (by decide)
  obtain ⟨B, eB⟩ : ∃ B : Me, B = wj M 61 11 (jI (2 * kdet k r)) := ⟨_, rfl⟩
  have b1 : B.1 = M.1 := by rw [eB]; rfl
  have b2 : ∀ a, a ≠ 61 → B.2 a = M.2 a := fun a ha => by rw [eB]; exact wj_ne ha
  obtain ⟨St, eSt⟩ : ∃ St : Nat → Me, St = fun c => wi (sJ B 96 c (fun c => jI (kup k r c))) 61 9 (nI (msk (kEn k r) c)) := ⟨_, rfl⟩
  have s1 : ∀ c a, a ≠ 61 → (St c).1 a = M.1 a := fun c a ha => by rw [eSt]; show (wi (sJ B 96 c _) 61 9 _).1 a = _; rw [wi_ne ha, sJ_1, b1]
  have s8 : ∀ c, (St c).1 61 8 = nI r := fun c => by rw [eSt]; show (wi (sJ B 96 c _) 61 9 _).1 61 8 = _; rw [wi_ns (by decide), sJ_1, b1]; exact h8
  have s9 : ∀ c, (St c).1 61 9 = nI (msk (kEn k r) c) := fun c => by rw [eSt]; exact wi_at
  have s2 : ∀ c a, a ≠ 61 → a ≠ 96 → (St c).2 a = M.2 a := fun c a h1 h2 => by rw [eSt]; show (wi (sJ B 96 c _) 61 9 _).2 a = _; rw [wi_2, sJ_ne h2, b2 a h1]
  have l1 := swh_count (c := qX0_tellPressures_1) (b := wX0_tellPressures_1) (fun c => [.ref 61, .int (nI c), .null]) St (k 0)
    (fun c hc => by
      have r0 : (St c).1 62 0 = nI (k 0) := by rw [s1 c 62 (by decide)]; exact e0
      simp -implicitDefEqProofs (disch := omega) [qX0_tellPressures_1, kp_, bsome, bnone, gi_s, gj_s, gr_s, gv_s, ik_, jk_, il_, jl_, rl_, i2_, i2_a, i2_b, j2_, j2_a, j2_b, i2d_, i2d_a, i2d_b, j2d_, j2d_a, j2d_b, i1_, i1_a, j1_, j1_a, i2l_, i2l_a, l2i_, l2i_a, fgi_, fgi_a, fgj_, fgj_a, fgr_, fgr_a, iald_, iald_a, iald_b, zald_, zald_a, zald_b, jald_, jald_a, jald_b, rald_, rald_a, rald_b, alen_, alen_a, sald_, sald_a, ic_, ic_a, jc_, jc_a, bc_, bc_a, bc_b, bj_, bj_a, bj_b, bz_, bz_a, band_, band_a, bor_, bor_a, bnot_, bnot_a, anil_, ai_, ai_a, ai_b, aj_, aj_a, aj_b, ar_, ar_a, ar_b, kb2i_, cvi_, cvi_a, cvi_b, cvj_, cvj_a, cvj_b, cvz_, cvz_a, cvz_b, csi_, csi_a, csj_, csj_a, csz_, csz_a, snop_, sseq_, sseq_n, sseq_s, sif_, sif_a, scut_, scut_a, ssi_, ssi_a, ssj_, ssj_a, ssr_, ssr_a, sinc_, sinc_a, sret_, sret_a, sretj_, sretj_a, sretv_, spop_, spop_a, kc_scv_, scv_, scv_a, scv_b, scs_, scs_a, fpi_, fpi_a, fpi_b, fpj_, fpj_a, fpj_b, foi_, foi_a, foi_b, foj_, foj_a, foj_b, aii_, aii_a, aii_b, aii_c, aiz_, aiz_a, aiz_b, aiz_c, aij_, aij_a, aij_b, aij_c, aoi_, aoi_a, aoi_b, aoi_c, aoj_, aoj_a, aoj_b, aoj_c, scopy_, scopy_a, scopy_b, scopy_c, scopy_d, scopy_e, ssw_, ssw_a, sel_n, sel_c, mfi_, mfi_a, mfj_, mfj_a, mfz_, mfz_a, kb_mfv_, mfv_, mfv_a, cut, lset, lset2, isL, Value.category, ent, entn, if_some, if_pair, if_cons, if_int, if_long, if_ref, ite_self, gz_b, ↓icb, ↓icb2, b2i_ne, ge0, ge1, ge2, ge3, ge4, ge5, ge6, ge7, ge8, ge9, ge10, ge11, ge12, ge13, ge14, lit32, nI_add, pk_mul, clt_nI, cle_nI, cgt_nI, cge_nI, ceq_nI, cne_nI, inr_nI, nI_clamp, nI_eq, nI_leI, nI_ltI, k61, f61_0, f61_1, f61_2, f61_3, f61_5, f61_6, f61_7, f61_10, k62, k63, k64, k92, k93, k94, k95, k96, l62, l63, l64, l92, l93, l94, l95, l96, f64_, k65_, l65_, r0, hc])
    (fun c hc => by
      have c5 : c < 5 := by omega
      have hkC : KV ((St c).1 62) k := by rw [s1 c 62 (by decide)]; exact hk
      have hnC : (St c).1 94 c = nI (knet k c) := by rw [s1 c 94 (by decide)]; exact hn c hc
      have st := c_isStill (M := St c) (P := fun c => !kF k r c) (c := c) (by rw [s1 c 93 (by decide)]; exact hb.1) n5 hr hc
      have t8 := s8 c
      have t9 := s9 c
      have nx : ∀ v, wj (St c) 96 c v = wi (wj (sJ B 96 c (fun c => jI (kup k r c))) 96 c v) 61 9 (nI (msk (kEn k r) c)) := fun v => by rw [eSt]; exact wj_wi
      have nx2 := wj_sJ_next (M := B) (a := 96) (n := c) (U := fun c => jI (kup k r c))
      have sh := nI_shl c (by omega)
      cases ef : kF k r c with
      | true =>
        have ua := c_upperAt (M := St c) hkC hg hr (fun p q hp hq => by rw [s2 c (65 + r) (by omega) (by omega)]; exact hb.2.2 p q hp hq) hc ef
        rw [ef] at st
        have nn := nx (jI (kup k r c))
        rw [nx2] at nn
        have en : msk (kEn k r) (c + 1) = msk (kEn k r) c := by
          simp only [msk]
          have : kEn k r c = false := by unfold kEn; rw [ef]; rfl
          rw [if_neg (by rw [this]; decide), Nat.or_zero]
        have es : wi (sJ B 96 (c + 1) (fun c => jI (kup k r c))) 61 9 (nI (msk (kEn k r) c)) = St (c + 1) := by rw [eSt]; show _ = wi (sJ B 96 (c + 1) _) 61 9 (nI (msk (kEn k r) (c + 1))); rw [en]
        rw [es] at nn
        simp -implicitDefEqProofs (disch := omega) [wX0_tellPressures_1, kp_, bsome, bnone, gi_s, gj_s, gr_s, gv_s, ik_, jk_, il_, jl_, rl_, i2_, i2_a, i2_b, j2_, j2_a, j2_b, i2d_, i2d_a, i2d_b, j2d_, j2d_a, j2d_b, i1_, i1_a, j1_, j1_a, i2l_, i2l_a, l2i_, l2i_a, fgi_, fgi_a, fgj_, fgj_a, fgr_, fgr_a, iald_, iald_a, iald_b, zald_, zald_a, zald_b, jald_, jald_a, jald_b, rald_, rald_a, rald_b, alen_, alen_a, sald_, sald_a, ic_, ic_a, jc_, jc_a, bc_, bc_a, bc_b, bj_, bj_a, bj_b, bz_, bz_a, band_, band_a, bor_, bor_a, bnot_, bnot_a, anil_, ai_, ai_a, ai_b, aj_, aj_a, aj_b, ar_, ar_a, ar_b, kb2i_, cvi_, cvi_a, cvi_b, cvj_, cvj_a, cvj_b, cvz_, cvz_a, cvz_b, csi_, csi_a, csj_, csj_a, csz_, csz_a, snop_, sseq_, sseq_n, sseq_s, sif_, sif_a, scut_, scut_a, ssi_, ssi_a, ssj_, ssj_a, ssr_, ssr_a, sinc_, sinc_a, sret_, sret_a, sretj_, sretj_a, sretv_, spop_, spop_a, kc_scv_, scv_, scv_a, scv_b, scs_, scs_a, fpi_, fpi_a, fpi_b, fpj_, fpj_a, fpj_b, foi_, foi_a, foi_b, foj_, foj_a, foj_b, aii_, aii_a, aii_b, aii_c, aiz_, aiz_a, aiz_b, aiz_c, aij_, aij_a, aij_b, aij_c, aoi_, aoi_a, aoi_b, aoi_c, aoj_, aoj_a, aoj_b, aoj_c, scopy_, scopy_a, scopy_b, scopy_c, scopy_d, scopy_e, ssw_, ssw_a, sel_n, sel_c, mfi_, mfi_a, mfj_, mfj_a, mfz_, mfz_a, kb_mfv_, mfv_, mfv_a, cut, lset, lset2, isL, Value.category, ent, entn, if_some, if_pair, if_cons, if_int, if_long, if_ref, ite_self, gz_b, ↓icb, ↓icb2, b2i_ne, ge0, ge1, ge2, ge3, ge4, ge5, ge6, ge7, ge8, ge9, ge10, ge11, ge12, ge13, ge14, lit32, nI_add, pk_mul, clt_nI, cle_nI, cgt_nI, cge_nI, ceq_nI, cne_nI, inr_nI, nI_clamp, nI_eq, nI_leI, nI_ltI, k61, f61_0, f61_1, f61_2, f61_3, f61_5, f61_6, f61_7, f61_10, k62, k63, k64, k92, k93, k94, k95, k96, l62, l63, l64, l92, l93, l94, l95, l96, f64_, k65_, l65_, t8, st, ua, nn, b2i_f]
      | false =>
        have ci := c_comesIn hkC hg hc
        rw [ef] at st
        have u0 : kup k r c = 0 := by unfold kup; rw [ef]; rfl
        have nn := nx (jI 0)
        simp only [u0] at nx2
        rw [nx2] at nn
        have j0 : (0 : Int64) = jI 0 := rfl
        have w95 : ∀ N : Me, (wi N 61 9 (nI (msk (kEn k r) c))).1 94 = N.1 94 := fun N => wi_ne (by decide)
        cases ec : kC k c with
        | false =>
          have en : msk (kEn k r) (c + 1) = msk (kEn k r) c := by
            simp only [msk]
            have : kEn k r c = false := by unfold kEn; rw [ef, ec]; rfl
            rw [if_neg (by rw [this]; decide), Nat.or_zero]
          have es : wi (sJ B 96 (c + 1) (fun c => jI (kup k r c))) 61 9 (nI (msk (kEn k r) c)) = St (c + 1) := by rw [eSt]; show _ = wi (sJ B 96 (c + 1) _) 61 9 (nI (msk (kEn k r) (c + 1))); rw [en]
          rw [es] at nn
          have hn1 : (St (c + 1)).1 94 c = nI (knet k c) := by rw [s1 _ 94 (by decide)]; exact hn c hc
          have ci1 := c_comesIn (M := St (c + 1)) (by rw [s1 _ 62 (by decide)]; exact hk) hg hc
          rw [ec] at ci1
          simp -implicitDefEqProofs (disch := omega) [wX0_tellPressures_1, kp_, bsome, bnone, gi_s, gj_s, gr_s, gv_s, ik_, jk_, il_, jl_, rl_, i2_, i2_a, i2_b, j2_, j2_a, j2_b, i2d_, i2d_a, i2d_b, j2d_, j2d_a, j2d_b, i1_, i1_a, j1_, j1_a, i2l_, i2l_a, l2i_, l2i_a, fgi_, fgi_a, fgj_, fgj_a, fgr_, fgr_a, iald_, iald_a, iald_b, zald_, zald_a, zald_b, jald_, jald_a, jald_b, rald_, rald_a, rald_b, alen_, alen_a, sald_, sald_a, ic_, ic_a, jc_, jc_a, bc_, bc_a, bc_b, bj_, bj_a, bj_b, bz_, bz_a, band_, band_a, bor_, bor_a, bnot_, bnot_a, anil_, ai_, ai_a, ai_b, aj_, aj_a, aj_b, ar_, ar_a, ar_b, kb2i_, cvi_, cvi_a, cvi_b, cvj_, cvj_a, cvj_b, cvz_, cvz_a, cvz_b, csi_, csi_a, csj_, csj_a, csz_, csz_a, snop_, sseq_, sseq_n, sseq_s, sif_, sif_a, scut_, scut_a, ssi_, ssi_a, ssj_, ssj_a, ssr_, ssr_a, sinc_, sinc_a, sret_, sret_a, sretj_, sretj_a, sretv_, spop_, spop_a, kc_scv_, scv_, scv_a, scv_b, scs_, scs_a, fpi_, fpi_a, fpi_b, fpj_, fpj_a, fpj_b, foi_, foi_a, foi_b, foj_, foj_a, foj_b, aii_, aii_a, aii_b, aii_c, aiz_, aiz_a, aiz_b, aiz_c, aij_, aij_a, aij_b, aij_c, aoi_, aoi_a, aoi_b, aoi_c, aoj_, aoj_a, aoj_b, aoj_c, scopy_, scopy_a, scopy_b, scopy_c, scopy_d, scopy_e, ssw_, ssw_a, sel_n, sel_c, mfi_, mfi_a, mfj_, mfj_a, mfz_, mfz_a, kb_mfv_, mfv_, mfv_a, cut, lset, lset2, isL, Value.category, ent, entn, if_some, if_pair, if_cons, if_int, if_long, if_ref, ite_self, gz_b, ↓icb, ↓icb2, b2i_ne, ge0, ge1, ge2, ge3, ge4, ge5, ge6, ge7, ge8, ge9, ge10, ge11, ge12, ge13, ge14, lit32, nI_add, pk_mul, clt_nI, cle_nI, cgt_nI, cge_nI, ceq_nI, cne_nI, inr_nI, nI_clamp, nI_eq, nI_leI, nI_ltI, k61, f61_0, f61_1, f61_2, f61_3, f61_5, f61_6, f61_7, f61_10, k62, k63, k64, k92, k93, k94, k95, k96, l62, l63, l64, l92, l93, l94, l95, l96, f64_, k65_, l65_, t8, st, j0, nn, b2i_t, b2i_f, hn1, ci1]
        | true =>
          have en : msk (kEn k r) (c + 1) = msk (kEn k r) c ||| 2 ^ c := by
            simp only [msk]
            have : kEn k r c = true := by unfold kEn; rw [ef, ec]; rfl
            rw [if_pos this]
          obtain ⟨Q, eQ⟩ : ∃ Q : Me, Q = wi (sJ B 96 (c + 1) (fun c => jI (kup k r c))) 61 9 (nI (msk (kEn k r) c)) := ⟨_, rfl⟩
          rw [← eQ] at nn
          have q1 : ∀ a, a ≠ 61 → Q.1 a = M.1 a := fun a ha => by rw [eQ, wi_ne ha, sJ_1, b1]
          have hn1 : Q.1 94 c = nI (knet k c) := by rw [q1 94 (by decide)]; exact hn c hc
          have ci1 := c_comesIn (M := Q) (by rw [q1 62 (by decide)]; exact hk) hg hc
          rw [ec] at ci1
          have q9 : Q.1 61 9 = nI (msk (kEn k r) c) := by rw [eQ]; exact wi_at
          have es : wi Q 61 9 (nI (msk (kEn k r) c ||| 2 ^ c)) = St (c + 1) := by rw [eQ, wi_wi, ← en, eSt]
          simp -implicitDefEqProofs (disch := omega) [wX0_tellPressures_1, kp_, bsome, bnone, gi_s, gj_s, gr_s, gv_s, ik_, jk_, il_, jl_, rl_, i2_, i2_a, i2_b, j2_, j2_a, j2_b, i2d_, i2d_a, i2d_b, j2d_, j2d_a, j2d_b, i1_, i1_a, j1_, j1_a, i2l_, i2l_a, l2i_, l2i_a, fgi_, fgi_a, fgj_, fgj_a, fgr_, fgr_a, iald_, iald_a, iald_b, zald_, zald_a, zald_b, jald_, jald_a, jald_b, rald_, rald_a, rald_b, alen_, alen_a, sald_, sald_a, ic_, ic_a, jc_, jc_a, bc_, bc_a, bc_b, bj_, bj_a, bj_b, bz_, bz_a, band_, band_a, bor_, bor_a, bnot_, bnot_a, anil_, ai_, ai_a, ai_b, aj_, aj_a, aj_b, ar_, ar_a, ar_b, kb2i_, cvi_, cvi_a, cvi_b, cvj_, cvj_a, cvj_b, cvz_, cvz_a, cvz_b, csi_, csi_a, csj_, csj_a, csz_, csz_a, snop_, sseq_, sseq_n, sseq_s, sif_, sif_a, scut_, scut_a, ssi_, ssi_a, ssj_, ssj_a, ssr_, ssr_a, sinc_, sinc_a, sret_, sret_a, sretj_, sretj_a, sretv_, spop_, spop_a, kc_scv_, scv_, scv_a, scv_b, scs_, scs_a, fpi_, fpi_a, fpi_b, fpj_, fpj_a, fpj_b, foi_, foi_a, foi_b, foj_, foj_a, foj_b, aii_, aii_a, aii_b, aii_c, aiz_, aiz_a, aiz_b, aiz_c, aij_, aij_a, aij_b, aij_c, aoi_, aoi_a, aoi_b, aoi_c, aoj_, aoj_a, aoj_b, aoj_c, scopy_, scopy_a, scopy_b, scopy_c, scopy_d, scopy_e, ssw_, ssw_a, sel_n, sel_c, mfi_, mfi_a, mfj_, mfj_a, mfz_, mfz_a, kb_mfv_, mfv_, mfv_a, cut, lset, lset2, isL, Value.category, ent, entn, if_some, if_pair, if_cons, if_int, if_long, if_ref, ite_self, gz_b, ↓icb, ↓icb2, b2i_ne, ge0, ge1, ge2, ge3, ge4, ge5, ge6, ge7, ge8, ge9, ge10, ge11, ge12, ge13, ge14, lit32, nI_add, pk_mul, clt_nI, cle_nI, cgt_nI, cge_nI, ceq_nI, cne_nI, inr_nI, nI_clamp, nI_eq, nI_leI, nI_ltI, k61, f61_0, f61_1, f61_2, f61_3, f61_5, f61_6, f61_7, f61_10, k62, k63, k64, k92, k93, k94, k95, k96, l62, l63, l64, l92, l93, l94, l95, l96, f64_, k65_, l65_, t8, st, j0, nn, b2i_t, b2i_f, hn1, ci1, q9, sh, nI_or, es])
    (by
      have r0 : (St (k 0)).1 62 0 = nI (k 0) := by rw [s1 _ 62 (by decide)]; exact e0
      simp -implicitDefEqProofs (disch := omega) [qX0_tellPressures_1, kp_, bsome, bnone, gi_s, gj_s, gr_s, gv_s, ik_, jk_, il_, jl_, rl_, i2_, i2_a, i2_b, j2_, j2_a, j2_b, i2d_, i2d_a, i2d_b, j2d_, j2d_a, j2d_b, i1_, i1_a, j1_, j1_a, i2l_, i2l_a, l2i_, l2i_a, fgi_, fgi_a, fgj_, fgj_a, fgr_, fgr_a, iald_, iald_a, iald_b, zald_, zald_a, zald_b, jald_, jald_a, jald_b, rald_, rald_a, rald_b, alen_, alen_a, sald_, sald_a, ic_, ic_a, jc_, jc_a, bc_, bc_a, bc_b, bj_, bj_a, bj_b, bz_, bz_a, band_, band_a, bor_, bor_a, bnot_, bnot_a, anil_, ai_, ai_a, ai_b, aj_, aj_a, aj_b, ar_, ar_a, ar_b, kb2i_, cvi_, cvi_a, cvi_b, cvj_, cvj_a, cvj_b, cvz_, cvz_a, cvz_b, csi_, csi_a, csj_, csj_a, csz_, csz_a, snop_, sseq_, sseq_n, sseq_s, sif_, sif_a, scut_, scut_a, ssi_, ssi_a, ssj_, ssj_a, ssr_, ssr_a, sinc_, sinc_a, sret_, sret_a, sretj_, sretj_a, sretv_, spop_, spop_a, kc_scv_, scv_, scv_a, scv_b, scs_, scs_a, fpi_, fpi_a, fpi_b, fpj_, fpj_a, fpj_b, foi_, foi_a, foi_b, foj_, foj_a, foj_b, aii_, aii_a, aii_b, aii_c, aiz_, aiz_a, aiz_b, aiz_c, aij_, aij_a, aij_b, aij_c, aoi_, aoi_a, aoi_b, aoi_c, aoj_, aoj_a, aoj_b, aoj_c, scopy_, scopy_a, scopy_b, scopy_c, scopy_d, scopy_e, ssw_, ssw_a, sel_n, sel_c, mfi_, mfi_a, mfj_, mfj_a, mfz_, mfz_a, kb_mfv_, mfv_, mfv_a, cut, lset, lset2, isL, Value.category, ent, entn, if_some, if_pair, if_cons, if_int, if_long, if_ref, ite_self, gz_b, ↓icb, ↓icb2, b2i_ne, ge0, ge1, ge2, ge3, ge4, ge5, ge6, ge7, ge8, ge9, ge10, ge11, ge12, ge13, ge14, lit32, nI_add, pk_mul, clt_nI, cle_nI, cgt_nI, cge_nI, ceq_nI, cne_nI, inr_nI, nI_clamp, nI_eq, nI_leI, nI_ltI, k61, f61_0, f61_1, f61_2, f61_3, f61_5, f61_6, f61_7, f61_10, k62, k63, k64, k92, k93, k94, k95, k96, l62, l63, l64, l92, l93, l94, l95, l96, f64_, k65_, l65_, r0])
  have z0 : wj (wi M 61 9 (nI 0)) 61 11 (jI (2 * kdet k r)) = St 0 := by
    rw [eSt]
    show _ = wi (sJ B 96 0 _) 61 9 (nI (msk (kEn k r) 0))
    rw [sJ_0, eB]
    rfl
  have m8 : (wi M 61 9 (nI 0)).1 61 8 = nI r := by rw [wi_ns (by decide)]; exact h8
  have m92 : (wi M 61 9 (nI 0)).2 92 r = jI (kdet k r) := by rw [wi_2]; exact hb.2.1
  have e2 : (2 : Int64) = jI 2 := rfl
  refine ⟨St (k 0), ?_, ?_, fun c hc => ?_, s9 _, fun j hj => ?_, s1 _, s2 _⟩
  · simp -implicitDefEqProofs (disch := omega) [DX0_tellPressures, EX0_tellPressures, kp_, bsome, bnone, gi_s, gj_s, gr_s, gv_s, ik_, jk_, il_, jl_, rl_, i2_, i2_a, i2_b, j2_, j2_a, j2_b, i2d_, i2d_a, i2d_b, j2d_, j2d_a, j2d_b, i1_, i1_a, j1_, j1_a, i2l_, i2l_a, l2i_, l2i_a, fgi_, fgi_a, fgj_, fgj_a, fgr_, fgr_a, iald_, iald_a, iald_b, zald_, zald_a, zald_b, jald_, jald_a, jald_b, rald_, rald_a, rald_b, alen_, alen_a, sald_, sald_a, ic_, ic_a, jc_, jc_a, bc_, bc_a, bc_b, bj_, bj_a, bj_b, bz_, bz_a, band_, band_a, bor_, bor_a, bnot_, bnot_a, anil_, ai_, ai_a, ai_b, aj_, aj_a, aj_b, ar_, ar_a, ar_b, kb2i_, cvi_, cvi_a, cvi_b, cvj_, cvj_a, cvj_b, cvz_, cvz_a, cvz_b, csi_, csi_a, csj_, csj_a, csz_, csz_a, snop_, sseq_, sseq_n, sseq_s, sif_, sif_a, scut_, scut_a, ssi_, ssi_a, ssj_, ssj_a, ssr_, ssr_a, sinc_, sinc_a, sret_, sret_a, sretj_, sretj_a, sretv_, spop_, spop_a, kc_scv_, scv_, scv_a, scv_b, scs_, scs_a, fpi_, fpi_a, fpi_b, fpj_, fpj_a, fpj_b, foi_, foi_a, foi_b, foj_, foj_a, foj_b, aii_, aii_a, aii_b, aii_c, aiz_, aiz_a, aiz_b, aiz_c, aij_, aij_a, aij_b, aij_c, aoi_, aoi_a, aoi_b, aoi_c, aoj_, aoj_a, aoj_b, aoj_c, scopy_, scopy_a, scopy_b, scopy_c, scopy_d, scopy_e, ssw_, ssw_a, sel_n, sel_c, mfi_, mfi_a, mfj_, mfj_a, mfz_, mfz_a, kb_mfv_, mfv_, mfv_a, cut, lset, lset2, isL, Value.category, ent, entn, if_some, if_pair, if_cons, if_int, if_long, if_ref, ite_self, gz_b, ↓icb, ↓icb2, b2i_ne, ge0, ge1, ge2, ge3, ge4, ge5, ge6, ge7, ge8, ge9, ge10, ge11, ge12, ge13, ge14, lit32, nI_add, pk_mul, clt_nI, cle_nI, cgt_nI, cge_nI, ceq_nI, cne_nI, inr_nI, nI_clamp, nI_eq, nI_leI, nI_ltI, k61, f61_0, f61_1, f61_2, f61_3, f61_5, f61_6, f61_7, f61_10, k62, k63, k64, k92, k93, k94, k95, k96, l62, l63, l64, l92, l93, l94, l95, l96, f64_, k65_, l65_, m8, m92, e2, jI_mul, z0, l1]
  · rw [eSt]
    show (wi (sJ B 96 (k 0) _) 61 9 _).2 61 11 = _
    rw [wi_2, sJ_ne (by decide), eB, wj_at]
  · rw [eSt]
    show (wi (sJ B 96 (k 0) _) 61 9 _).2 96 c = _
    rw [wi_2, sJ_at hc]
  · rw [eSt]
    show (wi (sJ B 96 (k 0) _) 61 9 _).1 61 j = _
    rw [wi_ns hj, sJ_1, b1]
end
