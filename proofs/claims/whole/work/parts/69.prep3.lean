/-! ===== prepare ===== -/
def BI (M : Me) (k : Nat → Nat) (r : Nat) : Prop := iv (M.1 61 4) r = false ∨ (iv (M.1 61 4) r = true ∧ kcb k r = true ∧ BP M k r)
section
variable {M : Me} {k : Nat → Nat} {r : Nat}
set_option maxRecDepth 20000 in
theorem ksp_b (hg : GK k) (hr : r < 27) {c : Nat} (hc : c < 5) : ksp k r c < 1000 := by
  have := hg.2.2.2.2.2.2.1 r c hr hc
  unfold kwt at this
  omega
theorem wi_at {a i : Nat} {v : Int32} : (wi M a i v).1 a i = v := by simp [wi]
set_option maxRecDepth 20000 in
theorem c_prepare1 (hk : KV (M.1 62) k) (hg : GK k) (hn : BN M k) (hr : r < 27) (hi : iv (M.1 61 4) r = false) (hc : kcb k r = true) : ∃ N, DX0_prepare [.ref 61, .int (nI r)] M = some N ∧ BP N k r ∧ iv (N.1 61 4) r = true ∧ (∀ a, a ≠ 61 → a ≠ 93 → a ≠ 95 → N.1 a = M.1 a) ∧ (∀ q, q ≠ r → q < 27 → iv (N.1 61 4) q = iv (M.1 61 4) q ∧ N.1 93 q = M.1 93 q ∧ N.2 92 q = M.2 92 q) ∧ (∀ a, a ≠ 92 → a ≠ 65 + r → N.2 a = M.2 a) ∧ (∀ j, j ≠ 4 → N.1 61 j = M.1 61 j) := by
  have ivd := c_isInv (M := M) hr
  rw [hi] at ivd
  have n5 := hg.1
  have cb := c_canBe hk hr
  rw [hc] at cb
  have fl := j_fillI (M := M) (a := 95) (v := nI 0) k95 l95 (by decide)
  have sp := c_speeds (M := M) hk hg hr
  have e0 := kv_r hk (i := 0) (by decide) (by decide)
  obtain ⟨S, eS⟩ : ∃ S : Me, S = sI M 95 5 (fun c => nI (ksp k r c)) := ⟨_, rfl⟩
  have s62 : S.1 62 = M.1 62 := by rw [eS]; exact sI_ne (by decide)
  have hkS : KV (S.1 62) k := by rw [s62]; exact hk
  have hs : ∀ c, c < 5 → S.1 95 c = nI (ksp k r c) := fun c hc => by rw [eS, sI_at hc]
  have hnS : BN S k := fun c hc => by rw [eS, sI_ne (by decide)]; exact hn c hc
  have hb : ∀ c, c < 5 → ksp k r c < 1000 := fun c hc => ksp_b hg hr hc
  have ws := c_still (r := r) hkS hg hnS hs hb
  obtain ⟨T, eT⟩ : ∃ T : Me, T = wi S 93 r (nI (msk (fun c => !kF k r c) (k 0))) := ⟨_, rfl⟩
  have t62 : T.1 62 = M.1 62 := by rw [eT, wi_ne (by decide)]; exact s62
  have hkT : KV (T.1 62) k := by rw [t62]; exact hk
  have hsT : ∀ c, c < 5 → T.1 95 c = nI (ksp k r c) := fun c hc => by rw [eT, wi_ne (by decide)]; exact hs c hc
  have tst : T.1 93 r = nI (msk (fun c => !kF k r c) (k 0)) := by rw [eT]; exact wi_at
  obtain ⟨Z, fm, z1⟩ := c_fillMatrix (Y := T.2 (65 + r)) hkT hg hr hsT hb tst
  rw [sJ_self] at fm
  obtain ⟨Y2, ivt, y1⟩ := c_invert (M := T) (a := 65 + r) (n := k 0) (A := kA k r) (Y := Z) n5 (k65_ hr) (l65_ hr) (kA_n hg hr) z1
  rw [kA_d hg] at ivt
  have f1 : (sJ T (65 + r) 25 Y2).1 62 0 = nI (k 0) := by rw [sJ_1, t62]; exact e0
  have f2 : T.1 62 0 = nI (k 0) := by rw [t62]; exact e0
  have t4 : T.1 61 = M.1 61 := by rw [eT, wi_ne (by decide), eS, sI_ne (by decide)]
  obtain ⟨N, eN⟩ : ∃ N : Me, N = wi (wj (sJ T (65 + r) 25 Y2) 92 r (jI (detI (kA k r)))) 61 4 (M.1 61 4 ||| oshl (nI 1) (nI r)) := ⟨_, rfl⟩
  have ev : DX0_prepare [.ref 61, .int (nI r)] M = some N := by
    rcases hk.2.1 with ⟨h1, h2, h3⟩ | ⟨h1, h2⟩
    · have es : sI M 95 5 (fun c => nI (spP k r 3 c)) = S := by
        rw [eS]
        exact sI_congr (fun c hc => by rw [spP_3, h3]; simp)
      rw [es] at sp
      have g1 : S.1 62 1 = -(nI 1) := by rw [s62]; exact h1
      have g2 : cne (-(nI 1)) (-(nI 1)) = false := by decide
      simp -implicitDefEqProofs (disch := omega) [DX0_prepare, EX0_prepare, kp_, bsome, bnone, gi_s, gj_s, gr_s, gv_s, ik_, jk_, il_, jl_, rl_, i2_, i2_a, i2_b, j2_, j2_a, j2_b, i2d_, i2d_a, i2d_b, j2d_, j2d_a, j2d_b, i1_, i1_a, j1_, j1_a, i2l_, i2l_a, l2i_, l2i_a, fgi_, fgi_a, fgj_, fgj_a, fgr_, fgr_a, iald_, iald_a, iald_b, zald_, zald_a, zald_b, jald_, jald_a, jald_b, rald_, rald_a, rald_b, alen_, alen_a, sald_, sald_a, ic_, ic_a, jc_, jc_a, bc_, bc_a, bc_b, bj_, bj_a, bj_b, bz_, bz_a, band_, band_a, bor_, bor_a, bnot_, bnot_a, anil_, ai_, ai_a, ai_b, aj_, aj_a, aj_b, ar_, ar_a, ar_b, kb2i_, cvi_, cvi_a, cvi_b, cvj_, cvj_a, cvj_b, cvz_, cvz_a, cvz_b, csi_, csi_a, csj_, csj_a, csz_, csz_a, snop_, sseq_, sseq_n, sseq_s, sif_, sif_a, scut_, scut_a, ssi_, ssi_a, ssj_, ssj_a, ssr_, ssr_a, sinc_, sinc_a, sret_, sret_a, sretj_, sretj_a, sretv_, spop_, spop_a, kc_scv_, scv_, scv_a, scv_b, scs_, scs_a, fpi_, fpi_a, fpi_b, fpj_, fpj_a, fpj_b, foi_, foi_a, foi_b, foj_, foj_a, foj_b, aii_, aii_a, aii_b, aii_c, aiz_, aiz_a, aiz_b, aiz_c, aij_, aij_a, aij_b, aij_c, aoi_, aoi_a, aoi_b, aoi_c, aoj_, aoj_a, aoj_b, aoj_c, scopy_, scopy_a, scopy_b, scopy_c, scopy_d, scopy_e, ssw_, ssw_a, sel_n, sel_c, mfi_, mfi_a, mfj_, mfj_a, mfz_, mfz_a, kb_mfv_, mfv_, mfv_a, cut, lset, lset2, isL, Value.category, ent, entn, if_some, if_pair, if_cons, if_int, if_long, if_ref, ite_self, gz_b, ↓icb, ↓icb2, b2i_ne, ge0, ge1, ge2, ge3, ge4, ge5, ge6, ge7, ge8, ge9, ge10, ge11, ge12, ge13, ge14, lit32, nI_add, pk_mul, clt_nI, cle_nI, cgt_nI, cge_nI, ceq_nI, cne_nI, inr_nI, nI_clamp, nI_eq, nI_leI, nI_ltI, k61, f61_0, f61_1, f61_2, f61_3, f61_5, f61_6, f61_7, f61_10, k62, k63, k64, k92, k93, k94, k95, k96, l62, l63, l64, l92, l93, l94, l95, l96, f64_, k65_, l65_, ivd, cb, fl, sp, g1, g2, ws, ← eT, fm, f2, sJ_1, wj_1, t4, ivt, nar1, eN]
    · have k1 : k 1 < 5 := by omega
      have g1 : (sI M 95 5 (fun c => nI (spP k r 3 c))).1 62 1 = nI (k 1) := by rw [sI_ne (by decide)]; exact h1
      have g3 : (sI M 95 5 (fun c => nI (spP k r 3 c))).1 62 2 = nI (k 2) := by rw [sI_ne (by decide)]; exact kv_r hk (by decide) (by decide)
      have g2 : cne (nI (k 1)) (-(nI 1)) = true := by
        unfold cne
        refine decide_eq_true (fun z => ?_)
        have y := congrArg Int32.toInt z
        rw [nI_toInt (by omega)] at y
        have w : (-(nI 1)).toInt = -1 := by decide
        omega
      have es : sI M 95 5 (upd (fun c => nI (spP k r 3 c)) (k 1) (nI (spP k r 3 (k 1) + k 2))) = S := by
        rw [eS]
        refine sI_congr (fun c hc => ?_)
        rw [spP_3]
        simp only [upd]
        by_cases q : c = k 1
        · rw [if_pos q, if_pos q, q]
        · rw [if_neg q, if_neg q, Nat.add_zero]
      simp -implicitDefEqProofs (disch := omega) [DX0_prepare, EX0_prepare, kp_, bsome, bnone, gi_s, gj_s, gr_s, gv_s, ik_, jk_, il_, jl_, rl_, i2_, i2_a, i2_b, j2_, j2_a, j2_b, i2d_, i2d_a, i2d_b, j2d_, j2d_a, j2d_b, i1_, i1_a, j1_, j1_a, i2l_, i2l_a, l2i_, l2i_a, fgi_, fgi_a, fgj_, fgj_a, fgr_, fgr_a, iald_, iald_a, iald_b, zald_, zald_a, zald_b, jald_, jald_a, jald_b, rald_, rald_a, rald_b, alen_, alen_a, sald_, sald_a, ic_, ic_a, jc_, jc_a, bc_, bc_a, bc_b, bj_, bj_a, bj_b, bz_, bz_a, band_, band_a, bor_, bor_a, bnot_, bnot_a, anil_, ai_, ai_a, ai_b, aj_, aj_a, aj_b, ar_, ar_a, ar_b, kb2i_, cvi_, cvi_a, cvi_b, cvj_, cvj_a, cvj_b, cvz_, cvz_a, cvz_b, csi_, csi_a, csj_, csj_a, csz_, csz_a, snop_, sseq_, sseq_n, sseq_s, sif_, sif_a, scut_, scut_a, ssi_, ssi_a, ssj_, ssj_a, ssr_, ssr_a, sinc_, sinc_a, sret_, sret_a, sretj_, sretj_a, sretv_, spop_, spop_a, kc_scv_, scv_, scv_a, scv_b, scs_, scs_a, fpi_, fpi_a, fpi_b, fpj_, fpj_a, fpj_b, foi_, foi_a, foi_b, foj_, foj_a, foj_b, aii_, aii_a, aii_b, aii_c, aiz_, aiz_a, aiz_b, aiz_c, aij_, aij_a, aij_b, aij_c, aoi_, aoi_a, aoi_b, aoi_c, aoj_, aoj_a, aoj_b, aoj_c, scopy_, scopy_a, scopy_b, scopy_c, scopy_d, scopy_e, ssw_, ssw_a, sel_n, sel_c, mfi_, mfi_a, mfj_, mfj_a, mfz_, mfz_a, kb_mfv_, mfv_, mfv_a, cut, lset, lset2, isL, Value.category, ent, entn, if_some, if_pair, if_cons, if_int, if_long, if_ref, ite_self, gz_b, ↓icb, ↓icb2, b2i_ne, ge0, ge1, ge2, ge3, ge4, ge5, ge6, ge7, ge8, ge9, ge10, ge11, ge12, ge13, ge14, lit32, nI_add, pk_mul, clt_nI, cle_nI, cgt_nI, cge_nI, ceq_nI, cne_nI, inr_nI, nI_clamp, nI_eq, nI_leI, nI_ltI, k61, f61_0, f61_1, f61_2, f61_3, f61_5, f61_6, f61_7, f61_10, k62, k63, k64, k92, k93, k94, k95, k96, l62, l63, l64, l92, l93, l94, l95, l96, f64_, k65_, l65_, ivd, cb, fl, sp, g1, g2, g3, sI_at, wi_sI, es, ws, ← eT, fm, f2, sJ_1, wj_1, t4, ivt, nar1, eN]
  have n4 : N.1 61 4 = M.1 61 4 ||| oshl (nI 1) (nI r) := by rw [eN, wi_at]
  refine ⟨N, ev, ⟨?_, ?_, fun p q hp hq => ?_⟩, ?_, fun a h1 h2 h3 => ?_, fun q hq h27 => ⟨?_, ?_, ?_⟩, fun a h1 h2 => ?_, fun j hj => ?_⟩
  · rw [eN, wi_ne (by decide), wj_1, sJ_1]; exact tst
  · rw [eN, wi_2, wj_at]; rfl
  · rw [eN, wi_2, wj_ne (by omega), sJ_at (by omega), y1 p q hp hq, kA_x hg (by omega) (by omega)]; rfl
  · rw [n4, iv_or hr hr]; simp
  · rw [eN, wi_ne h1, wj_1, sJ_1, eT, wi_ne h2, eS, sI_ne h3]
  · rw [n4, iv_or hr h27]; simp [hq]
  · rw [eN, wi_ne (by decide), wj_1, sJ_1, eT]
    simp only [wi, hq, and_false, if_false]
    rw [eS, sI_ne (by decide)]
  · rw [eN, wi_2]
    simp only [wj, hq, and_false, if_false]
    rw [sJ_ne (by omega), eT, wi_2, eS]
    rfl
  · rw [eN, wi_2, wj_ne h1, sJ_ne h2, eT, wi_2, eS]
    rfl
  · rw [eN]
    simp only [wi, hj, and_false, if_false]
    rw [wj_1, sJ_1, t4]
set_option maxRecDepth 20000 in
theorem BI.frame {N : Me} {q : Nat} (h : BI M k q) (h1 : iv (N.1 61 4) q = iv (M.1 61 4) q) (h2 : N.1 93 q = M.1 93 q) (h3 : N.2 92 q = M.2 92 q) (h4 : N.2 (65 + q) = M.2 (65 + q)) : BI N k q := by
  unfold BI BP
  rw [h1, h2, h3, h4]
  exact h
/-! what may change as rows are prepared -/
def PF (M N : Me) : Prop := (∀ a, a ≠ 61 → a ≠ 93 → a ≠ 95 → N.1 a = M.1 a) ∧ (∀ j, j ≠ 4 → N.1 61 j = M.1 61 j) ∧ (∀ a, ¬ (65 ≤ a ∧ a ≤ 92) → N.2 a = M.2 a)
theorem PF.refl : PF M M := ⟨fun _ _ _ _ => rfl, fun _ _ => rfl, fun _ _ => rfl⟩
theorem PF.trans {N O : Me} (h : PF M N) (g : PF N O) : PF M O := ⟨fun a h1 h2 h3 => (g.1 a h1 h2 h3).trans (h.1 a h1 h2 h3), fun j hj => (g.2.1 j hj).trans (h.2.1 j hj), fun a h1 => (g.2.2 a h1).trans (h.2.2 a h1)⟩
set_option maxRecDepth 20000 in
theorem c_prepare (hk : KV (M.1 62) k) (hg : GK k) (hn : BN M k) (hr : r < 27) (hI : ∀ q, q < 27 → BI M k q) : ∃ N, DX0_prepare [.ref 61, .int (nI r)] M = some N ∧ DX0_agrees [.ref 61, .int (nI r)] N = some (kok k r, N) ∧ (∀ q, q < 27 → BI N k q) ∧ (kcb k r = true → iv (N.1 61 4) r = true) ∧ PF M N := by
  have ivd := c_isInv (M := M) hr
  have cb := c_canBe hk hr
  rcases hI r hr with h0 | ⟨h0, h1, h2⟩
  · cases ec : kcb k r with
    | false =>
      rw [ec] at cb
      rw [h0] at ivd
      refine ⟨M, ?_, ?_, hI, fun z => (by cases z), PF.refl⟩
      · simp -implicitDefEqProofs (disch := omega) [DX0_prepare, EX0_prepare, kp_, bsome, bnone, gi_s, gj_s, gr_s, gv_s, ik_, jk_, il_, jl_, rl_, i2_, i2_a, i2_b, j2_, j2_a, j2_b, i2d_, i2d_a, i2d_b, j2d_, j2d_a, j2d_b, i1_, i1_a, j1_, j1_a, i2l_, i2l_a, l2i_, l2i_a, fgi_, fgi_a, fgj_, fgj_a, fgr_, fgr_a, iald_, iald_a, iald_b, zald_, zald_a, zald_b, jald_, jald_a, jald_b, rald_, rald_a, rald_b, alen_, alen_a, sald_, sald_a, ic_, ic_a, jc_, jc_a, bc_, bc_a, bc_b, bj_, bj_a, bj_b, bz_, bz_a, band_, band_a, bor_, bor_a, bnot_, bnot_a, anil_, ai_, ai_a, ai_b, aj_, aj_a, aj_b, ar_, ar_a, ar_b, kb2i_, cvi_, cvi_a, cvi_b, cvj_, cvj_a, cvj_b, cvz_, cvz_a, cvz_b, csi_, csi_a, csj_, csj_a, csz_, csz_a, snop_, sseq_, sseq_n, sseq_s, sif_, sif_a, scut_, scut_a, ssi_, ssi_a, ssj_, ssj_a, ssr_, ssr_a, sinc_, sinc_a, sret_, sret_a, sretj_, sretj_a, sretv_, spop_, spop_a, kc_scv_, scv_, scv_a, scv_b, scs_, scs_a, fpi_, fpi_a, fpi_b, fpj_, fpj_a, fpj_b, foi_, foi_a, foi_b, foj_, foj_a, foj_b, aii_, aii_a, aii_b, aii_c, aiz_, aiz_a, aiz_b, aiz_c, aij_, aij_a, aij_b, aij_c, aoi_, aoi_a, aoi_b, aoi_c, aoj_, aoj_a, aoj_b, aoj_c, scopy_, scopy_a, scopy_b, scopy_c, scopy_d, scopy_e, ssw_, ssw_a, sel_n, sel_c, mfi_, mfi_a, mfj_, mfj_a, mfz_, mfz_a, kb_mfv_, mfv_, mfv_a, cut, lset, lset2, isL, Value.category, ent, entn, if_some, if_pair, if_cons, if_int, if_long, if_ref, ite_self, gz_b, ↓icb, ↓icb2, b2i_ne, ge0, ge1, ge2, ge3, ge4, ge5, ge6, ge7, ge8, ge9, ge10, ge11, ge12, ge13, ge14, lit32, nI_add, pk_mul, clt_nI, cle_nI, cgt_nI, cge_nI, ceq_nI, cne_nI, inr_nI, nI_clamp, nI_eq, nI_leI, nI_ltI, k61, f61_0, f61_1, f61_2, f61_3, f61_5, f61_6, f61_7, f61_10, k62, k63, k64, k92, k93, k94, k95, k96, l62, l63, l64, l92, l93, l94, l95, l96, f64_, k65_, l65_, ivd, cb]
      · unfold kok
        rw [ec, c_agrees0 hr h0]
        rfl
    | true =>
      obtain ⟨N, e1, e2, e3, e4, e5, e6, e7⟩ := c_prepare1 hk hg hn hr h0 ec
      have hkN : KV (N.1 62) k := by rw [e4 62 (by decide) (by decide) (by decide)]; exact hk
      have hnN : BN N k := fun c hc => by rw [e4 94 (by decide) (by decide) (by decide)]; exact hn c hc
      refine ⟨N, e1, ?_, fun q hq => ?_, fun _ => e3, e4, e7, fun a ha => e6 a (by omega) (by omega)⟩
      · unfold kok
        rw [ec, c_agrees hkN hg hr e2 hnN e3]
        rfl
      · by_cases e : q = r
        · subst e; exact Or.inr ⟨e3, ec, e2⟩
        · obtain ⟨a, b, c⟩ := e5 q e hq
          exact (hI q hq).frame a b c (e6 (65 + q) (by omega) (by omega))
  · rw [h0] at ivd
    refine ⟨M, ?_, ?_, hI, fun _ => h0, PF.refl⟩
    · simp -implicitDefEqProofs (disch := omega) [DX0_prepare, EX0_prepare, kp_, bsome, bnone, gi_s, gj_s, gr_s, gv_s, ik_, jk_, il_, jl_, rl_, i2_, i2_a, i2_b, j2_, j2_a, j2_b, i2d_, i2d_a, i2d_b, j2d_, j2d_a, j2d_b, i1_, i1_a, j1_, j1_a, i2l_, i2l_a, l2i_, l2i_a, fgi_, fgi_a, fgj_, fgj_a, fgr_, fgr_a, iald_, iald_a, iald_b, zald_, zald_a, zald_b, jald_, jald_a, jald_b, rald_, rald_a, rald_b, alen_, alen_a, sald_, sald_a, ic_, ic_a, jc_, jc_a, bc_, bc_a, bc_b, bj_, bj_a, bj_b, bz_, bz_a, band_, band_a, bor_, bor_a, bnot_, bnot_a, anil_, ai_, ai_a, ai_b, aj_, aj_a, aj_b, ar_, ar_a, ar_b, kb2i_, cvi_, cvi_a, cvi_b, cvj_, cvj_a, cvj_b, cvz_, cvz_a, cvz_b, csi_, csi_a, csj_, csj_a, csz_, csz_a, snop_, sseq_, sseq_n, sseq_s, sif_, sif_a, scut_, scut_a, ssi_, ssi_a, ssj_, ssj_a, ssr_, ssr_a, sinc_, sinc_a, sret_, sret_a, sretj_, sretj_a, sretv_, spop_, spop_a, kc_scv_, scv_, scv_a, scv_b, scs_, scs_a, fpi_, fpi_a, fpi_b, fpj_, fpj_a, fpj_b, foi_, foi_a, foi_b, foj_, foj_a, foj_b, aii_, aii_a, aii_b, aii_c, aiz_, aiz_a, aiz_b, aiz_c, aij_, aij_a, aij_b, aij_c, aoi_, aoi_a, aoi_b, aoi_c, aoj_, aoj_a, aoj_b, aoj_c, scopy_, scopy_a, scopy_b, scopy_c, scopy_d, scopy_e, ssw_, ssw_a, sel_n, sel_c, mfi_, mfi_a, mfj_, mfj_a, mfz_, mfz_a, kb_mfv_, mfv_, mfv_a, cut, lset, lset2, isL, Value.category, ent, entn, if_some, if_pair, if_cons, if_int, if_long, if_ref, ite_self, gz_b, ↓icb, ↓icb2, b2i_ne, ge0, ge1, ge2, ge3, ge4, ge5, ge6, ge7, ge8, ge9, ge10, ge11, ge12, ge13, ge14, lit32, nI_add, pk_mul, clt_nI, cle_nI, cgt_nI, cge_nI, ceq_nI, cne_nI, inr_nI, nI_clamp, nI_eq, nI_leI, nI_ltI, k61, f61_0, f61_1, f61_2, f61_3, f61_5, f61_6, f61_7, f61_10, k62, k63, k64, k92, k93, k94, k95, k96, l62, l63, l64, l92, l93, l94, l95, l96, f64_, k65_, l65_, ivd]
    · unfold kok
      rw [h1, c_agrees hk hg hr h2 hn h0]
      rfl
end
