/-! ===== the reference: tubes, what comes, unit rows ===== -/
def dgS (X : Nat → Int32) (i t : Nat) : Nat := gsm X i 0 t + gsm X i 1 t + gsm X i 2 t + gsm X i 3 t + gsm X i 4 t
def lpT (X : Nat → Int32) (t i j : Nat) : Int := if i = j then (dgS X i t : Int) else -(gsm X i j t : Int)
section
variable {M : Me} {X : Nat → Int32} {nc nt np nw tm : Nat}
set_option maxRecDepth 20000 in
theorem dgS_next {i n : Nat} (hn : fX X n ≠ gX X n) (hf : fX X n < 5) (hg : gX X n < 5) (ho : oX X n = true) : dgS X i (n + 1) = dgS X i n + if fX X n = i ∨ gX X n = i then dX X n else 0 := by
  have e : ∀ j, gsm X i j (n + 1) = gsm X i j n + if (fX X n = i ∧ gX X n = j) ∨ (fX X n = j ∧ gX X n = i) then dX X n else 0 := fun j => by
    simp only [gsm]
    by_cases q : (fX X n = i ∧ gX X n = j) ∨ (fX X n = j ∧ gX X n = i)
    · rw [if_pos q, if_pos ⟨ho, q⟩]
    · rw [if_neg q, if_neg (fun z => q z.2)]
  unfold dgS
  rw [e, e, e, e, e]
  have key : (if (fX X n = i ∧ gX X n = 0) ∨ (fX X n = 0 ∧ gX X n = i) then dX X n else 0) + (if (fX X n = i ∧ gX X n = 1) ∨ (fX X n = 1 ∧ gX X n = i) then dX X n else 0) + (if (fX X n = i ∧ gX X n = 2) ∨ (fX X n = 2 ∧ gX X n = i) then dX X n else 0) + (if (fX X n = i ∧ gX X n = 3) ∨ (fX X n = 3 ∧ gX X n = i) then dX X n else 0) + (if (fX X n = i ∧ gX X n = 4) ∨ (fX X n = 4 ∧ gX X n = i) then dX X n else 0) = if fX X n = i ∨ gX X n = i then dX X n else 0 := by
    obtain ⟨f, ef⟩ : ∃ f, f = fX X n := ⟨_, rfl⟩
    obtain ⟨g, eg⟩ : ∃ g, g = gX X n := ⟨_, rfl⟩
    rw [← ef, ← eg] at hn ⊢
    rw [← ef] at hf
    rw [← eg] at hg
    by_cases a : f = i
    · subst a
      have e : ∀ j, (if (f = f ∧ g = j) ∨ (f = j ∧ g = f) then dX X n else 0) = if g = j then dX X n else 0 := fun j => by
        by_cases q : g = j
        · rw [if_pos (Or.inl ⟨rfl, q⟩), if_pos q]
        · rw [if_neg (by omega), if_neg q]
      rw [e, e, e, e, e, if_pos (Or.inl rfl)]
      rcases (by omega : g = 0 ∨ g = 1 ∨ g = 2 ∨ g = 3 ∨ g = 4) with z | z | z | z | z <;> simp [z]
    · by_cases b : g = i
      · subst b
        have e : ∀ j, (if (f = g ∧ g = j) ∨ (f = j ∧ g = g) then dX X n else 0) = if f = j then dX X n else 0 := fun j => by
          by_cases q : f = j
          · rw [if_pos (Or.inr ⟨q, rfl⟩), if_pos q]
          · rw [if_neg (by omega), if_neg q]
        rw [e, e, e, e, e, if_pos (Or.inr rfl)]
        rcases (by omega : f = 0 ∨ f = 1 ∨ f = 2 ∨ f = 3 ∨ f = 4) with z | z | z | z | z <;> simp [z]
      · have e : ∀ j, (if (f = i ∧ g = j) ∨ (f = j ∧ g = i) then dX X n else 0) = 0 := fun j => if_neg (by omega)
        rw [e, e, e, e, e, if_neg (by omega)]
  omega
set_option maxRecDepth 20000 in
theorem r_layTubes {tB : Nat} (hX : M.1 494 = X) (hv : VxB X nc nt np nw tm tB) : DX8_layTubes [.ref 492] M = some (sJ M 501 25 (fun q => jI (lpT X nt (q / 5) (q % 5)))) := by
  have hB := hv.2.1
  have hn : X 1 = nI nt := hv.1.2.1
  have l1 := swh_count (c := qX8_layTubes_1) (b := wX8_layTubes_1) (fun i => [.ref 492, .int (nI i), .null, .null, .null]) (fun i => sJ M 501 i (fun q => jI (lpT X 0 (q / 5) (q % 5)))) 25
    (fun i hi => by simp -implicitDefEqProofs (disch := omega) [qX8_layTubes_1, kp_, bsome, bnone, gi_s, gj_s, gr_s, gv_s, ik_, jk_, il_, jl_, rl_, i2_, i2_a, i2_b, j2_, j2_a, j2_b, i2d_, i2d_a, i2d_b, j2d_, j2d_a, j2d_b, i1_, i1_a, j1_, j1_a, i2l_, i2l_a, l2i_, l2i_a, fgi_, fgi_a, fgj_, fgj_a, fgr_, fgr_a, iald_, iald_a, iald_b, zald_, zald_a, zald_b, jald_, jald_a, jald_b, rald_, rald_a, rald_b, alen_, alen_a, sald_, sald_a, ic_, ic_a, jc_, jc_a, bc_, bc_a, bc_b, bj_, bj_a, bj_b, bz_, bz_a, band_, band_a, bor_, bor_a, bnot_, bnot_a, anil_, ai_, ai_a, ai_b, aj_, aj_a, aj_b, ar_, ar_a, ar_b, kb2i_, cvi_, cvi_a, cvi_b, cvj_, cvj_a, cvj_b, cvz_, cvz_a, cvz_b, csi_, csi_a, csj_, csj_a, csz_, csz_a, snop_, sseq_, sseq_n, sseq_s, sif_, sif_a, scut_, scut_a, ssi_, ssi_a, ssj_, ssj_a, ssr_, ssr_a, sinc_, sinc_a, sret_, sret_a, sretj_, sretj_a, sretv_, spop_, spop_a, kc_scv_, scv_, scv_a, scv_b, scs_, scs_a, fpi_, fpi_a, fpi_b, fpj_, fpj_a, fpj_b, foi_, foi_a, foi_b, foj_, foj_a, foj_b, aii_, aii_a, aii_b, aii_c, aiz_, aiz_a, aiz_b, aiz_c, aij_, aij_a, aij_b, aij_c, aoi_, aoi_a, aoi_b, aoi_c, aoj_, aoj_a, aoj_b, aoj_c, scopy_, scopy_a, scopy_b, scopy_c, scopy_d, scopy_e, ssw_, ssw_a, sel_n, sel_c, mfi_, mfi_a, mfj_, mfj_a, mfz_, mfz_a, kb_mfv_, mfv_, mfv_a, cut, lset, lset2, isL, Value.category, ent, entn, if_some, if_pair, if_cons, if_int, if_long, if_ref, ite_self, gz_b, ↓icb, ↓icb2, b2i_ne, ge0, ge1, ge2, ge3, ge4, ge5, ge6, ge7, ge8, ge9, ge10, ge11, ge12, ge13, ge14, lit32, nI_add, pk_mul, clt_nI, cle_nI, cgt_nI, cge_nI, ceq_nI, cne_nI, inr_nI, nI_clamp, nI_eq, nI_leI, nI_ltI, k492, f492_2, f492_3, f492_4, f492_5, f492_7, f492_8, f492_9, f492_10, k493, k494, k495, k496, k497, k498, k499, k500, l493, l494, l495, l496, l497, l498, l499, l500, hi])
    (fun i hi => by
      have nx := wj_sJ_next (M := M) (a := 501) (n := i) (U := fun q => jI (lpT X 0 (q / 5) (q % 5)))
      have z : lpT X 0 (i / 5) (i % 5) = 0 := by unfold lpT dgS gsm; split <;> rfl
      simp only [z] at nx
      have j0 : (0 : Int64) = jI 0 := rfl
      simp -implicitDefEqProofs (disch := omega) [wX8_layTubes_1, kp_, bsome, bnone, gi_s, gj_s, gr_s, gv_s, ik_, jk_, il_, jl_, rl_, i2_, i2_a, i2_b, j2_, j2_a, j2_b, i2d_, i2d_a, i2d_b, j2d_, j2d_a, j2d_b, i1_, i1_a, j1_, j1_a, i2l_, i2l_a, l2i_, l2i_a, fgi_, fgi_a, fgj_, fgj_a, fgr_, fgr_a, iald_, iald_a, iald_b, zald_, zald_a, zald_b, jald_, jald_a, jald_b, rald_, rald_a, rald_b, alen_, alen_a, sald_, sald_a, ic_, ic_a, jc_, jc_a, bc_, bc_a, bc_b, bj_, bj_a, bj_b, bz_, bz_a, band_, band_a, bor_, bor_a, bnot_, bnot_a, anil_, ai_, ai_a, ai_b, aj_, aj_a, aj_b, ar_, ar_a, ar_b, kb2i_, cvi_, cvi_a, cvi_b, cvj_, cvj_a, cvj_b, cvz_, cvz_a, cvz_b, csi_, csi_a, csj_, csj_a, csz_, csz_a, snop_, sseq_, sseq_n, sseq_s, sif_, sif_a, scut_, scut_a, ssi_, ssi_a, ssj_, ssj_a, ssr_, ssr_a, sinc_, sinc_a, sret_, sret_a, sretj_, sretj_a, sretv_, spop_, spop_a, kc_scv_, scv_, scv_a, scv_b, scs_, scs_a, fpi_, fpi_a, fpi_b, fpj_, fpj_a, fpj_b, foi_, foi_a, foi_b, foj_, foj_a, foj_b, aii_, aii_a, aii_b, aii_c, aiz_, aiz_a, aiz_b, aiz_c, aij_, aij_a, aij_b, aij_c, aoi_, aoi_a, aoi_b, aoi_c, aoj_, aoj_a, aoj_b, aoj_c, scopy_, scopy_a, scopy_b, scopy_c, scopy_d, scopy_e, ssw_, ssw_a, sel_n, sel_c, mfi_, mfi_a, mfj_, mfj_a, mfz_, mfz_a, kb_mfv_, mfv_, mfv_a, cut, lset, lset2, isL, Value.category, ent, entn, if_some, if_pair, if_cons, if_int, if_long, if_ref, ite_self, gz_b, ↓icb, ↓icb2, b2i_ne, ge0, ge1, ge2, ge3, ge4, ge5, ge6, ge7, ge8, ge9, ge10, ge11, ge12, ge13, ge14, lit32, nI_add, pk_mul, clt_nI, cle_nI, cgt_nI, cge_nI, ceq_nI, cne_nI, inr_nI, nI_clamp, nI_eq, nI_leI, nI_ltI, k492, f492_2, f492_3, f492_4, f492_5, f492_7, f492_8, f492_9, f492_10, k493, k494, k495, k496, k497, k498, k499, k500, l493, l494, l495, l496, l497, l498, l499, l500, f492_11, f492_12, f492_13, f492_15, f492_16, f492_17, f492_19, f492_20, f492_26, f492_27, f492_28, f492_29, f492_30, f492_32, f492_33, f492_34, k501, k502, k503, k504, k505, k506, k507, k508, k509, k510, k511, k512, k513, k514, k515, k516, l501, l502, l503, l504, l505, l506, l507, l508, l509, l510, l511, l512, l513, l514, l515, l516, j0, nx])
    (by simp -implicitDefEqProofs (disch := omega) [qX8_layTubes_1, kp_, bsome, bnone, gi_s, gj_s, gr_s, gv_s, ik_, jk_, il_, jl_, rl_, i2_, i2_a, i2_b, j2_, j2_a, j2_b, i2d_, i2d_a, i2d_b, j2d_, j2d_a, j2d_b, i1_, i1_a, j1_, j1_a, i2l_, i2l_a, l2i_, l2i_a, fgi_, fgi_a, fgj_, fgj_a, fgr_, fgr_a, iald_, iald_a, iald_b, zald_, zald_a, zald_b, jald_, jald_a, jald_b, rald_, rald_a, rald_b, alen_, alen_a, sald_, sald_a, ic_, ic_a, jc_, jc_a, bc_, bc_a, bc_b, bj_, bj_a, bj_b, bz_, bz_a, band_, band_a, bor_, bor_a, bnot_, bnot_a, anil_, ai_, ai_a, ai_b, aj_, aj_a, aj_b, ar_, ar_a, ar_b, kb2i_, cvi_, cvi_a, cvi_b, cvj_, cvj_a, cvj_b, cvz_, cvz_a, cvz_b, csi_, csi_a, csj_, csj_a, csz_, csz_a, snop_, sseq_, sseq_n, sseq_s, sif_, sif_a, scut_, scut_a, ssi_, ssi_a, ssj_, ssj_a, ssr_, ssr_a, sinc_, sinc_a, sret_, sret_a, sretj_, sretj_a, sretv_, spop_, spop_a, kc_scv_, scv_, scv_a, scv_b, scs_, scs_a, fpi_, fpi_a, fpi_b, fpj_, fpj_a, fpj_b, foi_, foi_a, foi_b, foj_, foj_a, foj_b, aii_, aii_a, aii_b, aii_c, aiz_, aiz_a, aiz_b, aiz_c, aij_, aij_a, aij_b, aij_c, aoi_, aoi_a, aoi_b, aoi_c, aoj_, aoj_a, aoj_b, aoj_c, scopy_, scopy_a, scopy_b, scopy_c, scopy_d, scopy_e, ssw_, ssw_a, sel_n, sel_c, mfi_, mfi_a, mfj_, mfj_a, mfz_, mfz_a, kb_mfv_, mfv_, mfv_a, cut, lset, lset2, isL, Value.category, ent, entn, if_some, if_pair, if_cons, if_int, if_long, if_ref, ite_self, gz_b, ↓icb, ↓icb2, b2i_ne, ge0, ge1, ge2, ge3, ge4, ge5, ge6, ge7, ge8, ge9, ge10, ge11, ge12, ge13, ge14, lit32, nI_add, pk_mul, clt_nI, cle_nI, cgt_nI, cge_nI, ceq_nI, cne_nI, inr_nI, nI_clamp, nI_eq, nI_leI, nI_ltI, k492, f492_2, f492_3, f492_4, f492_5, f492_7, f492_8, f492_9, f492_10, k493, k494, k495, k496, k497, k498, k499, k500, l493, l494, l495, l496, l497, l498, l499, l500])
  rw [sJ_0] at l1
  have l2 := swh_count (c := qX8_layTubes_2) (b := wX8_layTubes_2) (fun i => [.ref 492, .int (nI i), .null, .null, .null]) (fun i => sJ M 501 25 (fun q => jI (lpT X i (q / 5) (q % 5)))) nt
    (fun i hi => by simp -implicitDefEqProofs (disch := omega) [qX8_layTubes_2, kp_, bsome, bnone, gi_s, gj_s, gr_s, gv_s, ik_, jk_, il_, jl_, rl_, i2_, i2_a, i2_b, j2_, j2_a, j2_b, i2d_, i2d_a, i2d_b, j2d_, j2d_a, j2d_b, i1_, i1_a, j1_, j1_a, i2l_, i2l_a, l2i_, l2i_a, fgi_, fgi_a, fgj_, fgj_a, fgr_, fgr_a, iald_, iald_a, iald_b, zald_, zald_a, zald_b, jald_, jald_a, jald_b, rald_, rald_a, rald_b, alen_, alen_a, sald_, sald_a, ic_, ic_a, jc_, jc_a, bc_, bc_a, bc_b, bj_, bj_a, bj_b, bz_, bz_a, band_, band_a, bor_, bor_a, bnot_, bnot_a, anil_, ai_, ai_a, ai_b, aj_, aj_a, aj_b, ar_, ar_a, ar_b, kb2i_, cvi_, cvi_a, cvi_b, cvj_, cvj_a, cvj_b, cvz_, cvz_a, cvz_b, csi_, csi_a, csj_, csj_a, csz_, csz_a, snop_, sseq_, sseq_n, sseq_s, sif_, sif_a, scut_, scut_a, ssi_, ssi_a, ssj_, ssj_a, ssr_, ssr_a, sinc_, sinc_a, sret_, sret_a, sretj_, sretj_a, sretv_, spop_, spop_a, kc_scv_, scv_, scv_a, scv_b, scs_, scs_a, fpi_, fpi_a, fpi_b, fpj_, fpj_a, fpj_b, foi_, foi_a, foi_b, foj_, foj_a, foj_b, aii_, aii_a, aii_b, aii_c, aiz_, aiz_a, aiz_b, aiz_c, aij_, aij_a, aij_b, aij_c, aoi_, aoi_a, aoi_b, aoi_c, aoj_, aoj_a, aoj_b, aoj_c, scopy_, scopy_a, scopy_b, scopy_c, scopy_d, scopy_e, ssw_, ssw_a, sel_n, sel_c, mfi_, mfi_a, mfj_, mfj_a, mfz_, mfz_a, kb_mfv_, mfv_, mfv_a, cut, lset, lset2, isL, Value.category, ent, entn, if_some, if_pair, if_cons, if_int, if_long, if_ref, ite_self, gz_b, ↓icb, ↓icb2, b2i_ne, ge0, ge1, ge2, ge3, ge4, ge5, ge6, ge7, ge8, ge9, ge10, ge11, ge12, ge13, ge14, lit32, nI_add, pk_mul, clt_nI, cle_nI, cgt_nI, cge_nI, ceq_nI, cne_nI, inr_nI, nI_clamp, nI_eq, nI_leI, nI_ltI, k492, f492_2, f492_3, f492_4, f492_5, f492_7, f492_8, f492_9, f492_10, k493, k494, k495, k496, k497, k498, k499, k500, l493, l494, l495, l496, l497, l498, l499, l500, sJ_1, hX, hn, hi])
    (fun i hi => by
      obtain ⟨d, oo, v1, v2, v3, v4, v5, v6, v7, v8, v9, v10, v11⟩ := tubeX hB.1 (hv.2.2.2.2.1 i hi)
      obtain ⟨dd, d1, d2⟩ := dX_e hB.1 (hv.2.2.2.2.1 i hi)
      have i10 : i < 10 := by omega
      have ro := r_isOpen (t := i) (M := sJ M 501 25 (fun q => jI (lpT X i (q / 5) (q % 5)))) i10
      rw [sJ_1, hX, v9] at ro
      by_cases c1 : oo = 1
      · subst c1
        have ho : oX X i = true := by rw [v11]; rfl
        have dn := fun x => dgS_next (X := X) (i := x) (n := i) v5 (by omega) (by omega) ho
        have gn : ∀ x y, gsm X x y (i + 1) = gsm X x y i + if (fX X i = x ∧ gX X i = y) ∨ (fX X i = y ∧ gX X i = x) then dX X i else 0 := fun x y => by
          simp only [gsm]
          by_cases q : (fX X i = x ∧ gX X i = y) ∨ (fX X i = y ∧ gX X i = x)
          · rw [if_pos q, if_pos ⟨ho, q⟩]
          · rw [if_neg q, if_neg (fun z => q z.2)]
        obtain ⟨f, ef⟩ : ∃ f, f = fX X i := ⟨_, rfl⟩
        obtain ⟨g, eg⟩ : ∃ g, g = gX X i := ⟨_, rfl⟩
        obtain ⟨D, eD⟩ : ∃ D, D = dX X i := ⟨_, rfl⟩
        rw [← ef] at v1 v3 v5
        rw [← eg] at v2 v4 v5
        rw [← eD] at dd d1 d2
        simp only [← ef, ← eg, ← eD] at dn gn
        have f5 : f < 5 := by omega
        have g5 : g < 5 := by omega
        have jd := nI_j (n := D) (by omega)
        obtain ⟨U, eU⟩ : ∃ U : Nat → Int64, U = fun q => jI (lpT X i (q / 5) (q % 5)) := ⟨_, rfl⟩
        have u0 : ∀ q, U q = jI (lpT X i (q / 5) (q % 5)) := fun q => by rw [eU]
        have y1 : U (6 * f) = jI (dgS X f i) := by rw [u0, show 6 * f / 5 = f by omega, show 6 * f % 5 = f by omega]; unfold lpT; rw [if_pos rfl]
        have y2 : vp_updL U (6 * f) (jI ((dgS X f i : Int) + D)) (6 * g) = jI (dgS X g i) := by rw [pk_uLn (by omega), u0, show 6 * g / 5 = g by omega, show 6 * g % 5 = g by omega]; unfold lpT; rw [if_pos rfl]
        have y3 : vp_updL (vp_updL U (6 * f) (jI ((dgS X f i : Int) + D))) (6 * g) (jI ((dgS X g i : Int) + D)) (5 * f + g) = jI (-(gsm X f g i : Int)) := by
          rw [pk_uLn (by omega), pk_uLn (by omega), u0, show (5 * f + g) / 5 = f by omega, show (5 * f + g) % 5 = g by omega]; unfold lpT; rw [if_neg v5]
        have y4 : vp_updL (vp_updL (vp_updL U (6 * f) (jI ((dgS X f i : Int) + D))) (6 * g) (jI ((dgS X g i : Int) + D))) (5 * f + g) (jI (-(gsm X f g i : Int) - D)) (5 * g + f) = jI (-(gsm X g f i : Int)) := by
          rw [pk_uLn (by omega), pk_uLn (by omega), pk_uLn (by omega), u0, show (5 * g + f) / 5 = g by omega, show (5 * g + f) % 5 = f by omega]; unfold lpT; rw [if_neg (fun z => v5 z.symm)]
        have fin : sJ M 501 25 (vp_updL (vp_updL (vp_updL (vp_updL U (6 * f) (jI ((dgS X f i : Int) + D))) (6 * g) (jI ((dgS X g i : Int) + D))) (5 * f + g) (jI (-(gsm X f g i : Int) - D))) (5 * g + f) (jI (-(gsm X g f i : Int) - D))) = sJ M 501 25 (fun q => jI (lpT X (i + 1) (q / 5) (q % 5))) := sJ_congr (fun q hq => by
          by_cases w4 : q = 5 * g + f
          · subst w4
            rw [pk_uLs, show (5 * g + f) / 5 = g by omega, show (5 * g + f) % 5 = f by omega]
            unfold lpT
            rw [if_neg (fun z => v5 z.symm), gn, if_pos (Or.inr ⟨rfl, rfl⟩), Int.natCast_add]
            congr 1
            omega
          rw [pk_uLn w4]
          by_cases w3 : q = 5 * f + g
          · subst w3
            rw [pk_uLs, show (5 * f + g) / 5 = f by omega, show (5 * f + g) % 5 = g by omega]
            unfold lpT
            rw [if_neg v5, gn, if_pos (Or.inl ⟨rfl, rfl⟩), Int.natCast_add]
            congr 1
            omega
          rw [pk_uLn w3]
          by_cases w2 : q = 6 * g
          · subst w2
            rw [pk_uLs, show 6 * g / 5 = g by omega, show 6 * g % 5 = g by omega]
            unfold lpT
            rw [if_pos rfl, dn, if_pos (Or.inr rfl), Int.natCast_add]
          rw [pk_uLn w2]
          by_cases w1 : q = 6 * f
          · subst w1
            rw [pk_uLs, show 6 * f / 5 = f by omega, show 6 * f % 5 = f by omega]
            unfold lpT
            rw [if_pos rfl, dn, if_pos (Or.inl rfl), Int.natCast_add]
          rw [pk_uLn w1, u0]
          unfold lpT
          by_cases z : q / 5 = q % 5
          · rw [if_pos z, if_pos z, dn, if_neg (by omega), Nat.add_zero]
          · rw [if_neg z, if_neg z, gn, if_neg (by omega), Nat.add_zero])
        show wX8_layTubes_2 [.ref 492, .int (nI i), .null, .null, .null] (sJ M 501 25 (fun q => jI (lpT X i (q / 5) (q % 5)))) = _
        rw [← eU] at ro ⊢
        have b1 : 6 * f < 25 := by omega
        have b2 : 6 * g < 25 := by omega
        have b3 : 5 * f + g < 25 := by omega
        have b4 : 5 * g + f < 25 := by omega
        simp -implicitDefEqProofs (disch := omega) [wX8_layTubes_2, kp_, bsome, bnone, gi_s, gj_s, gr_s, gv_s, ik_, jk_, il_, jl_, rl_, i2_, i2_a, i2_b, j2_, j2_a, j2_b, i2d_, i2d_a, i2d_b, j2d_, j2d_a, j2d_b, i1_, i1_a, j1_, j1_a, i2l_, i2l_a, l2i_, l2i_a, fgi_, fgi_a, fgj_, fgj_a, fgr_, fgr_a, iald_, iald_a, iald_b, zald_, zald_a, zald_b, jald_, jald_a, jald_b, rald_, rald_a, rald_b, alen_, alen_a, sald_, sald_a, ic_, ic_a, jc_, jc_a, bc_, bc_a, bc_b, bj_, bj_a, bj_b, bz_, bz_a, band_, band_a, bor_, bor_a, bnot_, bnot_a, anil_, ai_, ai_a, ai_b, aj_, aj_a, aj_b, ar_, ar_a, ar_b, kb2i_, cvi_, cvi_a, cvi_b, cvj_, cvj_a, cvj_b, cvz_, cvz_a, cvz_b, csi_, csi_a, csj_, csj_a, csz_, csz_a, snop_, sseq_, sseq_n, sseq_s, sif_, sif_a, scut_, scut_a, ssi_, ssi_a, ssj_, ssj_a, ssr_, ssr_a, sinc_, sinc_a, sret_, sret_a, sretj_, sretj_a, sretv_, spop_, spop_a, kc_scv_, scv_, scv_a, scv_b, scs_, scs_a, fpi_, fpi_a, fpi_b, fpj_, fpj_a, fpj_b, foi_, foi_a, foi_b, foj_, foj_a, foj_b, aii_, aii_a, aii_b, aii_c, aiz_, aiz_a, aiz_b, aiz_c, aij_, aij_a, aij_b, aij_c, aoi_, aoi_a, aoi_b, aoi_c, aoj_, aoj_a, aoj_b, aoj_c, scopy_, scopy_a, scopy_b, scopy_c, scopy_d, scopy_e, ssw_, ssw_a, sel_n, sel_c, mfi_, mfi_a, mfj_, mfj_a, mfz_, mfz_a, kb_mfv_, mfv_, mfv_a, cut, lset, lset2, isL, Value.category, ent, entn, if_some, if_pair, if_cons, if_int, if_long, if_ref, ite_self, gz_b, ↓icb, ↓icb2, b2i_ne, ge0, ge1, ge2, ge3, ge4, ge5, ge6, ge7, ge8, ge9, ge10, ge11, ge12, ge13, ge14, lit32, nI_add, pk_mul, clt_nI, cle_nI, cgt_nI, cge_nI, ceq_nI, cne_nI, inr_nI, nI_clamp, nI_eq, nI_leI, nI_ltI, k492, f492_2, f492_3, f492_4, f492_5, f492_7, f492_8, f492_9, f492_10, k493, k494, k495, k496, k497, k498, k499, k500, l493, l494, l495, l496, l497, l498, l499, l500, f492_11, f492_12, f492_13, f492_15, f492_16, f492_17, f492_19, f492_20, f492_26, f492_27, f492_28, f492_29, f492_30, f492_32, f492_33, f492_34, k501, k502, k503, k504, k505, k506, k507, k508, k509, k510, k511, k512, k513, k514, k515, k516, l501, l502, l503, l504, l505, l506, l507, l508, l509, l510, l511, l512, l513, l514, l515, l516, sJ_1, hX, r_tubeAt, ro, v1, v2, dd, jd, sJ_at, wj_sJ, y1, jI_add, y2, y3, jI_sub, y4, fin]
      · have c0 : oo = 0 := by omega
        subst c0
        have ho : ¬ oX X i = true := by rw [v11]; decide
        have gn : ∀ x y, gsm X x y (i + 1) = gsm X x y i := fun x y => by simp only [gsm]; rw [if_neg (fun z => ho z.1)]; rfl
        have fin : (fun q => jI (lpT X (i + 1) (q / 5) (q % 5))) = fun q => jI (lpT X i (q / 5) (q % 5)) := by
          funext q
          unfold lpT dgS
          rw [gn, gn, gn, gn, gn, gn]
        rw [fin]
        simp -implicitDefEqProofs (disch := omega) [wX8_layTubes_2, kp_, bsome, bnone, gi_s, gj_s, gr_s, gv_s, ik_, jk_, il_, jl_, rl_, i2_, i2_a, i2_b, j2_, j2_a, j2_b, i2d_, i2d_a, i2d_b, j2d_, j2d_a, j2d_b, i1_, i1_a, j1_, j1_a, i2l_, i2l_a, l2i_, l2i_a, fgi_, fgi_a, fgj_, fgj_a, fgr_, fgr_a, iald_, iald_a, iald_b, zald_, zald_a, zald_b, jald_, jald_a, jald_b, rald_, rald_a, rald_b, alen_, alen_a, sald_, sald_a, ic_, ic_a, jc_, jc_a, bc_, bc_a, bc_b, bj_, bj_a, bj_b, bz_, bz_a, band_, band_a, bor_, bor_a, bnot_, bnot_a, anil_, ai_, ai_a, ai_b, aj_, aj_a, aj_b, ar_, ar_a, ar_b, kb2i_, cvi_, cvi_a, cvi_b, cvj_, cvj_a, cvj_b, cvz_, cvz_a, cvz_b, csi_, csi_a, csj_, csj_a, csz_, csz_a, snop_, sseq_, sseq_n, sseq_s, sif_, sif_a, scut_, scut_a, ssi_, ssi_a, ssj_, ssj_a, ssr_, ssr_a, sinc_, sinc_a, sret_, sret_a, sretj_, sretj_a, sretv_, spop_, spop_a, kc_scv_, scv_, scv_a, scv_b, scs_, scs_a, fpi_, fpi_a, fpi_b, fpj_, fpj_a, fpj_b, foi_, foi_a, foi_b, foj_, foj_a, foj_b, aii_, aii_a, aii_b, aii_c, aiz_, aiz_a, aiz_b, aiz_c, aij_, aij_a, aij_b, aij_c, aoi_, aoi_a, aoi_b, aoi_c, aoj_, aoj_a, aoj_b, aoj_c, scopy_, scopy_a, scopy_b, scopy_c, scopy_d, scopy_e, ssw_, ssw_a, sel_n, sel_c, mfi_, mfi_a, mfj_, mfj_a, mfz_, mfz_a, kb_mfv_, mfv_, mfv_a, cut, lset, lset2, isL, Value.category, ent, entn, if_some, if_pair, if_cons, if_int, if_long, if_ref, ite_self, gz_b, ↓icb, ↓icb2, b2i_ne, ge0, ge1, ge2, ge3, ge4, ge5, ge6, ge7, ge8, ge9, ge10, ge11, ge12, ge13, ge14, lit32, nI_add, pk_mul, clt_nI, cle_nI, cgt_nI, cge_nI, ceq_nI, cne_nI, inr_nI, nI_clamp, nI_eq, nI_leI, nI_ltI, k492, f492_2, f492_3, f492_4, f492_5, f492_7, f492_8, f492_9, f492_10, k493, k494, k495, k496, k497, k498, k499, k500, l493, l494, l495, l496, l497, l498, l499, l500, f492_11, f492_12, f492_13, f492_15, f492_16, f492_17, f492_19, f492_20, f492_26, f492_27, f492_28, f492_29, f492_30, f492_32, f492_33, f492_34, k501, k502, k503, k504, k505, k506, k507, k508, k509, k510, k511, k512, k513, k514, k515, k516, l501, l502, l503, l504, l505, l506, l507, l508, l509, l510, l511, l512, l513, l514, l515, l516, ro])
    (by simp -implicitDefEqProofs (disch := omega) [qX8_layTubes_2, kp_, bsome, bnone, gi_s, gj_s, gr_s, gv_s, ik_, jk_, il_, jl_, rl_, i2_, i2_a, i2_b, j2_, j2_a, j2_b, i2d_, i2d_a, i2d_b, j2d_, j2d_a, j2d_b, i1_, i1_a, j1_, j1_a, i2l_, i2l_a, l2i_, l2i_a, fgi_, fgi_a, fgj_, fgj_a, fgr_, fgr_a, iald_, iald_a, iald_b, zald_, zald_a, zald_b, jald_, jald_a, jald_b, rald_, rald_a, rald_b, alen_, alen_a, sald_, sald_a, ic_, ic_a, jc_, jc_a, bc_, bc_a, bc_b, bj_, bj_a, bj_b, bz_, bz_a, band_, band_a, bor_, bor_a, bnot_, bnot_a, anil_, ai_, ai_a, ai_b, aj_, aj_a, aj_b, ar_, ar_a, ar_b, kb2i_, cvi_, cvi_a, cvi_b, cvj_, cvj_a, cvj_b, cvz_, cvz_a, cvz_b, csi_, csi_a, csj_, csj_a, csz_, csz_a, snop_, sseq_, sseq_n, sseq_s, sif_, sif_a, scut_, scut_a, ssi_, ssi_a, ssj_, ssj_a, ssr_, ssr_a, sinc_, sinc_a, sret_, sret_a, sretj_, sretj_a, sretv_, spop_, spop_a, kc_scv_, scv_, scv_a, scv_b, scs_, scs_a, fpi_, fpi_a, fpi_b, fpj_, fpj_a, fpj_b, foi_, foi_a, foi_b, foj_, foj_a, foj_b, aii_, aii_a, aii_b, aii_c, aiz_, aiz_a, aiz_b, aiz_c, aij_, aij_a, aij_b, aij_c, aoi_, aoi_a, aoi_b, aoi_c, aoj_, aoj_a, aoj_b, aoj_c, scopy_, scopy_a, scopy_b, scopy_c, scopy_d, scopy_e, ssw_, ssw_a, sel_n, sel_c, mfi_, mfi_a, mfj_, mfj_a, mfz_, mfz_a, kb_mfv_, mfv_, mfv_a, cut, lset, lset2, isL, Value.category, ent, entn, if_some, if_pair, if_cons, if_int, if_long, if_ref, ite_self, gz_b, ↓icb, ↓icb2, b2i_ne, ge0, ge1, ge2, ge3, ge4, ge5, ge6, ge7, ge8, ge9, ge10, ge11, ge12, ge13, ge14, lit32, nI_add, pk_mul, clt_nI, cle_nI, cgt_nI, cge_nI, ceq_nI, cne_nI, inr_nI, nI_clamp, nI_eq, nI_leI, nI_ltI, k492, f492_2, f492_3, f492_4, f492_5, f492_7, f492_8, f492_9, f492_10, k493, k494, k495, k496, k497, k498, k499, k500, l493, l494, l495, l496, l497, l498, l499, l500, sJ_1, hX, hn])
  simp -implicitDefEqProofs (disch := omega) [DX8_layTubes, EX8_layTubes, kp_, bsome, bnone, gi_s, gj_s, gr_s, gv_s, ik_, jk_, il_, jl_, rl_, i2_, i2_a, i2_b, j2_, j2_a, j2_b, i2d_, i2d_a, i2d_b, j2d_, j2d_a, j2d_b, i1_, i1_a, j1_, j1_a, i2l_, i2l_a, l2i_, l2i_a, fgi_, fgi_a, fgj_, fgj_a, fgr_, fgr_a, iald_, iald_a, iald_b, zald_, zald_a, zald_b, jald_, jald_a, jald_b, rald_, rald_a, rald_b, alen_, alen_a, sald_, sald_a, ic_, ic_a, jc_, jc_a, bc_, bc_a, bc_b, bj_, bj_a, bj_b, bz_, bz_a, band_, band_a, bor_, bor_a, bnot_, bnot_a, anil_, ai_, ai_a, ai_b, aj_, aj_a, aj_b, ar_, ar_a, ar_b, kb2i_, cvi_, cvi_a, cvi_b, cvj_, cvj_a, cvj_b, cvz_, cvz_a, cvz_b, csi_, csi_a, csj_, csj_a, csz_, csz_a, snop_, sseq_, sseq_n, sseq_s, sif_, sif_a, scut_, scut_a, ssi_, ssi_a, ssj_, ssj_a, ssr_, ssr_a, sinc_, sinc_a, sret_, sret_a, sretj_, sretj_a, sretv_, spop_, spop_a, kc_scv_, scv_, scv_a, scv_b, scs_, scs_a, fpi_, fpi_a, fpi_b, fpj_, fpj_a, fpj_b, foi_, foi_a, foi_b, foj_, foj_a, foj_b, aii_, aii_a, aii_b, aii_c, aiz_, aiz_a, aiz_b, aiz_c, aij_, aij_a, aij_b, aij_c, aoi_, aoi_a, aoi_b, aoi_c, aoj_, aoj_a, aoj_b, aoj_c, scopy_, scopy_a, scopy_b, scopy_c, scopy_d, scopy_e, ssw_, ssw_a, sel_n, sel_c, mfi_, mfi_a, mfj_, mfj_a, mfz_, mfz_a, kb_mfv_, mfv_, mfv_a, cut, lset, lset2, isL, Value.category, ent, entn, if_some, if_pair, if_cons, if_int, if_long, if_ref, ite_self, gz_b, ↓icb, ↓icb2, b2i_ne, ge0, ge1, ge2, ge3, ge4, ge5, ge6, ge7, ge8, ge9, ge10, ge11, ge12, ge13, ge14, lit32, nI_add, pk_mul, clt_nI, cle_nI, cgt_nI, cge_nI, ceq_nI, cne_nI, inr_nI, nI_clamp, nI_eq, nI_leI, nI_ltI, k492, f492_2, f492_3, f492_4, f492_5, f492_7, f492_8, f492_9, f492_10, k493, k494, k495, k496, k497, k498, k499, k500, l493, l494, l495, l496, l497, l498, l499, l500, l1, l2]
set_option maxRecDepth 20000 in
theorem r_unit {U : Nat → Int64} {c : Nat} (hc : c < 5) : DX8_unit [.ref 492, .int (nI c)] (sJ M 501 25 U) = some (sJ M 501 25 (fun q => if q / 5 = c ∨ q % 5 = c then (if q / 5 = q % 5 then jI 1 else jI 0) else U q)) := by
  have j0 : (0 : Int64) = jI 0 := rfl
  have j1 : (1 : Int64) = jI 1 := rfl
  have l1 := swh_count (c := qX8_unit_1) (b := wX8_unit_1) (fun i => [.ref 492, .int (nI c), .int (nI i)]) (fun i => sJ M 501 25 (fun q => if (q / 5 = c ∧ q % 5 < i) ∨ (q % 5 = c ∧ q / 5 < i) then jI 0 else U q)) 5
    (fun i hi => by simp -implicitDefEqProofs (disch := omega) [qX8_unit_1, kp_, bsome, bnone, gi_s, gj_s, gr_s, gv_s, ik_, jk_, il_, jl_, rl_, i2_, i2_a, i2_b, j2_, j2_a, j2_b, i2d_, i2d_a, i2d_b, j2d_, j2d_a, j2d_b, i1_, i1_a, j1_, j1_a, i2l_, i2l_a, l2i_, l2i_a, fgi_, fgi_a, fgj_, fgj_a, fgr_, fgr_a, iald_, iald_a, iald_b, zald_, zald_a, zald_b, jald_, jald_a, jald_b, rald_, rald_a, rald_b, alen_, alen_a, sald_, sald_a, ic_, ic_a, jc_, jc_a, bc_, bc_a, bc_b, bj_, bj_a, bj_b, bz_, bz_a, band_, band_a, bor_, bor_a, bnot_, bnot_a, anil_, ai_, ai_a, ai_b, aj_, aj_a, aj_b, ar_, ar_a, ar_b, kb2i_, cvi_, cvi_a, cvi_b, cvj_, cvj_a, cvj_b, cvz_, cvz_a, cvz_b, csi_, csi_a, csj_, csj_a, csz_, csz_a, snop_, sseq_, sseq_n, sseq_s, sif_, sif_a, scut_, scut_a, ssi_, ssi_a, ssj_, ssj_a, ssr_, ssr_a, sinc_, sinc_a, sret_, sret_a, sretj_, sretj_a, sretv_, spop_, spop_a, kc_scv_, scv_, scv_a, scv_b, scs_, scs_a, fpi_, fpi_a, fpi_b, fpj_, fpj_a, fpj_b, foi_, foi_a, foi_b, foj_, foj_a, foj_b, aii_, aii_a, aii_b, aii_c, aiz_, aiz_a, aiz_b, aiz_c, aij_, aij_a, aij_b, aij_c, aoi_, aoi_a, aoi_b, aoi_c, aoj_, aoj_a, aoj_b, aoj_c, scopy_, scopy_a, scopy_b, scopy_c, scopy_d, scopy_e, ssw_, ssw_a, sel_n, sel_c, mfi_, mfi_a, mfj_, mfj_a, mfz_, mfz_a, kb_mfv_, mfv_, mfv_a, cut, lset, lset2, isL, Value.category, ent, entn, if_some, if_pair, if_cons, if_int, if_long, if_ref, ite_self, gz_b, ↓icb, ↓icb2, b2i_ne, ge0, ge1, ge2, ge3, ge4, ge5, ge6, ge7, ge8, ge9, ge10, ge11, ge12, ge13, ge14, lit32, nI_add, pk_mul, clt_nI, cle_nI, cgt_nI, cge_nI, ceq_nI, cne_nI, inr_nI, nI_clamp, nI_eq, nI_leI, nI_ltI, k492, f492_2, f492_3, f492_4, f492_5, f492_7, f492_8, f492_9, f492_10, k493, k494, k495, k496, k497, k498, k499, k500, l493, l494, l495, l496, l497, l498, l499, l500, hi])
    (fun i hi => by
      have fin : sJ M 501 25 (vp_updL (vp_updL (fun q => if (q / 5 = c ∧ q % 5 < i) ∨ (q % 5 = c ∧ q / 5 < i) then jI 0 else U q) (5 * c + i) (jI 0)) (5 * i + c) (jI 0)) = sJ M 501 25 (fun q => if (q / 5 = c ∧ q % 5 < i + 1) ∨ (q % 5 = c ∧ q / 5 < i + 1) then jI 0 else U q) := sJ_congr (fun q hq => by
        by_cases w : q = 5 * i + c
        · subst w
          rw [pk_uLs, if_pos (by omega)]
        rw [pk_uLn w]
        by_cases w : q = 5 * c + i
        · subst w
          rw [pk_uLs, if_pos (by omega)]
        rw [pk_uLn w]
        by_cases z : (q / 5 = c ∧ q % 5 < i) ∨ (q % 5 = c ∧ q / 5 < i)
        · rw [if_pos z, if_pos (by omega)]
        · rw [if_neg z, if_neg (by omega)])
      have b1 : 5 * c + i < 25 := by omega
      have b2 : 5 * i + c < 25 := by omega
      simp -implicitDefEqProofs (disch := omega) [wX8_unit_1, kp_, bsome, bnone, gi_s, gj_s, gr_s, gv_s, ik_, jk_, il_, jl_, rl_, i2_, i2_a, i2_b, j2_, j2_a, j2_b, i2d_, i2d_a, i2d_b, j2d_, j2d_a, j2d_b, i1_, i1_a, j1_, j1_a, i2l_, i2l_a, l2i_, l2i_a, fgi_, fgi_a, fgj_, fgj_a, fgr_, fgr_a, iald_, iald_a, iald_b, zald_, zald_a, zald_b, jald_, jald_a, jald_b, rald_, rald_a, rald_b, alen_, alen_a, sald_, sald_a, ic_, ic_a, jc_, jc_a, bc_, bc_a, bc_b, bj_, bj_a, bj_b, bz_, bz_a, band_, band_a, bor_, bor_a, bnot_, bnot_a, anil_, ai_, ai_a, ai_b, aj_, aj_a, aj_b, ar_, ar_a, ar_b, kb2i_, cvi_, cvi_a, cvi_b, cvj_, cvj_a, cvj_b, cvz_, cvz_a, cvz_b, csi_, csi_a, csj_, csj_a, csz_, csz_a, snop_, sseq_, sseq_n, sseq_s, sif_, sif_a, scut_, scut_a, ssi_, ssi_a, ssj_, ssj_a, ssr_, ssr_a, sinc_, sinc_a, sret_, sret_a, sretj_, sretj_a, sretv_, spop_, spop_a, kc_scv_, scv_, scv_a, scv_b, scs_, scs_a, fpi_, fpi_a, fpi_b, fpj_, fpj_a, fpj_b, foi_, foi_a, foi_b, foj_, foj_a, foj_b, aii_, aii_a, aii_b, aii_c, aiz_, aiz_a, aiz_b, aiz_c, aij_, aij_a, aij_b, aij_c, aoi_, aoi_a, aoi_b, aoi_c, aoj_, aoj_a, aoj_b, aoj_c, scopy_, scopy_a, scopy_b, scopy_c, scopy_d, scopy_e, ssw_, ssw_a, sel_n, sel_c, mfi_, mfi_a, mfj_, mfj_a, mfz_, mfz_a, kb_mfv_, mfv_, mfv_a, cut, lset, lset2, isL, Value.category, ent, entn, if_some, if_pair, if_cons, if_int, if_long, if_ref, ite_self, gz_b, ↓icb, ↓icb2, b2i_ne, ge0, ge1, ge2, ge3, ge4, ge5, ge6, ge7, ge8, ge9, ge10, ge11, ge12, ge13, ge14, lit32, nI_add, pk_mul, clt_nI, cle_nI, cgt_nI, cge_nI, ceq_nI, cne_nI, inr_nI, nI_clamp, nI_eq, nI_leI, nI_ltI, k492, f492_2, f492_3, f492_4, f492_5, f492_7, f492_8, f492_9, f492_10, k493, k494, k495, k496, k497, k498, k499, k500, l493, l494, l495, l496, l497, l498, l499, l500, f492_11, f492_12, f492_13, f492_15, f492_16, f492_17, f492_19, f492_20, f492_26, f492_27, f492_28, f492_29, f492_30, f492_32, f492_33, f492_34, k501, k502, k503, k504, k505, k506, k507, k508, k509, k510, k511, k512, k513, k514, k515, k516, l501, l502, l503, l504, l505, l506, l507, l508, l509, l510, l511, l512, l513, l514, l515, l516, j0, wj_sJ, fin])
    (by simp -implicitDefEqProofs (disch := omega) [qX8_unit_1, kp_, bsome, bnone, gi_s, gj_s, gr_s, gv_s, ik_, jk_, il_, jl_, rl_, i2_, i2_a, i2_b, j2_, j2_a, j2_b, i2d_, i2d_a, i2d_b, j2d_, j2d_a, j2d_b, i1_, i1_a, j1_, j1_a, i2l_, i2l_a, l2i_, l2i_a, fgi_, fgi_a, fgj_, fgj_a, fgr_, fgr_a, iald_, iald_a, iald_b, zald_, zald_a, zald_b, jald_, jald_a, jald_b, rald_, rald_a, rald_b, alen_, alen_a, sald_, sald_a, ic_, ic_a, jc_, jc_a, bc_, bc_a, bc_b, bj_, bj_a, bj_b, bz_, bz_a, band_, band_a, bor_, bor_a, bnot_, bnot_a, anil_, ai_, ai_a, ai_b, aj_, aj_a, aj_b, ar_, ar_a, ar_b, kb2i_, cvi_, cvi_a, cvi_b, cvj_, cvj_a, cvj_b, cvz_, cvz_a, cvz_b, csi_, csi_a, csj_, csj_a, csz_, csz_a, snop_, sseq_, sseq_n, sseq_s, sif_, sif_a, scut_, scut_a, ssi_, ssi_a, ssj_, ssj_a, ssr_, ssr_a, sinc_, sinc_a, sret_, sret_a, sretj_, sretj_a, sretv_, spop_, spop_a, kc_scv_, scv_, scv_a, scv_b, scs_, scs_a, fpi_, fpi_a, fpi_b, fpj_, fpj_a, fpj_b, foi_, foi_a, foi_b, foj_, foj_a, foj_b, aii_, aii_a, aii_b, aii_c, aiz_, aiz_a, aiz_b, aiz_c, aij_, aij_a, aij_b, aij_c, aoi_, aoi_a, aoi_b, aoi_c, aoj_, aoj_a, aoj_b, aoj_c, scopy_, scopy_a, scopy_b, scopy_c, scopy_d, scopy_e, ssw_, ssw_a, sel_n, sel_c, mfi_, mfi_a, mfj_, mfj_a, mfz_, mfz_a, kb_mfv_, mfv_, mfv_a, cut, lset, lset2, isL, Value.category, ent, entn, if_some, if_pair, if_cons, if_int, if_long, if_ref, ite_self, gz_b, ↓icb, ↓icb2, b2i_ne, ge0, ge1, ge2, ge3, ge4, ge5, ge6, ge7, ge8, ge9, ge10, ge11, ge12, ge13, ge14, lit32, nI_add, pk_mul, clt_nI, cle_nI, cgt_nI, cge_nI, ceq_nI, cne_nI, inr_nI, nI_clamp, nI_eq, nI_leI, nI_ltI, k492, f492_2, f492_3, f492_4, f492_5, f492_7, f492_8, f492_9, f492_10, k493, k494, k495, k496, k497, k498, k499, k500, l493, l494, l495, l496, l497, l498, l499, l500])
  have z0 : sJ M 501 25 (fun q => if (q / 5 = c ∧ q % 5 < 0) ∨ (q % 5 = c ∧ q / 5 < 0) then jI 0 else U q) = sJ M 501 25 U := sJ_congr (fun q hq => if_neg (by omega))
  rw [z0] at l1
  have fin : sJ M 501 25 (vp_updL (fun q => if (q / 5 = c ∧ q % 5 < 5) ∨ (q % 5 = c ∧ q / 5 < 5) then jI 0 else U q) (6 * c) (jI 1)) = sJ M 501 25 (fun q => if q / 5 = c ∨ q % 5 = c then (if q / 5 = q % 5 then jI 1 else jI 0) else U q) := sJ_congr (fun q hq => by
    by_cases w : q = 6 * c
    · subst w
      rw [pk_uLs, if_pos (by omega), if_pos (by omega)]
    rw [pk_uLn w]
    by_cases z : q / 5 = c ∨ q % 5 = c
    · rw [if_pos z, if_pos (by omega), if_neg (by omega)]
    · rw [if_neg z, if_neg (by omega)])
  have b1 : 6 * c < 25 := by omega
  simp -implicitDefEqProofs (disch := omega) [DX8_unit, EX8_unit, kp_, bsome, bnone, gi_s, gj_s, gr_s, gv_s, ik_, jk_, il_, jl_, rl_, i2_, i2_a, i2_b, j2_, j2_a, j2_b, i2d_, i2d_a, i2d_b, j2d_, j2d_a, j2d_b, i1_, i1_a, j1_, j1_a, i2l_, i2l_a, l2i_, l2i_a, fgi_, fgi_a, fgj_, fgj_a, fgr_, fgr_a, iald_, iald_a, iald_b, zald_, zald_a, zald_b, jald_, jald_a, jald_b, rald_, rald_a, rald_b, alen_, alen_a, sald_, sald_a, ic_, ic_a, jc_, jc_a, bc_, bc_a, bc_b, bj_, bj_a, bj_b, bz_, bz_a, band_, band_a, bor_, bor_a, bnot_, bnot_a, anil_, ai_, ai_a, ai_b, aj_, aj_a, aj_b, ar_, ar_a, ar_b, kb2i_, cvi_, cvi_a, cvi_b, cvj_, cvj_a, cvj_b, cvz_, cvz_a, cvz_b, csi_, csi_a, csj_, csj_a, csz_, csz_a, snop_, sseq_, sseq_n, sseq_s, sif_, sif_a, scut_, scut_a, ssi_, ssi_a, ssj_, ssj_a, ssr_, ssr_a, sinc_, sinc_a, sret_, sret_a, sretj_, sretj_a, sretv_, spop_, spop_a, kc_scv_, scv_, scv_a, scv_b, scs_, scs_a, fpi_, fpi_a, fpi_b, fpj_, fpj_a, fpj_b, foi_, foi_a, foi_b, foj_, foj_a, foj_b, aii_, aii_a, aii_b, aii_c, aiz_, aiz_a, aiz_b, aiz_c, aij_, aij_a, aij_b, aij_c, aoi_, aoi_a, aoi_b, aoi_c, aoj_, aoj_a, aoj_b, aoj_c, scopy_, scopy_a, scopy_b, scopy_c, scopy_d, scopy_e, ssw_, ssw_a, sel_n, sel_c, mfi_, mfi_a, mfj_, mfj_a, mfz_, mfz_a, kb_mfv_, mfv_, mfv_a, cut, lset, lset2, isL, Value.category, ent, entn, if_some, if_pair, if_cons, if_int, if_long, if_ref, ite_self, gz_b, ↓icb, ↓icb2, b2i_ne, ge0, ge1, ge2, ge3, ge4, ge5, ge6, ge7, ge8, ge9, ge10, ge11, ge12, ge13, ge14, lit32, nI_add, pk_mul, clt_nI, cle_nI, cgt_nI, cge_nI, ceq_nI, cne_nI, inr_nI, nI_clamp, nI_eq, nI_leI, nI_ltI, k492, f492_2, f492_3, f492_4, f492_5, f492_7, f492_8, f492_9, f492_10, k493, k494, k495, k496, k497, k498, k499, k500, l493, l494, l495, l496, l497, l498, l499, l500, f492_11, f492_12, f492_13, f492_15, f492_16, f492_17, f492_19, f492_20, f492_26, f492_27, f492_28, f492_29, f492_30, f492_32, f492_33, f492_34, k501, k502, k503, k504, k505, k506, k507, k508, k509, k510, k511, k512, k513, k514, k515, k516, l501, l502, l503, l504, l505, l506, l507, l508, l509, l510, l511, l512, l513, l514, l515, l516, l1, j1, wj_sJ, fin]
end
