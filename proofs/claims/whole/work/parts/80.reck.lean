/-! ===== the reference reckons ===== -/
def SolAt (N : Me) (k : Nat → Nat) (r : Nat) : Prop := (∀ c, c < 5 → N.2 506 c = jI (kup k r c)) ∧ N.2 492 18 = jI (2 * kdet k r) ∧ (∀ c, c < 5 → N.1 507 c = b2i (kEn k r c)) ∧ (∀ p, p < 3 → N.1 508 p = nI (dg r p))
def RSt (N : Me) (X : Nat → Int32) (k : Nat → Nat) (nt nc hA hB r ag : Nat) : Prop := N.1 494 = X ∧ (∀ c, c < 5 → N.1 500 c = nI (gLo (nX X nt c))) ∧ (∀ c, c < 5 → N.1 504 c = nI (k (49 + c))) ∧ MoR N nc hA hB ∧ (∀ p, p < 3 → N.1 508 p = nI (dg r p)) ∧ N.1 492 21 = nI ag ∧ (ag = 0 ∨ ∃ r0, r0 < 27 ∧ ∀ p, p < 3 → N.1 509 p = nI (dg r0 p))
def RF (M N : Me) : Prop := (∀ a, a < 492 ∨ (493 ≤ a ∧ a ≤ 499) ∨ 510 ≤ a → N.1 a = M.1 a) ∧ (∀ j, j ≠ 21 → N.1 492 j = M.1 492 j) ∧ ∀ a, a < 492 → N.2 a = M.2 a
theorem RF.refl {M : Me} : RF M M := ⟨fun _ _ => rfl, fun _ _ => rfl, fun _ _ => rfl⟩
theorem RF.trans {M N O : Me} (h : RF M N) (g : RF N O) : RF M O := ⟨fun a ha => (g.1 a ha).trans (h.1 a ha), fun j hj => (g.2.1 j hj).trans (h.2.1 j hj), fun a ha => (g.2.2 a ha).trans (h.2.2 a ha)⟩
set_option maxRecDepth 20000 in
theorem cR_skip {P : Nat → Bool} {a : Nat} : ∀ b, a ≤ b → (∀ q, a ≤ q → q < b → P q = false) → cR P b = cR P a
  | 0, h, _ => by rw [show a = 0 by omega]
  | b + 1, h, hq => by
    by_cases e : a = b + 1
    · rw [e]
    · simp only [cR]
      rw [cR_skip b (by omega) (fun q h1 h2 => hq q h1 (by omega)), if_neg (by rw [hq b (by omega) (by omega)]; decide)]
      rfl
set_option maxRecDepth 20000 in
theorem cR_le {P : Nat → Bool} : ∀ n, cR P n ≤ n
  | 0 => Nat.le_refl 0
  | n + 1 => by
    have := cR_le (P := P) n
    simp only [cR]
    split <;> omega
section
variable {N : Me} {X X2 : Nat → Int32} {nc nt np nw tm hA hB r ag al : Nat}
/-! which pumps run -/
def rmk8 (X2 : Nat → Int32) (np : Nat) : Nat := msk (fun p => decide (pX X2 p 1 ≠ 0)) np
set_option maxRecDepth 20000 in
theorem rmk8_bit {p : Nat} (hp : p < 3) : (rmk8 X2 np).testBit p = krn (kyN X2 nc nt np hA hB) p := by
  unfold rmk8
  rw [msk_bit, ky_run hp, Bool.eq_iff_iff]
  simp
set_option maxRecDepth 20000 in
theorem rmk8_cb : cbM (rmk8 X2 np) r = kcb (kyN X2 nc nt np hA hB) r := by
  unfold cbM kcb
  rw [rmk8_bit (nc := nc) (nt := nt) (hA := hA) (hB := hB) (by decide), rmk8_bit (nc := nc) (nt := nt) (hA := hA) (hB := hB) (by decide), rmk8_bit (nc := nc) (nt := nt) (hA := hA) (hB := hB) (by decide)]
set_option maxRecDepth 20000 in
theorem MoR.frame {M : Me} (h : MoR M nc hA hB) (h1 : N.1 492 24 = M.1 492 24) (h2 : N.1 492 25 = M.1 492 25) : MoR N nc hA hB := by
  unfold MoR
  rw [h1, h2]
  exact h
/-! a round of the search: the pressures, and whether they agree -/
set_option maxRecDepth 20000 in
theorem r_half {tB : Nat} (hs : Sm X X2) (hv : VxB X nc nt np nw tm tB) (hv2 : VxB X2 nc nt np nw tm tB) (hh : Hl X2 nc nt np hA hB) (hr : r < 27) (hN : RSt N X (kyN X2 nc nt np hA hB) nt nc hA hB r ag) (hag : ag ≤ 27) : ∃ N1 N2, DX8_solve [.ref 492] N = some N1 ∧ DX8_agrees [.ref 492] N1 = some (kag (kyN X2 nc nt np hA hB) r, N1) ∧ (kag (kyN X2 nc nt np hA hB) r = true → ∃ i, (∀ m, swh qX8_reckon_2 wX8_reckon_2 [.ref 492, .int (nI al), .int m, .int (nI 0)] N1 = some (none, [.ref 492, .int (nI al), .int m, .int (nI i)], N2)) ∧ N2.1 492 21 = nI ag) ∧ (kag (kyN X2 nc nt np hA hB) r = false → N2 = N1) ∧ SolAt N2 (kyN X2 nc nt np hA hB) r ∧ RF N N2 ∧ N2.1 494 = X ∧ (∀ c, c < 5 → N2.1 500 c = nI (gLo (nX X nt c))) ∧ (∀ c, c < 5 → N2.1 504 c = nI (kyN X2 nc nt np hA hB (49 + c))) ∧ N2.1 492 21 = nI ag ∧ ((ag = 0 ∧ kag (kyN X2 nc nt np hA hB) r = false) ∨ ∃ r0, r0 < 27 ∧ ∀ p, p < 3 → N2.1 509 p = nI (dg r0 p)) := by
  obtain ⟨n1, n2, n3, n4, n5, n6, n7⟩ := hN
  obtain ⟨N1, s0, s1, s2, s3, s4, s5⟩ := r_solve n1 hs hv hv2 hh n4 hr n5 n2 n3
  have x1 : N1.1 494 = X := by rw [s4 494 (by decide) (by decide)]; exact n1
  have st : ∀ p, p < 3 → N1.1 508 p = nI (dg r p) := fun p hp => by rw [s4 508 (by decide) (by decide)]; exact n5 p hp
  have a21 : N1.1 492 21 = nI ag := by rw [s4 492 (by decide) (by decide)]; exact n6
  have ar := r_agrees x1 hs hv hv2 hh hr s1 s2 s3 st
  have rf1 : RF N N1 := ⟨fun a ha => s4 a (by omega) (by omega), fun j _ => by rw [s4 492 (by decide) (by decide)], s5⟩
  have q1 : ∀ c, c < 5 → N1.1 500 c = nI (gLo (nX X nt c)) := fun c hc => by rw [s4 500 (by decide) (by decide)]; exact n2 c hc
  have q5 : ∀ c, c < 5 → N1.1 504 c = nI (kyN X2 nc nt np hA hB (49 + c)) := fun c hc => by rw [s4 504 (by decide) (by decide)]; exact n3 c hc
  have old : ag = 0 ∨ ∃ r0, r0 < 27 ∧ ∀ p, p < 3 → N1.1 509 p = nI (dg r0 p) := by
    rcases n7 with z | ⟨r0, z1, z2⟩
    · exact Or.inl z
    · exact Or.inr ⟨r0, z1, fun p hp => by rw [s4 509 (by decide) (by decide)]; exact z2 p hp⟩
  cases e : kag (kyN X2 nc nt np hA hB) r with
  | false =>
    rw [e] at ar
    refine ⟨N1, N1, s0, ar, (fun z => by cases z), fun _ => rfl, ⟨s1, s2, s3, st⟩, rf1, x1, q1, q5, a21, ?_⟩
    rcases old with z | z
    · exact Or.inl ⟨z, rfl⟩
    · exact Or.inr z
  | true =>
    rw [e] at ar
    by_cases q : ag = 0
    · subst q
      have l2 : ∀ m, swh qX8_reckon_2 wX8_reckon_2 [.ref 492, .int (nI al), .int m, .int (nI 0)] N1 = some (none, [.ref 492, .int (nI al), .int m, .int (nI 3)], sI N1 509 3 (fun p => nI (dg r p))) := fun m => by
        have l := swh_count (c := qX8_reckon_2) (b := wX8_reckon_2) (fun p => [.ref 492, .int (nI al), .int m, .int (nI p)]) (fun p => sI N1 509 p (fun p => nI (dg r p))) 3
          (fun p hp => by
            have z : (sI N1 509 p (fun p => nI (dg r p))).1 492 21 = nI 0 := by rw [sI_ne (by decide)]; exact a21
            simp -implicitDefEqProofs (disch := omega) [qX8_reckon_2, kp_, bsome, bnone, gi_s, gj_s, gr_s, gv_s, ik_, jk_, il_, jl_, rl_, i2_, i2_a, i2_b, j2_, j2_a, j2_b, i2d_, i2d_a, i2d_b, j2d_, j2d_a, j2d_b, i1_, i1_a, j1_, j1_a, i2l_, i2l_a, l2i_, l2i_a, fgi_, fgi_a, fgj_, fgj_a, fgr_, fgr_a, iald_, iald_a, iald_b, zald_, zald_a, zald_b, jald_, jald_a, jald_b, rald_, rald_a, rald_b, alen_, alen_a, sald_, sald_a, ic_, ic_a, jc_, jc_a, bc_, bc_a, bc_b, bj_, bj_a, bj_b, bz_, bz_a, band_, band_a, bor_, bor_a, bnot_, bnot_a, anil_, ai_, ai_a, ai_b, aj_, aj_a, aj_b, ar_, ar_a, ar_b, kb2i_, cvi_, cvi_a, cvi_b, cvj_, cvj_a, cvj_b, cvz_, cvz_a, cvz_b, csi_, csi_a, csj_, csj_a, csz_, csz_a, snop_, sseq_, sseq_n, sseq_s, sif_, sif_a, scut_, scut_a, ssi_, ssi_a, ssj_, ssj_a, ssr_, ssr_a, sinc_, sinc_a, sret_, sret_a, sretj_, sretj_a, sretv_, spop_, spop_a, kc_scv_, scv_, scv_a, scv_b, scs_, scs_a, fpi_, fpi_a, fpi_b, fpj_, fpj_a, fpj_b, foi_, foi_a, foi_b, foj_, foj_a, foj_b, aii_, aii_a, aii_b, aii_c, aiz_, aiz_a, aiz_b, aiz_c, aij_, aij_a, aij_b, aij_c, aoi_, aoi_a, aoi_b, aoi_c, aoj_, aoj_a, aoj_b, aoj_c, scopy_, scopy_a, scopy_b, scopy_c, scopy_d, scopy_e, ssw_, ssw_a, sel_n, sel_c, mfi_, mfi_a, mfj_, mfj_a, mfz_, mfz_a, kb_mfv_, mfv_, mfv_a, cut, lset, lset2, isL, Value.category, ent, entn, if_some, if_pair, if_cons, if_int, if_long, if_ref, ite_self, gz_b, ↓icb, ↓icb2, b2i_ne, ge0, ge1, ge2, ge3, ge4, ge5, ge6, ge7, ge8, ge9, ge10, ge11, ge12, ge13, ge14, lit32, nI_add, pk_mul, clt_nI, cle_nI, cgt_nI, cge_nI, ceq_nI, cne_nI, inr_nI, nI_clamp, nI_eq, nI_leI, nI_ltI, k492, f492_2, f492_3, f492_4, f492_5, f492_7, f492_8, f492_9, f492_10, k493, k494, k495, k496, k497, k498, k499, k500, l493, l494, l495, l496, l497, l498, l499, l500, f492_11, f492_12, f492_13, f492_15, f492_16, f492_17, f492_19, f492_20, f492_26, f492_27, f492_28, f492_29, f492_30, f492_32, f492_33, f492_34, k501, k502, k503, k504, k505, k506, k507, k508, k509, k510, k511, k512, k513, k514, k515, k516, l501, l502, l503, l504, l505, l506, l507, l508, l509, l510, l511, l512, l513, l514, l515, l516, hp, z])
          (fun p hp => by
            have z : (sI N1 509 p (fun p => nI (dg r p))).1 508 p = nI (dg r p) := by rw [sI_ne (by decide)]; exact st p hp
            have nx := wi_sI_next (M := N1) (a := 509) (n := p) (Y := fun p => nI (dg r p))
            simp -implicitDefEqProofs (disch := omega) [wX8_reckon_2, kp_, bsome, bnone, gi_s, gj_s, gr_s, gv_s, ik_, jk_, il_, jl_, rl_, i2_, i2_a, i2_b, j2_, j2_a, j2_b, i2d_, i2d_a, i2d_b, j2d_, j2d_a, j2d_b, i1_, i1_a, j1_, j1_a, i2l_, i2l_a, l2i_, l2i_a, fgi_, fgi_a, fgj_, fgj_a, fgr_, fgr_a, iald_, iald_a, iald_b, zald_, zald_a, zald_b, jald_, jald_a, jald_b, rald_, rald_a, rald_b, alen_, alen_a, sald_, sald_a, ic_, ic_a, jc_, jc_a, bc_, bc_a, bc_b, bj_, bj_a, bj_b, bz_, bz_a, band_, band_a, bor_, bor_a, bnot_, bnot_a, anil_, ai_, ai_a, ai_b, aj_, aj_a, aj_b, ar_, ar_a, ar_b, kb2i_, cvi_, cvi_a, cvi_b, cvj_, cvj_a, cvj_b, cvz_, cvz_a, cvz_b, csi_, csi_a, csj_, csj_a, csz_, csz_a, snop_, sseq_, sseq_n, sseq_s, sif_, sif_a, scut_, scut_a, ssi_, ssi_a, ssj_, ssj_a, ssr_, ssr_a, sinc_, sinc_a, sret_, sret_a, sretj_, sretj_a, sretv_, spop_, spop_a, kc_scv_, scv_, scv_a, scv_b, scs_, scs_a, fpi_, fpi_a, fpi_b, fpj_, fpj_a, fpj_b, foi_, foi_a, foi_b, foj_, foj_a, foj_b, aii_, aii_a, aii_b, aii_c, aiz_, aiz_a, aiz_b, aiz_c, aij_, aij_a, aij_b, aij_c, aoi_, aoi_a, aoi_b, aoi_c, aoj_, aoj_a, aoj_b, aoj_c, scopy_, scopy_a, scopy_b, scopy_c, scopy_d, scopy_e, ssw_, ssw_a, sel_n, sel_c, mfi_, mfi_a, mfj_, mfj_a, mfz_, mfz_a, kb_mfv_, mfv_, mfv_a, cut, lset, lset2, isL, Value.category, ent, entn, if_some, if_pair, if_cons, if_int, if_long, if_ref, ite_self, gz_b, ↓icb, ↓icb2, b2i_ne, ge0, ge1, ge2, ge3, ge4, ge5, ge6, ge7, ge8, ge9, ge10, ge11, ge12, ge13, ge14, lit32, nI_add, pk_mul, clt_nI, cle_nI, cgt_nI, cge_nI, ceq_nI, cne_nI, inr_nI, nI_clamp, nI_eq, nI_leI, nI_ltI, k492, f492_2, f492_3, f492_4, f492_5, f492_7, f492_8, f492_9, f492_10, k493, k494, k495, k496, k497, k498, k499, k500, l493, l494, l495, l496, l497, l498, l499, l500, f492_11, f492_12, f492_13, f492_15, f492_16, f492_17, f492_19, f492_20, f492_26, f492_27, f492_28, f492_29, f492_30, f492_32, f492_33, f492_34, k501, k502, k503, k504, k505, k506, k507, k508, k509, k510, k511, k512, k513, k514, k515, k516, l501, l502, l503, l504, l505, l506, l507, l508, l509, l510, l511, l512, l513, l514, l515, l516, z, nx])
          (by simp -implicitDefEqProofs (disch := omega) [qX8_reckon_2, kp_, bsome, bnone, gi_s, gj_s, gr_s, gv_s, ik_, jk_, il_, jl_, rl_, i2_, i2_a, i2_b, j2_, j2_a, j2_b, i2d_, i2d_a, i2d_b, j2d_, j2d_a, j2d_b, i1_, i1_a, j1_, j1_a, i2l_, i2l_a, l2i_, l2i_a, fgi_, fgi_a, fgj_, fgj_a, fgr_, fgr_a, iald_, iald_a, iald_b, zald_, zald_a, zald_b, jald_, jald_a, jald_b, rald_, rald_a, rald_b, alen_, alen_a, sald_, sald_a, ic_, ic_a, jc_, jc_a, bc_, bc_a, bc_b, bj_, bj_a, bj_b, bz_, bz_a, band_, band_a, bor_, bor_a, bnot_, bnot_a, anil_, ai_, ai_a, ai_b, aj_, aj_a, aj_b, ar_, ar_a, ar_b, kb2i_, cvi_, cvi_a, cvi_b, cvj_, cvj_a, cvj_b, cvz_, cvz_a, cvz_b, csi_, csi_a, csj_, csj_a, csz_, csz_a, snop_, sseq_, sseq_n, sseq_s, sif_, sif_a, scut_, scut_a, ssi_, ssi_a, ssj_, ssj_a, ssr_, ssr_a, sinc_, sinc_a, sret_, sret_a, sretj_, sretj_a, sretv_, spop_, spop_a, kc_scv_, scv_, scv_a, scv_b, scs_, scs_a, fpi_, fpi_a, fpi_b, fpj_, fpj_a, fpj_b, foi_, foi_a, foi_b, foj_, foj_a, foj_b, aii_, aii_a, aii_b, aii_c, aiz_, aiz_a, aiz_b, aiz_c, aij_, aij_a, aij_b, aij_c, aoi_, aoi_a, aoi_b, aoi_c, aoj_, aoj_a, aoj_b, aoj_c, scopy_, scopy_a, scopy_b, scopy_c, scopy_d, scopy_e, ssw_, ssw_a, sel_n, sel_c, mfi_, mfi_a, mfj_, mfj_a, mfz_, mfz_a, kb_mfv_, mfv_, mfv_a, cut, lset, lset2, isL, Value.category, ent, entn, if_some, if_pair, if_cons, if_int, if_long, if_ref, ite_self, gz_b, ↓icb, ↓icb2, b2i_ne, ge0, ge1, ge2, ge3, ge4, ge5, ge6, ge7, ge8, ge9, ge10, ge11, ge12, ge13, ge14, lit32, nI_add, pk_mul, clt_nI, cle_nI, cgt_nI, cge_nI, ceq_nI, cne_nI, inr_nI, nI_clamp, nI_eq, nI_leI, nI_ltI, k492, f492_2, f492_3, f492_4, f492_5, f492_7, f492_8, f492_9, f492_10, k493, k494, k495, k496, k497, k498, k499, k500, l493, l494, l495, l496, l497, l498, l499, l500])
        rw [sI_0] at l
        exact l
      have f1 : ∀ a, a ≠ 509 → (sI N1 509 3 (fun p => nI (dg r p))).1 a = N1.1 a := fun a ha => sI_ne ha
      refine ⟨N1, sI N1 509 3 (fun p => nI (dg r p)), s0, ar, fun _ => ⟨3, l2, by rw [f1 492 (by decide)]; exact a21⟩, (fun z => by cases z), ⟨s1, s2, fun c hc => by rw [f1 507 (by decide)]; exact s3 c hc, fun p hp => by rw [f1 508 (by decide)]; exact st p hp⟩, rf1.trans ⟨fun a ha => f1 a (by omega), fun j _ => by rw [f1 492 (by decide)], fun _ _ => rfl⟩, by rw [f1 494 (by decide)]; exact x1, fun c hc => by rw [f1 500 (by decide)]; exact q1 c hc, fun c hc => by rw [f1 504 (by decide)]; exact q5 c hc, by rw [f1 492 (by decide)]; exact a21, Or.inr ⟨r, hr, fun p hp => by rw [sI_at hp]⟩⟩
    · have l2 : ∀ m, swh qX8_reckon_2 wX8_reckon_2 [.ref 492, .int (nI al), .int m, .int (nI 0)] N1 = some (none, [.ref 492, .int (nI al), .int m, .int (nI 0)], N1) := fun m => swh_f (by simp -implicitDefEqProofs (disch := omega) [qX8_reckon_2, kp_, bsome, bnone, gi_s, gj_s, gr_s, gv_s, ik_, jk_, il_, jl_, rl_, i2_, i2_a, i2_b, j2_, j2_a, j2_b, i2d_, i2d_a, i2d_b, j2d_, j2d_a, j2d_b, i1_, i1_a, j1_, j1_a, i2l_, i2l_a, l2i_, l2i_a, fgi_, fgi_a, fgj_, fgj_a, fgr_, fgr_a, iald_, iald_a, iald_b, zald_, zald_a, zald_b, jald_, jald_a, jald_b, rald_, rald_a, rald_b, alen_, alen_a, sald_, sald_a, ic_, ic_a, jc_, jc_a, bc_, bc_a, bc_b, bj_, bj_a, bj_b, bz_, bz_a, band_, band_a, bor_, bor_a, bnot_, bnot_a, anil_, ai_, ai_a, ai_b, aj_, aj_a, aj_b, ar_, ar_a, ar_b, kb2i_, cvi_, cvi_a, cvi_b, cvj_, cvj_a, cvj_b, cvz_, cvz_a, cvz_b, csi_, csi_a, csj_, csj_a, csz_, csz_a, snop_, sseq_, sseq_n, sseq_s, sif_, sif_a, scut_, scut_a, ssi_, ssi_a, ssj_, ssj_a, ssr_, ssr_a, sinc_, sinc_a, sret_, sret_a, sretj_, sretj_a, sretv_, spop_, spop_a, kc_scv_, scv_, scv_a, scv_b, scs_, scs_a, fpi_, fpi_a, fpi_b, fpj_, fpj_a, fpj_b, foi_, foi_a, foi_b, foj_, foj_a, foj_b, aii_, aii_a, aii_b, aii_c, aiz_, aiz_a, aiz_b, aiz_c, aij_, aij_a, aij_b, aij_c, aoi_, aoi_a, aoi_b, aoi_c, aoj_, aoj_a, aoj_b, aoj_c, scopy_, scopy_a, scopy_b, scopy_c, scopy_d, scopy_e, ssw_, ssw_a, sel_n, sel_c, mfi_, mfi_a, mfj_, mfj_a, mfz_, mfz_a, kb_mfv_, mfv_, mfv_a, cut, lset, lset2, isL, Value.category, ent, entn, if_some, if_pair, if_cons, if_int, if_long, if_ref, ite_self, gz_b, ↓icb, ↓icb2, b2i_ne, ge0, ge1, ge2, ge3, ge4, ge5, ge6, ge7, ge8, ge9, ge10, ge11, ge12, ge13, ge14, lit32, nI_add, pk_mul, clt_nI, cle_nI, cgt_nI, cge_nI, ceq_nI, cne_nI, inr_nI, nI_clamp, nI_eq, nI_leI, nI_ltI, k492, f492_2, f492_3, f492_4, f492_5, f492_7, f492_8, f492_9, f492_10, k493, k494, k495, k496, k497, k498, k499, k500, l493, l494, l495, l496, l497, l498, l499, l500, f492_11, f492_12, f492_13, f492_15, f492_16, f492_17, f492_19, f492_20, f492_26, f492_27, f492_28, f492_29, f492_30, f492_32, f492_33, f492_34, k501, k502, k503, k504, k505, k506, k507, k508, k509, k510, k511, k512, k513, k514, k515, k516, l501, l502, l503, l504, l505, l506, l507, l508, l509, l510, l511, l512, l513, l514, l515, l516, a21, q])
      refine ⟨N1, N1, s0, ar, fun _ => ⟨0, l2, a21⟩, (fun z => by cases z), ⟨s1, s2, s3, st⟩, rf1, x1, q1, q5, a21, ?_⟩
      rcases old with z | z
      · exact absurd z q
      · exact Or.inr z
set_option maxRecDepth 20000 in
theorem r_round {tB : Nat} (hs : Sm X X2) (hv : VxB X nc nt np nw tm tB) (hv2 : VxB X2 nc nt np nw tm tB) (hh : Hl X2 nc nt np hA hB) (hr : r < 27) (hc : kcb (kyN X2 nc nt np hA hB) r = true) (hN : RSt N X (kyN X2 nc nt np hA hB) nt nc hA hB r ag) (hag : ag ≤ 27) (hal : al ≤ 1) : ∃ N2 more, wX8_reckon_3 [.ref 492, .int (nI al), .int (nI 1), .null] N = some (none, [.ref 492, .int (nI al), .int (nI more), .null], N2) ∧ RF N N2 ∧ N2.1 494 = X ∧ ((al = 0 ∧ (0 < ag ∨ kag (kyN X2 nc nt np hA hB) r = true) ∧ more = 0 ∧ SolAt N2 (kyN X2 nc nt np hA hB) r ∧ N2.1 492 21 = nI (ag + if kag (kyN X2 nc nt np hA hB) r = true then 1 else 0)) ∨ (¬ (al = 0 ∧ (0 < ag ∨ kag (kyN X2 nc nt np hA hB) r = true)) ∧ ((nr (rmk8 X2 np) r < 27 ∧ more = 1 ∧ kcb (kyN X2 nc nt np hA hB) (nr (rmk8 X2 np) r) = true ∧ RSt N2 X (kyN X2 nc nt np hA hB) nt nc hA hB (nr (rmk8 X2 np) r) (ag + if kag (kyN X2 nc nt np hA hB) r = true then 1 else 0)) ∨ (27 ≤ nr (rmk8 X2 np) r ∧ more = 0 ∧ N2.1 492 21 = nI (ag + if kag (kyN X2 nc nt np hA hB) r = true then 1 else 0) ∧ (∀ c, c < 5 → N2.1 500 c = nI (gLo (nX X nt c))) ∧ (∀ c, c < 5 → N2.1 504 c = nI (kyN X2 nc nt np hA hB (49 + c))) ∧ (ag + (if kag (kyN X2 nc nt np hA hB) r = true then 1 else 0) = 0 ∨ ∃ r0, r0 < 27 ∧ ∀ p, p < 3 → N2.1 509 p = nI (dg r0 p)))))) := by
  have hB' := hv.2.1
  have hn : X 2 = nI np := hv.1.2.2.1
  have h3 := hB'.2.2.1
  obtain ⟨N1, N2, s0, ar, sk, sn, so, rf, x1, q1, q5, a21, old⟩ := r_half (al := al) hs hv hv2 hh hr hN hag
  obtain ⟨k, ek⟩ : ∃ k, k = kyN X2 nc nt np hA hB := ⟨_, rfl⟩
  have hcm : cbM (rmk8 X2 np) r = true := by rw [rmk8_cb (nc := nc) (nt := nt) (hA := hA) (hB := hB)]; exact hc
  have hR : ∀ p, p < np → ceq (X (68 + 9 * p + 1)) 1 = (rmk8 X2 np).testBit p := fun p hp => by
    obtain ⟨a, a0, a1, -⟩ := pumpX hB'.1 hB'.2.2.2.2 (hv.2.2.2.2.2.1 p hp)
    rw [hs.p] at a a1
    rw [(a 1 (by decide)).1]
    unfold rmk8
    rw [msk_bit, show (1 : Int32) = nI 1 from rfl, ceq_nI (by omega) (by decide), Bool.eq_iff_iff]
    simp only [hp, decide_true, Bool.true_and, decide_eq_true_eq]
    omega
  obtain ⟨nb, nd⟩ := nr_at (np := np) (m := rmk8 X2 np) (by omega) (msk_lt np) hr hcm
  have nxt : ∀ O : Me, O.1 494 = X → (∀ p, p < 3 → O.1 508 p = nI (dg r p)) → DX8_nextStages [.ref 492] O = some (decide (nr (rmk8 X2 np) r < 27), sI O 508 3 (fun q => nI ((nxS (fun p => (rmk8 X2 np).testBit p) np (dg r)).2 q))) := fun O h1 h2 => by
    rw [← nb]
    exact r_nextStages h1 hn h3 hR (fun p _ => dg_lt) h2
  have ncb : nr (rmk8 X2 np) r < 27 → kcb (kyN X2 nc nt np hA hB) (nr (rmk8 X2 np) r) = true := fun z => by rw [← rmk8_cb]; exact (nd z).1
  rw [← ek] at hc hN ar sk sn so q5 old ncb ⊢
  have m24 : ∀ O : Me, RF N O → MoR O nc hA hB := fun O h => hN.2.2.2.1.frame (h.2.1 24 (by decide)) (h.2.1 25 (by decide))
  have cz : ∀ x, x < 100 → ceq (nI x) (nI 0) = decide (x = 0) := fun x hx => ceq_nI (by omega) (by decide)
  cases e : kag k r with
  | true =>
    obtain ⟨i, l2, -⟩ := sk e
    rw [e] at ar
    have l2' := l2 (nI 1)
    have old2 : ∃ r0, r0 < 27 ∧ ∀ p, p < 3 → N2.1 509 p = nI (dg r0 p) := by
      rcases old with z | z
      · rw [e] at z; cases z.2
      · exact z
    obtain ⟨O, eO⟩ : ∃ O : Me, O = wi N2 492 21 (nI (ag + 1)) := ⟨_, rfl⟩
    have o1 : ∀ a, a ≠ 492 → O.1 a = N2.1 a := fun a ha => by rw [eO, wi_ne ha]
    have o21 : O.1 492 21 = nI (ag + 1) := by rw [eO]; exact wi_at
    have rfO : RF N O := rf.trans ⟨fun a ha => o1 a (by omega), fun j hj => by rw [eO, wi_ns hj], fun a _ => by rw [eO, wi_2]⟩
    have xO : O.1 494 = X := by rw [o1 494 (by decide)]; exact x1
    have sO : ∀ p, p < 3 → O.1 508 p = nI (dg r p) := fun p hp => by rw [o1 508 (by decide)]; exact so.2.2.2 p hp
    have nx := nxt O xO sO
    rw [if_pos rfl]
    have c0 := cz (ag + 1) (by omega)
    rw [show decide (ag + 1 = 0) = false from decide_eq_false (by omega)] at c0
    rcases (by omega : al = 0 ∨ al = 1) with w | w
    · subst w
      refine ⟨O, 0, ?_, rfO, xO, Or.inl ⟨rfl, Or.inr rfl, rfl, ⟨fun c hc => by rw [eO, wi_2]; exact so.1 c hc, by rw [eO, wi_2]; exact so.2.1, fun c hc => by rw [o1 507 (by decide)]; exact so.2.2.1 c hc, sO⟩, o21⟩⟩
      simp -implicitDefEqProofs (disch := omega) [wX8_reckon_3, kp_, bsome, bnone, gi_s, gj_s, gr_s, gv_s, ik_, jk_, il_, jl_, rl_, i2_, i2_a, i2_b, j2_, j2_a, j2_b, i2d_, i2d_a, i2d_b, j2d_, j2d_a, j2d_b, i1_, i1_a, j1_, j1_a, i2l_, i2l_a, l2i_, l2i_a, fgi_, fgi_a, fgj_, fgj_a, fgr_, fgr_a, iald_, iald_a, iald_b, zald_, zald_a, zald_b, jald_, jald_a, jald_b, rald_, rald_a, rald_b, alen_, alen_a, sald_, sald_a, ic_, ic_a, jc_, jc_a, bc_, bc_a, bc_b, bj_, bj_a, bj_b, bz_, bz_a, band_, band_a, bor_, bor_a, bnot_, bnot_a, anil_, ai_, ai_a, ai_b, aj_, aj_a, aj_b, ar_, ar_a, ar_b, kb2i_, cvi_, cvi_a, cvi_b, cvj_, cvj_a, cvj_b, cvz_, cvz_a, cvz_b, csi_, csi_a, csj_, csj_a, csz_, csz_a, snop_, sseq_, sseq_n, sseq_s, sif_, sif_a, scut_, scut_a, ssi_, ssi_a, ssj_, ssj_a, ssr_, ssr_a, sinc_, sinc_a, sret_, sret_a, sretj_, sretj_a, sretv_, spop_, spop_a, kc_scv_, scv_, scv_a, scv_b, scs_, scs_a, fpi_, fpi_a, fpi_b, fpj_, fpj_a, fpj_b, foi_, foi_a, foi_b, foj_, foj_a, foj_b, aii_, aii_a, aii_b, aii_c, aiz_, aiz_a, aiz_b, aiz_c, aij_, aij_a, aij_b, aij_c, aoi_, aoi_a, aoi_b, aoi_c, aoj_, aoj_a, aoj_b, aoj_c, scopy_, scopy_a, scopy_b, scopy_c, scopy_d, scopy_e, ssw_, ssw_a, sel_n, sel_c, mfi_, mfi_a, mfj_, mfj_a, mfz_, mfz_a, kb_mfv_, mfv_, mfv_a, cut, lset, lset2, isL, Value.category, ent, entn, if_some, if_pair, if_cons, if_int, if_long, if_ref, ite_self, gz_b, ↓icb, ↓icb2, b2i_ne, ge0, ge1, ge2, ge3, ge4, ge5, ge6, ge7, ge8, ge9, ge10, ge11, ge12, ge13, ge14, lit32, nI_add, pk_mul, clt_nI, cle_nI, cgt_nI, cge_nI, ceq_nI, cne_nI, inr_nI, nI_clamp, nI_eq, nI_leI, nI_ltI, k492, f492_2, f492_3, f492_4, f492_5, f492_7, f492_8, f492_9, f492_10, k493, k494, k495, k496, k497, k498, k499, k500, l493, l494, l495, l496, l497, l498, l499, l500, s0, ar, l2', a21, ← eO, o21, c0, b2i_f]
    · subst w
      obtain ⟨Z, eZ⟩ : ∃ Z : Me, Z = sI O 508 3 (fun q => nI ((nxS (fun p => (rmk8 X2 np).testBit p) np (dg r)).2 q)) := ⟨_, rfl⟩
      rw [← eZ] at nx
      have z1 : ∀ a, a ≠ 508 → Z.1 a = O.1 a := fun a ha => by rw [eZ, sI_ne ha]
      have rfZ : RF N Z := rfO.trans ⟨fun a ha => z1 a (by omega), fun j _ => by rw [z1 492 (by decide)], fun _ _ => by rw [eZ]; rfl⟩
      have xZ : Z.1 494 = X := by rw [z1 494 (by decide)]; exact xO
      by_cases y : nr (rmk8 X2 np) r < 27
      · rw [decide_eq_true y] at nx
        refine ⟨Z, 1, ?_, rfZ, xZ, Or.inr ⟨by omega, Or.inl ⟨y, rfl, ncb y, xZ, fun c hc => by rw [z1 500 (by decide), o1 500 (by decide)]; exact q1 c hc, fun c hc => by rw [z1 504 (by decide), o1 504 (by decide)]; exact q5 c hc, m24 Z rfZ, fun p hp => by rw [eZ, sI_at hp, (nd y).2 p hp], by rw [z1 492 (by decide)]; exact o21, Or.inr ?_⟩⟩⟩
        · simp -implicitDefEqProofs (disch := omega) [wX8_reckon_3, kp_, bsome, bnone, gi_s, gj_s, gr_s, gv_s, ik_, jk_, il_, jl_, rl_, i2_, i2_a, i2_b, j2_, j2_a, j2_b, i2d_, i2d_a, i2d_b, j2d_, j2d_a, j2d_b, i1_, i1_a, j1_, j1_a, i2l_, i2l_a, l2i_, l2i_a, fgi_, fgi_a, fgj_, fgj_a, fgr_, fgr_a, iald_, iald_a, iald_b, zald_, zald_a, zald_b, jald_, jald_a, jald_b, rald_, rald_a, rald_b, alen_, alen_a, sald_, sald_a, ic_, ic_a, jc_, jc_a, bc_, bc_a, bc_b, bj_, bj_a, bj_b, bz_, bz_a, band_, band_a, bor_, bor_a, bnot_, bnot_a, anil_, ai_, ai_a, ai_b, aj_, aj_a, aj_b, ar_, ar_a, ar_b, kb2i_, cvi_, cvi_a, cvi_b, cvj_, cvj_a, cvj_b, cvz_, cvz_a, cvz_b, csi_, csi_a, csj_, csj_a, csz_, csz_a, snop_, sseq_, sseq_n, sseq_s, sif_, sif_a, scut_, scut_a, ssi_, ssi_a, ssj_, ssj_a, ssr_, ssr_a, sinc_, sinc_a, sret_, sret_a, sretj_, sretj_a, sretv_, spop_, spop_a, kc_scv_, scv_, scv_a, scv_b, scs_, scs_a, fpi_, fpi_a, fpi_b, fpj_, fpj_a, fpj_b, foi_, foi_a, foi_b, foj_, foj_a, foj_b, aii_, aii_a, aii_b, aii_c, aiz_, aiz_a, aiz_b, aiz_c, aij_, aij_a, aij_b, aij_c, aoi_, aoi_a, aoi_b, aoi_c, aoj_, aoj_a, aoj_b, aoj_c, scopy_, scopy_a, scopy_b, scopy_c, scopy_d, scopy_e, ssw_, ssw_a, sel_n, sel_c, mfi_, mfi_a, mfj_, mfj_a, mfz_, mfz_a, kb_mfv_, mfv_, mfv_a, cut, lset, lset2, isL, Value.category, ent, entn, if_some, if_pair, if_cons, if_int, if_long, if_ref, ite_self, gz_b, ↓icb, ↓icb2, b2i_ne, ge0, ge1, ge2, ge3, ge4, ge5, ge6, ge7, ge8, ge9, ge10, ge11, ge12, ge13, ge14, lit32, nI_add, pk_mul, clt_nI, cle_nI, cgt_nI, cge_nI, ceq_nI, cne_nI, inr_nI, nI_clamp, nI_eq, nI_leI, nI_ltI, k492, f492_2, f492_3, f492_4, f492_5, f492_7, f492_8, f492_9, f492_10, k493, k494, k495, k496, k497, k498, k499, k500, l493, l494, l495, l496, l497, l498, l499, l500, s0, ar, l2', a21, ← eO, o21, nx, b2i_t]
        · obtain ⟨r0, w1, w2⟩ := old2
          exact ⟨r0, w1, fun p hp => by rw [z1 509 (by decide), o1 509 (by decide)]; exact w2 p hp⟩
      · rw [decide_eq_false y] at nx
        refine ⟨Z, 0, ?_, rfZ, xZ, Or.inr ⟨by omega, Or.inr ⟨by omega, rfl, by rw [z1 492 (by decide)]; exact o21, fun c hc => by rw [z1 500 (by decide), o1 500 (by decide)]; exact q1 c hc, fun c hc => by rw [z1 504 (by decide), o1 504 (by decide)]; exact q5 c hc, Or.inr ?_⟩⟩⟩
        · simp -implicitDefEqProofs (disch := omega) [wX8_reckon_3, kp_, bsome, bnone, gi_s, gj_s, gr_s, gv_s, ik_, jk_, il_, jl_, rl_, i2_, i2_a, i2_b, j2_, j2_a, j2_b, i2d_, i2d_a, i2d_b, j2d_, j2d_a, j2d_b, i1_, i1_a, j1_, j1_a, i2l_, i2l_a, l2i_, l2i_a, fgi_, fgi_a, fgj_, fgj_a, fgr_, fgr_a, iald_, iald_a, iald_b, zald_, zald_a, zald_b, jald_, jald_a, jald_b, rald_, rald_a, rald_b, alen_, alen_a, sald_, sald_a, ic_, ic_a, jc_, jc_a, bc_, bc_a, bc_b, bj_, bj_a, bj_b, bz_, bz_a, band_, band_a, bor_, bor_a, bnot_, bnot_a, anil_, ai_, ai_a, ai_b, aj_, aj_a, aj_b, ar_, ar_a, ar_b, kb2i_, cvi_, cvi_a, cvi_b, cvj_, cvj_a, cvj_b, cvz_, cvz_a, cvz_b, csi_, csi_a, csj_, csj_a, csz_, csz_a, snop_, sseq_, sseq_n, sseq_s, sif_, sif_a, scut_, scut_a, ssi_, ssi_a, ssj_, ssj_a, ssr_, ssr_a, sinc_, sinc_a, sret_, sret_a, sretj_, sretj_a, sretv_, spop_, spop_a, kc_scv_, scv_, scv_a, scv_b, scs_, scs_a, fpi_, fpi_a, fpi_b, fpj_, fpj_a, fpj_b, foi_, foi_a, foi_b, foj_, foj_a, foj_b, aii_, aii_a, aii_b, aii_c, aiz_, aiz_a, aiz_b, aiz_c, aij_, aij_a, aij_b, aij_c, aoi_, aoi_a, aoi_b, aoi_c, aoj_, aoj_a, aoj_b, aoj_c, scopy_, scopy_a, scopy_b, scopy_c, scopy_d, scopy_e, ssw_, ssw_a, sel_n, sel_c, mfi_, mfi_a, mfj_, mfj_a, mfz_, mfz_a, kb_mfv_, mfv_, mfv_a, cut, lset, lset2, isL, Value.category, ent, entn, if_some, if_pair, if_cons, if_int, if_long, if_ref, ite_self, gz_b, ↓icb, ↓icb2, b2i_ne, ge0, ge1, ge2, ge3, ge4, ge5, ge6, ge7, ge8, ge9, ge10, ge11, ge12, ge13, ge14, lit32, nI_add, pk_mul, clt_nI, cle_nI, cgt_nI, cge_nI, ceq_nI, cne_nI, inr_nI, nI_clamp, nI_eq, nI_leI, nI_ltI, k492, f492_2, f492_3, f492_4, f492_5, f492_7, f492_8, f492_9, f492_10, k493, k494, k495, k496, k497, k498, k499, k500, l493, l494, l495, l496, l497, l498, l499, l500, s0, ar, l2', a21, ← eO, o21, nx, b2i_f]
        · obtain ⟨r0, w1, w2⟩ := old2
          exact ⟨r0, w1, fun p hp => by rw [z1 509 (by decide), o1 509 (by decide)]; exact w2 p hp⟩
  | false =>
    have eN := sn e
    subst eN
    rw [e] at ar
    rw [if_neg (by decide)]
    have nx := nxt N2 x1 so.2.2.2
    have c0 := cz ag (by omega)
    by_cases stop : al = 0 ∧ 0 < ag
    · obtain ⟨w, w2⟩ := stop
      subst w
      rw [show decide (ag = 0) = false from decide_eq_false (by omega)] at c0
      refine ⟨N2, 0, ?_, rf, x1, Or.inl ⟨rfl, Or.inl w2, rfl, so, a21⟩⟩
      simp -implicitDefEqProofs (disch := omega) [wX8_reckon_3, kp_, bsome, bnone, gi_s, gj_s, gr_s, gv_s, ik_, jk_, il_, jl_, rl_, i2_, i2_a, i2_b, j2_, j2_a, j2_b, i2d_, i2d_a, i2d_b, j2d_, j2d_a, j2d_b, i1_, i1_a, j1_, j1_a, i2l_, i2l_a, l2i_, l2i_a, fgi_, fgi_a, fgj_, fgj_a, fgr_, fgr_a, iald_, iald_a, iald_b, zald_, zald_a, zald_b, jald_, jald_a, jald_b, rald_, rald_a, rald_b, alen_, alen_a, sald_, sald_a, ic_, ic_a, jc_, jc_a, bc_, bc_a, bc_b, bj_, bj_a, bj_b, bz_, bz_a, band_, band_a, bor_, bor_a, bnot_, bnot_a, anil_, ai_, ai_a, ai_b, aj_, aj_a, aj_b, ar_, ar_a, ar_b, kb2i_, cvi_, cvi_a, cvi_b, cvj_, cvj_a, cvj_b, cvz_, cvz_a, cvz_b, csi_, csi_a, csj_, csj_a, csz_, csz_a, snop_, sseq_, sseq_n, sseq_s, sif_, sif_a, scut_, scut_a, ssi_, ssi_a, ssj_, ssj_a, ssr_, ssr_a, sinc_, sinc_a, sret_, sret_a, sretj_, sretj_a, sretv_, spop_, spop_a, kc_scv_, scv_, scv_a, scv_b, scs_, scs_a, fpi_, fpi_a, fpi_b, fpj_, fpj_a, fpj_b, foi_, foi_a, foi_b, foj_, foj_a, foj_b, aii_, aii_a, aii_b, aii_c, aiz_, aiz_a, aiz_b, aiz_c, aij_, aij_a, aij_b, aij_c, aoi_, aoi_a, aoi_b, aoi_c, aoj_, aoj_a, aoj_b, aoj_c, scopy_, scopy_a, scopy_b, scopy_c, scopy_d, scopy_e, ssw_, ssw_a, sel_n, sel_c, mfi_, mfi_a, mfj_, mfj_a, mfz_, mfz_a, kb_mfv_, mfv_, mfv_a, cut, lset, lset2, isL, Value.category, ent, entn, if_some, if_pair, if_cons, if_int, if_long, if_ref, ite_self, gz_b, ↓icb, ↓icb2, b2i_ne, ge0, ge1, ge2, ge3, ge4, ge5, ge6, ge7, ge8, ge9, ge10, ge11, ge12, ge13, ge14, lit32, nI_add, pk_mul, clt_nI, cle_nI, cgt_nI, cge_nI, ceq_nI, cne_nI, inr_nI, nI_clamp, nI_eq, nI_leI, nI_ltI, k492, f492_2, f492_3, f492_4, f492_5, f492_7, f492_8, f492_9, f492_10, k493, k494, k495, k496, k497, k498, k499, k500, l493, l494, l495, l496, l497, l498, l499, l500, s0, ar, a21, c0, b2i_f]
    · obtain ⟨Z, eZ⟩ : ∃ Z : Me, Z = sI N2 508 3 (fun q => nI ((nxS (fun p => (rmk8 X2 np).testBit p) np (dg r)).2 q)) := ⟨_, rfl⟩
      rw [← eZ] at nx
      have z1 : ∀ a, a ≠ 508 → Z.1 a = N2.1 a := fun a ha => by rw [eZ, sI_ne ha]
      have rfZ : RF N Z := rf.trans ⟨fun a ha => z1 a (by omega), fun j _ => by rw [z1 492 (by decide)], fun _ _ => by rw [eZ]; rfl⟩
      have xZ : Z.1 494 = X := by rw [z1 494 (by decide)]; exact x1
      have oldZ : ag + 0 = 0 ∨ ∃ r0, r0 < 27 ∧ ∀ p, p < 3 → Z.1 509 p = nI (dg r0 p) := by
        rcases old with z | ⟨r0, w1, w2⟩
        · exact Or.inl z.1
        · exact Or.inr ⟨r0, w1, fun p hp => by rw [z1 509 (by decide)]; exact w2 p hp⟩
      have hns : ¬ (al = 0 ∧ (0 < ag ∨ false = true)) := fun z => stop ⟨z.1, z.2.elim id (fun y => by cases y)⟩
      by_cases y : nr (rmk8 X2 np) r < 27
      · rw [decide_eq_true y] at nx
        refine ⟨Z, 1, ?_, rfZ, xZ, Or.inr ⟨hns, Or.inl ⟨y, rfl, ncb y, xZ, fun c hc => by rw [z1 500 (by decide)]; exact q1 c hc, fun c hc => by rw [z1 504 (by decide)]; exact q5 c hc, m24 Z rfZ, fun p hp => by rw [eZ, sI_at hp, (nd y).2 p hp], by rw [z1 492 (by decide)]; exact a21, oldZ⟩⟩⟩
        rcases (by omega : al = 0 ∨ al = 1) with w | w
        · subst w
          have g0 : ag = 0 := by omega
          rw [decide_eq_true g0] at c0
          simp -implicitDefEqProofs (disch := omega) [wX8_reckon_3, kp_, bsome, bnone, gi_s, gj_s, gr_s, gv_s, ik_, jk_, il_, jl_, rl_, i2_, i2_a, i2_b, j2_, j2_a, j2_b, i2d_, i2d_a, i2d_b, j2d_, j2d_a, j2d_b, i1_, i1_a, j1_, j1_a, i2l_, i2l_a, l2i_, l2i_a, fgi_, fgi_a, fgj_, fgj_a, fgr_, fgr_a, iald_, iald_a, iald_b, zald_, zald_a, zald_b, jald_, jald_a, jald_b, rald_, rald_a, rald_b, alen_, alen_a, sald_, sald_a, ic_, ic_a, jc_, jc_a, bc_, bc_a, bc_b, bj_, bj_a, bj_b, bz_, bz_a, band_, band_a, bor_, bor_a, bnot_, bnot_a, anil_, ai_, ai_a, ai_b, aj_, aj_a, aj_b, ar_, ar_a, ar_b, kb2i_, cvi_, cvi_a, cvi_b, cvj_, cvj_a, cvj_b, cvz_, cvz_a, cvz_b, csi_, csi_a, csj_, csj_a, csz_, csz_a, snop_, sseq_, sseq_n, sseq_s, sif_, sif_a, scut_, scut_a, ssi_, ssi_a, ssj_, ssj_a, ssr_, ssr_a, sinc_, sinc_a, sret_, sret_a, sretj_, sretj_a, sretv_, spop_, spop_a, kc_scv_, scv_, scv_a, scv_b, scs_, scs_a, fpi_, fpi_a, fpi_b, fpj_, fpj_a, fpj_b, foi_, foi_a, foi_b, foj_, foj_a, foj_b, aii_, aii_a, aii_b, aii_c, aiz_, aiz_a, aiz_b, aiz_c, aij_, aij_a, aij_b, aij_c, aoi_, aoi_a, aoi_b, aoi_c, aoj_, aoj_a, aoj_b, aoj_c, scopy_, scopy_a, scopy_b, scopy_c, scopy_d, scopy_e, ssw_, ssw_a, sel_n, sel_c, mfi_, mfi_a, mfj_, mfj_a, mfz_, mfz_a, kb_mfv_, mfv_, mfv_a, cut, lset, lset2, isL, Value.category, ent, entn, if_some, if_pair, if_cons, if_int, if_long, if_ref, ite_self, gz_b, ↓icb, ↓icb2, b2i_ne, ge0, ge1, ge2, ge3, ge4, ge5, ge6, ge7, ge8, ge9, ge10, ge11, ge12, ge13, ge14, lit32, nI_add, pk_mul, clt_nI, cle_nI, cgt_nI, cge_nI, ceq_nI, cne_nI, inr_nI, nI_clamp, nI_eq, nI_leI, nI_ltI, k492, f492_2, f492_3, f492_4, f492_5, f492_7, f492_8, f492_9, f492_10, k493, k494, k495, k496, k497, k498, k499, k500, l493, l494, l495, l496, l497, l498, l499, l500, s0, ar, a21, c0, nx, b2i_t]
        · subst w
          simp -implicitDefEqProofs (disch := omega) [wX8_reckon_3, kp_, bsome, bnone, gi_s, gj_s, gr_s, gv_s, ik_, jk_, il_, jl_, rl_, i2_, i2_a, i2_b, j2_, j2_a, j2_b, i2d_, i2d_a, i2d_b, j2d_, j2d_a, j2d_b, i1_, i1_a, j1_, j1_a, i2l_, i2l_a, l2i_, l2i_a, fgi_, fgi_a, fgj_, fgj_a, fgr_, fgr_a, iald_, iald_a, iald_b, zald_, zald_a, zald_b, jald_, jald_a, jald_b, rald_, rald_a, rald_b, alen_, alen_a, sald_, sald_a, ic_, ic_a, jc_, jc_a, bc_, bc_a, bc_b, bj_, bj_a, bj_b, bz_, bz_a, band_, band_a, bor_, bor_a, bnot_, bnot_a, anil_, ai_, ai_a, ai_b, aj_, aj_a, aj_b, ar_, ar_a, ar_b, kb2i_, cvi_, cvi_a, cvi_b, cvj_, cvj_a, cvj_b, cvz_, cvz_a, cvz_b, csi_, csi_a, csj_, csj_a, csz_, csz_a, snop_, sseq_, sseq_n, sseq_s, sif_, sif_a, scut_, scut_a, ssi_, ssi_a, ssj_, ssj_a, ssr_, ssr_a, sinc_, sinc_a, sret_, sret_a, sretj_, sretj_a, sretv_, spop_, spop_a, kc_scv_, scv_, scv_a, scv_b, scs_, scs_a, fpi_, fpi_a, fpi_b, fpj_, fpj_a, fpj_b, foi_, foi_a, foi_b, foj_, foj_a, foj_b, aii_, aii_a, aii_b, aii_c, aiz_, aiz_a, aiz_b, aiz_c, aij_, aij_a, aij_b, aij_c, aoi_, aoi_a, aoi_b, aoi_c, aoj_, aoj_a, aoj_b, aoj_c, scopy_, scopy_a, scopy_b, scopy_c, scopy_d, scopy_e, ssw_, ssw_a, sel_n, sel_c, mfi_, mfi_a, mfj_, mfj_a, mfz_, mfz_a, kb_mfv_, mfv_, mfv_a, cut, lset, lset2, isL, Value.category, ent, entn, if_some, if_pair, if_cons, if_int, if_long, if_ref, ite_self, gz_b, ↓icb, ↓icb2, b2i_ne, ge0, ge1, ge2, ge3, ge4, ge5, ge6, ge7, ge8, ge9, ge10, ge11, ge12, ge13, ge14, lit32, nI_add, pk_mul, clt_nI, cle_nI, cgt_nI, cge_nI, ceq_nI, cne_nI, inr_nI, nI_clamp, nI_eq, nI_leI, nI_ltI, k492, f492_2, f492_3, f492_4, f492_5, f492_7, f492_8, f492_9, f492_10, k493, k494, k495, k496, k497, k498, k499, k500, l493, l494, l495, l496, l497, l498, l499, l500, s0, ar, a21, nx, b2i_t]
      · rw [decide_eq_false y] at nx
        refine ⟨Z, 0, ?_, rfZ, xZ, Or.inr ⟨hns, Or.inr ⟨by omega, rfl, by rw [z1 492 (by decide)]; exact a21, fun c hc => by rw [z1 500 (by decide)]; exact q1 c hc, fun c hc => by rw [z1 504 (by decide)]; exact q5 c hc, oldZ⟩⟩⟩
        rcases (by omega : al = 0 ∨ al = 1) with w | w
        · subst w
          have g0 : ag = 0 := by omega
          rw [decide_eq_true g0] at c0
          simp -implicitDefEqProofs (disch := omega) [wX8_reckon_3, kp_, bsome, bnone, gi_s, gj_s, gr_s, gv_s, ik_, jk_, il_, jl_, rl_, i2_, i2_a, i2_b, j2_, j2_a, j2_b, i2d_, i2d_a, i2d_b, j2d_, j2d_a, j2d_b, i1_, i1_a, j1_, j1_a, i2l_, i2l_a, l2i_, l2i_a, fgi_, fgi_a, fgj_, fgj_a, fgr_, fgr_a, iald_, iald_a, iald_b, zald_, zald_a, zald_b, jald_, jald_a, jald_b, rald_, rald_a, rald_b, alen_, alen_a, sald_, sald_a, ic_, ic_a, jc_, jc_a, bc_, bc_a, bc_b, bj_, bj_a, bj_b, bz_, bz_a, band_, band_a, bor_, bor_a, bnot_, bnot_a, anil_, ai_, ai_a, ai_b, aj_, aj_a, aj_b, ar_, ar_a, ar_b, kb2i_, cvi_, cvi_a, cvi_b, cvj_, cvj_a, cvj_b, cvz_, cvz_a, cvz_b, csi_, csi_a, csj_, csj_a, csz_, csz_a, snop_, sseq_, sseq_n, sseq_s, sif_, sif_a, scut_, scut_a, ssi_, ssi_a, ssj_, ssj_a, ssr_, ssr_a, sinc_, sinc_a, sret_, sret_a, sretj_, sretj_a, sretv_, spop_, spop_a, kc_scv_, scv_, scv_a, scv_b, scs_, scs_a, fpi_, fpi_a, fpi_b, fpj_, fpj_a, fpj_b, foi_, foi_a, foi_b, foj_, foj_a, foj_b, aii_, aii_a, aii_b, aii_c, aiz_, aiz_a, aiz_b, aiz_c, aij_, aij_a, aij_b, aij_c, aoi_, aoi_a, aoi_b, aoi_c, aoj_, aoj_a, aoj_b, aoj_c, scopy_, scopy_a, scopy_b, scopy_c, scopy_d, scopy_e, ssw_, ssw_a, sel_n, sel_c, mfi_, mfi_a, mfj_, mfj_a, mfz_, mfz_a, kb_mfv_, mfv_, mfv_a, cut, lset, lset2, isL, Value.category, ent, entn, if_some, if_pair, if_cons, if_int, if_long, if_ref, ite_self, gz_b, ↓icb, ↓icb2, b2i_ne, ge0, ge1, ge2, ge3, ge4, ge5, ge6, ge7, ge8, ge9, ge10, ge11, ge12, ge13, ge14, lit32, nI_add, pk_mul, clt_nI, cle_nI, cgt_nI, cge_nI, ceq_nI, cne_nI, inr_nI, nI_clamp, nI_eq, nI_leI, nI_ltI, k492, f492_2, f492_3, f492_4, f492_5, f492_7, f492_8, f492_9, f492_10, k493, k494, k495, k496, k497, k498, k499, k500, l493, l494, l495, l496, l497, l498, l499, l500, s0, ar, a21, c0, nx, b2i_f]
        · subst w
          simp -implicitDefEqProofs (disch := omega) [wX8_reckon_3, kp_, bsome, bnone, gi_s, gj_s, gr_s, gv_s, ik_, jk_, il_, jl_, rl_, i2_, i2_a, i2_b, j2_, j2_a, j2_b, i2d_, i2d_a, i2d_b, j2d_, j2d_a, j2d_b, i1_, i1_a, j1_, j1_a, i2l_, i2l_a, l2i_, l2i_a, fgi_, fgi_a, fgj_, fgj_a, fgr_, fgr_a, iald_, iald_a, iald_b, zald_, zald_a, zald_b, jald_, jald_a, jald_b, rald_, rald_a, rald_b, alen_, alen_a, sald_, sald_a, ic_, ic_a, jc_, jc_a, bc_, bc_a, bc_b, bj_, bj_a, bj_b, bz_, bz_a, band_, band_a, bor_, bor_a, bnot_, bnot_a, anil_, ai_, ai_a, ai_b, aj_, aj_a, aj_b, ar_, ar_a, ar_b, kb2i_, cvi_, cvi_a, cvi_b, cvj_, cvj_a, cvj_b, cvz_, cvz_a, cvz_b, csi_, csi_a, csj_, csj_a, csz_, csz_a, snop_, sseq_, sseq_n, sseq_s, sif_, sif_a, scut_, scut_a, ssi_, ssi_a, ssj_, ssj_a, ssr_, ssr_a, sinc_, sinc_a, sret_, sret_a, sretj_, sretj_a, sretv_, spop_, spop_a, kc_scv_, scv_, scv_a, scv_b, scs_, scs_a, fpi_, fpi_a, fpi_b, fpj_, fpj_a, fpj_b, foi_, foi_a, foi_b, foj_, foj_a, foj_b, aii_, aii_a, aii_b, aii_c, aiz_, aiz_a, aiz_b, aiz_c, aij_, aij_a, aij_b, aij_c, aoi_, aoi_a, aoi_b, aoi_c, aoj_, aoj_a, aoj_b, aoj_c, scopy_, scopy_a, scopy_b, scopy_c, scopy_d, scopy_e, ssw_, ssw_a, sel_n, sel_c, mfi_, mfi_a, mfj_, mfj_a, mfz_, mfz_a, kb_mfv_, mfv_, mfv_a, cut, lset, lset2, isL, Value.category, ent, entn, if_some, if_pair, if_cons, if_int, if_long, if_ref, ite_self, gz_b, ↓icb, ↓icb2, b2i_ne, ge0, ge1, ge2, ge3, ge4, ge5, ge6, ge7, ge8, ge9, ge10, ge11, ge12, ge13, ge14, lit32, nI_add, pk_mul, clt_nI, cle_nI, cgt_nI, cge_nI, ceq_nI, cne_nI, inr_nI, nI_clamp, nI_eq, nI_leI, nI_ltI, k492, f492_2, f492_3, f492_4, f492_5, f492_7, f492_8, f492_9, f492_10, k493, k494, k495, k496, k497, k498, k499, k500, l493, l494, l495, l496, l497, l498, l499, l500, s0, ar, a21, nx, b2i_f]
end
