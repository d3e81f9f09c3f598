/-! ===== solve, whole ===== -/
section
variable {M : Me} {k : Nat → Nat} {b : Nat} {F : Nat → Int32}
set_option maxRecDepth 20000 in
theorem BAt.frame {N : Me} (h : BAt M k) (h1 : ∀ a, a ≠ 63 → 61 ≤ a → a ≤ 96 → N.1 a = M.1 a) (h2 : ∀ a, 61 ≤ a → a ≤ 96 → N.2 a = M.2 a) : BAt N k := by
  obtain ⟨a1, a2, a3, a4, a5⟩ := h
  refine ⟨by rw [h1 62 (by decide) (by decide) (by decide)]; exact a1, a2, fun c hc => by rw [h1 94 (by decide) (by decide) (by decide)]; exact a3 c hc, fun q hq => (a4 q hq).frame (by rw [h1 61 (by decide) (by decide) (by decide)]) (by rw [h1 93 (by decide) (by decide) (by decide)]) (by rw [h2 92 (by decide) (by decide)]) (h2 (65 + q) (by omega) (by omega)), ?_⟩
  unfold BRow at a5 ⊢
  rw [h1 61 (by decide) (by decide) (by decide), h2 61 (by decide) (by decide), h2 96 (by decide) (by decide)]
  exact a5
set_option maxRecDepth 20000 in
theorem BInv.frame {N : Me} (h : BInv M) (h1 : ∀ a, a ≠ 63 → 61 ≤ a → a ≤ 96 → N.1 a = M.1 a) (h2 : ∀ a, 61 ≤ a → a ≤ 96 → N.2 a = M.2 a) : BInv N := by
  rcases h with h | ⟨k, h⟩
  · exact Or.inl (by rw [h1 62 (by decide) (by decide) (by decide)]; exact h)
  · exact Or.inr ⟨k, h.frame h1 h2⟩
set_option maxRecDepth 20000 in
theorem nI_nm1 {x : Nat} (hx : x < 2 ^ 31) : ¬ nI x = -(nI 1) := fun z => by
  have y := congrArg Int32.toInt z
  rw [nI_toInt hx] at y
  have w : (-(nI 1)).toInt = -1 := by decide
  omega
set_option maxRecDepth 20000 in
theorem c_rest {w : Int32} (hk : KV (M.1 62) k) (hg : GK k) (hn : BN M k) (hI : ∀ q, q < 27 → BI M k q) (h8 : M.1 61 8 = -(nI 1)) : ∃ N i N3, swh qX0_solve_2 wX0_solve_2 [.ref 61, .ref b, .int w, .int (nI 0)] M = some (none, [.ref 61, .ref b, .int w, .int (nI i)], N) ∧ ((N.1 61 8 = -(nI 1) ∧ N3 = N) ∨ ∃ m, m < 27 ∧ N.1 61 8 = nI m ∧ DX0_tellPressures [.ref 61] N = some N3) ∧ BAt N3 k ∧ SF M N3 := by
  obtain ⟨N, i, l1, p1, p2, p3⟩ := c_search (b := b) (w := w) hk hg hn hI h8
  have hkN : KV (N.1 62) k := by rw [p1.1 62 (by decide) (by decide) (by decide)]; exact hk
  have hnN : BN N k := fun c hc => by rw [p1.1 94 (by decide) (by decide) (by decide)]; exact hn c hc
  have sf : SF M N := fun a ha => ⟨p1.1 a (by omega) (by omega) (by omega), p1.2.2 a (by omega)⟩
  rcases p3 with ⟨q1, q2⟩ | ⟨m, q1, q2, q3⟩
  · refine ⟨N, i, N, l1, Or.inl ⟨q2, rfl⟩, ⟨hkN, hg, hnN, p2, ?_⟩, sf⟩
    unfold BRow
    rw [q1]
    exact q2
  · have hm := (fR_some 27 q1).1
    have hbp : BP N k m := by
      rcases p2 m hm with z | z
      · rw [q3] at z
        cases z
      · exact z.2.2
    obtain ⟨N3, t0, t1, t2, t3, t4, t5, t6⟩ := c_tell hkN hg hnN hm hbp q2
    refine ⟨N, i, N3, l1, Or.inr ⟨m, hm, q2, t0⟩, ⟨by rw [t5 62 (by decide)]; exact hkN, hg, fun c hc => by rw [t5 94 (by decide)]; exact hnN c hc, fun q hq => (p2 q hq).frame (by rw [t4 4 (by decide)]) (by rw [t5 93 (by decide)]) (by rw [t6 92 (by decide) (by decide)]) (t6 (65 + q) (by omega) (by omega)), ?_⟩, sf.trans (fun a ha => ⟨t5 a (by omega), t6 a (by omega) (by omega)⟩)⟩
    unfold BRow
    rw [q1]
    exact ⟨by rw [t4 8 (by decide)]; exact q2, t1, t2, t3⟩
set_option maxRecDepth 20000 in
theorem c_solve (hb : kd b = 1) (hb2 : ¬ (61 ≤ b ∧ b ≤ 96)) (hw : DX0_write [.ref 61, .ref b] M = some (sI M 63 54 F)) (hF : KV F k) (hg : GK k) (hnet : ∀ N : Me, SF M N → ∀ c, c < k 0 → DX1_net [.ref b, .int (nI c)] N = some (nI (knet k c), N)) (h0 : M.1 b 0 = nI (k 0)) (hB : BInv M) : ∃ N, DX0_solve [.ref 61, .ref b] M = some N ∧ BAt N k ∧ SF M N := by
  have n5 := hg.1
  obtain ⟨M1, e1⟩ : ∃ M1 : Me, M1 = sI M 63 54 F := ⟨_, rfl⟩
  rw [← e1] at hw
  have m63 : ∀ i, i < 54 → M1.1 63 i = F i := fun i hi => by rw [e1, sI_at hi]
  have m1 : ∀ a, a ≠ 63 → M1.1 a = M.1 a := fun a ha => by rw [e1, sI_ne ha]
  have m2 : M1.2 = M.2 := by rw [e1]; rfl
  have sf1 : SF M M1 := fun a ha => ⟨m1 a (by omega), by rw [m2]⟩
  have hB1 : BInv M1 := hB.frame (fun a h1 _ _ => m1 a h1) (fun a _ _ => by rw [m2])
  have kf : ∀ n, (∀ i, 0 ≤ i → i < n → M1.1 63 i = M1.1 62 i) → n ≤ 54 → 3 ≤ n → ∃ k0, BAt M1 k0 ∧ ∀ i, i < n → k0 i = k i := fun n hn hn2 hn3 => by
    rcases hB1 with z | ⟨k0, z⟩
    · have y := hn 0 (by omega) (by omega)
      rw [m63 0 (by decide), z, (hF.1 0 (by decide) (by decide)).1] at y
      exact absurd y (nI_nm1 (by omega))
    · exact ⟨k0, z, KV.eq z.1 hF hn2 hn3 (fun i hi => by rw [← m63 i (by omega)]; exact (hn i (by omega) hi).symm)⟩
  by_cases d1 : ∀ i, 0 ≤ i → i < 43 → M1.1 63 i = M1.1 62 i
  · have s1 := c_same (M := M1) (s := 0) (e := 43) (by decide) (by decide) d1
    by_cases d2 : ∀ i, 43 ≤ i → i < 54 → M1.1 63 i = M1.1 62 i
    · have s2 := c_same (M := M1) (s := 43) (e := 54) (by decide) (by decide) d2
      obtain ⟨k0, z1, z2⟩ := kf 54 (fun i h1 h2 => by
        by_cases q : i < 43
        · exact d1 i h1 q
        · exact d2 i (by omega) h2) (by decide) (by decide)
      have ek : k0 = k := by
        funext i
        by_cases q : i < 54
        · exact z2 i q
        · rw [z1.1.2.2 i (by omega), hF.2.2 i (by omega)]
      subst ek
      refine ⟨M1, ?_, z1, sf1⟩
      simp -implicitDefEqProofs (disch := omega) [DX0_solve, EX0_solve, kp_, bsome, bnone, gi_s, gj_s, gr_s, gv_s, ik_, jk_, il_, jl_, rl_, i2_, i2_a, i2_b, j2_, j2_a, j2_b, i2d_, i2d_a, i2d_b, j2d_, j2d_a, j2d_b, i1_, i1_a, j1_, j1_a, i2l_, i2l_a, l2i_, l2i_a, fgi_, fgi_a, fgj_, fgj_a, fgr_, fgr_a, iald_, iald_a, iald_b, zald_, zald_a, zald_b, jald_, jald_a, jald_b, rald_, rald_a, rald_b, alen_, alen_a, sald_, sald_a, ic_, ic_a, jc_, jc_a, bc_, bc_a, bc_b, bj_, bj_a, bj_b, bz_, bz_a, band_, band_a, bor_, bor_a, bnot_, bnot_a, anil_, ai_, ai_a, ai_b, aj_, aj_a, aj_b, ar_, ar_a, ar_b, kb2i_, cvi_, cvi_a, cvi_b, cvj_, cvj_a, cvj_b, cvz_, cvz_a, cvz_b, csi_, csi_a, csj_, csj_a, csz_, csz_a, snop_, sseq_, sseq_n, sseq_s, sif_, sif_a, scut_, scut_a, ssi_, ssi_a, ssj_, ssj_a, ssr_, ssr_a, sinc_, sinc_a, sret_, sret_a, sretj_, sretj_a, sretv_, spop_, spop_a, kc_scv_, scv_, scv_a, scv_b, scs_, scs_a, fpi_, fpi_a, fpi_b, fpj_, fpj_a, fpj_b, foi_, foi_a, foi_b, foj_, foj_a, foj_b, aii_, aii_a, aii_b, aii_c, aiz_, aiz_a, aiz_b, aiz_c, aij_, aij_a, aij_b, aij_c, aoi_, aoi_a, aoi_b, aoi_c, aoj_, aoj_a, aoj_b, aoj_c, scopy_, scopy_a, scopy_b, scopy_c, scopy_d, scopy_e, ssw_, ssw_a, sel_n, sel_c, mfi_, mfi_a, mfj_, mfj_a, mfz_, mfz_a, kb_mfv_, mfv_, mfv_a, cut, lset, lset2, isL, Value.category, ent, entn, if_some, if_pair, if_cons, if_int, if_long, if_ref, ite_self, gz_b, ↓icb, ↓icb2, b2i_ne, ge0, ge1, ge2, ge3, ge4, ge5, ge6, ge7, ge8, ge9, ge10, ge11, ge12, ge13, ge14, lit32, nI_add, pk_mul, clt_nI, cle_nI, cgt_nI, cge_nI, ceq_nI, cne_nI, inr_nI, nI_clamp, nI_eq, nI_leI, nI_ltI, k61, f61_0, f61_1, f61_2, f61_3, f61_5, f61_6, f61_7, f61_10, k62, k63, k64, k92, k93, k94, k95, k96, l62, l63, l64, l92, l93, l94, l95, l96, f64_, k65_, l65_, hw, s1, s2, b2i_f]
    · have s2 := c_diff (M := M1) (s := 43) (e := 54) (by decide) d2
      obtain ⟨k0, z1, z2⟩ := kf 43 d1 (by decide) (by decide)
      obtain ⟨M2, e2⟩ : ∃ M2 : Me, M2 = wi (cpi M1 63 0 62 0 54) 61 8 (-(nI 1)) := ⟨_, rfl⟩
      have c62 : ∀ i, i < 54 → M2.1 62 i = F i := fun i hi => by rw [e2, wi_ne (by decide), cpi_in hi, m63 i hi]
      have c1 : ∀ a, a ≠ 61 → a ≠ 62 → M2.1 a = M1.1 a := fun a h1 h2 => by rw [e2, wi_ne h1, cpi_out h2]
      have c2 : M2.2 = M1.2 := by rw [e2, wi_2, cpi_2]
      have hk2 : KV (M2.1 62) k := ⟨fun i hi h1 => by rw [c62 i hi]; exact hF.1 i hi h1, by rw [c62 1 (by decide)]; exact hF.2.1, hF.2.2⟩
      have hn2 : BN M2 k := fun c hc => by
        rw [c1 94 (by decide) (by decide), ← sh_net z2]
        exact z1.2.2.1 c (by rw [z2 0 (by decide)]; exact hc)
      have hI2 : ∀ q, q < 27 → BI M2 k q := fun q hq => sh_BI z2 z1.2.1.1 ((z1.2.2.2.1 q hq).frame (by rw [e2, wi_ns (by decide), cpi_out (by decide)]) (by rw [c1 93 (by decide) (by decide)]) (by rw [c2]) (by rw [c2]))
      have h8 : M2.1 61 8 = -(nI 1) := by rw [e2]; exact wi_at
      obtain ⟨N, i, N3, l1, l2, l3, l4⟩ := c_rest (b := b) (w := nI 0) hk2 hg hn2 hI2 h8
      have sf2 : SF M M2 := sf1.trans (fun a ha => ⟨c1 a (by omega) (by omega), by rw [c2]⟩)
      refine ⟨N3, ?_, l3, sf2.trans l4⟩
      rcases l2 with ⟨q1, q2⟩ | ⟨m, q0, q1, q2⟩
      · have q3 : cne (-(nI 1)) (-(nI 1)) = false := by decide
        simp -implicitDefEqProofs (disch := omega) [DX0_solve, EX0_solve, kp_, bsome, bnone, gi_s, gj_s, gr_s, gv_s, ik_, jk_, il_, jl_, rl_, i2_, i2_a, i2_b, j2_, j2_a, j2_b, i2d_, i2d_a, i2d_b, j2d_, j2d_a, j2d_b, i1_, i1_a, j1_, j1_a, i2l_, i2l_a, l2i_, l2i_a, fgi_, fgi_a, fgj_, fgj_a, fgr_, fgr_a, iald_, iald_a, iald_b, zald_, zald_a, zald_b, jald_, jald_a, jald_b, rald_, rald_a, rald_b, alen_, alen_a, sald_, sald_a, ic_, ic_a, jc_, jc_a, bc_, bc_a, bc_b, bj_, bj_a, bj_b, bz_, bz_a, band_, band_a, bor_, bor_a, bnot_, bnot_a, anil_, ai_, ai_a, ai_b, aj_, aj_a, aj_b, ar_, ar_a, ar_b, kb2i_, cvi_, cvi_a, cvi_b, cvj_, cvj_a, cvj_b, cvz_, cvz_a, cvz_b, csi_, csi_a, csj_, csj_a, csz_, csz_a, snop_, sseq_, sseq_n, sseq_s, sif_, sif_a, scut_, scut_a, ssi_, ssi_a, ssj_, ssj_a, ssr_, ssr_a, sinc_, sinc_a, sret_, sret_a, sretj_, sretj_a, sretv_, spop_, spop_a, kc_scv_, scv_, scv_a, scv_b, scs_, scs_a, fpi_, fpi_a, fpi_b, fpj_, fpj_a, fpj_b, foi_, foi_a, foi_b, foj_, foj_a, foj_b, aii_, aii_a, aii_b, aii_c, aiz_, aiz_a, aiz_b, aiz_c, aij_, aij_a, aij_b, aij_c, aoi_, aoi_a, aoi_b, aoi_c, aoj_, aoj_a, aoj_b, aoj_c, scopy_, scopy_a, scopy_b, scopy_c, scopy_d, scopy_e, ssw_, ssw_a, sel_n, sel_c, mfi_, mfi_a, mfj_, mfj_a, mfz_, mfz_a, kb_mfv_, mfv_, mfv_a, cut, lset, lset2, isL, Value.category, ent, entn, if_some, if_pair, if_cons, if_int, if_long, if_ref, ite_self, gz_b, ↓icb, ↓icb2, b2i_ne, ge0, ge1, ge2, ge3, ge4, ge5, ge6, ge7, ge8, ge9, ge10, ge11, ge12, ge13, ge14, lit32, nI_add, pk_mul, clt_nI, cle_nI, cgt_nI, cge_nI, ceq_nI, cne_nI, inr_nI, nI_clamp, nI_eq, nI_leI, nI_ltI, k61, f61_0, f61_1, f61_2, f61_3, f61_5, f61_6, f61_7, f61_10, k62, k63, k64, k92, k93, k94, k95, k96, l62, l63, l64, l92, l93, l94, l95, l96, f64_, k65_, l65_, hw, s1, s2, b2i_f, ← e2, l1, q1, q2, q3]
      · have q3 : cne (nI m) (-(nI 1)) = true := by unfold cne; exact decide_eq_true (nI_nm1 (by omega))
        simp -implicitDefEqProofs (disch := omega) [DX0_solve, EX0_solve, kp_, bsome, bnone, gi_s, gj_s, gr_s, gv_s, ik_, jk_, il_, jl_, rl_, i2_, i2_a, i2_b, j2_, j2_a, j2_b, i2d_, i2d_a, i2d_b, j2d_, j2d_a, j2d_b, i1_, i1_a, j1_, j1_a, i2l_, i2l_a, l2i_, l2i_a, fgi_, fgi_a, fgj_, fgj_a, fgr_, fgr_a, iald_, iald_a, iald_b, zald_, zald_a, zald_b, jald_, jald_a, jald_b, rald_, rald_a, rald_b, alen_, alen_a, sald_, sald_a, ic_, ic_a, jc_, jc_a, bc_, bc_a, bc_b, bj_, bj_a, bj_b, bz_, bz_a, band_, band_a, bor_, bor_a, bnot_, bnot_a, anil_, ai_, ai_a, ai_b, aj_, aj_a, aj_b, ar_, ar_a, ar_b, kb2i_, cvi_, cvi_a, cvi_b, cvj_, cvj_a, cvj_b, cvz_, cvz_a, cvz_b, csi_, csi_a, csj_, csj_a, csz_, csz_a, snop_, sseq_, sseq_n, sseq_s, sif_, sif_a, scut_, scut_a, ssi_, ssi_a, ssj_, ssj_a, ssr_, ssr_a, sinc_, sinc_a, sret_, sret_a, sretj_, sretj_a, sretv_, spop_, spop_a, kc_scv_, scv_, scv_a, scv_b, scs_, scs_a, fpi_, fpi_a, fpi_b, fpj_, fpj_a, fpj_b, foi_, foi_a, foi_b, foj_, foj_a, foj_b, aii_, aii_a, aii_b, aii_c, aiz_, aiz_a, aiz_b, aiz_c, aij_, aij_a, aij_b, aij_c, aoi_, aoi_a, aoi_b, aoi_c, aoj_, aoj_a, aoj_b, aoj_c, scopy_, scopy_a, scopy_b, scopy_c, scopy_d, scopy_e, ssw_, ssw_a, sel_n, sel_c, mfi_, mfi_a, mfj_, mfj_a, mfz_, mfz_a, kb_mfv_, mfv_, mfv_a, cut, lset, lset2, isL, Value.category, ent, entn, if_some, if_pair, if_cons, if_int, if_long, if_ref, ite_self, gz_b, ↓icb, ↓icb2, b2i_ne, ge0, ge1, ge2, ge3, ge4, ge5, ge6, ge7, ge8, ge9, ge10, ge11, ge12, ge13, ge14, lit32, nI_add, pk_mul, clt_nI, cle_nI, cgt_nI, cge_nI, ceq_nI, cne_nI, inr_nI, nI_clamp, nI_eq, nI_leI, nI_ltI, k61, f61_0, f61_1, f61_2, f61_3, f61_5, f61_6, f61_7, f61_10, k62, k63, k64, k92, k93, k94, k95, k96, l62, l63, l64, l92, l93, l94, l95, l96, f64_, k65_, l65_, hw, s1, s2, b2i_f, ← e2, l1, q1, q2, q3]
  · have s1 := c_diff (M := M1) (s := 0) (e := 43) (by decide) d1
    obtain ⟨M2, e2⟩ : ∃ M2 : Me, M2 = cpi M1 63 0 62 0 54 := ⟨_, rfl⟩
    have c62 : ∀ i, i < 54 → M2.1 62 i = F i := fun i hi => by rw [e2, cpi_in hi, m63 i hi]
    have c1 : ∀ a, a ≠ 62 → M2.1 a = M1.1 a := fun a h2 => by rw [e2, cpi_out h2]
    have c2 : M2.2 = M1.2 := by rw [e2, cpi_2]
    obtain ⟨M3, e3⟩ : ∃ M3 : Me, M3 = wi M2 61 4 (nI 0) := ⟨_, rfl⟩
    have f1 : ∀ a, a ≠ 61 → M3.1 a = M2.1 a := fun a h2 => by rw [e3, wi_ne h2]
    have f2 : M3.2 = M2.2 := by rw [e3]; rfl
    have sf3 : SF M M3 := sf1.trans (fun a ha => ⟨by rw [f1 a (by omega), c1 a (by omega)], by rw [f2, c2]⟩)
    have b3 : M3.1 b 0 = nI (k 0) := by rw [(sf3 b hb2).1]; exact h0
    have ln' := swh_count (c := qX0_solve_1) (b := wX0_solve_1) (fun c => [.ref 61, .ref b, .int (nI 1), .int (nI c)]) (fun c => sI M3 94 c (fun c => nI (knet k c))) (k 0)
      (fun c hc => by
        have z : (sI M3 94 c (fun c => nI (knet k c))).1 b 0 = nI (k 0) := by rw [sI_ne (by omega)]; exact b3
        simp -implicitDefEqProofs (disch := omega) [qX0_solve_1, kp_, bsome, bnone, gi_s, gj_s, gr_s, gv_s, ik_, jk_, il_, jl_, rl_, i2_, i2_a, i2_b, j2_, j2_a, j2_b, i2d_, i2d_a, i2d_b, j2d_, j2d_a, j2d_b, i1_, i1_a, j1_, j1_a, i2l_, i2l_a, l2i_, l2i_a, fgi_, fgi_a, fgj_, fgj_a, fgr_, fgr_a, iald_, iald_a, iald_b, zald_, zald_a, zald_b, jald_, jald_a, jald_b, rald_, rald_a, rald_b, alen_, alen_a, sald_, sald_a, ic_, ic_a, jc_, jc_a, bc_, bc_a, bc_b, bj_, bj_a, bj_b, bz_, bz_a, band_, band_a, bor_, bor_a, bnot_, bnot_a, anil_, ai_, ai_a, ai_b, aj_, aj_a, aj_b, ar_, ar_a, ar_b, kb2i_, cvi_, cvi_a, cvi_b, cvj_, cvj_a, cvj_b, cvz_, cvz_a, cvz_b, csi_, csi_a, csj_, csj_a, csz_, csz_a, snop_, sseq_, sseq_n, sseq_s, sif_, sif_a, scut_, scut_a, ssi_, ssi_a, ssj_, ssj_a, ssr_, ssr_a, sinc_, sinc_a, sret_, sret_a, sretj_, sretj_a, sretv_, spop_, spop_a, kc_scv_, scv_, scv_a, scv_b, scs_, scs_a, fpi_, fpi_a, fpi_b, fpj_, fpj_a, fpj_b, foi_, foi_a, foi_b, foj_, foj_a, foj_b, aii_, aii_a, aii_b, aii_c, aiz_, aiz_a, aiz_b, aiz_c, aij_, aij_a, aij_b, aij_c, aoi_, aoi_a, aoi_b, aoi_c, aoj_, aoj_a, aoj_b, aoj_c, scopy_, scopy_a, scopy_b, scopy_c, scopy_d, scopy_e, ssw_, ssw_a, sel_n, sel_c, mfi_, mfi_a, mfj_, mfj_a, mfz_, mfz_a, kb_mfv_, mfv_, mfv_a, cut, lset, lset2, isL, Value.category, ent, entn, if_some, if_pair, if_cons, if_int, if_long, if_ref, ite_self, gz_b, ↓icb, ↓icb2, b2i_ne, ge0, ge1, ge2, ge3, ge4, ge5, ge6, ge7, ge8, ge9, ge10, ge11, ge12, ge13, ge14, lit32, nI_add, pk_mul, clt_nI, cle_nI, cgt_nI, cge_nI, ceq_nI, cne_nI, inr_nI, nI_clamp, nI_eq, nI_leI, nI_ltI, hb, z, hc])
      (fun c hc => by
        have z := hnet (sI M3 94 c (fun c => nI (knet k c))) (sf3.trans (fun a ha => ⟨sI_ne (by omega), rfl⟩)) c hc
        have nx := wi_sI_next (M := M3) (a := 94) (n := c) (Y := fun c => nI (knet k c))
        have c5 : c < 5 := by omega
        simp -implicitDefEqProofs (disch := omega) [wX0_solve_1, kp_, bsome, bnone, gi_s, gj_s, gr_s, gv_s, ik_, jk_, il_, jl_, rl_, i2_, i2_a, i2_b, j2_, j2_a, j2_b, i2d_, i2d_a, i2d_b, j2d_, j2d_a, j2d_b, i1_, i1_a, j1_, j1_a, i2l_, i2l_a, l2i_, l2i_a, fgi_, fgi_a, fgj_, fgj_a, fgr_, fgr_a, iald_, iald_a, iald_b, zald_, zald_a, zald_b, jald_, jald_a, jald_b, rald_, rald_a, rald_b, alen_, alen_a, sald_, sald_a, ic_, ic_a, jc_, jc_a, bc_, bc_a, bc_b, bj_, bj_a, bj_b, bz_, bz_a, band_, band_a, bor_, bor_a, bnot_, bnot_a, anil_, ai_, ai_a, ai_b, aj_, aj_a, aj_b, ar_, ar_a, ar_b, kb2i_, cvi_, cvi_a, cvi_b, cvj_, cvj_a, cvj_b, cvz_, cvz_a, cvz_b, csi_, csi_a, csj_, csj_a, csz_, csz_a, snop_, sseq_, sseq_n, sseq_s, sif_, sif_a, scut_, scut_a, ssi_, ssi_a, ssj_, ssj_a, ssr_, ssr_a, sinc_, sinc_a, sret_, sret_a, sretj_, sretj_a, sretv_, spop_, spop_a, kc_scv_, scv_, scv_a, scv_b, scs_, scs_a, fpi_, fpi_a, fpi_b, fpj_, fpj_a, fpj_b, foi_, foi_a, foi_b, foj_, foj_a, foj_b, aii_, aii_a, aii_b, aii_c, aiz_, aiz_a, aiz_b, aiz_c, aij_, aij_a, aij_b, aij_c, aoi_, aoi_a, aoi_b, aoi_c, aoj_, aoj_a, aoj_b, aoj_c, scopy_, scopy_a, scopy_b, scopy_c, scopy_d, scopy_e, ssw_, ssw_a, sel_n, sel_c, mfi_, mfi_a, mfj_, mfj_a, mfz_, mfz_a, kb_mfv_, mfv_, mfv_a, cut, lset, lset2, isL, Value.category, ent, entn, if_some, if_pair, if_cons, if_int, if_long, if_ref, ite_self, gz_b, ↓icb, ↓icb2, b2i_ne, ge0, ge1, ge2, ge3, ge4, ge5, ge6, ge7, ge8, ge9, ge10, ge11, ge12, ge13, ge14, lit32, nI_add, pk_mul, clt_nI, cle_nI, cgt_nI, cge_nI, ceq_nI, cne_nI, inr_nI, nI_clamp, nI_eq, nI_leI, nI_ltI, k61, f61_0, f61_1, f61_2, f61_3, f61_5, f61_6, f61_7, f61_10, k62, k63, k64, k92, k93, k94, k95, k96, l62, l63, l64, l92, l93, l94, l95, l96, f64_, k65_, l65_, hb, z, nx])
      (by
        have z : (sI M3 94 (k 0) (fun c => nI (knet k c))).1 b 0 = nI (k 0) := by rw [sI_ne (by omega)]; exact b3
        simp -implicitDefEqProofs (disch := omega) [qX0_solve_1, kp_, bsome, bnone, gi_s, gj_s, gr_s, gv_s, ik_, jk_, il_, jl_, rl_, i2_, i2_a, i2_b, j2_, j2_a, j2_b, i2d_, i2d_a, i2d_b, j2d_, j2d_a, j2d_b, i1_, i1_a, j1_, j1_a, i2l_, i2l_a, l2i_, l2i_a, fgi_, fgi_a, fgj_, fgj_a, fgr_, fgr_a, iald_, iald_a, iald_b, zald_, zald_a, zald_b, jald_, jald_a, jald_b, rald_, rald_a, rald_b, alen_, alen_a, sald_, sald_a, ic_, ic_a, jc_, jc_a, bc_, bc_a, bc_b, bj_, bj_a, bj_b, bz_, bz_a, band_, band_a, bor_, bor_a, bnot_, bnot_a, anil_, ai_, ai_a, ai_b, aj_, aj_a, aj_b, ar_, ar_a, ar_b, kb2i_, cvi_, cvi_a, cvi_b, cvj_, cvj_a, cvj_b, cvz_, cvz_a, cvz_b, csi_, csi_a, csj_, csj_a, csz_, csz_a, snop_, sseq_, sseq_n, sseq_s, sif_, sif_a, scut_, scut_a, ssi_, ssi_a, ssj_, ssj_a, ssr_, ssr_a, sinc_, sinc_a, sret_, sret_a, sretj_, sretj_a, sretv_, spop_, spop_a, kc_scv_, scv_, scv_a, scv_b, scs_, scs_a, fpi_, fpi_a, fpi_b, fpj_, fpj_a, fpj_b, foi_, foi_a, foi_b, foj_, foj_a, foj_b, aii_, aii_a, aii_b, aii_c, aiz_, aiz_a, aiz_b, aiz_c, aij_, aij_a, aij_b, aij_c, aoi_, aoi_a, aoi_b, aoi_c, aoj_, aoj_a, aoj_b, aoj_c, scopy_, scopy_a, scopy_b, scopy_c, scopy_d, scopy_e, ssw_, ssw_a, sel_n, sel_c, mfi_, mfi_a, mfj_, mfj_a, mfz_, mfz_a, kb_mfv_, mfv_, mfv_a, cut, lset, lset2, isL, Value.category, ent, entn, if_some, if_pair, if_cons, if_int, if_long, if_ref, ite_self, gz_b, ↓icb, ↓icb2, b2i_ne, ge0, ge1, ge2, ge3, ge4, ge5, ge6, ge7, ge8, ge9, ge10, ge11, ge12, ge13, ge14, lit32, nI_add, pk_mul, clt_nI, cle_nI, cgt_nI, cge_nI, ceq_nI, cne_nI, inr_nI, nI_clamp, nI_eq, nI_leI, nI_ltI, hb, z])
    rw [sI_0] at ln'
    obtain ⟨M4, e4⟩ : ∃ M4 : Me, M4 = wi (sI M3 94 (k 0) (fun c => nI (knet k c))) 61 8 (-(nI 1)) := ⟨_, rfl⟩
    have g1 : ∀ a, a ≠ 61 → a ≠ 94 → M4.1 a = M3.1 a := fun a h1 h2 => by rw [e4, wi_ne h1, sI_ne h2]
    have g2 : M4.2 = M3.2 := by rw [e4]; rfl
    have hk4 : ∀ i, i < 54 → M4.1 62 i = F i := fun i hi => by rw [g1 62 (by decide) (by decide), f1 62 (by decide), c62 i hi]
    have hk2 : KV (M4.1 62) k := ⟨fun i hi h1 => by rw [hk4 i hi]; exact hF.1 i hi h1, by rw [hk4 1 (by decide)]; exact hF.2.1, hF.2.2⟩
    have hn2 : BN M4 k := fun c hc => by rw [e4, wi_ne (by decide), sI_at hc]
    have hI2 : ∀ q, q < 27 → BI M4 k q := fun q hq => Or.inl (by rw [e4, wi_ns (by decide), sI_ne (by decide), e3, wi_at]; exact iv_0)
    have h8 : M4.1 61 8 = -(nI 1) := by rw [e4]; exact wi_at
    obtain ⟨N, i, N3, l1, l2, l3, l4⟩ := c_rest (b := b) (w := nI 1) hk2 hg hn2 hI2 h8
    have sf4 : SF M M4 := sf3.trans (fun a ha => ⟨g1 a (by omega) (by omega), by rw [g2]⟩)
    refine ⟨N3, ?_, l3, sf4.trans l4⟩
    rcases l2 with ⟨q1, q2⟩ | ⟨m, q0, q1, q2⟩
    · have q3 : cne (-(nI 1)) (-(nI 1)) = false := by decide
      simp -implicitDefEqProofs (disch := omega) [DX0_solve, EX0_solve, kp_, bsome, bnone, gi_s, gj_s, gr_s, gv_s, ik_, jk_, il_, jl_, rl_, i2_, i2_a, i2_b, j2_, j2_a, j2_b, i2d_, i2d_a, i2d_b, j2d_, j2d_a, j2d_b, i1_, i1_a, j1_, j1_a, i2l_, i2l_a, l2i_, l2i_a, fgi_, fgi_a, fgj_, fgj_a, fgr_, fgr_a, iald_, iald_a, iald_b, zald_, zald_a, zald_b, jald_, jald_a, jald_b, rald_, rald_a, rald_b, alen_, alen_a, sald_, sald_a, ic_, ic_a, jc_, jc_a, bc_, bc_a, bc_b, bj_, bj_a, bj_b, bz_, bz_a, band_, band_a, bor_, bor_a, bnot_, bnot_a, anil_, ai_, ai_a, ai_b, aj_, aj_a, aj_b, ar_, ar_a, ar_b, kb2i_, cvi_, cvi_a, cvi_b, cvj_, cvj_a, cvj_b, cvz_, cvz_a, cvz_b, csi_, csi_a, csj_, csj_a, csz_, csz_a, snop_, sseq_, sseq_n, sseq_s, sif_, sif_a, scut_, scut_a, ssi_, ssi_a, ssj_, ssj_a, ssr_, ssr_a, sinc_, sinc_a, sret_, sret_a, sretj_, sretj_a, sretv_, spop_, spop_a, kc_scv_, scv_, scv_a, scv_b, scs_, scs_a, fpi_, fpi_a, fpi_b, fpj_, fpj_a, fpj_b, foi_, foi_a, foi_b, foj_, foj_a, foj_b, aii_, aii_a, aii_b, aii_c, aiz_, aiz_a, aiz_b, aiz_c, aij_, aij_a, aij_b, aij_c, aoi_, aoi_a, aoi_b, aoi_c, aoj_, aoj_a, aoj_b, aoj_c, scopy_, scopy_a, scopy_b, scopy_c, scopy_d, scopy_e, ssw_, ssw_a, sel_n, sel_c, mfi_, mfi_a, mfj_, mfj_a, mfz_, mfz_a, kb_mfv_, mfv_, mfv_a, cut, lset, lset2, isL, Value.category, ent, entn, if_some, if_pair, if_cons, if_int, if_long, if_ref, ite_self, gz_b, ↓icb, ↓icb2, b2i_ne, ge0, ge1, ge2, ge3, ge4, ge5, ge6, ge7, ge8, ge9, ge10, ge11, ge12, ge13, ge14, lit32, nI_add, pk_mul, clt_nI, cle_nI, cgt_nI, cge_nI, ceq_nI, cne_nI, inr_nI, nI_clamp, nI_eq, nI_leI, nI_ltI, k61, f61_0, f61_1, f61_2, f61_3, f61_5, f61_6, f61_7, f61_10, k62, k63, k64, k92, k93, k94, k95, k96, l62, l63, l64, l92, l93, l94, l95, l96, f64_, k65_, l65_, hw, s1, b2i_t, ← e2, ← e3, ln', ← e4, l1, q1, q2, q3]
    · have q3 : cne (nI m) (-(nI 1)) = true := by unfold cne; exact decide_eq_true (nI_nm1 (by omega))
      simp -implicitDefEqProofs (disch := omega) [DX0_solve, EX0_solve, kp_, bsome, bnone, gi_s, gj_s, gr_s, gv_s, ik_, jk_, il_, jl_, rl_, i2_, i2_a, i2_b, j2_, j2_a, j2_b, i2d_, i2d_a, i2d_b, j2d_, j2d_a, j2d_b, i1_, i1_a, j1_, j1_a, i2l_, i2l_a, l2i_, l2i_a, fgi_, fgi_a, fgj_, fgj_a, fgr_, fgr_a, iald_, iald_a, iald_b, zald_, zald_a, zald_b, jald_, jald_a, jald_b, rald_, rald_a, rald_b, alen_, alen_a, sald_, sald_a, ic_, ic_a, jc_, jc_a, bc_, bc_a, bc_b, bj_, bj_a, bj_b, bz_, bz_a, band_, band_a, bor_, bor_a, bnot_, bnot_a, anil_, ai_, ai_a, ai_b, aj_, aj_a, aj_b, ar_, ar_a, ar_b, kb2i_, cvi_, cvi_a, cvi_b, cvj_, cvj_a, cvj_b, cvz_, cvz_a, cvz_b, csi_, csi_a, csj_, csj_a, csz_, csz_a, snop_, sseq_, sseq_n, sseq_s, sif_, sif_a, scut_, scut_a, ssi_, ssi_a, ssj_, ssj_a, ssr_, ssr_a, sinc_, sinc_a, sret_, sret_a, sretj_, sretj_a, sretv_, spop_, spop_a, kc_scv_, scv_, scv_a, scv_b, scs_, scs_a, fpi_, fpi_a, fpi_b, fpj_, fpj_a, fpj_b, foi_, foi_a, foi_b, foj_, foj_a, foj_b, aii_, aii_a, aii_b, aii_c, aiz_, aiz_a, aiz_b, aiz_c, aij_, aij_a, aij_b, aij_c, aoi_, aoi_a, aoi_b, aoi_c, aoj_, aoj_a, aoj_b, aoj_c, scopy_, scopy_a, scopy_b, scopy_c, scopy_d, scopy_e, ssw_, ssw_a, sel_n, sel_c, mfi_, mfi_a, mfj_, mfj_a, mfz_, mfz_a, kb_mfv_, mfv_, mfv_a, cut, lset, lset2, isL, Value.category, ent, entn, if_some, if_pair, if_cons, if_int, if_long, if_ref, ite_self, gz_b, ↓icb, ↓icb2, b2i_ne, ge0, ge1, ge2, ge3, ge4, ge5, ge6, ge7, ge8, ge9, ge10, ge11, ge12, ge13, ge14, lit32, nI_add, pk_mul, clt_nI, cle_nI, cgt_nI, cge_nI, ceq_nI, cne_nI, inr_nI, nI_clamp, nI_eq, nI_leI, nI_ltI, k61, f61_0, f61_1, f61_2, f61_3, f61_5, f61_6, f61_7, f61_10, k62, k63, k64, k92, k93, k94, k95, k96, l62, l63, l64, l92, l93, l94, l95, l96, f64_, k65_, l65_, hw, s1, b2i_t, ← e2, ← e3, ln', ← e4, l1, q1, q2, q3]
end
