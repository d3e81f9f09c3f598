/-! ===== the leak sought: the class, all joints ===== -/
section
variable {M P Q N : Me} {X Y : Nat → Int32} {k : Nat → Nat} {L : List (Nat × Nat)} {st : List (Nat × Nat) × Nat} {nc nt np nw tm o u j s r q m nd n bf : Nat}
set_option maxRecDepth 20000 in
theorem SkC.fr (h : SkC P L q m) (h1 : ∀ a, a = 98 ∨ a = 99 ∨ a = 100 → Q.1 a = P.1 a) : SkC Q L q m := by
  unfold SkC
  rw [h1 98 (by omega), h1 99 (by omega), h1 100 (by omega)]
  exact h
def SkP (X : Nat → Int32) (nc nt np nw tm : Nat) (P : Me) : Prop := (∃ Y, Sm X Y ∧ Lr P 31 Y nc nt np nw tm ∧ Vx Y nc nt np nw tm) ∧ Nh P 31 ∧ BInv P
set_option maxRecDepth 20000 in
theorem SkP.fr (h : SkP X nc nt np nw tm P) (hv : Vx X nc nt np nw tm) (h1 : ∀ a, 31 ≤ a → a ≤ 96 → Q.1 a = P.1 a) (h2 : ∀ a, 61 ≤ a → a ≤ 96 → Q.2 a = P.2 a) : SkP X nc nt np nw tm Q := by
  have hb := hv.2.1
  obtain ⟨⟨Y, sY, lY, vY⟩, nY, iY⟩ := h
  exact ⟨⟨Y, sY, lY.frame hb.1 hb.2.1 hb.2.2.1 hb.2.2.2.1 (fun a z1 z2 => h1 a (by omega) (by omega)), vY⟩, by unfold Nh; rw [h1 31 (by omega) (by omega)]; exact nY, iY.frame (fun a _ z1 z2 => h1 a (by omega) z2) h2⟩
set_option maxRecDepth 20000 in
theorem c_seek1 (hv : Vx X nc nt np nw tm) (hj : j < nc ∨ (10 ≤ j ∧ j < 10 + nt)) (hs : s < 60) (hP : SkP X nc nt np nw tm P) (hk : SkC P st.1 q st.2) (hl : st.1.length ≤ 2000) (hm : st.2 ≤ 5) (hnd : nd ≤ 5) : ∃ Q, wX5_seekAt_1 [.ref 98, .ref 31, .int (nI j), .int (nI nd), .int (nI bf), .int (nI (s + 1)), .null] P = some (none, [.ref 98, .ref 31, .int (nI j), .int (nI nd), .int (nI bf), .int (nI (s + 1 + 1)), .null], Q) ∧ SkP X nc nt np nw tm Q ∧ SkC Q (skA nd j (s + 1) st (alk X nc nt np j (s + 1))).1 q (skA nd j (s + 1) st (alk X nc nt np j (s + 1))).2 ∧ PS P Q := by
  have hb := hv.2.1
  obtain ⟨⟨Y, sY, lY, vY⟩, nY, iY⟩ := hP
  obtain ⟨A, q0, q1, q2, q3, q4⟩ := c_wleak (s := s + 1) lY sY hv nY iY hj (by omega)
  obtain ⟨R, s1, s2, s3⟩ := c_pbal q1 (lkR_vx hv hj (by omega)) q2 q3
  have po : PO P R := q4.trans s3.po
  have lR : Lr R 31 (lkR X j (s + 1)) nc nt np nw tm := q1.frame hb.1 hb.2.1 hb.2.2.1 hb.2.2.2.1 (fun a z1 z2 => (s3 a (by omega)).1)
  have nR : Nh R 31 := by unfold Nh; rw [(s3 31 (by omega)).1]; exact q2
  have pR : SkP X nc nt np nw tm R := ⟨⟨_, lkR_sm, lR, lkR_vx hv hj (by omega)⟩, nR, Or.inr ⟨_, s2⟩⟩
  have kR : SkC R st.1 q st.2 := hk.fr (fun a ha => (po a (by omega)).1)
  unfold alk
  obtain ⟨k, ek⟩ : ∃ k, k = kyN (lkR X j (s + 1)) nc nt np 9 0 := ⟨_, rfl⟩
  have k0' : k 0 = nc := by rw [ek]; exact ky_0
  rw [← ek] at s2 ⊢
  cases ef : fR (kok k) 27 with
  | none =>
    have g := c_hunts1 s2 ef
    refine ⟨R, ?_, pR, kR, po.ps⟩
    simp -implicitDefEqProofs (disch := omega) [wX5_seekAt_1, kp_, bsome, bnone, gi_s, gj_s, gr_s, gv_s, ik_, jk_, il_, jl_, rl_, i2_, i2_a, i2_b, j2_, j2_a, j2_b, i2d_, i2d_a, i2d_b, j2d_, j2d_a, j2d_b, i1_, i1_a, j1_, j1_a, i2l_, i2l_a, l2i_, l2i_a, fgi_, fgi_a, fgj_, fgj_a, fgr_, fgr_a, iald_, iald_a, iald_b, zald_, zald_a, zald_b, jald_, jald_a, jald_b, rald_, rald_a, rald_b, alen_, alen_a, sald_, sald_a, ic_, ic_a, jc_, jc_a, bc_, bc_a, bc_b, bj_, bj_a, bj_b, bz_, bz_a, band_, band_a, bor_, bor_a, bnot_, bnot_a, anil_, ai_, ai_a, ai_b, aj_, aj_a, aj_b, ar_, ar_a, ar_b, kb2i_, cvi_, cvi_a, cvi_b, cvj_, cvj_a, cvj_b, cvz_, cvz_a, cvz_b, csi_, csi_a, csj_, csj_a, csz_, csz_a, snop_, sseq_, sseq_n, sseq_s, sif_, sif_a, scut_, scut_a, ssi_, ssi_a, ssj_, ssj_a, ssr_, ssr_a, sinc_, sinc_a, sret_, sret_a, sretj_, sretj_a, sretv_, spop_, spop_a, kc_scv_, scv_, scv_a, scv_b, scs_, scs_a, fpi_, fpi_a, fpi_b, fpj_, fpj_a, fpj_b, foi_, foi_a, foi_b, foj_, foj_a, foj_b, aii_, aii_a, aii_b, aii_c, aiz_, aiz_a, aiz_b, aiz_c, aij_, aij_a, aij_b, aij_c, aoi_, aoi_a, aoi_b, aoi_c, aoj_, aoj_a, aoj_b, aoj_c, scopy_, scopy_a, scopy_b, scopy_c, scopy_d, scopy_e, ssw_, ssw_a, sel_n, sel_c, mfi_, mfi_a, mfj_, mfj_a, mfz_, mfz_a, kb_mfv_, mfv_, mfv_a, cut, lset, lset2, isL, Value.category, ent, entn, if_some, if_pair, if_cons, if_int, if_long, if_ref, ite_self, gz_b, ↓icb, ↓icb2, b2i_ne, ge0, ge1, ge2, ge3, ge4, ge5, ge6, ge7, ge8, ge9, ge10, ge11, ge12, ge13, ge14, lit32, nI_add, pk_mul, clt_nI, cle_nI, cgt_nI, cge_nI, ceq_nI, cne_nI, inr_nI, nI_clamp, nI_eq, nI_leI, nI_ltI, k98, f98_0, k31_, k61, q0, s1, g]
  | some r =>
    have g := c_hunts0 s2 ef
    have al := c_alike lR hb.1 s2 ef k0'
    rw [mtN_cg (X := X) (fun c hc => (lkR_sm (X := X) (j := j) (s := s + 1) (8 + 4 * c + 3) (by omega) (by omega)).symm)] at al
    obtain ⟨a, ea⟩ : ∃ a, a = mtN X (fun c => rdN k r c) nc := ⟨_, rfl⟩
    have a5 : a ≤ 5 := by
      have := mtN_le (X := X) (V := fun c => rdN k r c) nc
      omega
    rw [← ea] at al
    simp only
    rw [← ea]
    have m8 := kR.2.2.2.2.1
    have mx : mxi (nI st.2) (nI a) = nI (max st.2 a) := mxi_n (by omega) (by omega)
    obtain ⟨B, eB⟩ : ∃ B : Me, B = wi R 98 8 (nI (max st.2 a)) := ⟨_, rfl⟩
    have kB : SkC B st.1 q (max st.2 a) := by
      obtain ⟨c1, c2, c3, c4, c5, c6⟩ := kR
      refine ⟨?_, ?_, ?_, ?_, ?_, fun i p hi hp => ?_⟩
      · rw [eB, wi_ns (by decide)]; exact c1
      · rw [eB, wi_ns (by decide)]; exact c2
      · rw [eB, wi_ns (by decide)]; exact c3
      · rw [eB, wi_ns (by decide)]; exact c4
      · rw [eB, wi_at]
      · rw [eB, wi_ne (by decide), wi_ne (by decide)]; exact c6 i p hi hp
    have pB : SkP X nc nt np nw tm B := pR.fr hv (fun a z1 z2 => by rw [eB, wi_ne (by omega)]) (fun _ _ _ => by rw [eB]; rfl)
    have psB : PS P B := po.ps.trans (fun a ha => ⟨by rw [eB, wi_ne (by omega)], by rw [eB]; rfl⟩)
    by_cases e : a = nd
    · obtain ⟨C, ad, kC, f1, f2⟩ := c_add (j := j) (s := s + 1) kB hl
      refine ⟨C, ?_, pB.fr hv (fun a z1 z2 => f1 a (by omega) (by omega) (by omega)) (fun _ _ _ => by rw [f2]), ?_, psB.trans (fun a ha => ⟨f1 a (by omega) (by omega) (by omega), by rw [f2]⟩)⟩
      · rw [eB] at ad
        rw [← e]
        simp -implicitDefEqProofs (disch := omega) [wX5_seekAt_1, kp_, bsome, bnone, gi_s, gj_s, gr_s, gv_s, ik_, jk_, il_, jl_, rl_, i2_, i2_a, i2_b, j2_, j2_a, j2_b, i2d_, i2d_a, i2d_b, j2d_, j2d_a, j2d_b, i1_, i1_a, j1_, j1_a, i2l_, i2l_a, l2i_, l2i_a, fgi_, fgi_a, fgj_, fgj_a, fgr_, fgr_a, iald_, iald_a, iald_b, zald_, zald_a, zald_b, jald_, jald_a, jald_b, rald_, rald_a, rald_b, alen_, alen_a, sald_, sald_a, ic_, ic_a, jc_, jc_a, bc_, bc_a, bc_b, bj_, bj_a, bj_b, bz_, bz_a, band_, band_a, bor_, bor_a, bnot_, bnot_a, anil_, ai_, ai_a, ai_b, aj_, aj_a, aj_b, ar_, ar_a, ar_b, kb2i_, cvi_, cvi_a, cvi_b, cvj_, cvj_a, cvj_b, cvz_, cvz_a, cvz_b, csi_, csi_a, csj_, csj_a, csz_, csz_a, snop_, sseq_, sseq_n, sseq_s, sif_, sif_a, scut_, scut_a, ssi_, ssi_a, ssj_, ssj_a, ssr_, ssr_a, sinc_, sinc_a, sret_, sret_a, sretj_, sretj_a, sretv_, spop_, spop_a, kc_scv_, scv_, scv_a, scv_b, scs_, scs_a, fpi_, fpi_a, fpi_b, fpj_, fpj_a, fpj_b, foi_, foi_a, foi_b, foj_, foj_a, foj_b, aii_, aii_a, aii_b, aii_c, aiz_, aiz_a, aiz_b, aiz_c, aij_, aij_a, aij_b, aij_c, aoi_, aoi_a, aoi_b, aoi_c, aoj_, aoj_a, aoj_b, aoj_c, scopy_, scopy_a, scopy_b, scopy_c, scopy_d, scopy_e, ssw_, ssw_a, sel_n, sel_c, mfi_, mfi_a, mfj_, mfj_a, mfz_, mfz_a, kb_mfv_, mfv_, mfv_a, cut, lset, lset2, isL, Value.category, ent, entn, if_some, if_pair, if_cons, if_int, if_long, if_ref, ite_self, gz_b, ↓icb, ↓icb2, b2i_ne, ge0, ge1, ge2, ge3, ge4, ge5, ge6, ge7, ge8, ge9, ge10, ge11, ge12, ge13, ge14, lit32, nI_add, pk_mul, clt_nI, cle_nI, cgt_nI, cge_nI, ceq_nI, cne_nI, inr_nI, nI_clamp, nI_eq, nI_leI, nI_ltI, k98, f98_0, k31_, k61, q0, s1, g, al, m8, mx, ad]
      · simp only [skA, if_pos e]
        exact kC
    · refine ⟨B, ?_, pB, ?_, psB⟩
      · simp -implicitDefEqProofs (disch := omega) [wX5_seekAt_1, kp_, bsome, bnone, gi_s, gj_s, gr_s, gv_s, ik_, jk_, il_, jl_, rl_, i2_, i2_a, i2_b, j2_, j2_a, j2_b, i2d_, i2d_a, i2d_b, j2d_, j2d_a, j2d_b, i1_, i1_a, j1_, j1_a, i2l_, i2l_a, l2i_, l2i_a, fgi_, fgi_a, fgj_, fgj_a, fgr_, fgr_a, iald_, iald_a, iald_b, zald_, zald_a, zald_b, jald_, jald_a, jald_b, rald_, rald_a, rald_b, alen_, alen_a, sald_, sald_a, ic_, ic_a, jc_, jc_a, bc_, bc_a, bc_b, bj_, bj_a, bj_b, bz_, bz_a, band_, band_a, bor_, bor_a, bnot_, bnot_a, anil_, ai_, ai_a, ai_b, aj_, aj_a, aj_b, ar_, ar_a, ar_b, kb2i_, cvi_, cvi_a, cvi_b, cvj_, cvj_a, cvj_b, cvz_, cvz_a, cvz_b, csi_, csi_a, csj_, csj_a, csz_, csz_a, snop_, sseq_, sseq_n, sseq_s, sif_, sif_a, scut_, scut_a, ssi_, ssi_a, ssj_, ssj_a, ssr_, ssr_a, sinc_, sinc_a, sret_, sret_a, sretj_, sretj_a, sretv_, spop_, spop_a, kc_scv_, scv_, scv_a, scv_b, scs_, scs_a, fpi_, fpi_a, fpi_b, fpj_, fpj_a, fpj_b, foi_, foi_a, foi_b, foj_, foj_a, foj_b, aii_, aii_a, aii_b, aii_c, aiz_, aiz_a, aiz_b, aiz_c, aij_, aij_a, aij_b, aij_c, aoi_, aoi_a, aoi_b, aoi_c, aoj_, aoj_a, aoj_b, aoj_c, scopy_, scopy_a, scopy_b, scopy_c, scopy_d, scopy_e, ssw_, ssw_a, sel_n, sel_c, mfi_, mfi_a, mfj_, mfj_a, mfz_, mfz_a, kb_mfv_, mfv_, mfv_a, cut, lset, lset2, isL, Value.category, ent, entn, if_some, if_pair, if_cons, if_int, if_long, if_ref, ite_self, gz_b, ↓icb, ↓icb2, b2i_ne, ge0, ge1, ge2, ge3, ge4, ge5, ge6, ge7, ge8, ge9, ge10, ge11, ge12, ge13, ge14, lit32, nI_add, pk_mul, clt_nI, cle_nI, cgt_nI, cge_nI, ceq_nI, cne_nI, inr_nI, nI_clamp, nI_eq, nI_leI, nI_ltI, k98, f98_0, k31_, k61, q0, s1, g, al, m8, mx, e, eB]
      · simp only [skA, if_neg e]
        exact kB
set_option maxRecDepth 20000 in
theorem c_seekAt (hv : Vx X nc nt np nw tm) (hj : j < nc ∨ (10 ≤ j ∧ j < 10 + nt)) (hP : SkP X nc nt np nw tm P) (hk : SkC P st.1 q st.2) (hl : st.1.length ≤ 1900) (hm : st.2 ≤ 5) (hnd : nd ≤ 5) (hq : q ≤ 100) : ∃ Q, DX5_seekAt [.ref 98, .ref 31, .int (nI j), .int (nI nd)] P = some Q ∧ SkP X nc nt np nw tm Q ∧ SkC Q (sk1 X nc nt np nd j 60 st).1 (q + (if st.1.length < (sk1 X nc nt np nd j 60 st).1.length then 1 else 0)) (sk1 X nc nt np nd j 60 st).2 ∧ PS P Q := by
  have hb := hv.2.1
  have h4 := hk.1
  obtain ⟨A, l1, y1, y2, y3⟩ := swh_inv (c := qX5_seekAt_1) (b := wX5_seekAt_1) (fun s => [.ref 98, .ref 31, .int (nI j), .int (nI nd), .int (nI st.1.length), .int (nI (s + 1)), .null]) (fun s A => SkP X nc nt np nw tm A ∧ SkC A (sk1 X nc nt np nd j s st).1 q (sk1 X nc nt np nd j s st).2 ∧ PS P A) 60
    (fun s hs A hA => by
      have z : s + 1 ≤ 60 := by omega
      simp -implicitDefEqProofs (disch := omega) [qX5_seekAt_1, kp_, bsome, bnone, gi_s, gj_s, gr_s, gv_s, ik_, jk_, il_, jl_, rl_, i2_, i2_a, i2_b, j2_, j2_a, j2_b, i2d_, i2d_a, i2d_b, j2d_, j2d_a, j2d_b, i1_, i1_a, j1_, j1_a, i2l_, i2l_a, l2i_, l2i_a, fgi_, fgi_a, fgj_, fgj_a, fgr_, fgr_a, iald_, iald_a, iald_b, zald_, zald_a, zald_b, jald_, jald_a, jald_b, rald_, rald_a, rald_b, alen_, alen_a, sald_, sald_a, ic_, ic_a, jc_, jc_a, bc_, bc_a, bc_b, bj_, bj_a, bj_b, bz_, bz_a, band_, band_a, bor_, bor_a, bnot_, bnot_a, anil_, ai_, ai_a, ai_b, aj_, aj_a, aj_b, ar_, ar_a, ar_b, kb2i_, cvi_, cvi_a, cvi_b, cvj_, cvj_a, cvj_b, cvz_, cvz_a, cvz_b, csi_, csi_a, csj_, csj_a, csz_, csz_a, snop_, sseq_, sseq_n, sseq_s, sif_, sif_a, scut_, scut_a, ssi_, ssi_a, ssj_, ssj_a, ssr_, ssr_a, sinc_, sinc_a, sret_, sret_a, sretj_, sretj_a, sretv_, spop_, spop_a, kc_scv_, scv_, scv_a, scv_b, scs_, scs_a, fpi_, fpi_a, fpi_b, fpj_, fpj_a, fpj_b, foi_, foi_a, foi_b, foj_, foj_a, foj_b, aii_, aii_a, aii_b, aii_c, aiz_, aiz_a, aiz_b, aiz_c, aij_, aij_a, aij_b, aij_c, aoi_, aoi_a, aoi_b, aoi_c, aoj_, aoj_a, aoj_b, aoj_c, scopy_, scopy_a, scopy_b, scopy_c, scopy_d, scopy_e, ssw_, ssw_a, sel_n, sel_c, mfi_, mfi_a, mfj_, mfj_a, mfz_, mfz_a, kb_mfv_, mfv_, mfv_a, cut, lset, lset2, isL, Value.category, ent, entn, if_some, if_pair, if_cons, if_int, if_long, if_ref, ite_self, gz_b, ↓icb, ↓icb2, b2i_ne, ge0, ge1, ge2, ge3, ge4, ge5, ge6, ge7, ge8, ge9, ge10, ge11, ge12, ge13, ge14, lit32, nI_add, pk_mul, clt_nI, cle_nI, cgt_nI, cge_nI, ceq_nI, cne_nI, inr_nI, nI_clamp, nI_eq, nI_leI, nI_ltI, z])
    (fun s hs A hA => by
      obtain ⟨y1, y2, y3⟩ := hA
      have le := sk1_le (X := X) (nt := nt) (np := np) (nd := nd) (j := j) (st := st) hb.1 hm s
      obtain ⟨B, e, z1, z2, z3⟩ := c_seek1 (bf := st.1.length) hv hj hs y1 y2 (by omega) le.2.2 hnd
      exact ⟨B, e, z1, z2, y3.trans z3⟩)
    (fun A hA => by simp -implicitDefEqProofs (disch := omega) [qX5_seekAt_1, kp_, bsome, bnone, gi_s, gj_s, gr_s, gv_s, ik_, jk_, il_, jl_, rl_, i2_, i2_a, i2_b, j2_, j2_a, j2_b, i2d_, i2d_a, i2d_b, j2d_, j2d_a, j2d_b, i1_, i1_a, j1_, j1_a, i2l_, i2l_a, l2i_, l2i_a, fgi_, fgi_a, fgj_, fgj_a, fgr_, fgr_a, iald_, iald_a, iald_b, zald_, zald_a, zald_b, jald_, jald_a, jald_b, rald_, rald_a, rald_b, alen_, alen_a, sald_, sald_a, ic_, ic_a, jc_, jc_a, bc_, bc_a, bc_b, bj_, bj_a, bj_b, bz_, bz_a, band_, band_a, bor_, bor_a, bnot_, bnot_a, anil_, ai_, ai_a, ai_b, aj_, aj_a, aj_b, ar_, ar_a, ar_b, kb2i_, cvi_, cvi_a, cvi_b, cvj_, cvj_a, cvj_b, cvz_, cvz_a, cvz_b, csi_, csi_a, csj_, csj_a, csz_, csz_a, snop_, sseq_, sseq_n, sseq_s, sif_, sif_a, scut_, scut_a, ssi_, ssi_a, ssj_, ssj_a, ssr_, ssr_a, sinc_, sinc_a, sret_, sret_a, sretj_, sretj_a, sretv_, spop_, spop_a, kc_scv_, scv_, scv_a, scv_b, scs_, scs_a, fpi_, fpi_a, fpi_b, fpj_, fpj_a, fpj_b, foi_, foi_a, foi_b, foj_, foj_a, foj_b, aii_, aii_a, aii_b, aii_c, aiz_, aiz_a, aiz_b, aiz_c, aij_, aij_a, aij_b, aij_c, aoi_, aoi_a, aoi_b, aoi_c, aoj_, aoj_a, aoj_b, aoj_c, scopy_, scopy_a, scopy_b, scopy_c, scopy_d, scopy_e, ssw_, ssw_a, sel_n, sel_c, mfi_, mfi_a, mfj_, mfj_a, mfz_, mfz_a, kb_mfv_, mfv_, mfv_a, cut, lset, lset2, isL, Value.category, ent, entn, if_some, if_pair, if_cons, if_int, if_long, if_ref, ite_self, gz_b, ↓icb, ↓icb2, b2i_ne, ge0, ge1, ge2, ge3, ge4, ge5, ge6, ge7, ge8, ge9, ge10, ge11, ge12, ge13, ge14, lit32, nI_add, pk_mul, clt_nI, cle_nI, cgt_nI, cge_nI, ceq_nI, cne_nI, inr_nI, nI_clamp, nI_eq, nI_leI, nI_ltI])
    P ⟨hP, hk, PS.refl⟩
  have le := sk1_le (X := X) (nt := nt) (np := np) (nd := nd) (j := j) (st := st) hb.1 hm 60
  generalize sk1 X nc nt np nd j 60 st = z at y2 le ⊢
  obtain ⟨c1, c2, c3, c4, c5, c6⟩ := y2
  by_cases e : st.1.length < z.1.length
  · rw [if_pos e]
    refine ⟨wi A 98 7 (nI (q + 1)), ?_, y1.fr hv (fun a z1 z2 => wi_ne (by omega)) (fun _ _ _ => rfl), ⟨?_, ?_, ?_, wi_at, ?_, fun i p hi hp => ?_⟩, y3.trans (fun a ha => ⟨wi_ne (by omega), rfl⟩)⟩
    · simp -implicitDefEqProofs (disch := omega) [DX5_seekAt, EX5_seekAt, kp_, bsome, bnone, gi_s, gj_s, gr_s, gv_s, ik_, jk_, il_, jl_, rl_, i2_, i2_a, i2_b, j2_, j2_a, j2_b, i2d_, i2d_a, i2d_b, j2d_, j2d_a, j2d_b, i1_, i1_a, j1_, j1_a, i2l_, i2l_a, l2i_, l2i_a, fgi_, fgi_a, fgj_, fgj_a, fgr_, fgr_a, iald_, iald_a, iald_b, zald_, zald_a, zald_b, jald_, jald_a, jald_b, rald_, rald_a, rald_b, alen_, alen_a, sald_, sald_a, ic_, ic_a, jc_, jc_a, bc_, bc_a, bc_b, bj_, bj_a, bj_b, bz_, bz_a, band_, band_a, bor_, bor_a, bnot_, bnot_a, anil_, ai_, ai_a, ai_b, aj_, aj_a, aj_b, ar_, ar_a, ar_b, kb2i_, cvi_, cvi_a, cvi_b, cvj_, cvj_a, cvj_b, cvz_, cvz_a, cvz_b, csi_, csi_a, csj_, csj_a, csz_, csz_a, snop_, sseq_, sseq_n, sseq_s, sif_, sif_a, scut_, scut_a, ssi_, ssi_a, ssj_, ssj_a, ssr_, ssr_a, sinc_, sinc_a, sret_, sret_a, sretj_, sretj_a, sretv_, spop_, spop_a, kc_scv_, scv_, scv_a, scv_b, scs_, scs_a, fpi_, fpi_a, fpi_b, fpj_, fpj_a, fpj_b, foi_, foi_a, foi_b, foj_, foj_a, foj_b, aii_, aii_a, aii_b, aii_c, aiz_, aiz_a, aiz_b, aiz_c, aij_, aij_a, aij_b, aij_c, aoi_, aoi_a, aoi_b, aoi_c, aoj_, aoj_a, aoj_b, aoj_c, scopy_, scopy_a, scopy_b, scopy_c, scopy_d, scopy_e, ssw_, ssw_a, sel_n, sel_c, mfi_, mfi_a, mfj_, mfj_a, mfz_, mfz_a, kb_mfv_, mfv_, mfv_a, cut, lset, lset2, isL, Value.category, ent, entn, if_some, if_pair, if_cons, if_int, if_long, if_ref, ite_self, gz_b, ↓icb, ↓icb2, b2i_ne, ge0, ge1, ge2, ge3, ge4, ge5, ge6, ge7, ge8, ge9, ge10, ge11, ge12, ge13, ge14, lit32, nI_add, pk_mul, clt_nI, cle_nI, cgt_nI, cge_nI, ceq_nI, cne_nI, inr_nI, nI_clamp, nI_eq, nI_leI, nI_ltI, k98, h4, l1, c1, e, c4]
    · rw [wi_ns (by decide)]; exact c1
    · rw [wi_ns (by decide)]; exact c2
    · rw [wi_ns (by decide)]; exact c3
    · rw [wi_ns (by decide)]; exact c5
    · rw [wi_ne (by decide), wi_ne (by decide)]; exact c6 i p hi hp
  · rw [if_neg e]
    refine ⟨A, ?_, y1, ⟨c1, c2, c3, c4, c5, c6⟩, y3⟩
    simp -implicitDefEqProofs (disch := omega) [DX5_seekAt, EX5_seekAt, kp_, bsome, bnone, gi_s, gj_s, gr_s, gv_s, ik_, jk_, il_, jl_, rl_, i2_, i2_a, i2_b, j2_, j2_a, j2_b, i2d_, i2d_a, i2d_b, j2d_, j2d_a, j2d_b, i1_, i1_a, j1_, j1_a, i2l_, i2l_a, l2i_, l2i_a, fgi_, fgi_a, fgj_, fgj_a, fgr_, fgr_a, iald_, iald_a, iald_b, zald_, zald_a, zald_b, jald_, jald_a, jald_b, rald_, rald_a, rald_b, alen_, alen_a, sald_, sald_a, ic_, ic_a, jc_, jc_a, bc_, bc_a, bc_b, bj_, bj_a, bj_b, bz_, bz_a, band_, band_a, bor_, bor_a, bnot_, bnot_a, anil_, ai_, ai_a, ai_b, aj_, aj_a, aj_b, ar_, ar_a, ar_b, kb2i_, cvi_, cvi_a, cvi_b, cvj_, cvj_a, cvj_b, cvz_, cvz_a, cvz_b, csi_, csi_a, csj_, csj_a, csz_, csz_a, snop_, sseq_, sseq_n, sseq_s, sif_, sif_a, scut_, scut_a, ssi_, ssi_a, ssj_, ssj_a, ssr_, ssr_a, sinc_, sinc_a, sret_, sret_a, sretj_, sretj_a, sretv_, spop_, spop_a, kc_scv_, scv_, scv_a, scv_b, scs_, scs_a, fpi_, fpi_a, fpi_b, fpj_, fpj_a, fpj_b, foi_, foi_a, foi_b, foj_, foj_a, foj_b, aii_, aii_a, aii_b, aii_c, aiz_, aiz_a, aiz_b, aiz_c, aij_, aij_a, aij_b, aij_c, aoi_, aoi_a, aoi_b, aoi_c, aoj_, aoj_a, aoj_b, aoj_c, scopy_, scopy_a, scopy_b, scopy_c, scopy_d, scopy_e, ssw_, ssw_a, sel_n, sel_c, mfi_, mfi_a, mfj_, mfj_a, mfz_, mfz_a, kb_mfv_, mfv_, mfv_a, cut, lset, lset2, isL, Value.category, ent, entn, if_some, if_pair, if_cons, if_int, if_long, if_ref, ite_self, gz_b, ↓icb, ↓icb2, b2i_ne, ge0, ge1, ge2, ge3, ge4, ge5, ge6, ge7, ge8, ge9, ge10, ge11, ge12, ge13, ge14, lit32, nI_add, pk_mul, clt_nI, cle_nI, cgt_nI, cge_nI, ceq_nI, cne_nI, inr_nI, nI_clamp, nI_eq, nI_leI, nI_ltI, k98, h4, l1, c1, e]
set_option maxRecDepth 20000 in
theorem c_seek (hv : Vx X nc nt np nw tm) (hP : SkP X nc nt np nw tm P) : ∃ Q, DX5_seek [.ref 98, .ref 31] P = some Q ∧ SkP X nc nt np nw tm Q ∧ SkC Q (sk2 X nc nt np (ntc X nc) (10 + nt)).1.1 (sk2 X nc nt np (ntc X nc) (10 + nt)).2 (sk2 X nc nt np (ntc X nc) (10 + nt)).1.2 ∧ PS P Q := by
  have hb := hv.2.1
  obtain ⟨A, eA⟩ : ∃ A : Me, A = wi (wi (wi (wi (wi P 98 4 (nI 0)) 98 5 (-(nI 1))) 98 6 (-(nI 1))) 98 7 (nI 0)) 98 8 (nI 0) := ⟨_, rfl⟩
  have a1 : ∀ a, a ≠ 98 → A.1 a = P.1 a := fun a ha => by rw [eA, wi_ne ha, wi_ne ha, wi_ne ha, wi_ne ha, wi_ne ha]
  have a2 : A.2 = P.2 := by rw [eA]; rfl
  have pA : SkP X nc nt np nw tm A := hP.fr hv (fun a z1 z2 => a1 a (by omega)) (fun _ _ _ => by rw [a2])
  have kA' : SkC A [] 0 0 := by
    refine ⟨?_, ?_, ?_, ?_, ?_, fun i p hi hp => by cases hp⟩
    · rw [eA]; simp [wi]
    · rw [eA]; simp [wi, hdJ]
    · rw [eA]; simp [wi, hdS]
    · rw [eA]; simp [wi]
    · rw [eA]; simp [wi]
  obtain ⟨nd, en⟩ : ∃ nd, nd = ntc X nc := ⟨_, rfl⟩
  have nd5 : nd ≤ 5 := by
    have := ntc_le (X := X) nc
    omega
  have nn : DX1_notes [.ref 31] A = some (nI nd, A) := by
    obtain ⟨⟨Y, sY, lY, vY⟩, -, -⟩ := pA
    have z := c_notes2 lY hb.1
    have cg : ∀ n, n ≤ 5 → ntc Y n = ntc X n := by
      intro n
      induction n with
      | zero => intro _; rfl
      | succ n ih => intro hn; simp only [ntc]; rw [ih (by omega), ← sY _ (by omega) (by omega)]
    rw [cg nc hb.1, ← en] at z
    exact z
  rw [← en]
  obtain ⟨B, l1, y1, y2, y3⟩ := swh_inv (c := qX5_seek_1) (b := wX5_seek_1) (fun j => [.ref 98, .ref 31, .int (nI nd), .int (nI j)]) (fun j B => SkP X nc nt np nw tm B ∧ SkC B (sk2 X nc nt np nd j).1.1 (sk2 X nc nt np nd j).2 (sk2 X nc nt np nd j).1.2 ∧ PS A B) (10 + nt)
    (fun j hj B hB => by
      obtain ⟨⟨⟨Y, sY, lY, vY⟩, -, -⟩, -, -⟩ := hB
      have n1 := lY.2.1.2.1
      simp -implicitDefEqProofs (disch := omega) [qX5_seek_1, kp_, bsome, bnone, gi_s, gj_s, gr_s, gv_s, ik_, jk_, il_, jl_, rl_, i2_, i2_a, i2_b, j2_, j2_a, j2_b, i2d_, i2d_a, i2d_b, j2d_, j2d_a, j2d_b, i1_, i1_a, j1_, j1_a, i2l_, i2l_a, l2i_, l2i_a, fgi_, fgi_a, fgj_, fgj_a, fgr_, fgr_a, iald_, iald_a, iald_b, zald_, zald_a, zald_b, jald_, jald_a, jald_b, rald_, rald_a, rald_b, alen_, alen_a, sald_, sald_a, ic_, ic_a, jc_, jc_a, bc_, bc_a, bc_b, bj_, bj_a, bj_b, bz_, bz_a, band_, band_a, bor_, bor_a, bnot_, bnot_a, anil_, ai_, ai_a, ai_b, aj_, aj_a, aj_b, ar_, ar_a, ar_b, kb2i_, cvi_, cvi_a, cvi_b, cvj_, cvj_a, cvj_b, cvz_, cvz_a, cvz_b, csi_, csi_a, csj_, csj_a, csz_, csz_a, snop_, sseq_, sseq_n, sseq_s, sif_, sif_a, scut_, scut_a, ssi_, ssi_a, ssj_, ssj_a, ssr_, ssr_a, sinc_, sinc_a, sret_, sret_a, sretj_, sretj_a, sretv_, spop_, spop_a, kc_scv_, scv_, scv_a, scv_b, scs_, scs_a, fpi_, fpi_a, fpi_b, fpj_, fpj_a, fpj_b, foi_, foi_a, foi_b, foj_, foj_a, foj_b, aii_, aii_a, aii_b, aii_c, aiz_, aiz_a, aiz_b, aiz_c, aij_, aij_a, aij_b, aij_c, aoi_, aoi_a, aoi_b, aoi_c, aoj_, aoj_a, aoj_b, aoj_c, scopy_, scopy_a, scopy_b, scopy_c, scopy_d, scopy_e, ssw_, ssw_a, sel_n, sel_c, mfi_, mfi_a, mfj_, mfj_a, mfz_, mfz_a, kb_mfv_, mfv_, mfv_a, cut, lset, lset2, isL, Value.category, ent, entn, if_some, if_pair, if_cons, if_int, if_long, if_ref, ite_self, gz_b, ↓icb, ↓icb2, b2i_ne, ge0, ge1, ge2, ge3, ge4, ge5, ge6, ge7, ge8, ge9, ge10, ge11, ge12, ge13, ge14, lit32, nI_add, pk_mul, clt_nI, cle_nI, cgt_nI, cge_nI, ceq_nI, cne_nI, inr_nI, nI_clamp, nI_eq, nI_leI, nI_ltI, k31_, n1, hj])
    (fun j hj B hB => by
      obtain ⟨y1, y2, y3⟩ := hB
      have le := sk2_le (X := X) (nt := nt) (np := np) (nd := nd) hb.1 j
      have ij : DX1_isJoint [.ref 31, .int (nI j)] B = some (jnb nc nt j, B) := by
        obtain ⟨⟨Y, sY, lY, vY⟩, -, -⟩ := y1
        have z := c_isJoint (x := nI j) lY vY
        rw [jnt_b (by omega) hb.1 hb.2.1] at z
        exact z
      cases e : jnb nc nt j with
      | true =>
        have hj2 := of_decide_eq_true e
        rw [e] at ij
        obtain ⟨C, d1, d2, d3, d4⟩ := c_seekAt (nd := nd) hv hj2 y1 y2 (by omega) le.2.1 nd5 (by omega)
        rw [sk2_t e]
        refine ⟨C, ?_, d2, d3, y3.trans d4⟩
        simp -implicitDefEqProofs (disch := omega) [wX5_seek_1, kp_, bsome, bnone, gi_s, gj_s, gr_s, gv_s, ik_, jk_, il_, jl_, rl_, i2_, i2_a, i2_b, j2_, j2_a, j2_b, i2d_, i2d_a, i2d_b, j2d_, j2d_a, j2d_b, i1_, i1_a, j1_, j1_a, i2l_, i2l_a, l2i_, l2i_a, fgi_, fgi_a, fgj_, fgj_a, fgr_, fgr_a, iald_, iald_a, iald_b, zald_, zald_a, zald_b, jald_, jald_a, jald_b, rald_, rald_a, rald_b, alen_, alen_a, sald_, sald_a, ic_, ic_a, jc_, jc_a, bc_, bc_a, bc_b, bj_, bj_a, bj_b, bz_, bz_a, band_, band_a, bor_, bor_a, bnot_, bnot_a, anil_, ai_, ai_a, ai_b, aj_, aj_a, aj_b, ar_, ar_a, ar_b, kb2i_, cvi_, cvi_a, cvi_b, cvj_, cvj_a, cvj_b, cvz_, cvz_a, cvz_b, csi_, csi_a, csj_, csj_a, csz_, csz_a, snop_, sseq_, sseq_n, sseq_s, sif_, sif_a, scut_, scut_a, ssi_, ssi_a, ssj_, ssj_a, ssr_, ssr_a, sinc_, sinc_a, sret_, sret_a, sretj_, sretj_a, sretv_, spop_, spop_a, kc_scv_, scv_, scv_a, scv_b, scs_, scs_a, fpi_, fpi_a, fpi_b, fpj_, fpj_a, fpj_b, foi_, foi_a, foi_b, foj_, foj_a, foj_b, aii_, aii_a, aii_b, aii_c, aiz_, aiz_a, aiz_b, aiz_c, aij_, aij_a, aij_b, aij_c, aoi_, aoi_a, aoi_b, aoi_c, aoj_, aoj_a, aoj_b, aoj_c, scopy_, scopy_a, scopy_b, scopy_c, scopy_d, scopy_e, ssw_, ssw_a, sel_n, sel_c, mfi_, mfi_a, mfj_, mfj_a, mfz_, mfz_a, kb_mfv_, mfv_, mfv_a, cut, lset, lset2, isL, Value.category, ent, entn, if_some, if_pair, if_cons, if_int, if_long, if_ref, ite_self, gz_b, ↓icb, ↓icb2, b2i_ne, ge0, ge1, ge2, ge3, ge4, ge5, ge6, ge7, ge8, ge9, ge10, ge11, ge12, ge13, ge14, lit32, nI_add, pk_mul, clt_nI, cle_nI, cgt_nI, cge_nI, ceq_nI, cne_nI, inr_nI, nI_clamp, nI_eq, nI_leI, nI_ltI, k98, k31_, ij, d1]
      | false =>
        rw [e] at ij
        rw [sk2_f e]
        refine ⟨B, ?_, y1, y2, y3⟩
        simp -implicitDefEqProofs (disch := omega) [wX5_seek_1, kp_, bsome, bnone, gi_s, gj_s, gr_s, gv_s, ik_, jk_, il_, jl_, rl_, i2_, i2_a, i2_b, j2_, j2_a, j2_b, i2d_, i2d_a, i2d_b, j2d_, j2d_a, j2d_b, i1_, i1_a, j1_, j1_a, i2l_, i2l_a, l2i_, l2i_a, fgi_, fgi_a, fgj_, fgj_a, fgr_, fgr_a, iald_, iald_a, iald_b, zald_, zald_a, zald_b, jald_, jald_a, jald_b, rald_, rald_a, rald_b, alen_, alen_a, sald_, sald_a, ic_, ic_a, jc_, jc_a, bc_, bc_a, bc_b, bj_, bj_a, bj_b, bz_, bz_a, band_, band_a, bor_, bor_a, bnot_, bnot_a, anil_, ai_, ai_a, ai_b, aj_, aj_a, aj_b, ar_, ar_a, ar_b, kb2i_, cvi_, cvi_a, cvi_b, cvj_, cvj_a, cvj_b, cvz_, cvz_a, cvz_b, csi_, csi_a, csj_, csj_a, csz_, csz_a, snop_, sseq_, sseq_n, sseq_s, sif_, sif_a, scut_, scut_a, ssi_, ssi_a, ssj_, ssj_a, ssr_, ssr_a, sinc_, sinc_a, sret_, sret_a, sretj_, sretj_a, sretv_, spop_, spop_a, kc_scv_, scv_, scv_a, scv_b, scs_, scs_a, fpi_, fpi_a, fpi_b, fpj_, fpj_a, fpj_b, foi_, foi_a, foi_b, foj_, foj_a, foj_b, aii_, aii_a, aii_b, aii_c, aiz_, aiz_a, aiz_b, aiz_c, aij_, aij_a, aij_b, aij_c, aoi_, aoi_a, aoi_b, aoi_c, aoj_, aoj_a, aoj_b, aoj_c, scopy_, scopy_a, scopy_b, scopy_c, scopy_d, scopy_e, ssw_, ssw_a, sel_n, sel_c, mfi_, mfi_a, mfj_, mfj_a, mfz_, mfz_a, kb_mfv_, mfv_, mfv_a, cut, lset, lset2, isL, Value.category, ent, entn, if_some, if_pair, if_cons, if_int, if_long, if_ref, ite_self, gz_b, ↓icb, ↓icb2, b2i_ne, ge0, ge1, ge2, ge3, ge4, ge5, ge6, ge7, ge8, ge9, ge10, ge11, ge12, ge13, ge14, lit32, nI_add, pk_mul, clt_nI, cle_nI, cgt_nI, cge_nI, ceq_nI, cne_nI, inr_nI, nI_clamp, nI_eq, nI_leI, nI_ltI, k98, k31_, ij])
    (fun B hB => by
      obtain ⟨⟨⟨Y, sY, lY, vY⟩, -, -⟩, -, -⟩ := hB
      have n1 := lY.2.1.2.1
      simp -implicitDefEqProofs (disch := omega) [qX5_seek_1, kp_, bsome, bnone, gi_s, gj_s, gr_s, gv_s, ik_, jk_, il_, jl_, rl_, i2_, i2_a, i2_b, j2_, j2_a, j2_b, i2d_, i2d_a, i2d_b, j2d_, j2d_a, j2d_b, i1_, i1_a, j1_, j1_a, i2l_, i2l_a, l2i_, l2i_a, fgi_, fgi_a, fgj_, fgj_a, fgr_, fgr_a, iald_, iald_a, iald_b, zald_, zald_a, zald_b, jald_, jald_a, jald_b, rald_, rald_a, rald_b, alen_, alen_a, sald_, sald_a, ic_, ic_a, jc_, jc_a, bc_, bc_a, bc_b, bj_, bj_a, bj_b, bz_, bz_a, band_, band_a, bor_, bor_a, bnot_, bnot_a, anil_, ai_, ai_a, ai_b, aj_, aj_a, aj_b, ar_, ar_a, ar_b, kb2i_, cvi_, cvi_a, cvi_b, cvj_, cvj_a, cvj_b, cvz_, cvz_a, cvz_b, csi_, csi_a, csj_, csj_a, csz_, csz_a, snop_, sseq_, sseq_n, sseq_s, sif_, sif_a, scut_, scut_a, ssi_, ssi_a, ssj_, ssj_a, ssr_, ssr_a, sinc_, sinc_a, sret_, sret_a, sretj_, sretj_a, sretv_, spop_, spop_a, kc_scv_, scv_, scv_a, scv_b, scs_, scs_a, fpi_, fpi_a, fpi_b, fpj_, fpj_a, fpj_b, foi_, foi_a, foi_b, foj_, foj_a, foj_b, aii_, aii_a, aii_b, aii_c, aiz_, aiz_a, aiz_b, aiz_c, aij_, aij_a, aij_b, aij_c, aoi_, aoi_a, aoi_b, aoi_c, aoj_, aoj_a, aoj_b, aoj_c, scopy_, scopy_a, scopy_b, scopy_c, scopy_d, scopy_e, ssw_, ssw_a, sel_n, sel_c, mfi_, mfi_a, mfj_, mfj_a, mfz_, mfz_a, kb_mfv_, mfv_, mfv_a, cut, lset, lset2, isL, Value.category, ent, entn, if_some, if_pair, if_cons, if_int, if_long, if_ref, ite_self, gz_b, ↓icb, ↓icb2, b2i_ne, ge0, ge1, ge2, ge3, ge4, ge5, ge6, ge7, ge8, ge9, ge10, ge11, ge12, ge13, ge14, lit32, nI_add, pk_mul, clt_nI, cle_nI, cgt_nI, cge_nI, ceq_nI, cne_nI, inr_nI, nI_clamp, nI_eq, nI_leI, nI_ltI, k31_, n1])
    A ⟨pA, kA', PS.refl⟩
  refine ⟨B, ?_, y1, y2, PS.trans (fun a ha => ⟨a1 a (by omega), by rw [a2]⟩) y3⟩
  rw [eA] at nn l1
  simp -implicitDefEqProofs (disch := omega) [DX5_seek, EX5_seek, kp_, bsome, bnone, gi_s, gj_s, gr_s, gv_s, ik_, jk_, il_, jl_, rl_, i2_, i2_a, i2_b, j2_, j2_a, j2_b, i2d_, i2d_a, i2d_b, j2d_, j2d_a, j2d_b, i1_, i1_a, j1_, j1_a, i2l_, i2l_a, l2i_, l2i_a, fgi_, fgi_a, fgj_, fgj_a, fgr_, fgr_a, iald_, iald_a, iald_b, zald_, zald_a, zald_b, jald_, jald_a, jald_b, rald_, rald_a, rald_b, alen_, alen_a, sald_, sald_a, ic_, ic_a, jc_, jc_a, bc_, bc_a, bc_b, bj_, bj_a, bj_b, bz_, bz_a, band_, band_a, bor_, bor_a, bnot_, bnot_a, anil_, ai_, ai_a, ai_b, aj_, aj_a, aj_b, ar_, ar_a, ar_b, kb2i_, cvi_, cvi_a, cvi_b, cvj_, cvj_a, cvj_b, cvz_, cvz_a, cvz_b, csi_, csi_a, csj_, csj_a, csz_, csz_a, snop_, sseq_, sseq_n, sseq_s, sif_, sif_a, scut_, scut_a, ssi_, ssi_a, ssj_, ssj_a, ssr_, ssr_a, sinc_, sinc_a, sret_, sret_a, sretj_, sretj_a, sretv_, spop_, spop_a, kc_scv_, scv_, scv_a, scv_b, scs_, scs_a, fpi_, fpi_a, fpi_b, fpj_, fpj_a, fpj_b, foi_, foi_a, foi_b, foj_, foj_a, foj_b, aii_, aii_a, aii_b, aii_c, aiz_, aiz_a, aiz_b, aiz_c, aij_, aij_a, aij_b, aij_c, aoi_, aoi_a, aoi_b, aoi_c, aoj_, aoj_a, aoj_b, aoj_c, scopy_, scopy_a, scopy_b, scopy_c, scopy_d, scopy_e, ssw_, ssw_a, sel_n, sel_c, mfi_, mfi_a, mfj_, mfj_a, mfz_, mfz_a, kb_mfv_, mfv_, mfv_a, cut, lset, lset2, isL, Value.category, ent, entn, if_some, if_pair, if_cons, if_int, if_long, if_ref, ite_self, gz_b, ↓icb, ↓icb2, b2i_ne, ge0, ge1, ge2, ge3, ge4, ge5, ge6, ge7, ge8, ge9, ge10, ge11, ge12, ge13, ge14, lit32, nI_add, pk_mul, clt_nI, cle_nI, cgt_nI, cge_nI, ceq_nI, cne_nI, inr_nI, nI_clamp, nI_eq, nI_leI, nI_ltI, k98, k31_, nn, l1]
end
