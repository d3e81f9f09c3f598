/-! ===== acts with pressures: noteAll ===== -/
/-! behind an act whose sides change other cells too -/
set_option maxRecDepth 20000 in
theorem core_act2 {M Ma N0 Nz M2 : Me} {nc nt np nw tm o u nc2 nt2 np2 nw2 tm2 : Nat} {k : Int32} (h : Core M nc nt np nw tm o u) (ha : DX7_accept [.ref 0, .int k] M = some Ma) (n1 : ∀ a, a = 126 ∨ (128 ≤ a ∧ a ≤ 428) → N0.1 a = Ma.1 a) (n2 : N0.1 492 6 = M.1 492 6) (n3 : ∀ a, 493 ≤ a → a ≤ 498 → N0.1 a = M.1 a) (hr : DX8_remember [.ref 492, .int k] N0 = some Nz) (m1 : ∀ a, a = 0 ∨ (126 ≤ a ∧ a ≤ 491) → M2.1 a = Ma.1 a) (m2 : ∀ a, 493 ≤ a → a ≤ 498 → a ≠ 494 → M2.1 a = Nz.1 a) (m3 : M2.1 492 1 = nI 0) (m4 : M2.1 492 6 = Nz.1 492 6) (hV : Vx (M2.1 494) nc2 nt2 np2 nw2 tm2) (hL : Lr M2 1 (M2.1 494) nc2 nt2 np2 nw2 tm2) (hN : Nh M2 1) (hkk : k ≠ -(nI 1)) : ∃ o2 u2, Core M2 nc2 nt2 np2 nw2 tm2 o2 u2 := by
  obtain ⟨Mb, Mk, e1, e2, e3, e4, e5, e6⟩ := c_accept k h
  rw [ha] at e1
  cases e1
  subst e3
  have hP : PastAt (wi M 0 10 (nI 0)) o u := h.2.2.2.1.frame (fun a z => wi_ne (by omega)) (by rw [wi_ne (by decide)])
  have hb := h.1.2.1
  obtain ⟨Ny, o2, u2, f1, f2, f3, f4, f5⟩ := past_keep (N := N0) hP (by rw [wi_ne (by decide)]; exact h.1) (by rw [wi_ne (by decide)]; exact h.2.1.frame hb.1 hb.2.1 hb.2.2.1 hb.2.2.2.1 (fun a z1 z2 => wi_ne (by omega))) (by unfold Nh; rw [wi_ne (by decide)]; exact h.2.2.1) e2 n1 (by rw [n2, wi_ne (by decide)]) (by rw [n3 494 (by decide) (by decide), wi_ne (by decide)]) (by rw [n3 495 (by decide) (by decide), wi_ne (by decide)]) (by rw [n3 496 (by decide) (by decide), wi_ne (by decide)]) hkk
  rw [hr] at f1
  cases f1
  have z94 : ∀ a, 493 ≤ a → a ≤ 498 → a ≠ 494 → a ≠ 495 → a ≠ 496 → M2.1 a = M.1 a := fun a q1 q2 q3 q4 q5 => by rw [m2 a q1 q2 q3, f3 a (by omega) q4 q5, n3 a q1 q2]
  refine ⟨o2, u2, hV, hL, hN, f2.frame (fun a z => ?_) m4, h.2.2.2.2.1.frame (fun a z => ?_), ?_⟩
  · rcases z with z | z | z | z
    · rw [m1 a (by omega), f3 a (by omega) (by omega) (by omega), n1 a (by omega)]
    · rw [m1 a (by omega), f3 a (by omega) (by omega) (by omega), n1 a (by omega)]
    · rw [z]; exact m2 495 (by decide) (by decide) (by decide)
    · rw [z]; exact m2 496 (by decide) (by decide) (by decide)
  · rcases z with z | z | z
    · rw [m1 a (by omega), e4 a (by omega)]
    · rw [z]; exact z94 497 (by decide) (by decide) (by decide) (by decide) (by decide)
    · rw [z]; exact z94 498 (by decide) (by decide) (by decide) (by decide) (by decide)
  · obtain ⟨s1, s2, s3, s4, s5⟩ := h.2.2.2.2.2
    have a0 : M2.1 0 10 = nI 0 := by rw [m1 0 (by omega), e6]; simp [wi]
    have a492 : M2.1 491 = M.1 491 := by rw [m1 491 (by omega), e4 491 (by omega)]
    have a494 : M2.1 493 = M.1 493 := z94 493 (by decide) (by decide) (by decide) (by decide) (by decide)
    refine ⟨by rw [a0, m3], ?_, ?_, ?_, ?_⟩
    · rw [a492, a494]; exact s2
    · rw [a492, a494]; exact s3
    · rw [a492, a494]; exact s4
    · rw [a492, a494]; exact s5
/-! all notes -/
def ntX (X : Nat → Int32) (V : Nat → Nat) (m : Nat) : Nat → Int32 := fun i => if 8 ≤ i ∧ i < 8 + 4 * m ∧ (i - 8) % 4 = 3 then nI (V ((i - 8) / 4) + 1) else X i
section
variable {M : Me} {X : Nat → Int32} {V : Nat → Nat} {nc nt np nw tm o u m : Nat}
set_option maxRecDepth 20000 in
theorem ntX_0 : ntX X V 0 = X := by
  funext i
  unfold ntX
  rw [if_neg (by omega)]
set_option maxRecDepth 20000 in
theorem ntX_next : upd (ntX X V m) (8 + 4 * m + 3) (nI (V m + 1)) = ntX X V (m + 1) := by
  funext i
  simp only [upd]
  unfold ntX
  by_cases e : i = 8 + 4 * m + 3
  · rw [if_pos e, if_pos (by omega), show (i - 8) / 4 = m by omega]
  · rw [if_neg e]
    by_cases z : 8 ≤ i ∧ i < 8 + 4 * m ∧ (i - 8) % 4 = 3
    · rw [if_pos z, if_pos (by omega)]
    · rw [if_neg z, if_neg (by omega)]
set_option maxRecDepth 20000 in
theorem ntX_vx (hv : Vx X nc nt np nw tm) (hV : ∀ c, V c ≤ 99999999) : Vx (ntX X V nc) nc nt np nw tm := by
  have hb := hv.2.1
  refine hv.ch (fun i hi hn => ?_) (fun c hc => ?_)
  · unfold ntX
    rw [if_neg (by omega)]
  · obtain ⟨b0, b1, b2, b3⟩ := hv.2.2.2.1 c hc
    refine ⟨?_, ?_, ?_, ⟨V c + 1, ?_, by have := hV c; omega⟩⟩
    · unfold ntX; rw [if_neg (by omega)]; exact b0
    · unfold ntX; rw [if_neg (by omega)]; exact b1
    · unfold ntX; rw [if_neg (by omega)]; exact b2
    · unfold ntX; rw [if_pos (by omega), show (8 + 4 * c + 3 - 8) / 4 = c by omega]
set_option maxRecDepth 20000 in
theorem ca_noteAll (h : Core M nc nt np nw tm o u) (hI : BInv M) : CallI DX7_noteAll DX8_noteAll [] M := by
  have hb := h.1.2.1
  obtain ⟨S, s1, s2, s3⟩ := bal_now h hI
  obtain ⟨X, eX⟩ : ∃ X, X = M.1 494 := ⟨_, rfl⟩
  have hv : Vx X nc nt np nw tm := by rw [eX]; exact h.1
  have hS : Core S nc nt np nw tm o u := qf_core h ⟨fun a ha => (s3 a (by omega)).1, by rw [(s3 492 (by omega)).1], by rw [(s3 492 (by omega)).1]⟩
  have sX : S.1 494 = X := by rw [(s3 494 (by omega)).1, eX]
  rw [← eX] at s2
  cases ef : fR (kok (kyN X nc nt np 9 0)) 27 with
  | none =>
    have g := c_hunts1 s2 ef
    have rfS := c_refuse4 (M := S)
    have e5 : (wi (rfC S 4 2) 492 0 (nI 0)).1 494 = X := by rw [wi_ne (by decide)]; unfold rfC; rw [wi_ne (by decide), wi_ne (by decide)]; exact sX
    obtain ⟨N, r1, r2, r3⟩ := rek_now e5 hv
    rw [ef] at r1
    have r1 : DX8_reckonNow [.ref 492] (wi (rfC S 4 2) 492 0 (nI 0)) = some (false, N) := r1
    have rr := r_refuse4' (M := N)
    have cc := core_refuse (k := 4) (i := 2) hS (by omega)
    have qf : Qf (rfR (wi (rfC S 4 2) 492 0 (nI 0)) 4) (rfR N 4) := by
      refine ⟨fun a ha => ?_, ?_, ?_⟩
      · by_cases z : a = 493
        · subst z
          unfold rfR
          rw [wi_same, wi_same, wi_ne (by decide), wi_ne (by decide), r2.1 493 (by omega)]
        · unfold rfR
          rw [wi_ne z, wi_ne (by omega), wi_ne z, wi_ne (by omega), r2.1 a (by omega)]
      · unfold rfR
        rw [wi_ne (by decide), wi_at, wi_ne (by decide), wi_at]
      · unfold rfR
        rw [wi_ne (by decide), wi_ns (by decide), wi_ne (by decide), wi_ns (by decide), r2.2.1 6 (by decide)]
    refine ⟨-(nI 4), rfC S 4 2, rfR N 4, ?_, ?_, ⟨_, _, _, _, _, _, _, qf_core cc.1 qf⟩, Or.inr ⟨_, s2.frame (fun a _ z1 z2 => ?_) (fun a z1 z2 => ?_)⟩⟩
    · simp -implicitDefEqProofs (disch := omega) [DX7_noteAll, EX7_noteAll, kp_, bsome, bnone, gi_s, gj_s, gr_s, gv_s, ik_, jk_, il_, jl_, rl_, i2_, i2_a, i2_b, j2_, j2_a, j2_b, i2d_, i2d_a, i2d_b, j2d_, j2d_a, j2d_b, i1_, i1_a, j1_, j1_a, i2l_, i2l_a, l2i_, l2i_a, fgi_, fgi_a, fgj_, fgj_a, fgr_, fgr_a, iald_, iald_a, iald_b, zald_, zald_a, zald_b, jald_, jald_a, jald_b, rald_, rald_a, rald_b, alen_, alen_a, sald_, sald_a, ic_, ic_a, jc_, jc_a, bc_, bc_a, bc_b, bj_, bj_a, bj_b, bz_, bz_a, band_, band_a, bor_, bor_a, bnot_, bnot_a, anil_, ai_, ai_a, ai_b, aj_, aj_a, aj_b, ar_, ar_a, ar_b, kb2i_, cvi_, cvi_a, cvi_b, cvj_, cvj_a, cvj_b, cvz_, cvz_a, cvz_b, csi_, csi_a, csj_, csj_a, csz_, csz_a, snop_, sseq_, sseq_n, sseq_s, sif_, sif_a, scut_, scut_a, ssi_, ssi_a, ssj_, ssj_a, ssr_, ssr_a, sinc_, sinc_a, sret_, sret_a, sretj_, sretj_a, sretv_, spop_, spop_a, kc_scv_, scv_, scv_a, scv_b, scs_, scs_a, fpi_, fpi_a, fpi_b, fpj_, fpj_a, fpj_b, foi_, foi_a, foi_b, foj_, foj_a, foj_b, aii_, aii_a, aii_b, aii_c, aiz_, aiz_a, aiz_b, aiz_c, aij_, aij_a, aij_b, aij_c, aoi_, aoi_a, aoi_b, aoi_c, aoj_, aoj_a, aoj_b, aoj_c, scopy_, scopy_a, scopy_b, scopy_c, scopy_d, scopy_e, ssw_, ssw_a, sel_n, sel_c, mfi_, mfi_a, mfj_, mfj_a, mfz_, mfz_a, kb_mfv_, mfv_, mfv_a, cut, lset, lset2, isL, Value.category, ent, entn, if_some, if_pair, if_cons, if_int, if_long, if_ref, ite_self, gz_b, ↓icb, ↓icb2, b2i_ne, ge0, ge1, ge2, ge3, ge4, ge5, ge6, ge7, ge8, ge9, ge10, ge11, ge12, ge13, ge14, lit32, nI_add, pk_mul, clt_nI, cle_nI, cgt_nI, cge_nI, ceq_nI, cne_nI, inr_nI, nI_clamp, nI_eq, nI_leI, nI_ltI, k0, f0_0, f0_2, k61, s1, g, rfS]
    · simp -implicitDefEqProofs (disch := omega) [DX8_noteAll, EX8_noteAll, kp_, bsome, bnone, gi_s, gj_s, gr_s, gv_s, ik_, jk_, il_, jl_, rl_, i2_, i2_a, i2_b, j2_, j2_a, j2_b, i2d_, i2d_a, i2d_b, j2d_, j2d_a, j2d_b, i1_, i1_a, j1_, j1_a, i2l_, i2l_a, l2i_, l2i_a, fgi_, fgi_a, fgj_, fgj_a, fgr_, fgr_a, iald_, iald_a, iald_b, zald_, zald_a, zald_b, jald_, jald_a, jald_b, rald_, rald_a, rald_b, alen_, alen_a, sald_, sald_a, ic_, ic_a, jc_, jc_a, bc_, bc_a, bc_b, bj_, bj_a, bj_b, bz_, bz_a, band_, band_a, bor_, bor_a, bnot_, bnot_a, anil_, ai_, ai_a, ai_b, aj_, aj_a, aj_b, ar_, ar_a, ar_b, kb2i_, cvi_, cvi_a, cvi_b, cvj_, cvj_a, cvj_b, cvz_, cvz_a, cvz_b, csi_, csi_a, csj_, csj_a, csz_, csz_a, snop_, sseq_, sseq_n, sseq_s, sif_, sif_a, scut_, scut_a, ssi_, ssi_a, ssj_, ssj_a, ssr_, ssr_a, sinc_, sinc_a, sret_, sret_a, sretj_, sretj_a, sretv_, spop_, spop_a, kc_scv_, scv_, scv_a, scv_b, scs_, scs_a, fpi_, fpi_a, fpi_b, fpj_, fpj_a, fpj_b, foi_, foi_a, foi_b, foj_, foj_a, foj_b, aii_, aii_a, aii_b, aii_c, aiz_, aiz_a, aiz_b, aiz_c, aij_, aij_a, aij_b, aij_c, aoi_, aoi_a, aoi_b, aoi_c, aoj_, aoj_a, aoj_b, aoj_c, scopy_, scopy_a, scopy_b, scopy_c, scopy_d, scopy_e, ssw_, ssw_a, sel_n, sel_c, mfi_, mfi_a, mfj_, mfj_a, mfz_, mfz_a, kb_mfv_, mfv_, mfv_a, cut, lset, lset2, isL, Value.category, ent, entn, if_some, if_pair, if_cons, if_int, if_long, if_ref, ite_self, gz_b, ↓icb, ↓icb2, b2i_ne, ge0, ge1, ge2, ge3, ge4, ge5, ge6, ge7, ge8, ge9, ge10, ge11, ge12, ge13, ge14, lit32, nI_add, pk_mul, clt_nI, cle_nI, cgt_nI, cge_nI, ceq_nI, cne_nI, inr_nI, nI_clamp, nI_eq, nI_leI, nI_ltI, k492, f492_2, f492_3, f492_4, f492_5, f492_7, f492_8, f492_9, f492_10, k493, k494, k495, k496, k497, k498, k499, k500, l493, l494, l495, l496, l497, l498, l499, l500, r1, rr]
    · unfold rfR rfC at *
      rw [wi_ne (by omega), wi_ne (by omega), r2.1 a (by omega), wi_ne (by omega), wi_ne (by omega), wi_ne (by omega)]
    · unfold rfR
      rw [wi_2, wi_2, r2.2.2 a (by omega)]
      rfl
  | some r =>
    have hr := (fR_some 27 ef).1
    have g := c_hunts0 s2 ef
    obtain ⟨Ma, Mk, t1, t2, t3, t4, t5, t6⟩ := c_accept (nI 12) hS
    have aX : Ma.1 494 = X := by rw [t4 494 (by omega)]; exact sX
    have bA : BAt Ma (kyN X nc nt np 9 0) := s2.frame (fun a _ z1 z2 => t4 a (by omega)) (fun a _ _ => by rw [t5])
    have lA : Lr Ma 1 X nc nt np nw tm := by
      have := hS.2.1
      rw [sX] at this
      exact this.frame hb.1 hb.2.1 hb.2.2.1 hb.2.2.2.1 (fun a z1 z2 => t4 a (by omega))
    have nA : Nh Ma 1 := by unfold Nh; rw [t4 1 (by omega)]; exact hS.2.2.1
    obtain ⟨V, eV⟩ : ∃ V : Nat → Nat, V = fun c => rdN (kyN X nc nt np 9 0) r c := ⟨_, rfl⟩
    have vl : ∀ c, V c ≤ 99999999 := fun c => by rw [eV]; exact rdN_le
    obtain ⟨M1, l1, lM, nM, fM, gM⟩ := swh_inv (c := qX7_noteAll_1) (b := wX7_noteAll_1) (fun c => [.ref 0, .int (nI c)]) (fun c B => Lr B 1 (ntX X V c) nc nt np nw tm ∧ Nh B 1 ∧ (∀ a, ¬ (1 ≤ a ∧ a < 31) → B.1 a = Ma.1 a) ∧ B.2 = Ma.2) nc
      (fun c hc B hB => by
        have n0 := hB.1.2.1.1
        simp -implicitDefEqProofs (disch := omega) [qX7_noteAll_1, kp_, bsome, bnone, gi_s, gj_s, gr_s, gv_s, ik_, jk_, il_, jl_, rl_, i2_, i2_a, i2_b, j2_, j2_a, j2_b, i2d_, i2d_a, i2d_b, j2d_, j2d_a, j2d_b, i1_, i1_a, j1_, j1_a, i2l_, i2l_a, l2i_, l2i_a, fgi_, fgi_a, fgj_, fgj_a, fgr_, fgr_a, iald_, iald_a, iald_b, zald_, zald_a, zald_b, jald_, jald_a, jald_b, rald_, rald_a, rald_b, alen_, alen_a, sald_, sald_a, ic_, ic_a, jc_, jc_a, bc_, bc_a, bc_b, bj_, bj_a, bj_b, bz_, bz_a, band_, band_a, bor_, bor_a, bnot_, bnot_a, anil_, ai_, ai_a, ai_b, aj_, aj_a, aj_b, ar_, ar_a, ar_b, kb2i_, cvi_, cvi_a, cvi_b, cvj_, cvj_a, cvj_b, cvz_, cvz_a, cvz_b, csi_, csi_a, csj_, csj_a, csz_, csz_a, snop_, sseq_, sseq_n, sseq_s, sif_, sif_a, scut_, scut_a, ssi_, ssi_a, ssj_, ssj_a, ssr_, ssr_a, sinc_, sinc_a, sret_, sret_a, sretj_, sretj_a, sretv_, spop_, spop_a, kc_scv_, scv_, scv_a, scv_b, scs_, scs_a, fpi_, fpi_a, fpi_b, fpj_, fpj_a, fpj_b, foi_, foi_a, foi_b, foj_, foj_a, foj_b, aii_, aii_a, aii_b, aii_c, aiz_, aiz_a, aiz_b, aiz_c, aij_, aij_a, aij_b, aij_c, aoi_, aoi_a, aoi_b, aoi_c, aoj_, aoj_a, aoj_b, aoj_c, scopy_, scopy_a, scopy_b, scopy_c, scopy_d, scopy_e, ssw_, ssw_a, sel_n, sel_c, mfi_, mfi_a, mfj_, mfj_a, mfz_, mfz_a, kb_mfv_, mfv_, mfv_a, cut, lset, lset2, isL, Value.category, ent, entn, if_some, if_pair, if_cons, if_int, if_long, if_ref, ite_self, gz_b, ↓icb, ↓icb2, b2i_ne, ge0, ge1, ge2, ge3, ge4, ge5, ge6, ge7, ge8, ge9, ge10, ge11, ge12, ge13, ge14, lit32, nI_add, pk_mul, clt_nI, cle_nI, cgt_nI, cge_nI, ceq_nI, cne_nI, inr_nI, nI_clamp, nI_eq, nI_leI, nI_ltI, k0, f0_0, k1_, n0, hc])
      (fun c hc B hB => by
        obtain ⟨y1, y2, y3, y4⟩ := hB
        have c5 : c < 5 := by omega
        have kT := a_kc m1_ c c5
        have lT := a_lc m1_ c c5
        have bB : BAt B (kyN X nc nt np 9 0) := bA.frame (fun a _ z1 z2 => y3 a (by omega)) (fun a _ _ => by rw [y4])
        have ga := c_gauge (c := c) bB ef (by rw [ky_0]; exact hc)
        have vc : V c = rdN (kyN X nc nt np 9 0) r c := by rw [eV]
        rw [← vc] at ga
        have lB := y1.cham (t := c) (q := 3) (v := nI (V c)) (w := nI (V c + 1)) hb.1 hb.2.1 hb.2.2.1 hb.2.2.2.1 hc (by decide) (Or.inr ⟨rfl, nI_add _ 1⟩)
        rw [ntX_next] at lB
        refine ⟨wi B (1 + 2 + c) 3 (nI (V c)), ?_, lB, ?_, fun a ha => by rw [wi_ne (by omega)]; exact y3 a ha, by rw [wi_2]; exact y4⟩
        · simp -implicitDefEqProofs (disch := omega) [wX7_noteAll_1, kp_, bsome, bnone, gi_s, gj_s, gr_s, gv_s, ik_, jk_, il_, jl_, rl_, i2_, i2_a, i2_b, j2_, j2_a, j2_b, i2d_, i2d_a, i2d_b, j2d_, j2d_a, j2d_b, i1_, i1_a, j1_, j1_a, i2l_, i2l_a, l2i_, l2i_a, fgi_, fgi_a, fgj_, fgj_a, fgr_, fgr_a, iald_, iald_a, iald_b, zald_, zald_a, zald_b, jald_, jald_a, jald_b, rald_, rald_a, rald_b, alen_, alen_a, sald_, sald_a, ic_, ic_a, jc_, jc_a, bc_, bc_a, bc_b, bj_, bj_a, bj_b, bz_, bz_a, band_, band_a, bor_, bor_a, bnot_, bnot_a, anil_, ai_, ai_a, ai_b, aj_, aj_a, aj_b, ar_, ar_a, ar_b, kb2i_, cvi_, cvi_a, cvi_b, cvj_, cvj_a, cvj_b, cvz_, cvz_a, cvz_b, csi_, csi_a, csj_, csj_a, csz_, csz_a, snop_, sseq_, sseq_n, sseq_s, sif_, sif_a, scut_, scut_a, ssi_, ssi_a, ssj_, ssj_a, ssr_, ssr_a, sinc_, sinc_a, sret_, sret_a, sretj_, sretj_a, sretv_, spop_, spop_a, kc_scv_, scv_, scv_a, scv_b, scs_, scs_a, fpi_, fpi_a, fpi_b, fpj_, fpj_a, fpj_b, foi_, foi_a, foi_b, foj_, foj_a, foj_b, aii_, aii_a, aii_b, aii_c, aiz_, aiz_a, aiz_b, aiz_c, aij_, aij_a, aij_b, aij_c, aoi_, aoi_a, aoi_b, aoi_c, aoj_, aoj_a, aoj_b, aoj_c, scopy_, scopy_a, scopy_b, scopy_c, scopy_d, scopy_e, ssw_, ssw_a, sel_n, sel_c, mfi_, mfi_a, mfj_, mfj_a, mfz_, mfz_a, kb_mfv_, mfv_, mfv_a, cut, lset, lset2, isL, Value.category, ent, entn, if_some, if_pair, if_cons, if_int, if_long, if_ref, ite_self, gz_b, ↓icb, ↓icb2, b2i_ne, ge0, ge1, ge2, ge3, ge4, ge5, ge6, ge7, ge8, ge9, ge10, ge11, ge12, ge13, ge14, lit32, nI_add, pk_mul, clt_nI, cle_nI, cgt_nI, cge_nI, ceq_nI, cne_nI, inr_nI, nI_clamp, nI_eq, nI_leI, nI_ltI, k0, f0_0, f0_2, k1_, k61, a_9 m1_, a_k1 m1_, a_l1 m1_, a_rc m1_, kT, lT, ga]
        · unfold Nh
          rw [wi_ne (by omega)]
          exact y2)
      (fun B hB => by
        have n0 := hB.1.2.1.1
        simp -implicitDefEqProofs (disch := omega) [qX7_noteAll_1, kp_, bsome, bnone, gi_s, gj_s, gr_s, gv_s, ik_, jk_, il_, jl_, rl_, i2_, i2_a, i2_b, j2_, j2_a, j2_b, i2d_, i2d_a, i2d_b, j2d_, j2d_a, j2d_b, i1_, i1_a, j1_, j1_a, i2l_, i2l_a, l2i_, l2i_a, fgi_, fgi_a, fgj_, fgj_a, fgr_, fgr_a, iald_, iald_a, iald_b, zald_, zald_a, zald_b, jald_, jald_a, jald_b, rald_, rald_a, rald_b, alen_, alen_a, sald_, sald_a, ic_, ic_a, jc_, jc_a, bc_, bc_a, bc_b, bj_, bj_a, bj_b, bz_, bz_a, band_, band_a, bor_, bor_a, bnot_, bnot_a, anil_, ai_, ai_a, ai_b, aj_, aj_a, aj_b, ar_, ar_a, ar_b, kb2i_, cvi_, cvi_a, cvi_b, cvj_, cvj_a, cvj_b, cvz_, cvz_a, cvz_b, csi_, csi_a, csj_, csj_a, csz_, csz_a, snop_, sseq_, sseq_n, sseq_s, sif_, sif_a, scut_, scut_a, ssi_, ssi_a, ssj_, ssj_a, ssr_, ssr_a, sinc_, sinc_a, sret_, sret_a, sretj_, sretj_a, sretv_, spop_, spop_a, kc_scv_, scv_, scv_a, scv_b, scs_, scs_a, fpi_, fpi_a, fpi_b, fpj_, fpj_a, fpj_b, foi_, foi_a, foi_b, foj_, foj_a, foj_b, aii_, aii_a, aii_b, aii_c, aiz_, aiz_a, aiz_b, aiz_c, aij_, aij_a, aij_b, aij_c, aoi_, aoi_a, aoi_b, aoi_c, aoj_, aoj_a, aoj_b, aoj_c, scopy_, scopy_a, scopy_b, scopy_c, scopy_d, scopy_e, ssw_, ssw_a, sel_n, sel_c, mfi_, mfi_a, mfj_, mfj_a, mfz_, mfz_a, kb_mfv_, mfv_, mfv_a, cut, lset, lset2, isL, Value.category, ent, entn, if_some, if_pair, if_cons, if_int, if_long, if_ref, ite_self, gz_b, ↓icb, ↓icb2, b2i_ne, ge0, ge1, ge2, ge3, ge4, ge5, ge6, ge7, ge8, ge9, ge10, ge11, ge12, ge13, ge14, lit32, nI_add, pk_mul, clt_nI, cle_nI, cgt_nI, cge_nI, ceq_nI, cne_nI, inr_nI, nI_clamp, nI_eq, nI_leI, nI_ltI, k0, f0_0, k1_, n0])
      Ma ⟨by rw [ntX_0]; exact lA, nA, fun _ _ => rfl, rfl⟩
    have n0M := lM.2.1.1
    have e5 : (wi M1 492 0 (nI 0)).1 494 = X := by rw [wi_ne (by decide), fM 494 (by omega)]; exact aX
    obtain ⟨N0, r1, r2, r3⟩ := rek_now e5 hv
    rw [ef] at r1
    have r1 : DX8_reckonNow [.ref 492] (wi M1 492 0 (nI 0)) = some (true, N0) := r1
    have so := r3 r ef
    have n01 : ∀ a, a < 492 ∨ (493 ≤ a ∧ a ≤ 498) → N0.1 a = M1.1 a := fun a ha => by rw [r2.1 a (by omega), wi_ne (by omega)]
    have p6 : N0.1 492 6 = S.1 492 6 := by rw [r2.2.1 6 (by decide), wi_ns (by decide), fM 492 (by omega), t4 492 (by omega)]
    obtain ⟨-, p2', p3', p4', p5', -⟩ := hS.2.2.2.1
    have rem : ∃ Nz, DX8_remember [.ref 492, .int (nI 12)] N0 = some Nz := ⟨_, r_remember (by rw [p6]; exact p3') p5'⟩
    obtain ⟨Nz, rm⟩ := rem
    have hP : PastAt (wi S 0 10 (nI 0)) o u := hS.2.2.2.1.frame (fun a z => wi_ne (by omega)) (by rw [wi_ne (by decide)])
    obtain ⟨Ny, o2, u2, f1, f2, f3, f4, f5⟩ := past_keep (N := N0) (k := nI 12) hP (by rw [wi_ne (by decide)]; exact hS.1) (by rw [wi_ne (by decide)]; exact hS.2.1.frame hb.1 hb.2.1 hb.2.2.1 hb.2.2.2.1 (fun a z1 z2 => wi_ne (by omega))) (by unfold Nh; rw [wi_ne (by decide)]; exact hS.2.2.1) t2 (fun a z => by rw [n01 a (by omega), fM a (by omega), t3]) (by rw [p6, wi_ne (by decide)]) (by rw [n01 494 (by omega), fM 494 (by omega), aX, wi_ne (by decide), sX]) (by rw [n01 495 (by omega), fM 495 (by omega), t4 495 (by omega), wi_ne (by decide)]) (by rw [n01 496 (by omega), fM 496 (by omega), t4 496 (by omega), wi_ne (by decide)]) (by decide)
    rw [rm] at f1
    cases f1
    have zX : Nz.1 494 = X := by rw [f3 494 (by decide) (by decide) (by decide), n01 494 (by omega), fM 494 (by omega)]; exact aX
    have sz : SolAt Nz (kyN X nc nt np 9 0) r := ⟨fun c hc => by rw [f5]; exact so.1 c hc, by rw [f5]; exact so.2.1, fun c hc => by rw [f3 507 (by decide) (by decide) (by decide)]; exact so.2.2.1 c hc, fun p hp => by rw [f3 508 (by decide) (by decide) (by decide)]; exact so.2.2.2 p hp⟩
    obtain ⟨Z, l2, zz, z1, z2⟩ := swh_inv (c := qX8_noteAll_1) (b := wX8_noteAll_1) (fun c => [.ref 492, .int (nI c)]) (fun c B => B.1 494 = ntX X V c ∧ (∀ a, a ≠ 494 → B.1 a = Nz.1 a) ∧ B.2 = Nz.2) nc
      (fun c hc B hB => by
        have n0 : B.1 494 0 = nI nc := by rw [hB.1]; unfold ntX; rw [if_neg (by omega)]; exact hv.1.1
        simp -implicitDefEqProofs (disch := omega) [qX8_noteAll_1, kp_, bsome, bnone, gi_s, gj_s, gr_s, gv_s, ik_, jk_, il_, jl_, rl_, i2_, i2_a, i2_b, j2_, j2_a, j2_b, i2d_, i2d_a, i2d_b, j2d_, j2d_a, j2d_b, i1_, i1_a, j1_, j1_a, i2l_, i2l_a, l2i_, l2i_a, fgi_, fgi_a, fgj_, fgj_a, fgr_, fgr_a, iald_, iald_a, iald_b, zald_, zald_a, zald_b, jald_, jald_a, jald_b, rald_, rald_a, rald_b, alen_, alen_a, sald_, sald_a, ic_, ic_a, jc_, jc_a, bc_, bc_a, bc_b, bj_, bj_a, bj_b, bz_, bz_a, band_, band_a, bor_, bor_a, bnot_, bnot_a, anil_, ai_, ai_a, ai_b, aj_, aj_a, aj_b, ar_, ar_a, ar_b, kb2i_, cvi_, cvi_a, cvi_b, cvj_, cvj_a, cvj_b, cvz_, cvz_a, cvz_b, csi_, csi_a, csj_, csj_a, csz_, csz_a, snop_, sseq_, sseq_n, sseq_s, sif_, sif_a, scut_, scut_a, ssi_, ssi_a, ssj_, ssj_a, ssr_, ssr_a, sinc_, sinc_a, sret_, sret_a, sretj_, sretj_a, sretv_, spop_, spop_a, kc_scv_, scv_, scv_a, scv_b, scs_, scs_a, fpi_, fpi_a, fpi_b, fpj_, fpj_a, fpj_b, foi_, foi_a, foi_b, foj_, foj_a, foj_b, aii_, aii_a, aii_b, aii_c, aiz_, aiz_a, aiz_b, aiz_c, aij_, aij_a, aij_b, aij_c, aoi_, aoi_a, aoi_b, aoi_c, aoj_, aoj_a, aoj_b, aoj_c, scopy_, scopy_a, scopy_b, scopy_c, scopy_d, scopy_e, ssw_, ssw_a, sel_n, sel_c, mfi_, mfi_a, mfj_, mfj_a, mfz_, mfz_a, kb_mfv_, mfv_, mfv_a, cut, lset, lset2, isL, Value.category, ent, entn, if_some, if_pair, if_cons, if_int, if_long, if_ref, ite_self, gz_b, ↓icb, ↓icb2, b2i_ne, ge0, ge1, ge2, ge3, ge4, ge5, ge6, ge7, ge8, ge9, ge10, ge11, ge12, ge13, ge14, lit32, nI_add, pk_mul, clt_nI, cle_nI, cgt_nI, cge_nI, ceq_nI, cne_nI, inr_nI, nI_clamp, nI_eq, nI_leI, nI_ltI, k492, f492_2, f492_3, f492_4, f492_5, f492_7, f492_8, f492_9, f492_10, k493, k494, k495, k496, k497, k498, k499, k500, l493, l494, l495, l496, l497, l498, l499, l500, n0, hc])
      (fun c hc B hB => by
        obtain ⟨y1, y2, y3⟩ := hB
        have sB : SolAt B (kyN X nc nt np 9 0) r := ⟨fun c hc => by rw [y3]; exact sz.1 c hc, by rw [y3]; exact sz.2.1, fun c hc => by rw [y2 507 (by decide)]; exact sz.2.2.1 c hc, fun p hp => by rw [y2 508 (by decide)]; exact sz.2.2.2 p hp⟩
        have rd := r_readingOf (c := c) sB s2.2.1 hr (by omega)
        have vc : V c = rdN (kyN X nc nt np 9 0) r c := by rw [eV]
        rw [← vc] at rd
        have ix : 8 + 4 * c + 3 < 331 := by omega
        refine ⟨wi B 494 (8 + 4 * c + 3) (nI (V c + 1)), ?_, by rw [wi_same, y1, ntX_next], fun a ha => by rw [wi_ne ha]; exact y2 a ha, by rw [wi_2]; exact y3⟩
        simp -implicitDefEqProofs (disch := omega) [wX8_noteAll_1, kp_, bsome, bnone, gi_s, gj_s, gr_s, gv_s, ik_, jk_, il_, jl_, rl_, i2_, i2_a, i2_b, j2_, j2_a, j2_b, i2d_, i2d_a, i2d_b, j2d_, j2d_a, j2d_b, i1_, i1_a, j1_, j1_a, i2l_, i2l_a, l2i_, l2i_a, fgi_, fgi_a, fgj_, fgj_a, fgr_, fgr_a, iald_, iald_a, iald_b, zald_, zald_a, zald_b, jald_, jald_a, jald_b, rald_, rald_a, rald_b, alen_, alen_a, sald_, sald_a, ic_, ic_a, jc_, jc_a, bc_, bc_a, bc_b, bj_, bj_a, bj_b, bz_, bz_a, band_, band_a, bor_, bor_a, bnot_, bnot_a, anil_, ai_, ai_a, ai_b, aj_, aj_a, aj_b, ar_, ar_a, ar_b, kb2i_, cvi_, cvi_a, cvi_b, cvj_, cvj_a, cvj_b, cvz_, cvz_a, cvz_b, csi_, csi_a, csj_, csj_a, csz_, csz_a, snop_, sseq_, sseq_n, sseq_s, sif_, sif_a, scut_, scut_a, ssi_, ssi_a, ssj_, ssj_a, ssr_, ssr_a, sinc_, sinc_a, sret_, sret_a, sretj_, sretj_a, sretv_, spop_, spop_a, kc_scv_, scv_, scv_a, scv_b, scs_, scs_a, fpi_, fpi_a, fpi_b, fpj_, fpj_a, fpj_b, foi_, foi_a, foi_b, foj_, foj_a, foj_b, aii_, aii_a, aii_b, aii_c, aiz_, aiz_a, aiz_b, aiz_c, aij_, aij_a, aij_b, aij_c, aoi_, aoi_a, aoi_b, aoi_c, aoj_, aoj_a, aoj_b, aoj_c, scopy_, scopy_a, scopy_b, scopy_c, scopy_d, scopy_e, ssw_, ssw_a, sel_n, sel_c, mfi_, mfi_a, mfj_, mfj_a, mfz_, mfz_a, kb_mfv_, mfv_, mfv_a, cut, lset, lset2, isL, Value.category, ent, entn, if_some, if_pair, if_cons, if_int, if_long, if_ref, ite_self, gz_b, ↓icb, ↓icb2, b2i_ne, ge0, ge1, ge2, ge3, ge4, ge5, ge6, ge7, ge8, ge9, ge10, ge11, ge12, ge13, ge14, lit32, nI_add, pk_mul, clt_nI, cle_nI, cgt_nI, cge_nI, ceq_nI, cne_nI, inr_nI, nI_clamp, nI_eq, nI_leI, nI_ltI, k492, f492_2, f492_3, f492_4, f492_5, f492_7, f492_8, f492_9, f492_10, k493, k494, k495, k496, k497, k498, k499, k500, l493, l494, l495, l496, l497, l498, l499, l500, r_chamberAt, rd])
      (fun B hB => by
        have n0 : B.1 494 0 = nI nc := by rw [hB.1]; unfold ntX; rw [if_neg (by omega)]; exact hv.1.1
        simp -implicitDefEqProofs (disch := omega) [qX8_noteAll_1, kp_, bsome, bnone, gi_s, gj_s, gr_s, gv_s, ik_, jk_, il_, jl_, rl_, i2_, i2_a, i2_b, j2_, j2_a, j2_b, i2d_, i2d_a, i2d_b, j2d_, j2d_a, j2d_b, i1_, i1_a, j1_, j1_a, i2l_, i2l_a, l2i_, l2i_a, fgi_, fgi_a, fgj_, fgj_a, fgr_, fgr_a, iald_, iald_a, iald_b, zald_, zald_a, zald_b, jald_, jald_a, jald_b, rald_, rald_a, rald_b, alen_, alen_a, sald_, sald_a, ic_, ic_a, jc_, jc_a, bc_, bc_a, bc_b, bj_, bj_a, bj_b, bz_, bz_a, band_, band_a, bor_, bor_a, bnot_, bnot_a, anil_, ai_, ai_a, ai_b, aj_, aj_a, aj_b, ar_, ar_a, ar_b, kb2i_, cvi_, cvi_a, cvi_b, cvj_, cvj_a, cvj_b, cvz_, cvz_a, cvz_b, csi_, csi_a, csj_, csj_a, csz_, csz_a, snop_, sseq_, sseq_n, sseq_s, sif_, sif_a, scut_, scut_a, ssi_, ssi_a, ssj_, ssj_a, ssr_, ssr_a, sinc_, sinc_a, sret_, sret_a, sretj_, sretj_a, sretv_, spop_, spop_a, kc_scv_, scv_, scv_a, scv_b, scs_, scs_a, fpi_, fpi_a, fpi_b, fpj_, fpj_a, fpj_b, foi_, foi_a, foi_b, foj_, foj_a, foj_b, aii_, aii_a, aii_b, aii_c, aiz_, aiz_a, aiz_b, aiz_c, aij_, aij_a, aij_b, aij_c, aoi_, aoi_a, aoi_b, aoi_c, aoj_, aoj_a, aoj_b, aoj_c, scopy_, scopy_a, scopy_b, scopy_c, scopy_d, scopy_e, ssw_, ssw_a, sel_n, sel_c, mfi_, mfi_a, mfj_, mfj_a, mfz_, mfz_a, kb_mfv_, mfv_, mfv_a, cut, lset, lset2, isL, Value.category, ent, entn, if_some, if_pair, if_cons, if_int, if_long, if_ref, ite_self, gz_b, ↓icb, ↓icb2, b2i_ne, ge0, ge1, ge2, ge3, ge4, ge5, ge6, ge7, ge8, ge9, ge10, ge11, ge12, ge13, ge14, lit32, nI_add, pk_mul, clt_nI, cle_nI, cgt_nI, cge_nI, ceq_nI, cne_nI, inr_nI, nI_clamp, nI_eq, nI_leI, nI_ltI, k492, f492_2, f492_3, f492_4, f492_5, f492_7, f492_8, f492_9, f492_10, k493, k494, k495, k496, k497, k498, k499, k500, l493, l494, l495, l496, l497, l498, l499, l500, n0])
      Nz ⟨by rw [ntX_0]; exact zX, fun _ _ => rfl, rfl⟩
    have zn0 : Z.1 494 0 = nI nc := by rw [zz]; unfold ntX; rw [if_neg (by omega)]; exact hv.1.1
    obtain ⟨F, eF⟩ : ∃ F : Me, F = wi Z 492 1 (nI 0) := ⟨_, rfl⟩
    have tl := r_tell (x := nI nc) (M := Z)
    have tl : DX8_tell [.ref 492, .int (nI nc)] Z = some (nI nc, F) := by rw [tl, eF]; rfl
    have F1 : ∀ a, a ≠ 492 → F.1 a = Z.1 a := fun a ha => by rw [eF, wi_ne ha]
    have Fc : ∀ a, a < 492 → F.1 a = M1.1 a := fun a ha => by rw [F1 a (by omega), z1 a (by omega), f3 a (by omega) (by omega) (by omega), n01 a (by omega)]
    have F95 : F.1 494 = ntX X V nc := by rw [F1 494 (by decide)]; exact zz
    have core := core_act2 (k := nI 12) (N0 := N0) (Nz := Nz) (M2 := F) hS t1 (fun a z => by rw [n01 a (by omega), fM a (by omega)]) p6 (fun a z1 z2 => by rw [n01 a (by omega), fM a (by omega), t4 a (by omega)]) rm (fun a ha => by rw [Fc a (by omega), fM a (by omega)]) (fun a q1 q2 q3 => by rw [F1 a (by omega), z1 a q3]) (by rw [eF]; exact wi_at) (by rw [eF, wi_ns (by decide), z1 492 (by decide)]) (by rw [F95]; exact ntX_vx hv vl) (by rw [F95]; exact lM.frame hb.1 hb.2.1 hb.2.2.1 hb.2.2.2.1 (fun a q1 q2 => Fc a (by omega))) (by unfold Nh; rw [Fc 1 (by omega)]; exact nM) (by decide)
    obtain ⟨o3, u3, core⟩ := core
    refine ⟨nI nc, M1, F, ?_, ?_, ⟨_, _, _, _, _, _, _, core⟩, Or.inr ⟨_, bA.frame (fun a _ q1 q2 => by rw [Fc a (by omega), fM a (by omega)]) (fun a q1 q2 => by rw [eF, wi_2, z2, f5, r2.2.2 a (by omega)]; show M1.2 a = _; rw [gM])⟩⟩
    · simp -implicitDefEqProofs (disch := omega) [DX7_noteAll, EX7_noteAll, kp_, bsome, bnone, gi_s, gj_s, gr_s, gv_s, ik_, jk_, il_, jl_, rl_, i2_, i2_a, i2_b, j2_, j2_a, j2_b, i2d_, i2d_a, i2d_b, j2d_, j2d_a, j2d_b, i1_, i1_a, j1_, j1_a, i2l_, i2l_a, l2i_, l2i_a, fgi_, fgi_a, fgj_, fgj_a, fgr_, fgr_a, iald_, iald_a, iald_b, zald_, zald_a, zald_b, jald_, jald_a, jald_b, rald_, rald_a, rald_b, alen_, alen_a, sald_, sald_a, ic_, ic_a, jc_, jc_a, bc_, bc_a, bc_b, bj_, bj_a, bj_b, bz_, bz_a, band_, band_a, bor_, bor_a, bnot_, bnot_a, anil_, ai_, ai_a, ai_b, aj_, aj_a, aj_b, ar_, ar_a, ar_b, kb2i_, cvi_, cvi_a, cvi_b, cvj_, cvj_a, cvj_b, cvz_, cvz_a, cvz_b, csi_, csi_a, csj_, csj_a, csz_, csz_a, snop_, sseq_, sseq_n, sseq_s, sif_, sif_a, scut_, scut_a, ssi_, ssi_a, ssj_, ssj_a, ssr_, ssr_a, sinc_, sinc_a, sret_, sret_a, sretj_, sretj_a, sretv_, spop_, spop_a, kc_scv_, scv_, scv_a, scv_b, scs_, scs_a, fpi_, fpi_a, fpi_b, fpj_, fpj_a, fpj_b, foi_, foi_a, foi_b, foj_, foj_a, foj_b, aii_, aii_a, aii_b, aii_c, aiz_, aiz_a, aiz_b, aiz_c, aij_, aij_a, aij_b, aij_c, aoi_, aoi_a, aoi_b, aoi_c, aoj_, aoj_a, aoj_b, aoj_c, scopy_, scopy_a, scopy_b, scopy_c, scopy_d, scopy_e, ssw_, ssw_a, sel_n, sel_c, mfi_, mfi_a, mfj_, mfj_a, mfz_, mfz_a, kb_mfv_, mfv_, mfv_a, cut, lset, lset2, isL, Value.category, ent, entn, if_some, if_pair, if_cons, if_int, if_long, if_ref, ite_self, gz_b, ↓icb, ↓icb2, b2i_ne, ge0, ge1, ge2, ge3, ge4, ge5, ge6, ge7, ge8, ge9, ge10, ge11, ge12, ge13, ge14, lit32, nI_add, pk_mul, clt_nI, cle_nI, cgt_nI, cge_nI, ceq_nI, cne_nI, inr_nI, nI_clamp, nI_eq, nI_leI, nI_ltI, k0, f0_0, f0_2, k1_, k61, s1, g, t1, l1, n0M]
    · simp -implicitDefEqProofs (disch := omega) [DX8_noteAll, EX8_noteAll, kp_, bsome, bnone, gi_s, gj_s, gr_s, gv_s, ik_, jk_, il_, jl_, rl_, i2_, i2_a, i2_b, j2_, j2_a, j2_b, i2d_, i2d_a, i2d_b, j2d_, j2d_a, j2d_b, i1_, i1_a, j1_, j1_a, i2l_, i2l_a, l2i_, l2i_a, fgi_, fgi_a, fgj_, fgj_a, fgr_, fgr_a, iald_, iald_a, iald_b, zald_, zald_a, zald_b, jald_, jald_a, jald_b, rald_, rald_a, rald_b, alen_, alen_a, sald_, sald_a, ic_, ic_a, jc_, jc_a, bc_, bc_a, bc_b, bj_, bj_a, bj_b, bz_, bz_a, band_, band_a, bor_, bor_a, bnot_, bnot_a, anil_, ai_, ai_a, ai_b, aj_, aj_a, aj_b, ar_, ar_a, ar_b, kb2i_, cvi_, cvi_a, cvi_b, cvj_, cvj_a, cvj_b, cvz_, cvz_a, cvz_b, csi_, csi_a, csj_, csj_a, csz_, csz_a, snop_, sseq_, sseq_n, sseq_s, sif_, sif_a, scut_, scut_a, ssi_, ssi_a, ssj_, ssj_a, ssr_, ssr_a, sinc_, sinc_a, sret_, sret_a, sretj_, sretj_a, sretv_, spop_, spop_a, kc_scv_, scv_, scv_a, scv_b, scs_, scs_a, fpi_, fpi_a, fpi_b, fpj_, fpj_a, fpj_b, foi_, foi_a, foi_b, foj_, foj_a, foj_b, aii_, aii_a, aii_b, aii_c, aiz_, aiz_a, aiz_b, aiz_c, aij_, aij_a, aij_b, aij_c, aoi_, aoi_a, aoi_b, aoi_c, aoj_, aoj_a, aoj_b, aoj_c, scopy_, scopy_a, scopy_b, scopy_c, scopy_d, scopy_e, ssw_, ssw_a, sel_n, sel_c, mfi_, mfi_a, mfj_, mfj_a, mfz_, mfz_a, kb_mfv_, mfv_, mfv_a, cut, lset, lset2, isL, Value.category, ent, entn, if_some, if_pair, if_cons, if_int, if_long, if_ref, ite_self, gz_b, ↓icb, ↓icb2, b2i_ne, ge0, ge1, ge2, ge3, ge4, ge5, ge6, ge7, ge8, ge9, ge10, ge11, ge12, ge13, ge14, lit32, nI_add, pk_mul, clt_nI, cle_nI, cgt_nI, cge_nI, ceq_nI, cne_nI, inr_nI, nI_clamp, nI_eq, nI_leI, nI_ltI, k492, f492_2, f492_3, f492_4, f492_5, f492_7, f492_8, f492_9, f492_10, k493, k494, k495, k496, k497, k498, k499, k500, l493, l494, l495, l496, l497, l498, l499, l500, r1, rm, l2, zn0, tl]
end
