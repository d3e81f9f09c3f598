/-! ===== pump ===== -/
section
variable {X Y : Nat → Int32} {nc nt np nw tm : Nat} {M N : Me} {b : Nat}
set_option maxRecDepth 20000 in
theorem Vx.pN {n2 : Nat} (h : Vx X nc nt np nw tm) (hf : ∀ i, i < 331 → i ≠ 2 → ¬ (68 ≤ i ∧ i < 95) → Y i = X i) (h3 : Y 2 = nI n2) (hn : n2 ≤ 3) (hs : ∀ p, p < n2 → VxP Y nc tm p) (hw : ∀ c, c < nc → Bd (wtP Y (nI c) (wtT X (nI c) nt) n2) 120) : Vx Y nc nt n2 nw tm := by
  obtain ⟨h1, h2, h3', h4, h5, h6, h7, h8, h9⟩ := h
  refine ⟨?_, ⟨h2.1, h2.2.1, hn, h2.2.2.2⟩, ?_, fun c hc => ?_, fun t ht => ?_, hs, fun w hw => ?_, fun c hc => ?_, fun k hk c hc hc5 => ?_⟩
  · rw [hf 0 (by omega) (by omega) (by omega), hf 1 (by omega) (by omega) (by omega), hf 3 (by omega) (by omega) (by omega), hf 4 (by omega) (by omega) (by omega), hf 7 (by omega) (by omega) (by omega)]; exact ⟨h1.1, h1.2.1, h3, h1.2.2.2⟩
  · unfold VxL; rw [hf 5 (by omega) (by omega) (by omega), hf 6 (by omega) (by omega) (by omega)]; exact h3'
  · rw [hf _ (by omega) (by omega) (by omega), hf _ (by omega) (by omega) (by omega), hf _ (by omega) (by omega) (by omega), hf _ (by omega) (by omega) (by omega)]; exact h4 c hc
  · unfold VxT; rw [hf _ (by omega) (by omega) (by omega), hf _ (by omega) (by omega) (by omega), hf _ (by omega) (by omega) (by omega), hf _ (by omega) (by omega) (by omega)]; exact h5 t ht
  · unfold VxW; rw [hf _ (by omega) (by omega) (by omega), hf _ (by omega) (by omega) (by omega), hf _ (by omega) (by omega) (by omega), hf _ (by omega) (by omega) (by omega), hf _ (by omega) (by omega) (by omega)]; exact h7 w hw
  · rw [wtT_cg (fun i a1 a2 => hf i (by omega) (by omega) (by omega)) nt h2.2.1]; exact hw c hc
  · rw [hf _ (by omega) (by omega) (by omega)]; exact h9 k hk c hc hc5
set_option maxRecDepth 20000 in
theorem Lr.pN {n2 : Nat} (h : Lr M b X nc nt np nw tm) (hc : nc ≤ 5) (ht : nt ≤ 10) (hp : n2 ≤ 3) (hw : nw ≤ 6) (hf : ∀ i, i < 331 → i ≠ 2 → ¬ (68 ≤ i ∧ i < 95) → Y i = X i) (hg : ∀ a, b < a → a < b + 30 → ¬ (b + 19 ≤ a ∧ a < b + 22) → N.1 a = M.1 a) (hg2 : ∀ j, j ≠ 2 → N.1 b j = M.1 b j) (h3 : N.1 b 2 = nI n2) (hs : ∀ w, w < n2 → ∀ j, j < 9 → N.1 (b + 19 + w) j = Y (68 + 9 * w + j)) : Lr N b Y nc nt n2 nw tm := by
  obtain ⟨h0, h1, h2, h3', h4, h5, h6, h7⟩ := h
  refine ⟨h0, ?_, fun c hc1 j hj => ?_, fun c hc1 => ?_, fun t ht1 j hj => ?_, hs, fun w hw1 j hj => ?_, fun k hk c hc1 => ?_⟩
  · rw [hg2 0 (by omega), hg2 1 (by omega), hg2 3 (by omega), hg2 4 (by omega), hg2 5 (by omega), hg2 6 (by omega), hf 5 (by omega) (by omega) (by omega), hf 6 (by omega) (by omega) (by omega)]; exact ⟨h1.1, h1.2.1, h3, h1.2.2.2⟩
  · rw [hg _ (by omega) (by omega) (by omega), hf _ (by omega) (by omega) (by omega)]; exact h2 c hc1 j hj
  · rw [hg _ (by omega) (by omega) (by omega), hf _ (by omega) (by omega) (by omega)]; exact h3' c hc1
  · rw [hg _ (by omega) (by omega) (by omega), hf _ (by omega) (by omega) (by omega)]; exact h4 t ht1 j hj
  · rw [hg _ (by omega) (by omega) (by omega), hf _ (by omega) (by omega) (by omega)]; exact h6 w hw1 j hj
  · rw [hg _ (by omega) (by omega) (by omega), hf _ (by omega) (by omega) (by omega)]; exact h7 k hk c hc1
end
set_option maxRecDepth 20000 in
theorem gsp_3 {X : Nat → Int32} {p s : Nat} (h1 : 1 ≤ s) (h2 : s ≤ 40) (h : ∀ k, k < 3 → X (68 + 9 * p + 2 + k) = nI s) : gsp X p 3 = nI s := by
  have e0 : (0 : Int32) < nI s := by
    have := (nI_ltI (a := 0) (b := s) (by omega) (by omega)).mpr (by omega)
    exact this
  have e1 : ¬ nI s < nI s := fun q => by have := (nI_ltI (by omega) (by omega)).mp q; omega
  have q1 : gsp X p 1 = nI s := by
    show (if gsp X p 0 < X (68 + 9 * p + 2 + 0) then X (68 + 9 * p + 2 + 0) else gsp X p 0) = _
    rw [h 0 (by decide)]; exact if_pos e0
  have q2 : gsp X p 2 = nI s := by
    show (if gsp X p 1 < X (68 + 9 * p + 2 + 1) then X (68 + 9 * p + 2 + 1) else gsp X p 1) = _
    rw [h 1 (by decide), q1]; exact if_neg e1
  show (if gsp X p 2 < X (68 + 9 * p + 2 + 2) then X (68 + 9 * p + 2 + 2) else gsp X p 2) = _
  rw [h 2 (by decide), q2]; exact if_neg e1
set_option maxRecDepth 20000 in
theorem bw_ex1 {x : Int32} {m n : Nat} (h : bw x m n = true) : ∃ j, m ≤ j ∧ j ≤ n ∧ x = nI j := by
  have h0 : bw x 0 n = true := by
    simp only [bw, Bool.and_eq_true, decide_eq_true_eq] at h ⊢
    exact ⟨by omega, h.2⟩
  obtain ⟨j, h1, rfl⟩ := bw_ex h0
  simp only [bw, Bool.and_eq_true, decide_eq_true_eq] at h
  by_cases e : j < 2 ^ 31
  · rw [nI_toInt e] at h
    exact ⟨j, by omega, h1, rfl⟩
  · have hz : ∃ i : Nat, (nI j).toInt = (i : Int) ∧ i < 2 ^ 31 := by
      have a1 := (nI j).toInt_lt
      exact ⟨(nI j).toInt.toNat, by omega, by omega⟩
    obtain ⟨i, e1, e2⟩ := hz
    refine ⟨i, by omega, by omega, ?_⟩
    apply Int32.toInt_inj.mp
    rw [nI_toInt e2, e1]
def fl3 (M : Me) (lo n : Nat) (v : Int32) : Me := (fun q j => if q = 494 ∧ lo ≤ j ∧ j < lo + n then v else M.1 q j, M.2)
set_option maxRecDepth 20000 in
theorem fl3_0 {M : Me} {lo : Nat} {v : Int32} : fl3 M lo 0 v = M := by
  unfold fl3
  have : (fun q j => if q = 494 ∧ lo ≤ j ∧ j < lo + 0 then v else M.1 q j) = M.1 := by
    funext q j
    rw [if_neg (by omega)]
  rw [this]
set_option maxRecDepth 20000 in
theorem fl3_s {M : Me} {lo n : Nat} {v : Int32} : wi (fl3 M lo n v) 494 (lo + n) v = fl3 M lo (n + 1) v := by
  unfold fl3 wi
  simp only [Prod.mk.injEq, and_true]
  funext q j
  by_cases e1 : q = 494 ∧ j = lo + n
  · obtain ⟨rfl, rfl⟩ := e1
    rw [if_pos ⟨rfl, rfl⟩, if_pos ⟨rfl, by omega, by omega⟩]
  · rw [if_neg e1]
    by_cases e3 : q = 494 ∧ lo ≤ j ∧ j < lo + n
    · rw [if_pos e3, if_pos (by omega)]
    · rw [if_neg e3, if_neg (by omega)]
set_option maxRecDepth 20000 in
theorem fl3_ne {M : Me} {lo n q : Nat} {v : Int32} (h : q ≠ 494) : (fl3 M lo n v).1 q = M.1 q := by
  funext j
  simp [fl3, h]
set_option maxRecDepth 20000 in
theorem fl3_out {M : Me} {lo n j : Nat} {v : Int32} (h : j < lo ∨ lo + n ≤ j) : (fl3 M lo n v).1 494 j = M.1 494 j := by
  simp only [fl3]
  rw [if_neg (by omega)]
set_option maxRecDepth 20000 in
theorem fl3_in {M : Me} {lo n j : Nat} {v : Int32} (h : lo ≤ j) (h2 : j < lo + n) : (fl3 M lo n v).1 494 j = v := by
  simp only [fl3]
  rw [if_pos ⟨by trivial, h, h2⟩]
def pf9 (c s : Int32) (j : Nat) : Int32 := if j = 0 then c else if j = 1 then nI 1 else if j < 5 then s else if j = 5 then nI 1 else if j = 6 then nI 2 else nI 0
set_option maxRecDepth 20000 in
theorem ac_pump {M : Me} {nc nt np nw tm o u : Nat} (h : Core M nc nt np nw tm o u) (x0 x1 : Int32) : Act DX7_pump DX8_pump [.int x0, .int x1] M := by
  have hb := h.1.2.1
  have hn1 := h.2.1.2.1.2.2.1
  have hnc := h.2.1.2.1.1
  have hr1 := h.1.1.2.2.1
  have hrc := h.1.1.1
  have hrt := h.1.1.2.1
  by_cases g0 : bw x1 1 40 = true
  · by_cases hx : inr x0 nc = true
    · obtain ⟨c0, hc0, rfl⟩ := inr_ex hx
      obtain ⟨s, hs1, hs2, rfl⟩ := bw_ex1 (m := 1) (n := 40) g0
      obtain ⟨W, hW, hW2⟩ := h.1.2.2.2.2.2.2.2.1 c0 hc0
      have wc : DX1_weight [.ref 1, .int (nI c0)] M = some (nI W, M) := by rw [c_weight h.2.1 h.1, hW]
      have wr : ∀ N : Me, N.1 494 = M.1 494 → DX8_weight [.ref 492, .int (nI c0)] N = some (nI W, N) := fun N hN => by
        rw [r_weight (nt := nt) (np := np) (by rw [hN]; exact hrt) (by rw [hN]; exact hr1) hb.2.1 hb.2.2.1, hN, hW]
      by_cases hF : np = 3 ∨ 120 < W + s
      · refine act_rf2 (k := 5) (i := 3) h (by omega) ?_ ?_
        · have y : 3 ≤ np ∨ 120 < W + s := by omega
          simp -implicitDefEqProofs (disch := omega) [DX7_pump, EX7_pump, kp_, bsome, bnone, gi_s, gj_s, gr_s, gv_s, ik_, jk_, il_, jl_, rl_, i2_, i2_a, i2_b, j2_, j2_a, j2_b, i2d_, i2d_a, i2d_b, j2d_, j2d_a, j2d_b, i1_, i1_a, j1_, j1_a, i2l_, i2l_a, l2i_, l2i_a, fgi_, fgi_a, fgj_, fgj_a, fgr_, fgr_a, iald_, iald_a, iald_b, zald_, zald_a, zald_b, jald_, jald_a, jald_b, rald_, rald_a, rald_b, alen_, alen_a, sald_, sald_a, ic_, ic_a, jc_, jc_a, bc_, bc_a, bc_b, bj_, bj_a, bj_b, bz_, bz_a, band_, band_a, bor_, bor_a, bnot_, bnot_a, anil_, ai_, ai_a, ai_b, aj_, aj_a, aj_b, ar_, ar_a, ar_b, kb2i_, cvi_, cvi_a, cvi_b, cvj_, cvj_a, cvj_b, cvz_, cvz_a, cvz_b, csi_, csi_a, csj_, csj_a, csz_, csz_a, snop_, sseq_, sseq_n, sseq_s, sif_, sif_a, scut_, scut_a, ssi_, ssi_a, ssj_, ssj_a, ssr_, ssr_a, sinc_, sinc_a, sret_, sret_a, sretj_, sretj_a, sretv_, spop_, spop_a, kc_scv_, scv_, scv_a, scv_b, scs_, scs_a, fpi_, fpi_a, fpi_b, fpj_, fpj_a, fpj_b, foi_, foi_a, foi_b, foj_, foj_a, foj_b, aii_, aii_a, aii_b, aii_c, aiz_, aiz_a, aiz_b, aiz_c, aij_, aij_a, aij_b, aij_c, aoi_, aoi_a, aoi_b, aoi_c, aoj_, aoj_a, aoj_b, aoj_c, scopy_, scopy_a, scopy_b, scopy_c, scopy_d, scopy_e, ssw_, ssw_a, sel_n, sel_c, mfi_, mfi_a, mfj_, mfj_a, mfz_, mfz_a, kb_mfv_, mfv_, mfv_a, cut, lset, lset2, isL, Value.category, ent, entn, if_some, if_pair, if_cons, if_int, if_long, if_ref, ite_self, gz_b, ↓icb, ↓icb2, b2i_ne, ge0, ge1, ge2, ge3, ge4, ge5, ge6, ge7, ge8, ge9, ge10, ge11, ge12, ge13, ge14, lit32, nI_add, pk_mul, clt_nI, cle_nI, cgt_nI, cge_nI, ceq_nI, cne_nI, inr_nI, nI_clamp, nI_eq, nI_leI, nI_ltI, k0, f0_0, k1_, hn1, c_isChamber hnc, hx, wc, c_refuse5, c_within, g0, y, nI_toInt]
        · have e5 : (wi (rfC M 5 3) 492 0 (nI 0)).1 494 = M.1 494 := by rw [wi_ne (by decide), rfC_r (by decide) (by decide)]
          have hq : (wi (rfC M 5 3) 492 0 (nI 0)).1 494 2 = nI np := by rw [e5]; exact hr1
          have hq2 : (wi (rfC M 5 3) 492 0 (nI 0)).1 494 0 = nI nc := by rw [e5]; exact hrc
          have w2 := wr _ e5
          simp -implicitDefEqProofs (disch := omega) [DX8_pump, EX8_pump, kp_, bsome, bnone, gi_s, gj_s, gr_s, gv_s, ik_, jk_, il_, jl_, rl_, i2_, i2_a, i2_b, j2_, j2_a, j2_b, i2d_, i2d_a, i2d_b, j2d_, j2d_a, j2d_b, i1_, i1_a, j1_, j1_a, i2l_, i2l_a, l2i_, l2i_a, fgi_, fgi_a, fgj_, fgj_a, fgr_, fgr_a, iald_, iald_a, iald_b, zald_, zald_a, zald_b, jald_, jald_a, jald_b, rald_, rald_a, rald_b, alen_, alen_a, sald_, sald_a, ic_, ic_a, jc_, jc_a, bc_, bc_a, bc_b, bj_, bj_a, bj_b, bz_, bz_a, band_, band_a, bor_, bor_a, bnot_, bnot_a, anil_, ai_, ai_a, ai_b, aj_, aj_a, aj_b, ar_, ar_a, ar_b, kb2i_, cvi_, cvi_a, cvi_b, cvj_, cvj_a, cvj_b, cvz_, cvz_a, cvz_b, csi_, csi_a, csj_, csj_a, csz_, csz_a, snop_, sseq_, sseq_n, sseq_s, sif_, sif_a, scut_, scut_a, ssi_, ssi_a, ssj_, ssj_a, ssr_, ssr_a, sinc_, sinc_a, sret_, sret_a, sretj_, sretj_a, sretv_, spop_, spop_a, kc_scv_, scv_, scv_a, scv_b, scs_, scs_a, fpi_, fpi_a, fpi_b, fpj_, fpj_a, fpj_b, foi_, foi_a, foi_b, foj_, foj_a, foj_b, aii_, aii_a, aii_b, aii_c, aiz_, aiz_a, aiz_b, aiz_c, aij_, aij_a, aij_b, aij_c, aoi_, aoi_a, aoi_b, aoi_c, aoj_, aoj_a, aoj_b, aoj_c, scopy_, scopy_a, scopy_b, scopy_c, scopy_d, scopy_e, ssw_, ssw_a, sel_n, sel_c, mfi_, mfi_a, mfj_, mfj_a, mfz_, mfz_a, kb_mfv_, mfv_, mfv_a, cut, lset, lset2, isL, Value.category, ent, entn, if_some, if_pair, if_cons, if_int, if_long, if_ref, ite_self, gz_b, ↓icb, ↓icb2, b2i_ne, ge0, ge1, ge2, ge3, ge4, ge5, ge6, ge7, ge8, ge9, ge10, ge11, ge12, ge13, ge14, lit32, nI_add, pk_mul, clt_nI, cle_nI, cgt_nI, cge_nI, ceq_nI, cne_nI, inr_nI, nI_clamp, nI_eq, nI_leI, nI_ltI, k492, f492_2, f492_3, f492_4, f492_5, f492_7, f492_8, f492_9, f492_10, k493, k494, k495, k496, k497, k498, k499, k500, l493, l494, l495, l496, l497, l498, l499, l500, hq, r_isChamber hq2, hx, w2, hF, r_refuse5', r_in, l_in2, g0]
      · have hp3 : np < 3 := by omega
        have y1 : ¬ 3 ≤ np := by omega
        have y2 : ¬ 120 < W + s := by omega
        have y3 : ¬ np = 3 := by omega
        obtain ⟨Ma, Mk, a1, -, -, a4, a5, -⟩ := c_accept (nI 2) h
        have eA : Ma.1 1 2 = nI np := by rw [a4 1 (by omega)]; exact hn1
        obtain ⟨Mp, eMp⟩ : ∃ Mp : Me, Mp = wi (wi (wi (wi (wi (wi (wi (wi (wi Ma (1 + 19 + np) 0 (nI c0)) (1 + 19 + np) 1 (nI 1)) (1 + 19 + np) 2 (nI s)) (1 + 19 + np) 3 (nI s)) (1 + 19 + np) 4 (nI s)) (1 + 19 + np) 5 (nI 1)) (1 + 19 + np) 6 (nI 2)) (1 + 19 + np) 7 (nI 0)) (1 + 19 + np) 8 (nI 0) := ⟨_, rfl⟩
        obtain ⟨M1, eM1⟩ : ∃ M1 : Me, M1 = wi Mp 1 2 (nI (np + 1)) := ⟨_, rfl⟩
        have pO : ∀ a, a ≠ 1 + 19 + np → Mp.1 a = Ma.1 a := fun a z => by rw [eMp]; simp only [wi_ne z]
        have pI : ∀ j, j < 9 → Mp.1 (1 + 19 + np) j = pf9 (nI c0) (nI s) j := fun j hj => by
          rw [eMp]
          rcases (by omega : j = 0 ∨ j = 1 ∨ j = 2 ∨ j = 3 ∨ j = 4 ∨ j = 5 ∨ j = 6 ∨ j = 7 ∨ j = 8) with rfl | rfl | rfl | rfl | rfl | rfl | rfl | rfl | rfl <;> simp [wi, pf9]
        have kT := a_kp m1_ np hp3
        have lT := a_lp m1_ np hp3
        have cc : DX1_addPump [.ref 1, .int (nI c0), .int (nI s)] Ma = some (nI np, M1) := by
          have z : Mp.1 1 2 = nI np := by rw [pO 1 (by omega), eA]
          have z2 : ∀ Q : Me, (wi Q 1 2 (nI (np + 1))).1 1 2 = nI (np + 1) := fun Q => by simp [wi]
          rw [eMp] at z
          rw [eM1, eMp]
          simp -implicitDefEqProofs (disch := omega) [DX1_addPump, EX1_addPump, kp_, bsome, bnone, gi_s, gj_s, gr_s, gv_s, ik_, jk_, il_, jl_, rl_, i2_, i2_a, i2_b, j2_, j2_a, j2_b, i2d_, i2d_a, i2d_b, j2d_, j2d_a, j2d_b, i1_, i1_a, j1_, j1_a, i2l_, i2l_a, l2i_, l2i_a, fgi_, fgi_a, fgj_, fgj_a, fgr_, fgr_a, iald_, iald_a, iald_b, zald_, zald_a, zald_b, jald_, jald_a, jald_b, rald_, rald_a, rald_b, alen_, alen_a, sald_, sald_a, ic_, ic_a, jc_, jc_a, bc_, bc_a, bc_b, bj_, bj_a, bj_b, bz_, bz_a, band_, band_a, bor_, bor_a, bnot_, bnot_a, anil_, ai_, ai_a, ai_b, aj_, aj_a, aj_b, ar_, ar_a, ar_b, kb2i_, cvi_, cvi_a, cvi_b, cvj_, cvj_a, cvj_b, cvz_, cvz_a, cvz_b, csi_, csi_a, csj_, csj_a, csz_, csz_a, snop_, sseq_, sseq_n, sseq_s, sif_, sif_a, scut_, scut_a, ssi_, ssi_a, ssj_, ssj_a, ssr_, ssr_a, sinc_, sinc_a, sret_, sret_a, sretj_, sretj_a, sretv_, spop_, spop_a, kc_scv_, scv_, scv_a, scv_b, scs_, scs_a, fpi_, fpi_a, fpi_b, fpj_, fpj_a, fpj_b, foi_, foi_a, foi_b, foj_, foj_a, foj_b, aii_, aii_a, aii_b, aii_c, aiz_, aiz_a, aiz_b, aiz_c, aij_, aij_a, aij_b, aij_c, aoi_, aoi_a, aoi_b, aoi_c, aoj_, aoj_a, aoj_b, aoj_c, scopy_, scopy_a, scopy_b, scopy_c, scopy_d, scopy_e, ssw_, ssw_a, sel_n, sel_c, mfi_, mfi_a, mfj_, mfj_a, mfz_, mfz_a, kb_mfv_, mfv_, mfv_a, cut, lset, lset2, isL, Value.category, ent, entn, if_some, if_pair, if_cons, if_int, if_long, if_ref, ite_self, gz_b, ↓icb, ↓icb2, b2i_ne, ge0, ge1, ge2, ge3, ge4, ge5, ge6, ge7, ge8, ge9, ge10, ge11, ge12, ge13, ge14, lit32, nI_add, pk_mul, clt_nI, cle_nI, cgt_nI, cge_nI, ceq_nI, cne_nI, inr_nI, nI_clamp, nI_eq, nI_leI, nI_ltI, k1_, a_11 m1_, a_k18 m1_, a_l18 m1_, a_rp m1_, eA, kT, lT, hp3, z, z2, pk_sub]
        have f1 : ∀ a, ¬ (1 ≤ a ∧ a < 31) → M1.1 a = Ma.1 a := fun a z => by rw [eM1, wi_ne (by omega), pO a (by omega)]
        obtain ⟨Nz, hr, n1, n2, n3⟩ := r_rem (M1 := M1) (nI 2) h a4 f1
        have c : DX7_pump [.ref 0, .int (nI c0), .int (nI s)] M = some (nI np, M1) := by
          simp -implicitDefEqProofs (disch := omega) [DX7_pump, EX7_pump, kp_, bsome, bnone, gi_s, gj_s, gr_s, gv_s, ik_, jk_, il_, jl_, rl_, i2_, i2_a, i2_b, j2_, j2_a, j2_b, i2d_, i2d_a, i2d_b, j2d_, j2d_a, j2d_b, i1_, i1_a, j1_, j1_a, i2l_, i2l_a, l2i_, l2i_a, fgi_, fgi_a, fgj_, fgj_a, fgr_, fgr_a, iald_, iald_a, iald_b, zald_, zald_a, zald_b, jald_, jald_a, jald_b, rald_, rald_a, rald_b, alen_, alen_a, sald_, sald_a, ic_, ic_a, jc_, jc_a, bc_, bc_a, bc_b, bj_, bj_a, bj_b, bz_, bz_a, band_, band_a, bor_, bor_a, bnot_, bnot_a, anil_, ai_, ai_a, ai_b, aj_, aj_a, aj_b, ar_, ar_a, ar_b, kb2i_, cvi_, cvi_a, cvi_b, cvj_, cvj_a, cvj_b, cvz_, cvz_a, cvz_b, csi_, csi_a, csj_, csj_a, csz_, csz_a, snop_, sseq_, sseq_n, sseq_s, sif_, sif_a, scut_, scut_a, ssi_, ssi_a, ssj_, ssj_a, ssr_, ssr_a, sinc_, sinc_a, sret_, sret_a, sretj_, sretj_a, sretv_, spop_, spop_a, kc_scv_, scv_, scv_a, scv_b, scs_, scs_a, fpi_, fpi_a, fpi_b, fpj_, fpj_a, fpj_b, foi_, foi_a, foi_b, foj_, foj_a, foj_b, aii_, aii_a, aii_b, aii_c, aiz_, aiz_a, aiz_b, aiz_c, aij_, aij_a, aij_b, aij_c, aoi_, aoi_a, aoi_b, aoi_c, aoj_, aoj_a, aoj_b, aoj_c, scopy_, scopy_a, scopy_b, scopy_c, scopy_d, scopy_e, ssw_, ssw_a, sel_n, sel_c, mfi_, mfi_a, mfj_, mfj_a, mfz_, mfz_a, kb_mfv_, mfv_, mfv_a, cut, lset, lset2, isL, Value.category, ent, entn, if_some, if_pair, if_cons, if_int, if_long, if_ref, ite_self, gz_b, ↓icb, ↓icb2, b2i_ne, ge0, ge1, ge2, ge3, ge4, ge5, ge6, ge7, ge8, ge9, ge10, ge11, ge12, ge13, ge14, lit32, nI_add, pk_mul, clt_nI, cle_nI, cgt_nI, cge_nI, ceq_nI, cne_nI, inr_nI, nI_clamp, nI_eq, nI_leI, nI_ltI, k0, f0_0, k1_, hn1, c_isChamber hnc, hx, wc, y1, y2, a1, cc, c_within, g0, nI_toInt]
        have hq : (wi M1 492 0 (nI 0)).1 494 2 = nI np := by rw [wi_ne (by decide), n3]; exact hr1
        have hq2 : (wi M1 492 0 (nI 0)).1 494 0 = nI nc := by rw [wi_ne (by decide), n3]; exact hrc
        have w2 := wr (wi M1 492 0 (nI 0)) (by rw [wi_ne (by decide), n3])
        obtain ⟨N0, eN0⟩ : ∃ N0 : Me, N0 = wi (wi Nz 494 (68 + 9 * np) (nI c0)) 494 (68 + 9 * np + 1) (nI 1) := ⟨_, rfl⟩
        have l1 : swh qX8_pump_1 wX8_pump_1 [.ref 492, .int (nI c0), .int (nI s), .int (nI np), .int (nI (68 + 9 * np)), .int (nI 0)] N0 = some (none, [.ref 492, .int (nI c0), .int (nI s), .int (nI np), .int (nI (68 + 9 * np)), .int (nI 3)], fl3 N0 (68 + 9 * np + 2) 3 (nI s)) := by
          have := swh_count (c := qX8_pump_1) (b := wX8_pump_1) (fun i => [.ref 492, .int (nI c0), .int (nI s), .int (nI np), .int (nI (68 + 9 * np)), .int (nI i)]) (fun i => fl3 N0 (68 + 9 * np + 2) i (nI s)) 3
            (fun i hi => by simp -implicitDefEqProofs (disch := omega) [qX8_pump_1, kp_, bsome, bnone, gi_s, gj_s, gr_s, gv_s, ik_, jk_, il_, jl_, rl_, i2_, i2_a, i2_b, j2_, j2_a, j2_b, i2d_, i2d_a, i2d_b, j2d_, j2d_a, j2d_b, i1_, i1_a, j1_, j1_a, i2l_, i2l_a, l2i_, l2i_a, fgi_, fgi_a, fgj_, fgj_a, fgr_, fgr_a, iald_, iald_a, iald_b, zald_, zald_a, zald_b, jald_, jald_a, jald_b, rald_, rald_a, rald_b, alen_, alen_a, sald_, sald_a, ic_, ic_a, jc_, jc_a, bc_, bc_a, bc_b, bj_, bj_a, bj_b, bz_, bz_a, band_, band_a, bor_, bor_a, bnot_, bnot_a, anil_, ai_, ai_a, ai_b, aj_, aj_a, aj_b, ar_, ar_a, ar_b, kb2i_, cvi_, cvi_a, cvi_b, cvj_, cvj_a, cvj_b, cvz_, cvz_a, cvz_b, csi_, csi_a, csj_, csj_a, csz_, csz_a, snop_, sseq_, sseq_n, sseq_s, sif_, sif_a, scut_, scut_a, ssi_, ssi_a, ssj_, ssj_a, ssr_, ssr_a, sinc_, sinc_a, sret_, sret_a, sretj_, sretj_a, sretv_, spop_, spop_a, kc_scv_, scv_, scv_a, scv_b, scs_, scs_a, fpi_, fpi_a, fpi_b, fpj_, fpj_a, fpj_b, foi_, foi_a, foi_b, foj_, foj_a, foj_b, aii_, aii_a, aii_b, aii_c, aiz_, aiz_a, aiz_b, aiz_c, aij_, aij_a, aij_b, aij_c, aoi_, aoi_a, aoi_b, aoi_c, aoj_, aoj_a, aoj_b, aoj_c, scopy_, scopy_a, scopy_b, scopy_c, scopy_d, scopy_e, ssw_, ssw_a, sel_n, sel_c, mfi_, mfi_a, mfj_, mfj_a, mfz_, mfz_a, kb_mfv_, mfv_, mfv_a, cut, lset, lset2, isL, Value.category, ent, entn, if_some, if_pair, if_cons, if_int, if_long, if_ref, ite_self, gz_b, ↓icb, ↓icb2, b2i_ne, ge0, ge1, ge2, ge3, ge4, ge5, ge6, ge7, ge8, ge9, ge10, ge11, ge12, ge13, ge14, lit32, nI_add, pk_mul, clt_nI, cle_nI, cgt_nI, cge_nI, ceq_nI, cne_nI, inr_nI, nI_clamp, nI_eq, nI_leI, nI_ltI, k492, f492_2, f492_3, f492_4, f492_5, f492_7, f492_8, f492_9, f492_10, k493, k494, k495, k496, k497, k498, k499, k500, l493, l494, l495, l496, l497, l498, l499, l500, hi])
            (fun i hi => by simp -implicitDefEqProofs (disch := omega) [wX8_pump_1, kp_, bsome, bnone, gi_s, gj_s, gr_s, gv_s, ik_, jk_, il_, jl_, rl_, i2_, i2_a, i2_b, j2_, j2_a, j2_b, i2d_, i2d_a, i2d_b, j2d_, j2d_a, j2d_b, i1_, i1_a, j1_, j1_a, i2l_, i2l_a, l2i_, l2i_a, fgi_, fgi_a, fgj_, fgj_a, fgr_, fgr_a, iald_, iald_a, iald_b, zald_, zald_a, zald_b, jald_, jald_a, jald_b, rald_, rald_a, rald_b, alen_, alen_a, sald_, sald_a, ic_, ic_a, jc_, jc_a, bc_, bc_a, bc_b, bj_, bj_a, bj_b, bz_, bz_a, band_, band_a, bor_, bor_a, bnot_, bnot_a, anil_, ai_, ai_a, ai_b, aj_, aj_a, aj_b, ar_, ar_a, ar_b, kb2i_, cvi_, cvi_a, cvi_b, cvj_, cvj_a, cvj_b, cvz_, cvz_a, cvz_b, csi_, csi_a, csj_, csj_a, csz_, csz_a, snop_, sseq_, sseq_n, sseq_s, sif_, sif_a, scut_, scut_a, ssi_, ssi_a, ssj_, ssj_a, ssr_, ssr_a, sinc_, sinc_a, sret_, sret_a, sretj_, sretj_a, sretv_, spop_, spop_a, kc_scv_, scv_, scv_a, scv_b, scs_, scs_a, fpi_, fpi_a, fpi_b, fpj_, fpj_a, fpj_b, foi_, foi_a, foi_b, foj_, foj_a, foj_b, aii_, aii_a, aii_b, aii_c, aiz_, aiz_a, aiz_b, aiz_c, aij_, aij_a, aij_b, aij_c, aoi_, aoi_a, aoi_b, aoi_c, aoj_, aoj_a, aoj_b, aoj_c, scopy_, scopy_a, scopy_b, scopy_c, scopy_d, scopy_e, ssw_, ssw_a, sel_n, sel_c, mfi_, mfi_a, mfj_, mfj_a, mfz_, mfz_a, kb_mfv_, mfv_, mfv_a, cut, lset, lset2, isL, Value.category, ent, entn, if_some, if_pair, if_cons, if_int, if_long, if_ref, ite_self, gz_b, ↓icb, ↓icb2, b2i_ne, ge0, ge1, ge2, ge3, ge4, ge5, ge6, ge7, ge8, ge9, ge10, ge11, ge12, ge13, ge14, lit32, nI_add, pk_mul, clt_nI, cle_nI, cgt_nI, cge_nI, ceq_nI, cne_nI, inr_nI, nI_clamp, nI_eq, nI_leI, nI_ltI, k492, f492_2, f492_3, f492_4, f492_5, f492_7, f492_8, f492_9, f492_10, k493, k494, k495, k496, k497, k498, k499, k500, l493, l494, l495, l496, l497, l498, l499, l500, fl3_s])
            (by simp -implicitDefEqProofs (disch := omega) [qX8_pump_1, kp_, bsome, bnone, gi_s, gj_s, gr_s, gv_s, ik_, jk_, il_, jl_, rl_, i2_, i2_a, i2_b, j2_, j2_a, j2_b, i2d_, i2d_a, i2d_b, j2d_, j2d_a, j2d_b, i1_, i1_a, j1_, j1_a, i2l_, i2l_a, l2i_, l2i_a, fgi_, fgi_a, fgj_, fgj_a, fgr_, fgr_a, iald_, iald_a, iald_b, zald_, zald_a, zald_b, jald_, jald_a, jald_b, rald_, rald_a, rald_b, alen_, alen_a, sald_, sald_a, ic_, ic_a, jc_, jc_a, bc_, bc_a, bc_b, bj_, bj_a, bj_b, bz_, bz_a, band_, band_a, bor_, bor_a, bnot_, bnot_a, anil_, ai_, ai_a, ai_b, aj_, aj_a, aj_b, ar_, ar_a, ar_b, kb2i_, cvi_, cvi_a, cvi_b, cvj_, cvj_a, cvj_b, cvz_, cvz_a, cvz_b, csi_, csi_a, csj_, csj_a, csz_, csz_a, snop_, sseq_, sseq_n, sseq_s, sif_, sif_a, scut_, scut_a, ssi_, ssi_a, ssj_, ssj_a, ssr_, ssr_a, sinc_, sinc_a, sret_, sret_a, sretj_, sretj_a, sretv_, spop_, spop_a, kc_scv_, scv_, scv_a, scv_b, scs_, scs_a, fpi_, fpi_a, fpi_b, fpj_, fpj_a, fpj_b, foi_, foi_a, foi_b, foj_, foj_a, foj_b, aii_, aii_a, aii_b, aii_c, aiz_, aiz_a, aiz_b, aiz_c, aij_, aij_a, aij_b, aij_c, aoi_, aoi_a, aoi_b, aoi_c, aoj_, aoj_a, aoj_b, aoj_c, scopy_, scopy_a, scopy_b, scopy_c, scopy_d, scopy_e, ssw_, ssw_a, sel_n, sel_c, mfi_, mfi_a, mfj_, mfj_a, mfz_, mfz_a, kb_mfv_, mfv_, mfv_a, cut, lset, lset2, isL, Value.category, ent, entn, if_some, if_pair, if_cons, if_int, if_long, if_ref, ite_self, gz_b, ↓icb, ↓icb2, b2i_ne, ge0, ge1, ge2, ge3, ge4, ge5, ge6, ge7, ge8, ge9, ge10, ge11, ge12, ge13, ge14, lit32, nI_add, pk_mul, clt_nI, cle_nI, cgt_nI, cge_nI, ceq_nI, cne_nI, inr_nI, nI_clamp, nI_eq, nI_leI, nI_ltI, k492, f492_2, f492_3, f492_4, f492_5, f492_7, f492_8, f492_9, f492_10, k493, k494, k495, k496, k497, k498, k499, k500, l493, l494, l495, l496, l497, l498, l499, l500])
          rwa [fl3_0] at this
        obtain ⟨N9, eN9⟩ : ∃ N9 : Me, N9 = wi (wi (wi (wi (fl3 N0 (68 + 9 * np + 2) 3 (nI s)) 494 (68 + 9 * np + 5) (nI 1)) 494 (68 + 9 * np + 6) (nI 2)) 494 (68 + 9 * np + 7) (nI 0)) 494 (68 + 9 * np + 8) (nI 0) := ⟨_, rfl⟩
        obtain ⟨M2, eM2⟩ : ∃ M2 : Me, M2 = wi (wi N9 494 2 (nI (np + 1))) 492 1 (nI 0) := ⟨_, rfl⟩
        have nO : ∀ i, ¬ (68 + 9 * np ≤ i ∧ i < 77 + 9 * np) → N9.1 494 i = M.1 494 i := fun i hi => by
          rw [eN9, wi_ns (by omega), wi_ns (by omega), wi_ns (by omega), wi_ns (by omega), fl3_out (by omega), eN0, wi_ns (by omega), wi_ns (by omega), n1]
        have nI9 : ∀ j, j < 9 → N9.1 494 (68 + 9 * np + j) = pf9 (nI c0) (nI s) j := fun j hj => by
          rw [eN9]
          by_cases e1 : j < 2
          · rw [wi_ns (by omega), wi_ns (by omega), wi_ns (by omega), wi_ns (by omega), fl3_out (by omega), eN0]
            rcases (by omega : j = 0 ∨ j = 1) with rfl | rfl <;> simp [wi, pf9]
          · by_cases e2 : j < 5
            · rw [wi_ns (by omega), wi_ns (by omega), wi_ns (by omega), wi_ns (by omega), fl3_in (by omega) (by omega)]
              simp [pf9, show ¬ j = 0 by omega, show ¬ j = 1 by omega, e2]
            · rcases (by omega : j = 5 ∨ j = 6 ∨ j = 7 ∨ j = 8) with rfl | rfl | rfl | rfl <;> simp [wi, pf9]
        have r : DX8_pump [.ref 492, .int (nI c0), .int (nI s)] M1 = some (nI np, M2) := by
          have z : N9.1 494 2 = nI np := by rw [nO 2 (by omega)]; exact hr1
          rw [eN9] at z
          rw [eM2, eN9]
          simp -implicitDefEqProofs (disch := omega) [DX8_pump, EX8_pump, kp_, bsome, bnone, gi_s, gj_s, gr_s, gv_s, ik_, jk_, il_, jl_, rl_, i2_, i2_a, i2_b, j2_, j2_a, j2_b, i2d_, i2d_a, i2d_b, j2d_, j2d_a, j2d_b, i1_, i1_a, j1_, j1_a, i2l_, i2l_a, l2i_, l2i_a, fgi_, fgi_a, fgj_, fgj_a, fgr_, fgr_a, iald_, iald_a, iald_b, zald_, zald_a, zald_b, jald_, jald_a, jald_b, rald_, rald_a, rald_b, alen_, alen_a, sald_, sald_a, ic_, ic_a, jc_, jc_a, bc_, bc_a, bc_b, bj_, bj_a, bj_b, bz_, bz_a, band_, band_a, bor_, bor_a, bnot_, bnot_a, anil_, ai_, ai_a, ai_b, aj_, aj_a, aj_b, ar_, ar_a, ar_b, kb2i_, cvi_, cvi_a, cvi_b, cvj_, cvj_a, cvj_b, cvz_, cvz_a, cvz_b, csi_, csi_a, csj_, csj_a, csz_, csz_a, snop_, sseq_, sseq_n, sseq_s, sif_, sif_a, scut_, scut_a, ssi_, ssi_a, ssj_, ssj_a, ssr_, ssr_a, sinc_, sinc_a, sret_, sret_a, sretj_, sretj_a, sretv_, spop_, spop_a, kc_scv_, scv_, scv_a, scv_b, scs_, scs_a, fpi_, fpi_a, fpi_b, fpj_, fpj_a, fpj_b, foi_, foi_a, foi_b, foj_, foj_a, foj_b, aii_, aii_a, aii_b, aii_c, aiz_, aiz_a, aiz_b, aiz_c, aij_, aij_a, aij_b, aij_c, aoi_, aoi_a, aoi_b, aoi_c, aoj_, aoj_a, aoj_b, aoj_c, scopy_, scopy_a, scopy_b, scopy_c, scopy_d, scopy_e, ssw_, ssw_a, sel_n, sel_c, mfi_, mfi_a, mfj_, mfj_a, mfz_, mfz_a, kb_mfv_, mfv_, mfv_a, cut, lset, lset2, isL, Value.category, ent, entn, if_some, if_pair, if_cons, if_int, if_long, if_ref, ite_self, gz_b, ↓icb, ↓icb2, b2i_ne, ge0, ge1, ge2, ge3, ge4, ge5, ge6, ge7, ge8, ge9, ge10, ge11, ge12, ge13, ge14, lit32, nI_add, pk_mul, clt_nI, cle_nI, cgt_nI, cge_nI, ceq_nI, cne_nI, inr_nI, nI_clamp, nI_eq, nI_leI, nI_ltI, k492, f492_2, f492_3, f492_4, f492_5, f492_7, f492_8, f492_9, f492_10, k493, k494, k495, k496, k497, k498, k499, k500, l493, l494, l495, l496, l497, l498, l499, l500, hq, r_isChamber hq2, hx, w2, y2, y3, hr, r_pumpAt, ← eN0, l1, z, r_tell, r_in, l_in2, g0, show 68 + 9 * np + 5 + 1 = 68 + 9 * np + 6 from rfl]
        have hY : M2.1 494 = upd (N9.1 494) 2 (nI (np + 1)) := by rw [eM2, wi_ne (by decide), wi_same]
        have hf : ∀ i, i < 331 → i ≠ 2 → ¬ (68 ≤ i ∧ i < 95) → M2.1 494 i = M.1 494 i := fun i z1 z2 z3 => by rw [hY, upd_n z2, nO i (by omega)]
        have hin : ∀ p j, j < 9 → p < np + 1 → M2.1 494 (68 + 9 * p + j) = if p = np then pf9 (nI c0) (nI s) j else M.1 494 (68 + 9 * p + j) := fun p j hj hp => by
          rw [hY, upd_n (by omega)]
          by_cases e : p = np
          · subst e; rw [if_pos rfl, nI9 j hj]
          · rw [if_neg e, nO _ (by omega)]
        have hV : Vx (M2.1 494) nc nt (np + 1) nw tm := by
          refine h.1.pN hf (by rw [hY, upd_s]) (by omega) (fun p hp => ?_) (fun c1 hc1 => ?_)
          · unfold VxP
            rw [show 68 + 9 * p = 68 + 9 * p + 0 from rfl, hin p 0 (by decide) hp, hin p 1 (by decide) hp, hin p 2 (by decide) hp, hin p 3 (by decide) hp, hin p 4 (by decide) hp, hin p 5 (by decide) hp, hin p 6 (by decide) hp, hin p 7 (by decide) hp, hin p 8 (by decide) hp]
            by_cases e : p = np
            · simp only [if_pos e]
              exact ⟨c0, 1, s, s, s, 1, 2, 0, 0, ⟨rfl, rfl, rfl, rfl, rfl, rfl, rfl, rfl, rfl⟩, hc0, by omega, by omega, by omega, by omega, by omega, by omega, by omega, by omega, by omega, by omega⟩
            · simp only [if_neg e]
              exact h.1.2.2.2.2.2.1 p (by omega)
          · obtain ⟨W1, hW1, hW1b⟩ := h.1.2.2.2.2.2.2.2.1 c1 hc1
            have q1 : wtP (M2.1 494) (nI c1) (wtT (M.1 494) (nI c1) nt) np = nI W1 := by
              rw [wtP_c3 np (fun p hp => ⟨?_, fun k hk => ?_⟩), hW1]
              · have := hin p 0 (by decide) (by omega)
                rw [if_neg (by omega)] at this
                exact this
              · have := hin p (2 + k) (by omega) (by omega)
                rw [if_neg (by omega), show 68 + 9 * p + (2 + k) = 68 + 9 * p + 2 + k by omega] at this
                exact this
            have q2 : gsp (M2.1 494) np 3 = nI s := gsp_3 hs1 hs2 (fun k hk => by
              have := hin np (2 + k) (by omega) (by omega)
              rw [if_pos rfl, show 68 + 9 * np + (2 + k) = 68 + 9 * np + 2 + k by omega] at this
              refine Eq.trans this ?_
              simp [pf9, show ¬ 2 + k = 0 by omega, show ¬ 2 + k = 1 by omega, show 2 + k < 5 by omega])
            have q3 : M2.1 494 (68 + 9 * np) = nI c0 := by
              have := hin np 0 (by decide) (by omega)
              rw [if_pos rfl] at this
              exact this
            simp only [wtP]
            rw [q1, q2, q3]
            by_cases e : nI c0 = nI c1
            · have e' := (nI_eq (by omega) (by omega)).mp e
              subst e'
              rw [if_pos rfl]
              have : nI W1 = nI W := by rw [← hW1, ← hW]
              have := (nI_eq (by omega) (by omega)).mp this
              subst this
              exact ⟨W1 + s, nI_add W1 s, by omega⟩
            · rw [if_neg e]
              exact ⟨W1, Int32.add_zero _, hW1b⟩
        have hLa : Lr Ma 1 (M.1 494) nc nt np nw tm := h.2.1.frame hb.1 hb.2.1 hb.2.2.1 hb.2.2.2.1 (fun a z1 z2 => a4 a (by omega))
        have hL : Lr M1 1 (M2.1 494) nc nt (np + 1) nw tm := by
          refine hLa.pN hb.1 hb.2.1 (by omega) hb.2.2.2.1 hf (fun a z1 z2 z3 => by rw [eM1, wi_ne (by omega), pO a (by omega)]) (fun j hj => by rw [eM1, wi_ns hj, pO 1 (by omega)]) (by rw [eM1]; simp [wi]) (fun p hp j hj => ?_)
          rw [hin p j hj hp, eM1, wi_ne (by omega)]
          by_cases e : p = np
          · subst e
            rw [if_pos rfl, pI j hj]
          · rw [if_neg e, pO _ (by omega), hLa.2.2.2.2.2.1 p (by omega) j hj]
        have cr := core_act h a1 (M1 := M1) f1 (by rw [eM1, eMp]; rfl) hr (M2 := M2) (fun a z1 z2 => by rw [eM2, wi_ne z1, wi_ne z2, eN9, wi_ne z2, wi_ne z2, wi_ne z2, wi_ne z2, fl3_ne z2, eN0, wi_ne z2, wi_ne z2]) (by rw [eM2, eN9, eN0]; rfl) (by rw [eM2]; simp [wi]) (by rw [eM2, wi_ns (by decide), wi_ne (by decide), eN9, wi_ne (by decide), wi_ne (by decide), wi_ne (by decide), wi_ne (by decide), fl3_ne (by decide), eN0, wi_ne (by decide), wi_ne (by decide)]) hV hL (by
            have q7 : ∀ j, j ≠ 2 → M1.1 1 j = M.1 1 j := fun j hj => by rw [eM1, wi_ns hj, pO 1 (by omega), a4 1 (by omega)]
            unfold Nh; rw [q7 7 (by decide), q7 8 (by decide)]; exact h.2.2.1)
        obtain ⟨⟨o2, u2, k1⟩, k2⟩ := cr
        exact ⟨_, _, _, c, r, ⟨_, _, _, _, _, _, _, k1⟩, k2⟩
    · have hx : inr x0 nc = false := by simpa using hx
      refine act_rf2 (k := 2) (i := 1) h (by omega) ?_ ?_
      · simp -implicitDefEqProofs (disch := omega) [DX7_pump, EX7_pump, kp_, bsome, bnone, gi_s, gj_s, gr_s, gv_s, ik_, jk_, il_, jl_, rl_, i2_, i2_a, i2_b, j2_, j2_a, j2_b, i2d_, i2d_a, i2d_b, j2d_, j2d_a, j2d_b, i1_, i1_a, j1_, j1_a, i2l_, i2l_a, l2i_, l2i_a, fgi_, fgi_a, fgj_, fgj_a, fgr_, fgr_a, iald_, iald_a, iald_b, zald_, zald_a, zald_b, jald_, jald_a, jald_b, rald_, rald_a, rald_b, alen_, alen_a, sald_, sald_a, ic_, ic_a, jc_, jc_a, bc_, bc_a, bc_b, bj_, bj_a, bj_b, bz_, bz_a, band_, band_a, bor_, bor_a, bnot_, bnot_a, anil_, ai_, ai_a, ai_b, aj_, aj_a, aj_b, ar_, ar_a, ar_b, kb2i_, cvi_, cvi_a, cvi_b, cvj_, cvj_a, cvj_b, cvz_, cvz_a, cvz_b, csi_, csi_a, csj_, csj_a, csz_, csz_a, snop_, sseq_, sseq_n, sseq_s, sif_, sif_a, scut_, scut_a, ssi_, ssi_a, ssj_, ssj_a, ssr_, ssr_a, sinc_, sinc_a, sret_, sret_a, sretj_, sretj_a, sretv_, spop_, spop_a, kc_scv_, scv_, scv_a, scv_b, scs_, scs_a, fpi_, fpi_a, fpi_b, fpj_, fpj_a, fpj_b, foi_, foi_a, foi_b, foj_, foj_a, foj_b, aii_, aii_a, aii_b, aii_c, aiz_, aiz_a, aiz_b, aiz_c, aij_, aij_a, aij_b, aij_c, aoi_, aoi_a, aoi_b, aoi_c, aoj_, aoj_a, aoj_b, aoj_c, scopy_, scopy_a, scopy_b, scopy_c, scopy_d, scopy_e, ssw_, ssw_a, sel_n, sel_c, mfi_, mfi_a, mfj_, mfj_a, mfz_, mfz_a, kb_mfv_, mfv_, mfv_a, cut, lset, lset2, isL, Value.category, ent, entn, if_some, if_pair, if_cons, if_int, if_long, if_ref, ite_self, gz_b, ↓icb, ↓icb2, b2i_ne, ge0, ge1, ge2, ge3, ge4, ge5, ge6, ge7, ge8, ge9, ge10, ge11, ge12, ge13, ge14, lit32, nI_add, pk_mul, clt_nI, cle_nI, cgt_nI, cge_nI, ceq_nI, cne_nI, inr_nI, nI_clamp, nI_eq, nI_leI, nI_ltI, k0, c_isChamber hnc, hx, c_refuse2, c_within, g0, nI_toInt]
      · have hq : (wi (rfC M 2 1) 492 0 (nI 0)).1 494 0 = nI nc := by rw [wi_ne (by decide), rfC_r (by decide) (by decide)]; exact hrc
        simp -implicitDefEqProofs (disch := omega) [DX8_pump, EX8_pump, kp_, bsome, bnone, gi_s, gj_s, gr_s, gv_s, ik_, jk_, il_, jl_, rl_, i2_, i2_a, i2_b, j2_, j2_a, j2_b, i2d_, i2d_a, i2d_b, j2d_, j2d_a, j2d_b, i1_, i1_a, j1_, j1_a, i2l_, i2l_a, l2i_, l2i_a, fgi_, fgi_a, fgj_, fgj_a, fgr_, fgr_a, iald_, iald_a, iald_b, zald_, zald_a, zald_b, jald_, jald_a, jald_b, rald_, rald_a, rald_b, alen_, alen_a, sald_, sald_a, ic_, ic_a, jc_, jc_a, bc_, bc_a, bc_b, bj_, bj_a, bj_b, bz_, bz_a, band_, band_a, bor_, bor_a, bnot_, bnot_a, anil_, ai_, ai_a, ai_b, aj_, aj_a, aj_b, ar_, ar_a, ar_b, kb2i_, cvi_, cvi_a, cvi_b, cvj_, cvj_a, cvj_b, cvz_, cvz_a, cvz_b, csi_, csi_a, csj_, csj_a, csz_, csz_a, snop_, sseq_, sseq_n, sseq_s, sif_, sif_a, scut_, scut_a, ssi_, ssi_a, ssj_, ssj_a, ssr_, ssr_a, sinc_, sinc_a, sret_, sret_a, sretj_, sretj_a, sretv_, spop_, spop_a, kc_scv_, scv_, scv_a, scv_b, scs_, scs_a, fpi_, fpi_a, fpi_b, fpj_, fpj_a, fpj_b, foi_, foi_a, foi_b, foj_, foj_a, foj_b, aii_, aii_a, aii_b, aii_c, aiz_, aiz_a, aiz_b, aiz_c, aij_, aij_a, aij_b, aij_c, aoi_, aoi_a, aoi_b, aoi_c, aoj_, aoj_a, aoj_b, aoj_c, scopy_, scopy_a, scopy_b, scopy_c, scopy_d, scopy_e, ssw_, ssw_a, sel_n, sel_c, mfi_, mfi_a, mfj_, mfj_a, mfz_, mfz_a, kb_mfv_, mfv_, mfv_a, cut, lset, lset2, isL, Value.category, ent, entn, if_some, if_pair, if_cons, if_int, if_long, if_ref, ite_self, gz_b, ↓icb, ↓icb2, b2i_ne, ge0, ge1, ge2, ge3, ge4, ge5, ge6, ge7, ge8, ge9, ge10, ge11, ge12, ge13, ge14, lit32, nI_add, pk_mul, clt_nI, cle_nI, cgt_nI, cge_nI, ceq_nI, cne_nI, inr_nI, nI_clamp, nI_eq, nI_leI, nI_ltI, k492, f492_2, f492_3, f492_4, f492_5, f492_7, f492_8, f492_9, f492_10, k493, k494, k495, k496, k497, k498, k499, k500, l493, l494, l495, l496, l497, l498, l499, l500, r_isChamber hq, hx, r_refuse2', r_in, l_in2, g0]
  · have g1 : bw x1 1 40 = false := by simpa using g0
    refine act_rf2 (k := 1) (i := 0) h (by omega) ?_ ?_
    · simp -implicitDefEqProofs (disch := omega) [DX7_pump, EX7_pump, kp_, bsome, bnone, gi_s, gj_s, gr_s, gv_s, ik_, jk_, il_, jl_, rl_, i2_, i2_a, i2_b, j2_, j2_a, j2_b, i2d_, i2d_a, i2d_b, j2d_, j2d_a, j2d_b, i1_, i1_a, j1_, j1_a, i2l_, i2l_a, l2i_, l2i_a, fgi_, fgi_a, fgj_, fgj_a, fgr_, fgr_a, iald_, iald_a, iald_b, zald_, zald_a, zald_b, jald_, jald_a, jald_b, rald_, rald_a, rald_b, alen_, alen_a, sald_, sald_a, ic_, ic_a, jc_, jc_a, bc_, bc_a, bc_b, bj_, bj_a, bj_b, bz_, bz_a, band_, band_a, bor_, bor_a, bnot_, bnot_a, anil_, ai_, ai_a, ai_b, aj_, aj_a, aj_b, ar_, ar_a, ar_b, kb2i_, cvi_, cvi_a, cvi_b, cvj_, cvj_a, cvj_b, cvz_, cvz_a, cvz_b, csi_, csi_a, csj_, csj_a, csz_, csz_a, snop_, sseq_, sseq_n, sseq_s, sif_, sif_a, scut_, scut_a, ssi_, ssi_a, ssj_, ssj_a, ssr_, ssr_a, sinc_, sinc_a, sret_, sret_a, sretj_, sretj_a, sretv_, spop_, spop_a, kc_scv_, scv_, scv_a, scv_b, scs_, scs_a, fpi_, fpi_a, fpi_b, fpj_, fpj_a, fpj_b, foi_, foi_a, foi_b, foj_, foj_a, foj_b, aii_, aii_a, aii_b, aii_c, aiz_, aiz_a, aiz_b, aiz_c, aij_, aij_a, aij_b, aij_c, aoi_, aoi_a, aoi_b, aoi_c, aoj_, aoj_a, aoj_b, aoj_c, scopy_, scopy_a, scopy_b, scopy_c, scopy_d, scopy_e, ssw_, ssw_a, sel_n, sel_c, mfi_, mfi_a, mfj_, mfj_a, mfz_, mfz_a, kb_mfv_, mfv_, mfv_a, cut, lset, lset2, isL, Value.category, ent, entn, if_some, if_pair, if_cons, if_int, if_long, if_ref, ite_self, gz_b, ↓icb, ↓icb2, b2i_ne, ge0, ge1, ge2, ge3, ge4, ge5, ge6, ge7, ge8, ge9, ge10, ge11, ge12, ge13, ge14, lit32, nI_add, pk_mul, clt_nI, cle_nI, cgt_nI, cge_nI, ceq_nI, cne_nI, inr_nI, nI_clamp, nI_eq, nI_leI, nI_ltI, k0, c_refuse1, c_within, nI_toInt, g1]
    · simp -implicitDefEqProofs (disch := omega) [DX8_pump, EX8_pump, kp_, bsome, bnone, gi_s, gj_s, gr_s, gv_s, ik_, jk_, il_, jl_, rl_, i2_, i2_a, i2_b, j2_, j2_a, j2_b, i2d_, i2d_a, i2d_b, j2d_, j2d_a, j2d_b, i1_, i1_a, j1_, j1_a, i2l_, i2l_a, l2i_, l2i_a, fgi_, fgi_a, fgj_, fgj_a, fgr_, fgr_a, iald_, iald_a, iald_b, zald_, zald_a, zald_b, jald_, jald_a, jald_b, rald_, rald_a, rald_b, alen_, alen_a, sald_, sald_a, ic_, ic_a, jc_, jc_a, bc_, bc_a, bc_b, bj_, bj_a, bj_b, bz_, bz_a, band_, band_a, bor_, bor_a, bnot_, bnot_a, anil_, ai_, ai_a, ai_b, aj_, aj_a, aj_b, ar_, ar_a, ar_b, kb2i_, cvi_, cvi_a, cvi_b, cvj_, cvj_a, cvj_b, cvz_, cvz_a, cvz_b, csi_, csi_a, csj_, csj_a, csz_, csz_a, snop_, sseq_, sseq_n, sseq_s, sif_, sif_a, scut_, scut_a, ssi_, ssi_a, ssj_, ssj_a, ssr_, ssr_a, sinc_, sinc_a, sret_, sret_a, sretj_, sretj_a, sretv_, spop_, spop_a, kc_scv_, scv_, scv_a, scv_b, scs_, scs_a, fpi_, fpi_a, fpi_b, fpj_, fpj_a, fpj_b, foi_, foi_a, foi_b, foj_, foj_a, foj_b, aii_, aii_a, aii_b, aii_c, aiz_, aiz_a, aiz_b, aiz_c, aij_, aij_a, aij_b, aij_c, aoi_, aoi_a, aoi_b, aoi_c, aoj_, aoj_a, aoj_b, aoj_c, scopy_, scopy_a, scopy_b, scopy_c, scopy_d, scopy_e, ssw_, ssw_a, sel_n, sel_c, mfi_, mfi_a, mfj_, mfj_a, mfz_, mfz_a, kb_mfv_, mfv_, mfv_a, cut, lset, lset2, isL, Value.category, ent, entn, if_some, if_pair, if_cons, if_int, if_long, if_ref, ite_self, gz_b, ↓icb, ↓icb2, b2i_ne, ge0, ge1, ge2, ge3, ge4, ge5, ge6, ge7, ge8, ge9, ge10, ge11, ge12, ge13, ge14, lit32, nI_add, pk_mul, clt_nI, cle_nI, cgt_nI, cge_nI, ceq_nI, cne_nI, inr_nI, nI_clamp, nI_eq, nI_leI, nI_ltI, k492, f492_2, f492_3, f492_4, f492_5, f492_7, f492_8, f492_9, f492_10, k493, k494, k495, k496, k497, k498, k499, k500, l493, l494, l495, l496, l497, l498, l499, l500, r_refuse1', r_in, l_in2, g1]
