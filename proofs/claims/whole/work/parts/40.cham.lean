/-! ===== chamber, pump ===== -/
section
variable {X Y : Nat → Int32} {nc nt np nw tm : Nat} {M N : Me} {b : Nat}
set_option maxRecDepth 20000 in
theorem wtT_0 {x : Int32} : ∀ n, (∀ t, t < n → X (28 + 4 * t) ≠ x ∧ X (28 + 4 * t + 1) ≠ x) → wtT X x n = nI 0
  | 0, _ => rfl
  | n + 1, h => by
    obtain ⟨a, b⟩ := h n (by omega)
    simp only [wtT]
    rw [wtT_0 n (fun t ht => h t (by omega)), if_neg (by rintro (q | q); exact a q; exact b q)]
    rfl
set_option maxRecDepth 20000 in
theorem wtP_0 {x z : Int32} : ∀ n, (∀ p, p < n → X (68 + 9 * p) ≠ x) → wtP X x z n = z
  | 0, _ => rfl
  | n + 1, h => by
    simp only [wtP]
    rw [wtP_0 n (fun t ht => h t (by omega)), if_neg (h n (by omega))]
    exact Int32.add_zero z
set_option maxRecDepth 20000 in
theorem Vx.cN (h : Vx X nc nt np nw tm) (hf : ∀ i, i < 131 → i ≠ 0 → ¬ (8 ≤ i ∧ i < 28) → Y i = X i) (hlg : ∀ k, k < 40 → ∀ c, c < 5 → c ≠ nc → Y (131 + 5 * k + c) = X (131 + 5 * k + c)) (h3 : Y 0 = nI (nc + 1)) (hn : nc < 5) (hs : ∀ c, c < nc + 1 → Bd (Y (8 + 4 * c)) 99 ∧ Bd (Y (8 + 4 * c + 1)) 4999 ∧ Bd (Y (8 + 4 * c + 2)) 9 ∧ Bd (Y (8 + 4 * c + 3)) 100000000) : Vx Y (nc + 1) nt np nw tm := by
  obtain ⟨h1, h2, h3', h4, h5, h6, h7, h8, h9⟩ := h
  refine ⟨?_, ⟨by omega, h2.2⟩, ?_, hs, fun t ht => ?_, fun p hp => ?_, fun w hw => ?_, fun c hc => ?_, fun k hk c hc hc5 => ?_⟩
  · rw [hf 1 (by omega) (by omega) (by omega), hf 2 (by omega) (by omega) (by omega), hf 3 (by omega) (by omega) (by omega), hf 4 (by omega) (by omega) (by omega), hf 7 (by omega) (by omega) (by omega)]; exact ⟨h3, h1.2⟩
  · unfold VxL; rw [hf 5 (by omega) (by omega) (by omega), hf 6 (by omega) (by omega) (by omega)]
    rcases h3' with z | ⟨j, s, z1, z2, z3, z4, z5⟩
    · exact Or.inl z
    · exact Or.inr ⟨j, s, z1, z2, z3, z4, by omega⟩
  · unfold VxT; rw [hf _ (by omega) (by omega) (by omega), hf _ (by omega) (by omega) (by omega), hf _ (by omega) (by omega) (by omega), hf _ (by omega) (by omega) (by omega)]
    obtain ⟨f, g, d, oo, v1, v2, v3, v4, v⟩ := h5 t ht
    exact ⟨f, g, d, oo, v1, v2, by omega, by omega, v⟩
  · unfold VxP; rw [hf _ (by omega) (by omega) (by omega), hf _ (by omega) (by omega) (by omega), hf _ (by omega) (by omega) (by omega), hf _ (by omega) (by omega) (by omega), hf _ (by omega) (by omega) (by omega), hf _ (by omega) (by omega) (by omega), hf _ (by omega) (by omega) (by omega), hf _ (by omega) (by omega) (by omega), hf _ (by omega) (by omega) (by omega)]
    obtain ⟨a, oo, s0, s1, s2, b0, b1, tr, td, v1, v2, v⟩ := h6 p hp
    exact ⟨a, oo, s0, s1, s2, b0, b1, tr, td, v1, by omega, v⟩
  · unfold VxW; rw [hf _ (by omega) (by omega) (by omega), hf _ (by omega) (by omega) (by omega), hf _ (by omega) (by omega) (by omega), hf _ (by omega) (by omega) (by omega), hf _ (by omega) (by omega) (by omega)]; exact h7 w hw
  · rw [wtP_cg (fun i a1 a2 => hf i (by omega) (by omega) (by omega)) np h2.2.2.1, wtT_cg (fun i a1 a2 => hf i (by omega) (by omega) (by omega)) nt h2.2.1]
    by_cases e : c = nc
    · subst e
      refine ⟨0, ?_, by omega⟩
      rw [wtT_0 nt (fun t ht => ?_), wtP_0 np (fun p hp => ?_)]
      · obtain ⟨a, oo, s0, s1, s2, b0, b1, tr, td, v1, v2, v⟩ := h6 p hp
        rw [v1.1]
        intro q
        have := (nI_eq (by omega) (by omega)).mp q
        omega
      · obtain ⟨f, g, d, oo, v1, v2, v3, v4, v⟩ := h5 t ht
        rw [v1, v2]
        exact ⟨fun q => by have := (nI_eq (by omega) (by omega)).mp q; omega, fun q => by have := (nI_eq (by omega) (by omega)).mp q; omega⟩
    · exact h8 c (by omega)
  · rw [hlg k (by omega) c hc5 (by omega)]; exact h9 k hk c (by omega) hc5
set_option maxRecDepth 20000 in
theorem Lr.cN (h : Lr M b X nc nt np nw tm) (hn : nc < 5) (ht : nt ≤ 10) (hp : np ≤ 3) (hw : nw ≤ 6) (hf : ∀ i, i < 131 → i ≠ 0 → ¬ (8 ≤ i ∧ i < 28) → Y i = X i) (hlg : ∀ k, k < min tm 40 → ∀ c, c < 5 → Y (131 + 5 * k + c) = X (131 + 5 * k + c)) (hg : ∀ a, b < a → a < b + 30 → ¬ (b + 2 ≤ a ∧ a < b + 7) → N.1 a = M.1 a) (hg2 : ∀ j, j ≠ 0 → N.1 b j = M.1 b j) (h3 : N.1 b 0 = nI (nc + 1)) (hs : ∀ c, c < nc + 1 → ∀ j, j < 3 → N.1 (b + 2 + c) j = Y (8 + 4 * c + j)) (hs2 : ∀ c, c < nc + 1 → N.1 (b + 2 + c) 3 + nI 1 = Y (8 + 4 * c + 3)) : Lr N b Y (nc + 1) nt np nw tm := by
  obtain ⟨h0, h1, h2, h3', h4, h5, h6, h7⟩ := h
  refine ⟨h0, ?_, hs, hs2, fun t ht1 j hj => ?_, fun p hp1 j hj => ?_, fun w hw1 j hj => ?_, fun k hk c hc1 => ?_⟩
  · rw [hg2 1 (by omega), hg2 2 (by omega), hg2 3 (by omega), hg2 4 (by omega), hg2 5 (by omega), hg2 6 (by omega), hf 5 (by omega) (by omega) (by omega), hf 6 (by omega) (by omega) (by omega)]; exact ⟨h3, h1.2⟩
  · rw [hg _ (by omega) (by omega) (by omega), hf _ (by omega) (by omega) (by omega)]; exact h4 t ht1 j hj
  · rw [hg _ (by omega) (by omega) (by omega), hf _ (by omega) (by omega) (by omega)]; exact h5 p hp1 j hj
  · rw [hg _ (by omega) (by omega) (by omega), hf _ (by omega) (by omega) (by omega)]; exact h6 w hw1 j hj
  · rw [hg _ (by omega) (by omega) (by omega), hlg k hk c hc1]; exact h7 k hk c hc1
end
def lgf (N : Me) (n i : Nat) : Me := (fun q j => if q = 494 ∧ 131 ≤ j ∧ (j - 131) % 5 = n ∧ (j - 131) / 5 < i then -(nI 1) else N.1 q j, N.2)
set_option maxRecDepth 20000 in
theorem lgf_0 {N : Me} {n : Nat} : lgf N n 0 = N := by
  unfold lgf
  have : (fun q j => if q = 494 ∧ 131 ≤ j ∧ (j - 131) % 5 = n ∧ (j - 131) / 5 < 0 then -(nI 1) else N.1 q j) = N.1 := by
    funext q j
    rw [if_neg (by omega)]
  rw [this]
set_option maxRecDepth 20000 in
theorem lgf_s {N : Me} {n i : Nat} (hn : n < 5) : wi (lgf N n i) 494 (131 + 5 * i + n) (-(nI 1)) = lgf N n (i + 1) := by
  unfold lgf wi
  simp only [Prod.mk.injEq, and_true]
  funext q j
  by_cases e1 : q = 494 ∧ j = 131 + 5 * i + n
  · rw [if_pos e1, if_pos (by omega)]
  · rw [if_neg e1]
    by_cases e2 : q = 494 ∧ 131 ≤ j ∧ (j - 131) % 5 = n ∧ (j - 131) / 5 < i
    · rw [if_pos e2, if_pos (by omega)]
    · rw [if_neg e2, if_neg (by omega)]
set_option maxRecDepth 20000 in
theorem lgf_ne {N : Me} {n i q : Nat} (h : q ≠ 494) : (lgf N n i).1 q = N.1 q := by
  funext j
  simp [lgf, h]
set_option maxRecDepth 20000 in
theorem lgf_lo {N : Me} {n i j : Nat} (h : j < 131) : (lgf N n i).1 494 j = N.1 494 j := by
  simp only [lgf]
  rw [if_neg (by omega)]
set_option maxRecDepth 20000 in
theorem lgf_k {N : Me} {n k c : Nat} (hc : c < 5) (hk : k < 40) : (lgf N n 40).1 494 (131 + 5 * k + c) = if c = n then -(nI 1) else N.1 494 (131 + 5 * k + c) := by
  simp only [lgf]
  have q1 : (131 + 5 * k + c - 131) % 5 = c := by omega
  have q2 : (131 + 5 * k + c - 131) / 5 < 40 := by omega
  by_cases e : c = n
  · rw [if_pos ⟨by trivial, by omega, by omega, q2⟩, if_pos e]
  · rw [if_neg (fun q => e (by rw [← q1]; exact q.2.2.1)), if_neg e]
set_option maxRecDepth 20000 in
theorem ac_chamber {M : Me} {nc nt np nw tm o u : Nat} (h : Core M nc nt np nw tm o u) (x0 x1 : Int32) : Act DX7_chamber DX8_chamber [.int x0, .int x1] M := by
  have hb := h.1.2.1
  have hn1 := h.2.1.2.1.1
  have hr1 := h.1.1.1
  by_cases hv : bw x0 0 99 = true ∧ bw x1 0 4999 = true
  · obtain ⟨g0, g1⟩ := hv
    by_cases hx : nc = 5
    · subst hx
      refine act_rf2 (k := 5) (i := 3) h (by omega) ?_ ?_
      · simp -implicitDefEqProofs (disch := omega) [DX7_chamber, EX7_chamber, kp_, bsome, bnone, gi_s, gj_s, gr_s, gv_s, ik_, jk_, il_, jl_, rl_, i2_, i2_a, i2_b, j2_, j2_a, j2_b, i2d_, i2d_a, i2d_b, j2d_, j2d_a, j2d_b, i1_, i1_a, j1_, j1_a, i2l_, i2l_a, l2i_, l2i_a, fgi_, fgi_a, fgj_, fgj_a, fgr_, fgr_a, iald_, iald_a, iald_b, zald_, zald_a, zald_b, jald_, jald_a, jald_b, rald_, rald_a, rald_b, alen_, alen_a, sald_, sald_a, ic_, ic_a, jc_, jc_a, bc_, bc_a, bc_b, bj_, bj_a, bj_b, bz_, bz_a, band_, band_a, bor_, bor_a, bnot_, bnot_a, anil_, ai_, ai_a, ai_b, aj_, aj_a, aj_b, ar_, ar_a, ar_b, kb2i_, cvi_, cvi_a, cvi_b, cvj_, cvj_a, cvj_b, cvz_, cvz_a, cvz_b, csi_, csi_a, csj_, csj_a, csz_, csz_a, snop_, sseq_, sseq_n, sseq_s, sif_, sif_a, scut_, scut_a, ssi_, ssi_a, ssj_, ssj_a, ssr_, ssr_a, sinc_, sinc_a, sret_, sret_a, sretj_, sretj_a, sretv_, spop_, spop_a, kc_scv_, scv_, scv_a, scv_b, scs_, scs_a, fpi_, fpi_a, fpi_b, fpj_, fpj_a, fpj_b, foi_, foi_a, foi_b, foj_, foj_a, foj_b, aii_, aii_a, aii_b, aii_c, aiz_, aiz_a, aiz_b, aiz_c, aij_, aij_a, aij_b, aij_c, aoi_, aoi_a, aoi_b, aoi_c, aoj_, aoj_a, aoj_b, aoj_c, scopy_, scopy_a, scopy_b, scopy_c, scopy_d, scopy_e, ssw_, ssw_a, sel_n, sel_c, mfi_, mfi_a, mfj_, mfj_a, mfz_, mfz_a, kb_mfv_, mfv_, mfv_a, cut, lset, lset2, isL, Value.category, ent, entn, if_some, if_pair, if_cons, if_int, if_long, if_ref, ite_self, gz_b, ↓icb, ↓icb2, b2i_ne, ge0, ge1, ge2, ge3, ge4, ge5, ge6, ge7, ge8, ge9, ge10, ge11, ge12, ge13, ge14, lit32, nI_add, pk_mul, clt_nI, cle_nI, cgt_nI, cge_nI, ceq_nI, cne_nI, inr_nI, nI_clamp, nI_eq, nI_leI, nI_ltI, k0, f0_0, k1_, hn1, c_refuse5, c_within, nI_toInt, stab, g0, g1]
      · have hq : (wi (rfC M 5 3) 492 0 (nI 0)).1 494 0 = nI 5 := by rw [wi_ne (by decide), rfC_r (by decide) (by decide)]; exact hr1
        simp -implicitDefEqProofs (disch := omega) [DX8_chamber, EX8_chamber, kp_, bsome, bnone, gi_s, gj_s, gr_s, gv_s, ik_, jk_, il_, jl_, rl_, i2_, i2_a, i2_b, j2_, j2_a, j2_b, i2d_, i2d_a, i2d_b, j2d_, j2d_a, j2d_b, i1_, i1_a, j1_, j1_a, i2l_, i2l_a, l2i_, l2i_a, fgi_, fgi_a, fgj_, fgj_a, fgr_, fgr_a, iald_, iald_a, iald_b, zald_, zald_a, zald_b, jald_, jald_a, jald_b, rald_, rald_a, rald_b, alen_, alen_a, sald_, sald_a, ic_, ic_a, jc_, jc_a, bc_, bc_a, bc_b, bj_, bj_a, bj_b, bz_, bz_a, band_, band_a, bor_, bor_a, bnot_, bnot_a, anil_, ai_, ai_a, ai_b, aj_, aj_a, aj_b, ar_, ar_a, ar_b, kb2i_, cvi_, cvi_a, cvi_b, cvj_, cvj_a, cvj_b, cvz_, cvz_a, cvz_b, csi_, csi_a, csj_, csj_a, csz_, csz_a, snop_, sseq_, sseq_n, sseq_s, sif_, sif_a, scut_, scut_a, ssi_, ssi_a, ssj_, ssj_a, ssr_, ssr_a, sinc_, sinc_a, sret_, sret_a, sretj_, sretj_a, sretv_, spop_, spop_a, kc_scv_, scv_, scv_a, scv_b, scs_, scs_a, fpi_, fpi_a, fpi_b, fpj_, fpj_a, fpj_b, foi_, foi_a, foi_b, foj_, foj_a, foj_b, aii_, aii_a, aii_b, aii_c, aiz_, aiz_a, aiz_b, aiz_c, aij_, aij_a, aij_b, aij_c, aoi_, aoi_a, aoi_b, aoi_c, aoj_, aoj_a, aoj_b, aoj_c, scopy_, scopy_a, scopy_b, scopy_c, scopy_d, scopy_e, ssw_, ssw_a, sel_n, sel_c, mfi_, mfi_a, mfj_, mfj_a, mfz_, mfz_a, kb_mfv_, mfv_, mfv_a, cut, lset, lset2, isL, Value.category, ent, entn, if_some, if_pair, if_cons, if_int, if_long, if_ref, ite_self, gz_b, ↓icb, ↓icb2, b2i_ne, ge0, ge1, ge2, ge3, ge4, ge5, ge6, ge7, ge8, ge9, ge10, ge11, ge12, ge13, ge14, lit32, nI_add, pk_mul, clt_nI, cle_nI, cgt_nI, cge_nI, ceq_nI, cne_nI, inr_nI, nI_clamp, nI_eq, nI_leI, nI_ltI, k492, f492_2, f492_3, f492_4, f492_5, f492_7, f492_8, f492_9, f492_10, k493, k494, k495, k496, k497, k498, k499, k500, l493, l494, l495, l496, l497, l498, l499, l500, hq, r_refuse5', r_in, l_in2, g0, g1]
    · have hw : nc < 5 := by omega
      obtain ⟨Ma, Mk, a1, -, -, a4, a5, -⟩ := c_accept (nI 0) h
      have eA : Ma.1 1 0 = nI nc := by rw [a4 1 (by omega)]; exact hn1
      obtain ⟨M1, eM1⟩ : ∃ M1 : Me, M1 = wi (wi (wi (wi (wi Ma (1 + 2 + nc) 0 x0) (1 + 2 + nc) 1 x1) (1 + 2 + nc) 2 (nI 0)) (1 + 2 + nc) 3 (-(nI 1))) 1 0 (nI (nc + 1)) := ⟨_, rfl⟩
      have kT := a_kc m1_ nc hw
      have lT := a_lc m1_ nc hw
      have cc : DX1_addChamber [.ref 1, .int x0, .int x1] Ma = some (nI nc, M1) := by
        have z : (wi (wi (wi (wi Ma (1 + 2 + nc) 0 x0) (1 + 2 + nc) 1 x1) (1 + 2 + nc) 2 (nI 0)) (1 + 2 + nc) 3 (-(nI 1))).1 1 0 = nI nc := by
          rw [wi_ne (by omega), wi_ne (by omega), wi_ne (by omega), wi_ne (by omega), eA]
        have z2 : ∀ Q : Me, (wi Q 1 0 (nI (nc + 1))).1 1 0 = nI (nc + 1) := fun Q => by simp [wi]
        rw [eM1]
        simp -implicitDefEqProofs (disch := omega) [DX1_addChamber, EX1_addChamber, kp_, bsome, bnone, gi_s, gj_s, gr_s, gv_s, ik_, jk_, il_, jl_, rl_, i2_, i2_a, i2_b, j2_, j2_a, j2_b, i2d_, i2d_a, i2d_b, j2d_, j2d_a, j2d_b, i1_, i1_a, j1_, j1_a, i2l_, i2l_a, l2i_, l2i_a, fgi_, fgi_a, fgj_, fgj_a, fgr_, fgr_a, iald_, iald_a, iald_b, zald_, zald_a, zald_b, jald_, jald_a, jald_b, rald_, rald_a, rald_b, alen_, alen_a, sald_, sald_a, ic_, ic_a, jc_, jc_a, bc_, bc_a, bc_b, bj_, bj_a, bj_b, bz_, bz_a, band_, band_a, bor_, bor_a, bnot_, bnot_a, anil_, ai_, ai_a, ai_b, aj_, aj_a, aj_b, ar_, ar_a, ar_b, kb2i_, cvi_, cvi_a, cvi_b, cvj_, cvj_a, cvj_b, cvz_, cvz_a, cvz_b, csi_, csi_a, csj_, csj_a, csz_, csz_a, snop_, sseq_, sseq_n, sseq_s, sif_, sif_a, scut_, scut_a, ssi_, ssi_a, ssj_, ssj_a, ssr_, ssr_a, sinc_, sinc_a, sret_, sret_a, sretj_, sretj_a, sretv_, spop_, spop_a, kc_scv_, scv_, scv_a, scv_b, scs_, scs_a, fpi_, fpi_a, fpi_b, fpj_, fpj_a, fpj_b, foi_, foi_a, foi_b, foj_, foj_a, foj_b, aii_, aii_a, aii_b, aii_c, aiz_, aiz_a, aiz_b, aiz_c, aij_, aij_a, aij_b, aij_c, aoi_, aoi_a, aoi_b, aoi_c, aoj_, aoj_a, aoj_b, aoj_c, scopy_, scopy_a, scopy_b, scopy_c, scopy_d, scopy_e, ssw_, ssw_a, sel_n, sel_c, mfi_, mfi_a, mfj_, mfj_a, mfz_, mfz_a, kb_mfv_, mfv_, mfv_a, cut, lset, lset2, isL, Value.category, ent, entn, if_some, if_pair, if_cons, if_int, if_long, if_ref, ite_self, gz_b, ↓icb, ↓icb2, b2i_ne, ge0, ge1, ge2, ge3, ge4, ge5, ge6, ge7, ge8, ge9, ge10, ge11, ge12, ge13, ge14, lit32, nI_add, pk_mul, clt_nI, cle_nI, cgt_nI, cge_nI, ceq_nI, cne_nI, inr_nI, nI_clamp, nI_eq, nI_leI, nI_ltI, k1_, a_9 m1_, a_k1 m1_, a_l1 m1_, a_rc m1_, eA, kT, lT, hw, z, z2, pk_sub]
      have f1 : ∀ a, ¬ (1 ≤ a ∧ a < 31) → M1.1 a = Ma.1 a := fun a z => by rw [eM1, wi_ne (by omega), wi_ne (by omega), wi_ne (by omega), wi_ne (by omega), wi_ne (by omega)]
      obtain ⟨Nz, hr, n1, n2, n3⟩ := r_rem (M1 := M1) (nI 0) h a4 f1
      have c : DX7_chamber [.ref 0, .int x0, .int x1] M = some (nI nc, M1) := by
        simp -implicitDefEqProofs (disch := omega) [DX7_chamber, EX7_chamber, kp_, bsome, bnone, gi_s, gj_s, gr_s, gv_s, ik_, jk_, il_, jl_, rl_, i2_, i2_a, i2_b, j2_, j2_a, j2_b, i2d_, i2d_a, i2d_b, j2d_, j2d_a, j2d_b, i1_, i1_a, j1_, j1_a, i2l_, i2l_a, l2i_, l2i_a, fgi_, fgi_a, fgj_, fgj_a, fgr_, fgr_a, iald_, iald_a, iald_b, zald_, zald_a, zald_b, jald_, jald_a, jald_b, rald_, rald_a, rald_b, alen_, alen_a, sald_, sald_a, ic_, ic_a, jc_, jc_a, bc_, bc_a, bc_b, bj_, bj_a, bj_b, bz_, bz_a, band_, band_a, bor_, bor_a, bnot_, bnot_a, anil_, ai_, ai_a, ai_b, aj_, aj_a, aj_b, ar_, ar_a, ar_b, kb2i_, cvi_, cvi_a, cvi_b, cvj_, cvj_a, cvj_b, cvz_, cvz_a, cvz_b, csi_, csi_a, csj_, csj_a, csz_, csz_a, snop_, sseq_, sseq_n, sseq_s, sif_, sif_a, scut_, scut_a, ssi_, ssi_a, ssj_, ssj_a, ssr_, ssr_a, sinc_, sinc_a, sret_, sret_a, sretj_, sretj_a, sretv_, spop_, spop_a, kc_scv_, scv_, scv_a, scv_b, scs_, scs_a, fpi_, fpi_a, fpi_b, fpj_, fpj_a, fpj_b, foi_, foi_a, foi_b, foj_, foj_a, foj_b, aii_, aii_a, aii_b, aii_c, aiz_, aiz_a, aiz_b, aiz_c, aij_, aij_a, aij_b, aij_c, aoi_, aoi_a, aoi_b, aoi_c, aoj_, aoj_a, aoj_b, aoj_c, scopy_, scopy_a, scopy_b, scopy_c, scopy_d, scopy_e, ssw_, ssw_a, sel_n, sel_c, mfi_, mfi_a, mfj_, mfj_a, mfz_, mfz_a, kb_mfv_, mfv_, mfv_a, cut, lset, lset2, isL, Value.category, ent, entn, if_some, if_pair, if_cons, if_int, if_long, if_ref, ite_self, gz_b, ↓icb, ↓icb2, b2i_ne, ge0, ge1, ge2, ge3, ge4, ge5, ge6, ge7, ge8, ge9, ge10, ge11, ge12, ge13, ge14, lit32, nI_add, pk_mul, clt_nI, cle_nI, cgt_nI, cge_nI, ceq_nI, cne_nI, inr_nI, nI_clamp, nI_eq, nI_leI, nI_ltI, k0, f0_0, k1_, hn1, show ¬ 5 ≤ nc by omega, a1, cc, c_within, nI_toInt, stab, g0, g1]
      have hq : (wi M1 492 0 (nI 0)).1 494 0 = nI nc := by rw [wi_ne (by decide), n3]; exact hr1
      obtain ⟨N0, eN0⟩ : ∃ N0 : Me, N0 = wi (wi (wi (wi Nz 494 (8 + 4 * nc) x0) 494 (8 + 4 * nc + 1) x1) 494 (8 + 4 * nc + 2) (nI 0)) 494 (8 + 4 * nc + 3) (nI 0) := ⟨_, rfl⟩
      have l1 : swh qX8_chamber_1 wX8_chamber_1 [.ref 492, .int x0, .int x1, .int (nI nc), .int (nI (8 + 4 * nc)), .int (nI 0)] N0 = some (none, [.ref 492, .int x0, .int x1, .int (nI nc), .int (nI (8 + 4 * nc)), .int (nI 40)], lgf N0 nc 40) := by
        have := swh_count (c := qX8_chamber_1) (b := wX8_chamber_1) (fun i => [.ref 492, .int x0, .int x1, .int (nI nc), .int (nI (8 + 4 * nc)), .int (nI i)]) (fun i => lgf N0 nc i) 40
          (fun i hi => by simp -implicitDefEqProofs (disch := omega) [qX8_chamber_1, kp_, bsome, bnone, gi_s, gj_s, gr_s, gv_s, ik_, jk_, il_, jl_, rl_, i2_, i2_a, i2_b, j2_, j2_a, j2_b, i2d_, i2d_a, i2d_b, j2d_, j2d_a, j2d_b, i1_, i1_a, j1_, j1_a, i2l_, i2l_a, l2i_, l2i_a, fgi_, fgi_a, fgj_, fgj_a, fgr_, fgr_a, iald_, iald_a, iald_b, zald_, zald_a, zald_b, jald_, jald_a, jald_b, rald_, rald_a, rald_b, alen_, alen_a, sald_, sald_a, ic_, ic_a, jc_, jc_a, bc_, bc_a, bc_b, bj_, bj_a, bj_b, bz_, bz_a, band_, band_a, bor_, bor_a, bnot_, bnot_a, anil_, ai_, ai_a, ai_b, aj_, aj_a, aj_b, ar_, ar_a, ar_b, kb2i_, cvi_, cvi_a, cvi_b, cvj_, cvj_a, cvj_b, cvz_, cvz_a, cvz_b, csi_, csi_a, csj_, csj_a, csz_, csz_a, snop_, sseq_, sseq_n, sseq_s, sif_, sif_a, scut_, scut_a, ssi_, ssi_a, ssj_, ssj_a, ssr_, ssr_a, sinc_, sinc_a, sret_, sret_a, sretj_, sretj_a, sretv_, spop_, spop_a, kc_scv_, scv_, scv_a, scv_b, scs_, scs_a, fpi_, fpi_a, fpi_b, fpj_, fpj_a, fpj_b, foi_, foi_a, foi_b, foj_, foj_a, foj_b, aii_, aii_a, aii_b, aii_c, aiz_, aiz_a, aiz_b, aiz_c, aij_, aij_a, aij_b, aij_c, aoi_, aoi_a, aoi_b, aoi_c, aoj_, aoj_a, aoj_b, aoj_c, scopy_, scopy_a, scopy_b, scopy_c, scopy_d, scopy_e, ssw_, ssw_a, sel_n, sel_c, mfi_, mfi_a, mfj_, mfj_a, mfz_, mfz_a, kb_mfv_, mfv_, mfv_a, cut, lset, lset2, isL, Value.category, ent, entn, if_some, if_pair, if_cons, if_int, if_long, if_ref, ite_self, gz_b, ↓icb, ↓icb2, b2i_ne, ge0, ge1, ge2, ge3, ge4, ge5, ge6, ge7, ge8, ge9, ge10, ge11, ge12, ge13, ge14, lit32, nI_add, pk_mul, clt_nI, cle_nI, cgt_nI, cge_nI, ceq_nI, cne_nI, inr_nI, nI_clamp, nI_eq, nI_leI, nI_ltI, k492, f492_2, f492_3, f492_4, f492_5, f492_7, f492_8, f492_9, f492_10, k493, k494, k495, k496, k497, k498, k499, k500, l493, l494, l495, l496, l497, l498, l499, l500, hi])
          (fun i hi => by simp -implicitDefEqProofs (disch := omega) [wX8_chamber_1, kp_, bsome, bnone, gi_s, gj_s, gr_s, gv_s, ik_, jk_, il_, jl_, rl_, i2_, i2_a, i2_b, j2_, j2_a, j2_b, i2d_, i2d_a, i2d_b, j2d_, j2d_a, j2d_b, i1_, i1_a, j1_, j1_a, i2l_, i2l_a, l2i_, l2i_a, fgi_, fgi_a, fgj_, fgj_a, fgr_, fgr_a, iald_, iald_a, iald_b, zald_, zald_a, zald_b, jald_, jald_a, jald_b, rald_, rald_a, rald_b, alen_, alen_a, sald_, sald_a, ic_, ic_a, jc_, jc_a, bc_, bc_a, bc_b, bj_, bj_a, bj_b, bz_, bz_a, band_, band_a, bor_, bor_a, bnot_, bnot_a, anil_, ai_, ai_a, ai_b, aj_, aj_a, aj_b, ar_, ar_a, ar_b, kb2i_, cvi_, cvi_a, cvi_b, cvj_, cvj_a, cvj_b, cvz_, cvz_a, cvz_b, csi_, csi_a, csj_, csj_a, csz_, csz_a, snop_, sseq_, sseq_n, sseq_s, sif_, sif_a, scut_, scut_a, ssi_, ssi_a, ssj_, ssj_a, ssr_, ssr_a, sinc_, sinc_a, sret_, sret_a, sretj_, sretj_a, sretv_, spop_, spop_a, kc_scv_, scv_, scv_a, scv_b, scs_, scs_a, fpi_, fpi_a, fpi_b, fpj_, fpj_a, fpj_b, foi_, foi_a, foi_b, foj_, foj_a, foj_b, aii_, aii_a, aii_b, aii_c, aiz_, aiz_a, aiz_b, aiz_c, aij_, aij_a, aij_b, aij_c, aoi_, aoi_a, aoi_b, aoi_c, aoj_, aoj_a, aoj_b, aoj_c, scopy_, scopy_a, scopy_b, scopy_c, scopy_d, scopy_e, ssw_, ssw_a, sel_n, sel_c, mfi_, mfi_a, mfj_, mfj_a, mfz_, mfz_a, kb_mfv_, mfv_, mfv_a, cut, lset, lset2, isL, Value.category, ent, entn, if_some, if_pair, if_cons, if_int, if_long, if_ref, ite_self, gz_b, ↓icb, ↓icb2, b2i_ne, ge0, ge1, ge2, ge3, ge4, ge5, ge6, ge7, ge8, ge9, ge10, ge11, ge12, ge13, ge14, lit32, nI_add, pk_mul, clt_nI, cle_nI, cgt_nI, cge_nI, ceq_nI, cne_nI, inr_nI, nI_clamp, nI_eq, nI_leI, nI_ltI, k492, f492_2, f492_3, f492_4, f492_5, f492_7, f492_8, f492_9, f492_10, k493, k494, k495, k496, k497, k498, k499, k500, l493, l494, l495, l496, l497, l498, l499, l500, lgf_s])
          (by simp -implicitDefEqProofs (disch := omega) [qX8_chamber_1, kp_, bsome, bnone, gi_s, gj_s, gr_s, gv_s, ik_, jk_, il_, jl_, rl_, i2_, i2_a, i2_b, j2_, j2_a, j2_b, i2d_, i2d_a, i2d_b, j2d_, j2d_a, j2d_b, i1_, i1_a, j1_, j1_a, i2l_, i2l_a, l2i_, l2i_a, fgi_, fgi_a, fgj_, fgj_a, fgr_, fgr_a, iald_, iald_a, iald_b, zald_, zald_a, zald_b, jald_, jald_a, jald_b, rald_, rald_a, rald_b, alen_, alen_a, sald_, sald_a, ic_, ic_a, jc_, jc_a, bc_, bc_a, bc_b, bj_, bj_a, bj_b, bz_, bz_a, band_, band_a, bor_, bor_a, bnot_, bnot_a, anil_, ai_, ai_a, ai_b, aj_, aj_a, aj_b, ar_, ar_a, ar_b, kb2i_, cvi_, cvi_a, cvi_b, cvj_, cvj_a, cvj_b, cvz_, cvz_a, cvz_b, csi_, csi_a, csj_, csj_a, csz_, csz_a, snop_, sseq_, sseq_n, sseq_s, sif_, sif_a, scut_, scut_a, ssi_, ssi_a, ssj_, ssj_a, ssr_, ssr_a, sinc_, sinc_a, sret_, sret_a, sretj_, sretj_a, sretv_, spop_, spop_a, kc_scv_, scv_, scv_a, scv_b, scs_, scs_a, fpi_, fpi_a, fpi_b, fpj_, fpj_a, fpj_b, foi_, foi_a, foi_b, foj_, foj_a, foj_b, aii_, aii_a, aii_b, aii_c, aiz_, aiz_a, aiz_b, aiz_c, aij_, aij_a, aij_b, aij_c, aoi_, aoi_a, aoi_b, aoi_c, aoj_, aoj_a, aoj_b, aoj_c, scopy_, scopy_a, scopy_b, scopy_c, scopy_d, scopy_e, ssw_, ssw_a, sel_n, sel_c, mfi_, mfi_a, mfj_, mfj_a, mfz_, mfz_a, kb_mfv_, mfv_, mfv_a, cut, lset, lset2, isL, Value.category, ent, entn, if_some, if_pair, if_cons, if_int, if_long, if_ref, ite_self, gz_b, ↓icb, ↓icb2, b2i_ne, ge0, ge1, ge2, ge3, ge4, ge5, ge6, ge7, ge8, ge9, ge10, ge11, ge12, ge13, ge14, lit32, nI_add, pk_mul, clt_nI, cle_nI, cgt_nI, cge_nI, ceq_nI, cne_nI, inr_nI, nI_clamp, nI_eq, nI_leI, nI_ltI, k492, f492_2, f492_3, f492_4, f492_5, f492_7, f492_8, f492_9, f492_10, k493, k494, k495, k496, k497, k498, k499, k500, l493, l494, l495, l496, l497, l498, l499, l500])
        rwa [lgf_0] at this
      obtain ⟨M2, eM2⟩ : ∃ M2 : Me, M2 = wi (wi (lgf N0 nc 40) 494 0 (nI (nc + 1))) 492 1 (nI 0) := ⟨_, rfl⟩
      have r : DX8_chamber [.ref 492, .int x0, .int x1] M1 = some (nI nc, M2) := by
        have z : (lgf N0 nc 40).1 494 0 = nI nc := by rw [lgf_lo (by decide), eN0, wi_ns (by omega), wi_ns (by omega), wi_ns (by omega), wi_ns (by omega), n1]; exact hr1
        rw [eM2]
        simp -implicitDefEqProofs (disch := omega) [DX8_chamber, EX8_chamber, kp_, bsome, bnone, gi_s, gj_s, gr_s, gv_s, ik_, jk_, il_, jl_, rl_, i2_, i2_a, i2_b, j2_, j2_a, j2_b, i2d_, i2d_a, i2d_b, j2d_, j2d_a, j2d_b, i1_, i1_a, j1_, j1_a, i2l_, i2l_a, l2i_, l2i_a, fgi_, fgi_a, fgj_, fgj_a, fgr_, fgr_a, iald_, iald_a, iald_b, zald_, zald_a, zald_b, jald_, jald_a, jald_b, rald_, rald_a, rald_b, alen_, alen_a, sald_, sald_a, ic_, ic_a, jc_, jc_a, bc_, bc_a, bc_b, bj_, bj_a, bj_b, bz_, bz_a, band_, band_a, bor_, bor_a, bnot_, bnot_a, anil_, ai_, ai_a, ai_b, aj_, aj_a, aj_b, ar_, ar_a, ar_b, kb2i_, cvi_, cvi_a, cvi_b, cvj_, cvj_a, cvj_b, cvz_, cvz_a, cvz_b, csi_, csi_a, csj_, csj_a, csz_, csz_a, snop_, sseq_, sseq_n, sseq_s, sif_, sif_a, scut_, scut_a, ssi_, ssi_a, ssj_, ssj_a, ssr_, ssr_a, sinc_, sinc_a, sret_, sret_a, sretj_, sretj_a, sretv_, spop_, spop_a, kc_scv_, scv_, scv_a, scv_b, scs_, scs_a, fpi_, fpi_a, fpi_b, fpj_, fpj_a, fpj_b, foi_, foi_a, foi_b, foj_, foj_a, foj_b, aii_, aii_a, aii_b, aii_c, aiz_, aiz_a, aiz_b, aiz_c, aij_, aij_a, aij_b, aij_c, aoi_, aoi_a, aoi_b, aoi_c, aoj_, aoj_a, aoj_b, aoj_c, scopy_, scopy_a, scopy_b, scopy_c, scopy_d, scopy_e, ssw_, ssw_a, sel_n, sel_c, mfi_, mfi_a, mfj_, mfj_a, mfz_, mfz_a, kb_mfv_, mfv_, mfv_a, cut, lset, lset2, isL, Value.category, ent, entn, if_some, if_pair, if_cons, if_int, if_long, if_ref, ite_self, gz_b, ↓icb, ↓icb2, b2i_ne, ge0, ge1, ge2, ge3, ge4, ge5, ge6, ge7, ge8, ge9, ge10, ge11, ge12, ge13, ge14, lit32, nI_add, pk_mul, clt_nI, cle_nI, cgt_nI, cge_nI, ceq_nI, cne_nI, inr_nI, nI_clamp, nI_eq, nI_leI, nI_ltI, k492, f492_2, f492_3, f492_4, f492_5, f492_7, f492_8, f492_9, f492_10, k493, k494, k495, k496, k497, k498, k499, k500, l493, l494, l495, l496, l497, l498, l499, l500, hq, hx, hr, r_chamberAt, ← eN0, l1, z, r_tell, r_in, l_in2, g0, g1]
      have hY : M2.1 494 = upd ((lgf N0 nc 40).1 494) 0 (nI (nc + 1)) := by rw [eM2, wi_ne (by decide), wi_same]
      have hf : ∀ i, i < 131 → i ≠ 0 → ¬ (8 ≤ i ∧ i < 28) → M2.1 494 i = M.1 494 i := fun i z1 z2 z3 => by rw [hY, upd_n z2, lgf_lo z1, eN0, wi_ns (by omega), wi_ns (by omega), wi_ns (by omega), wi_ns (by omega), n1]
      have hlg : ∀ k, k < 40 → ∀ c, c < 5 → M2.1 494 (131 + 5 * k + c) = if c = nc then -(nI 1) else M.1 494 (131 + 5 * k + c) := fun k hk c hc => by
        rw [hY, upd_n (by omega), lgf_k hc hk]
        by_cases e : c = nc
        · rw [if_pos e, if_pos e]
        · rw [if_neg e, if_neg e, eN0, wi_ns (by omega), wi_ns (by omega), wi_ns (by omega), wi_ns (by omega), n1]
      have hin : ∀ c j, j < 4 → c < nc + 1 → M2.1 494 (8 + 4 * c + j) = if c = nc then (if j = 0 then x0 else if j = 1 then x1 else nI 0) else M.1 494 (8 + 4 * c + j) := fun c j hj hc => by
        rw [hY, upd_n (by omega), lgf_lo (by omega), eN0]
        by_cases e : c = nc
        · subst e
          rw [if_pos rfl]
          rcases (by omega : j = 0 ∨ j = 1 ∨ j = 2 ∨ j = 3) with rfl | rfl | rfl | rfl <;> simp [wi]
        · rw [if_neg e, wi_ns (by omega), wi_ns (by omega), wi_ns (by omega), wi_ns (by omega), n1]
      have hV : Vx (M2.1 494) (nc + 1) nt np nw tm := by
        refine h.1.cN hf (fun k hk c hc hne => by rw [hlg k hk c hc, if_neg hne]) (by rw [hY, upd_s]) hw (fun c hc => ?_)
        rw [show 8 + 4 * c = 8 + 4 * c + 0 from rfl, hin c 0 (by decide) hc, hin c 1 (by decide) hc, hin c 2 (by decide) hc, hin c 3 (by decide) hc]
        by_cases e : c = nc
        · simp only [if_pos e]
          refine ⟨by simpa using bw_bd (n := 99) g0, by simpa using bw_bd (n := 4999) g1, ⟨0, by simp, by omega⟩, ⟨0, by simp, by omega⟩⟩
        · simp only [if_neg e]
          exact h.1.2.2.2.1 c (by omega)
      have hLa : Lr Ma 1 (M.1 494) nc nt np nw tm := h.2.1.frame hb.1 hb.2.1 hb.2.2.1 hb.2.2.2.1 (fun a z1 z2 => a4 a (by omega))
      have hL : Lr M1 1 (M2.1 494) (nc + 1) nt np nw tm := by
        have hcell : ∀ c j, j < 4 → c < nc + 1 → M1.1 (1 + 2 + c) j = if c = nc then (if j = 0 then x0 else if j = 1 then x1 else if j = 2 then nI 0 else -(nI 1)) else Ma.1 (1 + 2 + c) j := fun c j hj hc => by
          rw [eM1, wi_ne (by omega)]
          by_cases e : c = nc
          · subst e
            rw [if_pos rfl]
            rcases (by omega : j = 0 ∨ j = 1 ∨ j = 2 ∨ j = 3) with rfl | rfl | rfl | rfl <;> simp [wi]
          · rw [if_neg e, wi_ne (by omega), wi_ne (by omega), wi_ne (by omega), wi_ne (by omega)]
        refine hLa.cN hw hb.2.1 hb.2.2.1 hb.2.2.2.1 hf (fun k hk c hc => ?_) (fun a z1 z2 z3 => by rw [eM1, wi_ne (by omega), wi_ne (by omega), wi_ne (by omega), wi_ne (by omega), wi_ne (by omega)]) (fun j hj => by rw [eM1, wi_ns hj, wi_ne (by omega), wi_ne (by omega), wi_ne (by omega), wi_ne (by omega)]) (by rw [eM1]; simp [wi]) (fun c hc j hj => ?_) (fun c hc => ?_)
        · rw [hlg k (by omega) c hc]
          by_cases e : c = nc
          · rw [if_pos e, h.1.2.2.2.2.2.2.2.2 k hk c (by omega) hc]
          · rw [if_neg e]
        · rw [hcell c j (by omega) hc, hin c j (by omega) hc]
          by_cases e : c = nc
          · rw [if_pos e, if_pos e]
            rcases (by omega : j = 0 ∨ j = 1 ∨ j = 2) with rfl | rfl | rfl <;> rfl
          · rw [if_neg e, if_neg e, hLa.2.2.1 c (by omega) j hj]
        · rw [hcell c 3 (by omega) hc, hin c 3 (by omega) hc]
          by_cases e : c = nc
          · rw [if_pos e, if_pos e]; show -(nI 1) + nI 1 = nI 0; decide
          · rw [if_neg e, if_neg e, hLa.2.2.2.1 c (by omega)]
      have cr := core_act h a1 (M1 := M1) f1 (by rw [eM1]; rfl) hr (M2 := M2) (fun a z1 z2 => by rw [eM2, wi_ne z1, wi_ne z2, lgf_ne z2, eN0, wi_ne z2, wi_ne z2, wi_ne z2, wi_ne z2]) (by rw [eM2, eN0]; rfl) (by rw [eM2]; simp [wi]) (by rw [eM2, wi_ns (by decide), wi_ne (by decide), lgf_ne (by decide), eN0, wi_ne (by decide), wi_ne (by decide), wi_ne (by decide), wi_ne (by decide)]) hV hL (by
        have q7 : ∀ j, j ≠ 0 → M1.1 1 j = M.1 1 j := fun j hj => by rw [eM1, wi_ns hj, wi_ne (by omega), wi_ne (by omega), wi_ne (by omega), wi_ne (by omega), a4 1 (by omega)]
        unfold Nh; rw [q7 7 (by decide), q7 8 (by decide)]; exact h.2.2.1)
      obtain ⟨⟨o2, u2, k1⟩, k2⟩ := cr
      exact ⟨_, _, _, c, r, ⟨_, _, _, _, _, _, _, k1⟩, k2⟩
  · have hcA : bw x0 0 99 = false ∨ bw x1 0 4999 = false := by
      cases e0 : bw x0 0 99 <;> cases e1 : bw x1 0 4999 <;> simp_all
    refine act_rf2 (k := 1) (i := 0) h (by omega) ?_ ?_
    · simp -implicitDefEqProofs (disch := omega) [DX7_chamber, EX7_chamber, kp_, bsome, bnone, gi_s, gj_s, gr_s, gv_s, ik_, jk_, il_, jl_, rl_, i2_, i2_a, i2_b, j2_, j2_a, j2_b, i2d_, i2d_a, i2d_b, j2d_, j2d_a, j2d_b, i1_, i1_a, j1_, j1_a, i2l_, i2l_a, l2i_, l2i_a, fgi_, fgi_a, fgj_, fgj_a, fgr_, fgr_a, iald_, iald_a, iald_b, zald_, zald_a, zald_b, jald_, jald_a, jald_b, rald_, rald_a, rald_b, alen_, alen_a, sald_, sald_a, ic_, ic_a, jc_, jc_a, bc_, bc_a, bc_b, bj_, bj_a, bj_b, bz_, bz_a, band_, band_a, bor_, bor_a, bnot_, bnot_a, anil_, ai_, ai_a, ai_b, aj_, aj_a, aj_b, ar_, ar_a, ar_b, kb2i_, cvi_, cvi_a, cvi_b, cvj_, cvj_a, cvj_b, cvz_, cvz_a, cvz_b, csi_, csi_a, csj_, csj_a, csz_, csz_a, snop_, sseq_, sseq_n, sseq_s, sif_, sif_a, scut_, scut_a, ssi_, ssi_a, ssj_, ssj_a, ssr_, ssr_a, sinc_, sinc_a, sret_, sret_a, sretj_, sretj_a, sretv_, spop_, spop_a, kc_scv_, scv_, scv_a, scv_b, scs_, scs_a, fpi_, fpi_a, fpi_b, fpj_, fpj_a, fpj_b, foi_, foi_a, foi_b, foj_, foj_a, foj_b, aii_, aii_a, aii_b, aii_c, aiz_, aiz_a, aiz_b, aiz_c, aij_, aij_a, aij_b, aij_c, aoi_, aoi_a, aoi_b, aoi_c, aoj_, aoj_a, aoj_b, aoj_c, scopy_, scopy_a, scopy_b, scopy_c, scopy_d, scopy_e, ssw_, ssw_a, sel_n, sel_c, mfi_, mfi_a, mfj_, mfj_a, mfz_, mfz_a, kb_mfv_, mfv_, mfv_a, cut, lset, lset2, isL, Value.category, ent, entn, if_some, if_pair, if_cons, if_int, if_long, if_ref, ite_self, gz_b, ↓icb, ↓icb2, b2i_ne, ge0, ge1, ge2, ge3, ge4, ge5, ge6, ge7, ge8, ge9, ge10, ge11, ge12, ge13, ge14, lit32, nI_add, pk_mul, clt_nI, cle_nI, cgt_nI, cge_nI, ceq_nI, cne_nI, inr_nI, nI_clamp, nI_eq, nI_leI, nI_ltI, k0, f0_0, k1_, c_refuse1, c_within, nI_toInt, stab, hcA]
    · simp -implicitDefEqProofs (disch := omega) [DX8_chamber, EX8_chamber, kp_, bsome, bnone, gi_s, gj_s, gr_s, gv_s, ik_, jk_, il_, jl_, rl_, i2_, i2_a, i2_b, j2_, j2_a, j2_b, i2d_, i2d_a, i2d_b, j2d_, j2d_a, j2d_b, i1_, i1_a, j1_, j1_a, i2l_, i2l_a, l2i_, l2i_a, fgi_, fgi_a, fgj_, fgj_a, fgr_, fgr_a, iald_, iald_a, iald_b, zald_, zald_a, zald_b, jald_, jald_a, jald_b, rald_, rald_a, rald_b, alen_, alen_a, sald_, sald_a, ic_, ic_a, jc_, jc_a, bc_, bc_a, bc_b, bj_, bj_a, bj_b, bz_, bz_a, band_, band_a, bor_, bor_a, bnot_, bnot_a, anil_, ai_, ai_a, ai_b, aj_, aj_a, aj_b, ar_, ar_a, ar_b, kb2i_, cvi_, cvi_a, cvi_b, cvj_, cvj_a, cvj_b, cvz_, cvz_a, cvz_b, csi_, csi_a, csj_, csj_a, csz_, csz_a, snop_, sseq_, sseq_n, sseq_s, sif_, sif_a, scut_, scut_a, ssi_, ssi_a, ssj_, ssj_a, ssr_, ssr_a, sinc_, sinc_a, sret_, sret_a, sretj_, sretj_a, sretv_, spop_, spop_a, kc_scv_, scv_, scv_a, scv_b, scs_, scs_a, fpi_, fpi_a, fpi_b, fpj_, fpj_a, fpj_b, foi_, foi_a, foi_b, foj_, foj_a, foj_b, aii_, aii_a, aii_b, aii_c, aiz_, aiz_a, aiz_b, aiz_c, aij_, aij_a, aij_b, aij_c, aoi_, aoi_a, aoi_b, aoi_c, aoj_, aoj_a, aoj_b, aoj_c, scopy_, scopy_a, scopy_b, scopy_c, scopy_d, scopy_e, ssw_, ssw_a, sel_n, sel_c, mfi_, mfi_a, mfj_, mfj_a, mfz_, mfz_a, kb_mfv_, mfv_, mfv_a, cut, lset, lset2, isL, Value.category, ent, entn, if_some, if_pair, if_cons, if_int, if_long, if_ref, ite_self, gz_b, ↓icb, ↓icb2, b2i_ne, ge0, ge1, ge2, ge3, ge4, ge5, ge6, ge7, ge8, ge9, ge10, ge11, ge12, ge13, ge14, lit32, nI_add, pk_mul, clt_nI, cle_nI, cgt_nI, cge_nI, ceq_nI, cne_nI, inr_nI, nI_clamp, nI_eq, nI_leI, nI_ltI, k492, f492_2, f492_3, f492_4, f492_5, f492_7, f492_8, f492_9, f492_10, k493, k494, k495, k496, k497, k498, k499, k500, l493, l494, l495, l496, l497, l498, l499, l500, r_refuse1', r_in, l_in2, hcA]
