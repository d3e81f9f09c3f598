/-! ===== one step of both ===== -/
noncomputable def spW (X : Nat → Int32) (nc nt np nw tm : Nat) : Nat → Int32 := (wtS X nc nt np tm nw).1
noncomputable def spT (X : Nat → Int32) (nc nt np nw tm : Nat) : Nat → Bool := tpT (spW X nc nt np nw tm) (kyN (spW X nc nt np nw tm) nc nt np 9 0)
noncomputable def spY (X : Nat → Int32) (nc nt np nw tm : Nat) : Nat → Int32 := tpX (spW X nc nt np nw tm) (spT X nc nt np nw tm) np
noncomputable def spV (X : Nat → Int32) (nc nt np nw tm : Nat) : Nat → Int32 := lgV nc (kyN (spY X nc nt np nw tm) nc nt np 9 0)
def stX (Y : Nat → Int32) (nc tm : Nat) (V : Nat → Int32) : Nat → Int32 := upd (bkX (lgX Y tm V) nc) 4 (nI (tm + 1))
noncomputable def spX (X : Nat → Int32) (nc nt np nw tm : Nat) : Nat → Int32 := stX (spY X nc nt np nw tm) nc tm (spV X nc nt np nw tm)
noncomputable def spN (X : Nat → Int32) (nc nt np nw tm : Nat) : Nat := (wtS X nc nt np tm nw).2 + tpN (spT X nc nt np nw tm) np
section
variable {P N : Me} {X Y V : Nat → Int32} {T : Nat → Bool} {nc nt np nw tm tB b i c : Nat}
set_option maxRecDepth 20000 in
theorem stX_at (h : i < 131) (h4 : i ≠ 4) (h7 : i ≠ 7) (hg : ¬ (8 ≤ i ∧ i < 8 + 4 * nc ∧ (i - 8) % 4 = 1)) : stX Y nc tm V i = Y i := by
  unfold stX
  rw [upd_n h4, bkX_at hg, lgX_at h h7]
set_option maxRecDepth 20000 in
theorem stX_7 : stX Y nc tm V 7 = nI (min (tm + 1) 40) := by
  unfold stX
  rw [upd_n (by decide), bkX_at (by omega), lgX_7]
set_option maxRecDepth 20000 in
theorem stX_g (hc : c < nc) (h5 : nc ≤ 5) : stX Y nc tm V (8 + 4 * c + 1) = Y (8 + 4 * c + 1) - Y (8 + 4 * c + 1) * Y (8 + 4 * c + 2) / nI 64 := by
  unfold stX
  rw [upd_n (by omega)]
  unfold bkX
  rw [if_pos (by omega), lgX_at (by omega) (by omega), lgX_at (by omega) (by omega)]
set_option maxRecDepth 20000 in
theorem stX_l (h5 : nc ≤ 5) (hi : 131 ≤ i) : stX Y nc tm V i = lgX Y tm V i := by
  unfold stX
  rw [upd_n (by omega), bkX_at (by omega)]
set_option maxRecDepth 20000 in
theorem stX_vx (hv : VxB Y nc nt np nw tm (tm + 1)) (ht : tm + 1 ≤ 9999) (hV : ∀ c, nc ≤ c → V c = -(nI 1)) : Vx (stX Y nc tm V) nc nt np nw (tm + 1) := by
  have hb := hv.2.1
  obtain ⟨h1, h2, h3, h4, h5, h6, h7, h8, h9⟩ := hv
  refine ⟨?_, ⟨h2.1, h2.2.1, h2.2.2.1, h2.2.2.2.1, ht⟩, ?_, fun c hc => ?_, fun t ht => ?_, fun p hp => ?_, fun w hw9 => ?_, fun c hc => ?_, fun k hk c hc hc5 => ?_⟩
  · rw [stX_7, stX_at (by omega) (by omega) (by omega) (by omega), stX_at (by omega) (by omega) (by omega) (by omega), stX_at (by omega) (by omega) (by omega) (by omega), stX_at (by omega) (by omega) (by omega) (by omega)]
    exact ⟨h1.1, h1.2.1, h1.2.2.1, h1.2.2.2.1, by unfold stX; rw [upd_s], rfl⟩
  · unfold VxL
    rw [stX_at (by omega) (by omega) (by omega) (by omega), stX_at (by omega) (by omega) (by omega) (by omega)]; exact h3
  · rw [stX_g hc h2.1, stX_at (by omega) (by omega) (by omega) (by omega), stX_at (by omega) (by omega) (by omega) (by omega), stX_at (by omega) (by omega) (by omega) (by omega)]
    obtain ⟨b0, b1, b2, b3⟩ := h4 c hc
    exact ⟨b0, bk_bd ⟨h1, h2, h3, h4, h5, h6, h7, h8, h9⟩ hc, b2, b3⟩
  · unfold VxT; rw [stX_at (by omega) (by omega) (by omega) (by omega), stX_at (by omega) (by omega) (by omega) (by omega), stX_at (by omega) (by omega) (by omega) (by omega), stX_at (by omega) (by omega) (by omega) (by omega)]; exact h5 t ht
  · unfold VxP; rw [stX_at (by omega) (by omega) (by omega) (by omega), stX_at (by omega) (by omega) (by omega) (by omega), stX_at (by omega) (by omega) (by omega) (by omega), stX_at (by omega) (by omega) (by omega) (by omega), stX_at (by omega) (by omega) (by omega) (by omega), stX_at (by omega) (by omega) (by omega) (by omega), stX_at (by omega) (by omega) (by omega) (by omega), stX_at (by omega) (by omega) (by omega) (by omega), stX_at (by omega) (by omega) (by omega) (by omega)]; exact h6 p hp
  · unfold VxW; rw [stX_at (by omega) (by omega) (by omega) (by omega), stX_at (by omega) (by omega) (by omega) (by omega), stX_at (by omega) (by omega) (by omega) (by omega), stX_at (by omega) (by omega) (by omega) (by omega), stX_at (by omega) (by omega) (by omega) (by omega)]; exact h7 w hw9
  · rw [wtP_cg (fun i a1 a2 => stX_at (by omega) (by omega) (by omega) (by omega)) np h2.2.2.1, wtT_cg (fun i a1 a2 => stX_at (by omega) (by omega) (by omega) (by omega)) nt h2.2.1]; exact h8 c hc
  · rw [stX_l h2.1 (by omega), lgX_l hc5 hk]
    by_cases e : k + 1 = min (tm + 1) 40
    · rw [if_pos e]; exact hV c hc
    · rw [if_neg e]
      by_cases z : tm < 40
      · rw [if_pos z]; exact h9 k (by omega) c hc hc5
      · rw [if_neg z]; exact h9 (k + 1) (by omega) c hc hc5
theorem lgV_n {k : Nat → Nat} (h : nc ≤ c) : lgV nc k c = -(nI 1) := by unfold lgV; rw [if_neg (by omega)]
theorem spW_vx (hv : Vx X nc nt np nw tm) : Vx (spW X nc nt np nw tm) nc nt np nw tm := wtS_vx hv nw (Nat.le_refl _)
theorem spY_vx (hv : Vx X nc nt np nw tm) : VxB (spY X nc nt np nw tm) nc nt np nw tm (tm + 1) := tpX_vx (spW_vx hv)
theorem spX_vx (hv : Vx X nc nt np nw tm) (ht : tm + 1 ≤ 9999) : Vx (spX X nc nt np nw tm) nc nt np nw (tm + 1) := stX_vx (spY_vx hv) ht (fun _ hc => lgV_n hc)
set_option maxRecDepth 20000 in
theorem spN_le (h3 : np ≤ 3) (hw : nw ≤ 6) : spN X nc nt np nw tm ≤ 9 := by
  have a := wtS_le (X := X) (nc := nc) (nt := nt) (np := np) (tm := tm) nw
  have b := tpN_le (T := spT X nc nt np nw tm) np
  unfold spN
  omega
set_option maxRecDepth 20000 in
theorem pc_msk (h : np ≤ 3) : pc10 (msk T np) = tpN T np := by
  rcases (by omega : np = 0 ∨ np = 1 ∨ np = 2 ∨ np = 3) with rfl | rfl | rfl | rfl
  · show pc10 0 = 0
    decide
  · simp only [msk, tpN]; cases T 0 <;> rfl
  · simp only [msk, tpN]; cases T 0 <;> cases T 1 <;> rfl
  · simp only [msk, tpN]; cases T 0 <;> cases T 1 <;> cases T 2 <;> rfl
set_option maxRecDepth 20000 in
theorem msk_n0 (h : np ≤ 3) : msk T np = 0 ↔ tpN T np = 0 := by
  rcases (by omega : np = 0 ∨ np = 1 ∨ np = 2 ∨ np = 3) with rfl | rfl | rfl | rfl
  · simp [msk, tpN]
  · simp only [msk, tpN]; cases T 0 <;> decide
  · simp only [msk, tpN]; cases T 0 <;> cases T 1 <;> decide
  · simp only [msk, tpN]; cases T 0 <;> cases T 1 <;> cases T 2 <;> decide
set_option maxRecDepth 20000 in
theorem r_step (hX : N.1 494 = X) (hv : Vx X nc nt np nw tm) : ∃ O, DX8_step [.ref 492] N = some (nI (spN X nc nt np nw tm), O) ∧ O.1 494 = spX X nc nt np nw tm ∧ Q6 N O := by
  have hB := hv.2.1
  obtain ⟨A, a1, a2, a3⟩ := r_ask hX hv
  have hW := spW_vx hv
  obtain ⟨B, b1, b2, b3⟩ := r_trips (X := spW X nc nt np nw tm) a2 hW
  have hY := spY_vx hv
  obtain ⟨C, c1, c2, c3⟩ := r_logs (X := spY X nc nt np nw tm) b2 hY
  obtain ⟨D, d1, d2, d3, d4⟩ := r_bakeL (n := nI (spN X nc nt np nw tm)) c2 (by rw [lgX_at (by omega) (by omega)]; exact hY.1.1) hB.1
  have d5 : D.1 494 4 = nI tm := by rw [d2, bkX_at (by omega), lgX_at (by omega) (by omega)]; exact hY.1.2.2.2.2.1
  refine ⟨wi D 494 4 (nI (tm + 1)), ?_, by rw [wi_same, d2]; rfl, a3.trans (b3.trans (c3.trans (Q6.trans ⟨fun a ha => d3 a (by omega), fun j _ => by rw [d3 492 (by decide)], fun _ _ => by rw [d4]⟩ q6_w)))⟩
  have b1' : DX8_trips [.ref 492] A = some (nI (tpN (spT X nc nt np nw tm) np), B) := b1
  have e : (wtS X nc nt np tm nw).2 + tpN (spT X nc nt np nw tm) np = spN X nc nt np nw tm := rfl
  simp -implicitDefEqProofs (disch := omega) [DX8_step, EX8_step, kp_, bsome, bnone, gi_s, gj_s, gr_s, gv_s, ik_, jk_, il_, jl_, rl_, i2_, i2_a, i2_b, j2_, j2_a, j2_b, i2d_, i2d_a, i2d_b, j2d_, j2d_a, j2d_b, i1_, i1_a, j1_, j1_a, i2l_, i2l_a, l2i_, l2i_a, fgi_, fgi_a, fgj_, fgj_a, fgr_, fgr_a, iald_, iald_a, iald_b, zald_, zald_a, zald_b, jald_, jald_a, jald_b, rald_, rald_a, rald_b, alen_, alen_a, sald_, sald_a, ic_, ic_a, jc_, jc_a, bc_, bc_a, bc_b, bj_, bj_a, bj_b, bz_, bz_a, band_, band_a, bor_, bor_a, bnot_, bnot_a, anil_, ai_, ai_a, ai_b, aj_, aj_a, aj_b, ar_, ar_a, ar_b, kb2i_, cvi_, cvi_a, cvi_b, cvj_, cvj_a, cvj_b, cvz_, cvz_a, cvz_b, csi_, csi_a, csj_, csj_a, csz_, csz_a, snop_, sseq_, sseq_n, sseq_s, sif_, sif_a, scut_, scut_a, ssi_, ssi_a, ssj_, ssj_a, ssr_, ssr_a, sinc_, sinc_a, sret_, sret_a, sretj_, sretj_a, sretv_, spop_, spop_a, kc_scv_, scv_, scv_a, scv_b, scs_, scs_a, fpi_, fpi_a, fpi_b, fpj_, fpj_a, fpj_b, foi_, foi_a, foi_b, foj_, foj_a, foj_b, aii_, aii_a, aii_b, aii_c, aiz_, aiz_a, aiz_b, aiz_c, aij_, aij_a, aij_b, aij_c, aoi_, aoi_a, aoi_b, aoi_c, aoj_, aoj_a, aoj_b, aoj_c, scopy_, scopy_a, scopy_b, scopy_c, scopy_d, scopy_e, ssw_, ssw_a, sel_n, sel_c, mfi_, mfi_a, mfj_, mfj_a, mfz_, mfz_a, kb_mfv_, mfv_, mfv_a, cut, lset, lset2, isL, Value.category, ent, entn, if_some, if_pair, if_cons, if_int, if_long, if_ref, ite_self, gz_b, ↓icb, ↓icb2, b2i_ne, ge0, ge1, ge2, ge3, ge4, ge5, ge6, ge7, ge8, ge9, ge10, ge11, ge12, ge13, ge14, lit32, nI_add, pk_mul, clt_nI, cle_nI, cgt_nI, cge_nI, ceq_nI, cne_nI, inr_nI, nI_clamp, nI_eq, nI_leI, nI_ltI, k492, f492_2, f492_3, f492_4, f492_5, f492_7, f492_8, f492_9, f492_10, k493, k494, k495, k496, k497, k498, k499, k500, l493, l494, l495, l496, l497, l498, l499, l500, a1, b1', e, c1, d1, d5]
set_option maxRecDepth 20000 in
theorem c_bake (hL : Lr P b (lwX Y tm V) nc nt np nw tm) (hv : VxB Y nc nt np nw tm tB) (hV : ∀ c, nc ≤ c → V c = -(nI 1)) (hl : ∀ c, c < 5 → P.1 (b + 29) (tm % 40 * 5 + c) = V c) : ∃ Q, DX1_bake [.ref b] P = some Q ∧ Lr Q b (stX Y nc tm V) nc nt np nw (tm + 1) ∧ (Nh P b → Nh Q b) ∧ (∀ a, a < b ∨ b + 30 ≤ a → Q.1 a = P.1 a) ∧ Q.2 = P.2 := by
  have hb := hL.1
  have hB := hv.2.1
  obtain ⟨Q, l1, y1, y2, y3⟩ := c_bakeL hL (lwX_vx hv hV)
  have q4 := y1.2.1.2.2.2.2.1
  refine ⟨wi Q b 4 (nI (tm + 1)), ?_, ?_, fun hn => ?_, fun a ha => by rw [wi_ne (by omega)]; exact y2 a (by omega), by rw [wi_2]; exact y3⟩
  · simp -implicitDefEqProofs (disch := omega) [DX1_bake, EX1_bake, kp_, bsome, bnone, gi_s, gj_s, gr_s, gv_s, ik_, jk_, il_, jl_, rl_, i2_, i2_a, i2_b, j2_, j2_a, j2_b, i2d_, i2d_a, i2d_b, j2d_, j2d_a, j2d_b, i1_, i1_a, j1_, j1_a, i2l_, i2l_a, l2i_, l2i_a, fgi_, fgi_a, fgj_, fgj_a, fgr_, fgr_a, iald_, iald_a, iald_b, zald_, zald_a, zald_b, jald_, jald_a, jald_b, rald_, rald_a, rald_b, alen_, alen_a, sald_, sald_a, ic_, ic_a, jc_, jc_a, bc_, bc_a, bc_b, bj_, bj_a, bj_b, bz_, bz_a, band_, band_a, bor_, bor_a, bnot_, bnot_a, anil_, ai_, ai_a, ai_b, aj_, aj_a, aj_b, ar_, ar_a, ar_b, kb2i_, cvi_, cvi_a, cvi_b, cvj_, cvj_a, cvj_b, cvz_, cvz_a, cvz_b, csi_, csi_a, csj_, csj_a, csz_, csz_a, snop_, sseq_, sseq_n, sseq_s, sif_, sif_a, scut_, scut_a, ssi_, ssi_a, ssj_, ssj_a, ssr_, ssr_a, sinc_, sinc_a, sret_, sret_a, sretj_, sretj_a, sretv_, spop_, spop_a, kc_scv_, scv_, scv_a, scv_b, scs_, scs_a, fpi_, fpi_a, fpi_b, fpj_, fpj_a, fpj_b, foi_, foi_a, foi_b, foj_, foj_a, foj_b, aii_, aii_a, aii_b, aii_c, aiz_, aiz_a, aiz_b, aiz_c, aij_, aij_a, aij_b, aij_c, aoi_, aoi_a, aoi_b, aoi_c, aoj_, aoj_a, aoj_b, aoj_c, scopy_, scopy_a, scopy_b, scopy_c, scopy_d, scopy_e, ssw_, ssw_a, sel_n, sel_c, mfi_, mfi_a, mfj_, mfj_a, mfz_, mfz_a, kb_mfv_, mfv_, mfv_a, cut, lset, lset2, isL, Value.category, ent, entn, if_some, if_pair, if_cons, if_int, if_long, if_ref, ite_self, gz_b, ↓icb, ↓icb2, b2i_ne, ge0, ge1, ge2, ge3, ge4, ge5, ge6, ge7, ge8, ge9, ge10, ge11, ge12, ge13, ge14, lit32, nI_add, pk_mul, clt_nI, cle_nI, cgt_nI, cge_nI, ceq_nI, cne_nI, inr_nI, nI_clamp, nI_eq, nI_leI, nI_ltI, a_kb hb, a_9 hb, a_10 hb, a_11 hb, a_12 hb, a_13 hb, a_k1 hb, a_l1 hb, a_k7 hb, a_l7 hb, a_k18 hb, a_l18 hb, a_k22 hb, a_l22 hb, a_k29 hb, a_l29 hb, a_rc hb, a_kc hb, a_lc hb, a_rt hb, a_kt hb, a_lt hb, a_rp hb, a_kp hb, a_lp hb, a_rw hb, a_kw hb, a_lw hb, l1, q4]
  · obtain ⟨h0, h1, h2, h3, h4, h5, h6, h7⟩ := y1
    have lb : ∀ i, i < 131 → ¬ (8 ≤ i ∧ i < 8 + 4 * nc ∧ (i - 8) % 4 = 1) → bkX (lwX Y tm V) nc i = Y i := fun i hi hg => by rw [bkX_at hg, lwX_at (by omega)]
    refine ⟨h0, ?_, fun c hc1 j hj => ?_, fun c hc1 => ?_, fun t ht1 j hj => ?_, fun p hp1 j hj => ?_, fun w hw1 j hj => ?_, fun k hk c hc1 => ?_⟩
    · have w4 : ∀ j, j ≠ 4 → (wi Q b 4 (nI (tm + 1))).1 b j = Q.1 b j := fun j hj => wi_ns hj
      rw [w4 0 (by decide), w4 1 (by decide), w4 2 (by decide), w4 3 (by decide), w4 5 (by decide), w4 6 (by decide), stX_at (by omega) (by omega) (by omega) (by omega), stX_at (by omega) (by omega) (by omega) (by omega)]
      rw [lb 5 (by omega) (by omega), lb 6 (by omega) (by omega)] at h1
      exact ⟨h1.1, h1.2.1, h1.2.2.1, h1.2.2.2.1, wi_at, h1.2.2.2.2.2.1, h1.2.2.2.2.2.2⟩
    · rw [wi_ne (by omega), h2 c hc1 j hj]
      rcases (by omega : j = 0 ∨ j = 1 ∨ j = 2) with rfl | rfl | rfl
      · rw [lb _ (by omega) (by omega), stX_at (by omega) (by omega) (by omega) (by omega)]
      · rw [stX_g hc1 hB.1]
        unfold bkX
        rw [if_pos (by omega), lwX_at (by omega), lwX_at (by omega)]
      · rw [lb _ (by omega) (by omega), stX_at (by omega) (by omega) (by omega) (by omega)]
    · rw [wi_ne (by omega), h3 c hc1, lb _ (by omega) (by omega), stX_at (by omega) (by omega) (by omega) (by omega)]
    · rw [wi_ne (by omega), h4 t ht1 j hj, lb _ (by omega) (by omega), stX_at (by omega) (by omega) (by omega) (by omega)]
    · rw [wi_ne (by omega), h5 p hp1 j hj, lb _ (by omega) (by omega), stX_at (by omega) (by omega) (by omega) (by omega)]
    · rw [wi_ne (by omega), h6 w hw1 j hj, lb _ (by omega) (by omega), stX_at (by omega) (by omega) (by omega) (by omega)]
    · rw [wi_ne (by omega), stX_l hB.1 (by omega), lgX_l hc1 hk]
      by_cases e : k + 1 = min (tm + 1) 40
      · rw [if_pos e, ← hl c hc1, y2 (b + 29) (by omega)]
        exact congrArg (P.1 (b + 29)) (by omega)
      · rw [if_neg e]
        by_cases z : tm < 40
        · have q := h7 k (by omega) c hc1
          rw [bkX_at (by omega)] at q
          unfold lwX at q
          rw [if_neg (by omega)] at q
          rw [if_pos z, ← q]
          exact congrArg (Q.1 (b + 29)) (by omega)
        · have q := h7 (k + 1) (by omega) c hc1
          rw [bkX_at (by omega), lwX_at (by omega)] at q
          rw [if_neg z, ← q]
          exact congrArg (Q.1 (b + 29)) (by omega)
  · unfold Nh
    rw [wi_ns (by decide), wi_ns (by decide), y2 b (by omega)]
    exact hn
set_option maxRecDepth 20000 in
theorem c_step (hL : Lr P b X nc nt np nw tm) (hv : Vx X nc nt np nw tm) (hb63 : b + 30 ≤ 61) (hn : Nh P b) (hI : BInv P) : ∃ Q, DX6_step [.ref 97, .ref b] P = some (nI (spN X nc nt np nw tm), Q) ∧ Lr Q b (spX X nc nt np nw tm) nc nt np nw (tm + 1) ∧ Nh Q b ∧ BInv Q ∧ CP b P Q ∧ Q.1 97 1 = nI (msk (spT X nc nt np nw tm) np) := by
  have hb := hL.1
  have hB := hv.2.1
  obtain ⟨A, a1, a2, a3, a4, a5⟩ := c_ask hL hv hb63 hn hI
  have hW := spW_vx hv
  obtain ⟨B, b1, b2, b3, b4, b5, b6⟩ := c_trips (X := spW X nc nt np nw tm) a2 hW hb63 a3 a4
  have hY := spY_vx hv
  obtain ⟨C, c1, c2, c3, c4, c5, c6⟩ := c_logs (X := spY X nc nt np nw tm) b2 hY hb63 b3 b4
  obtain ⟨D, d1, d2, d3, d4, d5⟩ := c_bake c2 hY (fun _ hc => lgV_n hc) c6
  have f98 : D.1 97 1 = nI (msk (spT X nc nt np nw tm) np) := by rw [d4 97 (by omega), (c5 97 (by omega)).1]; exact b6
  have lt : msk (spT X nc nt np nw tm) np < 1024 := Nat.lt_of_lt_of_le (msk_lt _) (Nat.pow_le_pow_right (i := np) (j := 10) (by decide) (by omega))
  have bc := j_bits (M := D) (x := nI (msk (spT X nc nt np nw tm) np))
  rw [bc_chk _ lt, pc_msk hB.2.2.1] at bc
  refine ⟨D, ?_, d2, d3 c3, c4.frame (fun a _ z1 z2 => d4 a (by omega)) (fun _ _ _ => by rw [d5]), a5.cp.trans (b5.trans (c5.cp.trans (fun a ha => ⟨d4 a (by omega), by rw [d5]⟩))), f98⟩
  have e : (wtS X nc nt np tm nw).2 + tpN (spT X nc nt np nw tm) np = spN X nc nt np nw tm := rfl
  simp -implicitDefEqProofs (disch := omega) [DX6_step, EX6_step, kp_, bsome, bnone, gi_s, gj_s, gr_s, gv_s, ik_, jk_, il_, jl_, rl_, i2_, i2_a, i2_b, j2_, j2_a, j2_b, i2d_, i2d_a, i2d_b, j2d_, j2d_a, j2d_b, i1_, i1_a, j1_, j1_a, i2l_, i2l_a, l2i_, l2i_a, fgi_, fgi_a, fgj_, fgj_a, fgr_, fgr_a, iald_, iald_a, iald_b, zald_, zald_a, zald_b, jald_, jald_a, jald_b, rald_, rald_a, rald_b, alen_, alen_a, sald_, sald_a, ic_, ic_a, jc_, jc_a, bc_, bc_a, bc_b, bj_, bj_a, bj_b, bz_, bz_a, band_, band_a, bor_, bor_a, bnot_, bnot_a, anil_, ai_, ai_a, ai_b, aj_, aj_a, aj_b, ar_, ar_a, ar_b, kb2i_, cvi_, cvi_a, cvi_b, cvj_, cvj_a, cvj_b, cvz_, cvz_a, cvz_b, csi_, csi_a, csj_, csj_a, csz_, csz_a, snop_, sseq_, sseq_n, sseq_s, sif_, sif_a, scut_, scut_a, ssi_, ssi_a, ssj_, ssj_a, ssr_, ssr_a, sinc_, sinc_a, sret_, sret_a, sretj_, sretj_a, sretv_, spop_, spop_a, kc_scv_, scv_, scv_a, scv_b, scs_, scs_a, fpi_, fpi_a, fpi_b, fpj_, fpj_a, fpj_b, foi_, foi_a, foi_b, foj_, foj_a, foj_b, aii_, aii_a, aii_b, aii_c, aiz_, aiz_a, aiz_b, aiz_c, aij_, aij_a, aij_b, aij_c, aoi_, aoi_a, aoi_b, aoi_c, aoj_, aoj_a, aoj_b, aoj_c, scopy_, scopy_a, scopy_b, scopy_c, scopy_d, scopy_e, ssw_, ssw_a, sel_n, sel_c, mfi_, mfi_a, mfj_, mfj_a, mfz_, mfz_a, kb_mfv_, mfv_, mfv_a, cut, lset, lset2, isL, Value.category, ent, entn, if_some, if_pair, if_cons, if_int, if_long, if_ref, ite_self, gz_b, ↓icb, ↓icb2, b2i_ne, ge0, ge1, ge2, ge3, ge4, ge5, ge6, ge7, ge8, ge9, ge10, ge11, ge12, ge13, ge14, lit32, nI_add, pk_mul, clt_nI, cle_nI, cgt_nI, cge_nI, ceq_nI, cne_nI, inr_nI, nI_clamp, nI_eq, nI_leI, nI_ltI, a_kb hb, a_9 hb, a_10 hb, a_11 hb, a_12 hb, a_13 hb, a_k1 hb, a_l1 hb, a_k7 hb, a_l7 hb, a_k18 hb, a_l18 hb, a_k22 hb, a_l22 hb, a_k29 hb, a_l29 hb, a_rc hb, a_kc hb, a_lc hb, a_rt hb, a_kt hb, a_lt hb, a_rp hb, a_kp hb, a_lp hb, a_rw hb, a_kw hb, a_lw hb, k97, a1, b1, c1, d1, f98, bc, e]
end
