/-! ===== reduced: the call ===== -/
def rlG (M N : Me) : Prop := (∀ a, a ≠ 510 → a ≠ 511 → a ≠ 492 → N.1 a = M.1 a) ∧ (∀ j, j ≠ 0 → j ≠ 31 → N.1 492 j = M.1 492 j) ∧ ∀ a, a ≠ 512 → a ≠ 513 → N.2 a = M.2 a
def vI (T : Nat → Option (Nat × Nat × Rat)) : Nat → Int32
  | 0 => -(nI 1)
  | i + 1 => if (T i).isSome = true then nI i else vI T i
section
variable {M N P : Me} {X : Nat → Int32} {w0 : Nat → Nat → Rat} {T : Nat → Option (Nat × Nat × Rat)} {n s i j a b c d f t p k nc nt np nw tm tB o u : Nat} {q r z : Rat}
set_option maxRecDepth 20000 in
theorem r_redTubes (hM : M.1 494 = X) (h31 : M.1 492 31 = nI 0) (hv : VxB X nc nt np nw tm tB) {x0 x1 x2 : Int32} : ∃ N, swh qX8_reduced_1 wX8_reduced_1 [.ref 492, .int x0, .int x1, .int x2, .int (nI 0), .null, .null, .null] M = some (none, [.ref 492, .int x0, .int x1, .int x2, .int (nI nt), .null, .null, .null], N) ∧ ∃ T n, n ≤ nt ∧ rlA N T n ∧ uG T n ∧ (∀ i a b q, i < n → T i = some (a, b, q) → q.den = 1) ∧ uW T n = wI X nt ∧ rlG M N := by
  have hB := hv.2.1
  have w1 : ∀ (N : Me) i v, (wi N 510 i v).1 492 = N.1 492 := fun N i v => wi_ne (by decide)
  have w2 : ∀ (N : Me) i v, (wi N 511 i v).1 492 = N.1 492 := fun N i v => wi_ne (by decide)
  have w3 : ∀ (N : Me) i v, (wi N 510 i v).1 494 = N.1 494 := fun N i v => wi_ne (by decide)
  have w4 : ∀ (N : Me) i v, (wi N 511 i v).1 494 = N.1 494 := fun N i v => wi_ne (by decide)
  exact swh_inv (c := qX8_reduced_1) (b := wX8_reduced_1) (fun i => [.ref 492, .int x0, .int x1, .int x2, .int (nI i), .null, .null, .null]) (fun m N => ∃ T n, n ≤ m ∧ rlA N T n ∧ uG T n ∧ (∀ i a b q, i < n → T i = some (a, b, q) → q.den = 1) ∧ uW T n = wI X m ∧ rlG M N) nt
    (fun i hi N ⟨T, n, hn, hR, hG, hd, hw, hF⟩ => by
      have hX : N.1 494 = X := by rw [hF.1 494 (by decide) (by decide) (by decide)]; exact hM
      have n1 := hv.1.2.1
      simp -implicitDefEqProofs (disch := omega) [qX8_reduced_1, kp_, bsome, bnone, gi_s, gj_s, gr_s, gv_s, ik_, jk_, il_, jl_, rl_, i2_, i2_a, i2_b, j2_, j2_a, j2_b, i2d_, i2d_a, i2d_b, j2d_, j2d_a, j2d_b, i1_, i1_a, j1_, j1_a, i2l_, i2l_a, l2i_, l2i_a, fgi_, fgi_a, fgj_, fgj_a, fgr_, fgr_a, iald_, iald_a, iald_b, zald_, zald_a, zald_b, jald_, jald_a, jald_b, rald_, rald_a, rald_b, alen_, alen_a, sald_, sald_a, ic_, ic_a, jc_, jc_a, bc_, bc_a, bc_b, bj_, bj_a, bj_b, bz_, bz_a, band_, band_a, bor_, bor_a, bnot_, bnot_a, anil_, ai_, ai_a, ai_b, aj_, aj_a, aj_b, ar_, ar_a, ar_b, kb2i_, cvi_, cvi_a, cvi_b, cvj_, cvj_a, cvj_b, cvz_, cvz_a, cvz_b, csi_, csi_a, csj_, csj_a, csz_, csz_a, snop_, sseq_, sseq_n, sseq_s, sif_, sif_a, scut_, scut_a, ssi_, ssi_a, ssj_, ssj_a, ssr_, ssr_a, sinc_, sinc_a, sret_, sret_a, sretj_, sretj_a, sretv_, spop_, spop_a, kc_scv_, scv_, scv_a, scv_b, scs_, scs_a, fpi_, fpi_a, fpi_b, fpj_, fpj_a, fpj_b, foi_, foi_a, foi_b, foj_, foj_a, foj_b, aii_, aii_a, aii_b, aii_c, aiz_, aiz_a, aiz_b, aiz_c, aij_, aij_a, aij_b, aij_c, aoi_, aoi_a, aoi_b, aoi_c, aoj_, aoj_a, aoj_b, aoj_c, scopy_, scopy_a, scopy_b, scopy_c, scopy_d, scopy_e, ssw_, ssw_a, sel_n, sel_c, mfi_, mfi_a, mfj_, mfj_a, mfz_, mfz_a, kb_mfv_, mfv_, mfv_a, cut, lset, lset2, isL, Value.category, ent, entn, if_some, if_pair, if_cons, if_int, if_long, if_ref, ite_self, gz_b, ↓icb, ↓icb2, b2i_ne, ge0, ge1, ge2, ge3, ge4, ge5, ge6, ge7, ge8, ge9, ge10, ge11, ge12, ge13, ge14, lit32, nI_add, pk_mul, clt_nI, cle_nI, cgt_nI, cge_nI, ceq_nI, cne_nI, inr_nI, nI_clamp, nI_eq, nI_leI, nI_ltI, k492, f492_2, f492_3, f492_4, f492_5, f492_7, f492_8, f492_9, f492_10, k493, k494, k495, k496, k497, k498, k499, k500, l493, l494, l495, l496, l497, l498, l499, l500, hX, n1, hi])
    (fun i hi N ⟨T, n, hn, hR, hG, hd, hw, hF⟩ => by
      have hX : N.1 494 = X := by rw [hF.1 494 (by decide) (by decide) (by decide)]; exact hM
      obtain ⟨d, oo, v1, v2, v3, v4, v5, v6, v7, v8, v9, v10, v11⟩ := tubeX hB.1 (hv.2.2.2.2.1 i hi)
      obtain ⟨dd, d1, d2⟩ := dX_e hB.1 (hv.2.2.2.2.1 i hi)
      have i10 : i < 10 := by omega
      have n10 : n < 10 := by omega
      have ro := r_opn hX hv hi
      have n31 := hR.1
      cases ho : oX X i with
      | true =>
        rw [ho] at ro
        have jd : (nI (dX X i)).toInt64 = jN (dX X i) := nI_j (by omega)
        have j1 : (1 : Int64) = jN 1 := rfl
        refine ⟨wi (wj (wj (wi (wi N 510 n (nI (fX X i))) 511 n (nI (gX X i))) 512 n (jN (dX X i))) 513 n (jN 1)) 492 31 (nI (n + 1)), ?_, uU T n (some (fX X i, gX X i, ((dX X i : Nat) : Rat))), n + 1, by omega, ⟨?_, by omega, fun k hk => ?_⟩, fun k hk a b q e => ?_, fun k a b q hk e => ?_, ?_, ?_⟩
        · simp -implicitDefEqProofs (disch := omega) [wX8_reduced_1, kp_, bsome, bnone, gi_s, gj_s, gr_s, gv_s, ik_, jk_, il_, jl_, rl_, i2_, i2_a, i2_b, j2_, j2_a, j2_b, i2d_, i2d_a, i2d_b, j2d_, j2d_a, j2d_b, i1_, i1_a, j1_, j1_a, i2l_, i2l_a, l2i_, l2i_a, fgi_, fgi_a, fgj_, fgj_a, fgr_, fgr_a, iald_, iald_a, iald_b, zald_, zald_a, zald_b, jald_, jald_a, jald_b, rald_, rald_a, rald_b, alen_, alen_a, sald_, sald_a, ic_, ic_a, jc_, jc_a, bc_, bc_a, bc_b, bj_, bj_a, bj_b, bz_, bz_a, band_, band_a, bor_, bor_a, bnot_, bnot_a, anil_, ai_, ai_a, ai_b, aj_, aj_a, aj_b, ar_, ar_a, ar_b, kb2i_, cvi_, cvi_a, cvi_b, cvj_, cvj_a, cvj_b, cvz_, cvz_a, cvz_b, csi_, csi_a, csj_, csj_a, csz_, csz_a, snop_, sseq_, sseq_n, sseq_s, sif_, sif_a, scut_, scut_a, ssi_, ssi_a, ssj_, ssj_a, ssr_, ssr_a, sinc_, sinc_a, sret_, sret_a, sretj_, sretj_a, sretv_, spop_, spop_a, kc_scv_, scv_, scv_a, scv_b, scs_, scs_a, fpi_, fpi_a, fpi_b, fpj_, fpj_a, fpj_b, foi_, foi_a, foi_b, foj_, foj_a, foj_b, aii_, aii_a, aii_b, aii_c, aiz_, aiz_a, aiz_b, aiz_c, aij_, aij_a, aij_b, aij_c, aoi_, aoi_a, aoi_b, aoi_c, aoj_, aoj_a, aoj_b, aoj_c, scopy_, scopy_a, scopy_b, scopy_c, scopy_d, scopy_e, ssw_, ssw_a, sel_n, sel_c, mfi_, mfi_a, mfj_, mfj_a, mfz_, mfz_a, kb_mfv_, mfv_, mfv_a, cut, lset, lset2, isL, Value.category, ent, entn, if_some, if_pair, if_cons, if_int, if_long, if_ref, ite_self, gz_b, ↓icb, ↓icb2, b2i_ne, ge0, ge1, ge2, ge3, ge4, ge5, ge6, ge7, ge8, ge9, ge10, ge11, ge12, ge13, ge14, lit32, nI_add, pk_mul, clt_nI, cle_nI, cgt_nI, cge_nI, ceq_nI, cne_nI, inr_nI, nI_clamp, nI_eq, nI_leI, nI_ltI, k492, f492_2, f492_3, f492_4, f492_5, f492_7, f492_8, f492_9, f492_10, k493, k494, k495, k496, k497, k498, k499, k500, l493, l494, l495, l496, l497, l498, l499, l500, f492_11, f492_12, f492_13, f492_15, f492_16, f492_17, f492_19, f492_20, f492_26, f492_27, f492_28, f492_29, f492_30, f492_32, f492_33, f492_34, k501, k502, k503, k504, k505, k506, k507, k508, k509, k510, k511, k512, k513, k514, k515, k516, l501, l502, l503, l504, l505, l506, l507, l508, l509, l510, l511, l512, l513, l514, l515, l516, ro, r_tubeAt, wj_1, w1, w2, w3, w4, n31, hX, v1, v2, dd, jd, j1]
        · exact wi_at
        · unfold uU
          by_cases w : k = n
          · rw [if_pos w, w]
            obtain ⟨q1, q2⟩ := den_of_nat (q := ((dX X i : Nat) : Rat)) rfl
            refine ⟨?_, ?_, ?_, ?_⟩
            · rw [wi_ne (by decide)]
              show (wi (wi N 510 n (nI (fX X i))) 511 n (nI (gX X i))).1 510 n = _
              rw [wi_ne (by decide)]
              exact wi_at
            · rw [wi_ne (by decide)]
              exact wi_at
            · rw [q2]
              show (wj (wj (wi (wi N 510 n (nI (fX X i))) 511 n (nI (gX X i))) 512 n (jN (dX X i))) 513 n (jN 1)).2 512 n = _
              rw [wj_ne (by decide)]
              exact wj_at
            · rw [q1]
              exact wj_at
          · rw [if_neg w]
            have hk2 := hR.2.2 k (by omega)
            have e1 : (wi (wj (wj (wi (wi N 510 n (nI (fX X i))) 511 n (nI (gX X i))) 512 n (jN (dX X i))) 513 n (jN 1)) 492 31 (nI (n + 1))).1 510 k = N.1 510 k := by
              rw [wi_ne (by decide)]
              show (wi (wi N 510 n (nI (fX X i))) 511 n (nI (gX X i))).1 510 k = _
              rw [wi_ne (by decide), wi_ns w]
            have e2 : (wi (wj (wj (wi (wi N 510 n (nI (fX X i))) 511 n (nI (gX X i))) 512 n (jN (dX X i))) 513 n (jN 1)) 492 31 (nI (n + 1))).1 511 k = N.1 511 k := by
              rw [wi_ne (by decide)]
              show (wi (wi N 510 n (nI (fX X i))) 511 n (nI (gX X i))).1 511 k = _
              rw [wi_ns w, wi_ne (by decide)]
            have e3 : (wi (wj (wj (wi (wi N 510 n (nI (fX X i))) 511 n (nI (gX X i))) 512 n (jN (dX X i))) 513 n (jN 1)) 492 31 (nI (n + 1))).2 512 k = N.2 512 k := by
              show (wj (wj (wi (wi N 510 n (nI (fX X i))) 511 n (nI (gX X i))) 512 n (jN (dX X i))) 513 n (jN 1)).2 512 k = _
              rw [wj_ne (by decide)]
              simp [wj, w, wi]
            have e4 : (wi (wj (wj (wi (wi N 510 n (nI (fX X i))) 511 n (nI (gX X i))) 512 n (jN (dX X i))) 513 n (jN 1)) 492 31 (nI (n + 1))).2 513 k = N.2 513 k := by
              simp [wj, w, wi]
            cases e : T k with
            | none =>
              rw [e] at hk2
              exact e1.trans hk2
            | some v =>
              obtain ⟨a, b, q⟩ := v
              rw [e] at hk2
              obtain ⟨k1, k2, k3, k4⟩ := hk2
              exact ⟨e1.trans k1, e2.trans k2, e3.trans k3, e4.trans k4⟩
        · unfold uU at e
          by_cases w : k = n
          · rw [if_pos w] at e
            simp only [Option.some.injEq, Prod.mk.injEq] at e
            obtain ⟨rfl, rfl, rfl⟩ := e
            exact ⟨by omega, by omega, v5, Rat.natCast_pos.mpr (by omega)⟩
          · rw [if_neg w] at e
            exact hG k (by omega) a b q e
        · unfold uU at e
          by_cases w : k = n
          · rw [if_pos w] at e
            simp only [Option.some.injEq, Prod.mk.injEq] at e
            rw [← e.2.2]
            exact (den_of_nat rfl).1
          · rw [if_neg w] at e
            exact hd k a b q (by omega) e
        · funext x y
          have e1 : uW (uU T n (some (fX X i, gX X i, ((dX X i : Nat) : Rat)))) (n + 1) x y = uW T n x y + uC (some (fX X i, gX X i, ((dX X i : Nat) : Rat))) x y := by
            show uS _ n + _ = _
            rw [uS_congr (h := fun i => uC (T i) x y) n (fun k hk => by unfold uU; rw [if_neg (by omega)])]
            have ez : uU T n (some (fX X i, gX X i, ((dX X i : Nat) : Rat))) n = some (fX X i, gX X i, ((dX X i : Nat) : Rat)) := by unfold uU; rw [if_pos rfl]
            show _ + uC (uU T n (some (fX X i, gX X i, ((dX X i : Nat) : Rat))) n) x y = _
            rw [ez]
            rfl
          rw [e1, hw]
          unfold wI
          simp only [uC, gsm]
          by_cases w : (fX X i = x ∧ gX X i = y) ∨ (fX X i = y ∧ gX X i = x)
          · rw [if_pos w, if_pos ⟨ho, w⟩, Rat.natCast_add]
          · rw [if_neg w, if_neg (fun z => w z.2), Nat.add_zero]
            grind
        · refine ⟨fun a z1 z2 z3 => ?_, fun j z1 z2 => ?_, fun a z1 z2 => ?_⟩
          · rw [wi_ne z3]
            show (wi (wi N 510 n (nI (fX X i))) 511 n (nI (gX X i))).1 a = _
            rw [wi_ne z2, wi_ne z1]
            exact hF.1 a z1 z2 z3
          · rw [wi_ns z2]
            show (wi (wi N 510 n (nI (fX X i))) 511 n (nI (gX X i))).1 492 j = _
            rw [wi_ne (by decide), wi_ne (by decide)]
            exact hF.2.1 j z1 z2
          · show (wj (wj (wi (wi N 510 n (nI (fX X i))) 511 n (nI (gX X i))) 512 n (jN (dX X i))) 513 n (jN 1)).2 a = _
            rw [wj_ne z2, wj_ne z1]
            exact hF.2.2 a z1 z2
      | false =>
        rw [ho] at ro
        refine ⟨N, ?_, T, n, by omega, hR, hG, hd, ?_, hF⟩
        · simp -implicitDefEqProofs (disch := omega) [wX8_reduced_1, kp_, bsome, bnone, gi_s, gj_s, gr_s, gv_s, ik_, jk_, il_, jl_, rl_, i2_, i2_a, i2_b, j2_, j2_a, j2_b, i2d_, i2d_a, i2d_b, j2d_, j2d_a, j2d_b, i1_, i1_a, j1_, j1_a, i2l_, i2l_a, l2i_, l2i_a, fgi_, fgi_a, fgj_, fgj_a, fgr_, fgr_a, iald_, iald_a, iald_b, zald_, zald_a, zald_b, jald_, jald_a, jald_b, rald_, rald_a, rald_b, alen_, alen_a, sald_, sald_a, ic_, ic_a, jc_, jc_a, bc_, bc_a, bc_b, bj_, bj_a, bj_b, bz_, bz_a, band_, band_a, bor_, bor_a, bnot_, bnot_a, anil_, ai_, ai_a, ai_b, aj_, aj_a, aj_b, ar_, ar_a, ar_b, kb2i_, cvi_, cvi_a, cvi_b, cvj_, cvj_a, cvj_b, cvz_, cvz_a, cvz_b, csi_, csi_a, csj_, csj_a, csz_, csz_a, snop_, sseq_, sseq_n, sseq_s, sif_, sif_a, scut_, scut_a, ssi_, ssi_a, ssj_, ssj_a, ssr_, ssr_a, sinc_, sinc_a, sret_, sret_a, sretj_, sretj_a, sretv_, spop_, spop_a, kc_scv_, scv_, scv_a, scv_b, scs_, scs_a, fpi_, fpi_a, fpi_b, fpj_, fpj_a, fpj_b, foi_, foi_a, foi_b, foj_, foj_a, foj_b, aii_, aii_a, aii_b, aii_c, aiz_, aiz_a, aiz_b, aiz_c, aij_, aij_a, aij_b, aij_c, aoi_, aoi_a, aoi_b, aoi_c, aoj_, aoj_a, aoj_b, aoj_c, scopy_, scopy_a, scopy_b, scopy_c, scopy_d, scopy_e, ssw_, ssw_a, sel_n, sel_c, mfi_, mfi_a, mfj_, mfj_a, mfz_, mfz_a, kb_mfv_, mfv_, mfv_a, cut, lset, lset2, isL, Value.category, ent, entn, if_some, if_pair, if_cons, if_int, if_long, if_ref, ite_self, gz_b, ↓icb, ↓icb2, b2i_ne, ge0, ge1, ge2, ge3, ge4, ge5, ge6, ge7, ge8, ge9, ge10, ge11, ge12, ge13, ge14, lit32, nI_add, pk_mul, clt_nI, cle_nI, cgt_nI, cge_nI, ceq_nI, cne_nI, inr_nI, nI_clamp, nI_eq, nI_leI, nI_ltI, k492, f492_2, f492_3, f492_4, f492_5, f492_7, f492_8, f492_9, f492_10, k493, k494, k495, k496, k497, k498, k499, k500, l493, l494, l495, l496, l497, l498, l499, l500, ro]
        · rw [hw]
          funext x y
          unfold wI
          simp only [gsm]
          rw [if_neg (fun z => by rw [ho] at z; cases z.1), Nat.add_zero])
    (fun N ⟨T, n, hn, hR, hG, hd, hw, hF⟩ => by
      have hX : N.1 494 = X := by rw [hF.1 494 (by decide) (by decide) (by decide)]; exact hM
      have n1 := hv.1.2.1
      simp -implicitDefEqProofs (disch := omega) [qX8_reduced_1, kp_, bsome, bnone, gi_s, gj_s, gr_s, gv_s, ik_, jk_, il_, jl_, rl_, i2_, i2_a, i2_b, j2_, j2_a, j2_b, i2d_, i2d_a, i2d_b, j2d_, j2d_a, j2d_b, i1_, i1_a, j1_, j1_a, i2l_, i2l_a, l2i_, l2i_a, fgi_, fgi_a, fgj_, fgj_a, fgr_, fgr_a, iald_, iald_a, iald_b, zald_, zald_a, zald_b, jald_, jald_a, jald_b, rald_, rald_a, rald_b, alen_, alen_a, sald_, sald_a, ic_, ic_a, jc_, jc_a, bc_, bc_a, bc_b, bj_, bj_a, bj_b, bz_, bz_a, band_, band_a, bor_, bor_a, bnot_, bnot_a, anil_, ai_, ai_a, ai_b, aj_, aj_a, aj_b, ar_, ar_a, ar_b, kb2i_, cvi_, cvi_a, cvi_b, cvj_, cvj_a, cvj_b, cvz_, cvz_a, cvz_b, csi_, csi_a, csj_, csj_a, csz_, csz_a, snop_, sseq_, sseq_n, sseq_s, sif_, sif_a, scut_, scut_a, ssi_, ssi_a, ssj_, ssj_a, ssr_, ssr_a, sinc_, sinc_a, sret_, sret_a, sretj_, sretj_a, sretv_, spop_, spop_a, kc_scv_, scv_, scv_a, scv_b, scs_, scs_a, fpi_, fpi_a, fpi_b, fpj_, fpj_a, fpj_b, foi_, foi_a, foi_b, foj_, foj_a, foj_b, aii_, aii_a, aii_b, aii_c, aiz_, aiz_a, aiz_b, aiz_c, aij_, aij_a, aij_b, aij_c, aoi_, aoi_a, aoi_b, aoi_c, aoj_, aoj_a, aoj_b, aoj_c, scopy_, scopy_a, scopy_b, scopy_c, scopy_d, scopy_e, ssw_, ssw_a, sel_n, sel_c, mfi_, mfi_a, mfj_, mfj_a, mfz_, mfz_a, kb_mfv_, mfv_, mfv_a, cut, lset, lset2, isL, Value.category, ent, entn, if_some, if_pair, if_cons, if_int, if_long, if_ref, ite_self, gz_b, ↓icb, ↓icb2, b2i_ne, ge0, ge1, ge2, ge3, ge4, ge5, ge6, ge7, ge8, ge9, ge10, ge11, ge12, ge13, ge14, lit32, nI_add, pk_mul, clt_nI, cle_nI, cgt_nI, cge_nI, ceq_nI, cne_nI, inr_nI, nI_clamp, nI_eq, nI_leI, nI_ltI, k492, f492_2, f492_3, f492_4, f492_5, f492_7, f492_8, f492_9, f492_10, k493, k494, k495, k496, k497, k498, k499, k500, l493, l494, l495, l496, l497, l498, l499, l500, hX, n1])
    M ⟨fun _ => none, 0, Nat.le_refl _, ⟨h31, by decide, fun i hi => by omega⟩, fun i hi => by omega, fun i a b q hi => by omega, rfl, ⟨fun _ _ _ _ => rfl, fun _ _ _ => rfl, fun _ _ _ => rfl⟩⟩
set_option maxRecDepth 20000 in
theorem uN_le : ∀ n, uNn T n ≤ n
  | 0 => Nat.le_refl _
  | n + 1 => by
    have := uN_le n
    simp only [uNn]
    split <;> omega
set_option maxRecDepth 20000 in
theorem vI_ok : ∀ n, (uNn T n = 0 → ∀ i, i < n → T i = none) ∧ (uNn T n = 1 → ∃ p v, p < n ∧ vI T n = nI p ∧ T p = some v ∧ ∀ i, i < n → i ≠ p → T i = none)
  | 0 => by
    have e : uNn T 0 = 0 := rfl
    exact ⟨fun _ i hi => by omega, fun h => by omega⟩
  | n + 1 => by
    obtain ⟨h0, h1⟩ := vI_ok n
    cases e : T n with
    | none =>
      have e1 : uNn T (n + 1) = uNn T n := by simp [uNn, e]
      have e2 : vI T (n + 1) = vI T n := by simp [vI, e]
      rw [e1, e2]
      refine ⟨fun h i hi => ?_, fun h => ?_⟩
      · by_cases w : i = n
        · rw [w]; exact e
        · exact h0 h i (by omega)
      · obtain ⟨p, v, p1, p2, p3, p4⟩ := h1 h
        refine ⟨p, v, by omega, p2, p3, fun i hi hn => ?_⟩
        by_cases w : i = n
        · rw [w]; exact e
        · exact p4 i (by omega) hn
    | some v =>
      have e1 : uNn T (n + 1) = uNn T n + 1 := by simp [uNn, e]
      have e2 : vI T (n + 1) = nI n := by simp [vI, e]
      rw [e1, e2]
      exact ⟨fun h => by omega, fun h => ⟨n, v, by omega, rfl, e, fun i hi hn => h0 (by omega) i (by omega)⟩⟩
set_option maxRecDepth 20000 in
theorem r_redLeft (hR : rlA N T n) (hG : uG T n) {x0 x1 x2 x4 : Int32} : swh qX8_reduced_3 wX8_reduced_3 [.ref 492, .int x0, .int x1, .int x2, .int x4, .int (nI 0), .int (-(nI 1)), .int (nI 0)] N = some (none, [.ref 492, .int x0, .int x1, .int x2, .int x4, .int (nI (uNn T n)), .int (vI T n), .int (nI n)], N) := by
  have n1 := hR.1
  have n2 := hR.2.1
  have ej : (-1 : Int32) = -(nI 1) := rfl
  exact swh_count (fun i => [.ref 492, .int x0, .int x1, .int x2, .int x4, .int (nI (uNn T i)), .int (vI T i), .int (nI i)]) (fun _ => N) n
    (fun i hi => by simp -implicitDefEqProofs (disch := omega) [qX8_reduced_3, kp_, bsome, bnone, gi_s, gj_s, gr_s, gv_s, ik_, jk_, il_, jl_, rl_, i2_, i2_a, i2_b, j2_, j2_a, j2_b, i2d_, i2d_a, i2d_b, j2d_, j2d_a, j2d_b, i1_, i1_a, j1_, j1_a, i2l_, i2l_a, l2i_, l2i_a, fgi_, fgi_a, fgj_, fgj_a, fgr_, fgr_a, iald_, iald_a, iald_b, zald_, zald_a, zald_b, jald_, jald_a, jald_b, rald_, rald_a, rald_b, alen_, alen_a, sald_, sald_a, ic_, ic_a, jc_, jc_a, bc_, bc_a, bc_b, bj_, bj_a, bj_b, bz_, bz_a, band_, band_a, bor_, bor_a, bnot_, bnot_a, anil_, ai_, ai_a, ai_b, aj_, aj_a, aj_b, ar_, ar_a, ar_b, kb2i_, cvi_, cvi_a, cvi_b, cvj_, cvj_a, cvj_b, cvz_, cvz_a, cvz_b, csi_, csi_a, csj_, csj_a, csz_, csz_a, snop_, sseq_, sseq_n, sseq_s, sif_, sif_a, scut_, scut_a, ssi_, ssi_a, ssj_, ssj_a, ssr_, ssr_a, sinc_, sinc_a, sret_, sret_a, sretj_, sretj_a, sretv_, spop_, spop_a, kc_scv_, scv_, scv_a, scv_b, scs_, scs_a, fpi_, fpi_a, fpi_b, fpj_, fpj_a, fpj_b, foi_, foi_a, foi_b, foj_, foj_a, foj_b, aii_, aii_a, aii_b, aii_c, aiz_, aiz_a, aiz_b, aiz_c, aij_, aij_a, aij_b, aij_c, aoi_, aoi_a, aoi_b, aoi_c, aoj_, aoj_a, aoj_b, aoj_c, scopy_, scopy_a, scopy_b, scopy_c, scopy_d, scopy_e, ssw_, ssw_a, sel_n, sel_c, mfi_, mfi_a, mfj_, mfj_a, mfz_, mfz_a, kb_mfv_, mfv_, mfv_a, cut, lset, lset2, isL, Value.category, ent, entn, if_some, if_pair, if_cons, if_int, if_long, if_ref, ite_self, gz_b, ↓icb, ↓icb2, b2i_ne, ge0, ge1, ge2, ge3, ge4, ge5, ge6, ge7, ge8, ge9, ge10, ge11, ge12, ge13, ge14, lit32, nI_add, pk_mul, clt_nI, cle_nI, cgt_nI, cge_nI, ceq_nI, cne_nI, inr_nI, nI_clamp, nI_eq, nI_leI, nI_ltI, k492, f492_2, f492_3, f492_4, f492_5, f492_7, f492_8, f492_9, f492_10, k493, k494, k495, k496, k497, k498, k499, k500, l493, l494, l495, l496, l497, l498, l499, l500, n1, hi])
    (fun i hi => by
      have i10 : i < 10 := by omega
      cases e : T i with
      | none =>
        have a1 := rl_n hR hi e
        have e1 : uNn T (i + 1) = uNn T i := by simp [uNn, e]
        have e2 : vI T (i + 1) = vI T i := by simp [vI, e]
        rw [e1, e2]
        simp -implicitDefEqProofs (disch := omega) [wX8_reduced_3, kp_, bsome, bnone, gi_s, gj_s, gr_s, gv_s, ik_, jk_, il_, jl_, rl_, i2_, i2_a, i2_b, j2_, j2_a, j2_b, i2d_, i2d_a, i2d_b, j2d_, j2d_a, j2d_b, i1_, i1_a, j1_, j1_a, i2l_, i2l_a, l2i_, l2i_a, fgi_, fgi_a, fgj_, fgj_a, fgr_, fgr_a, iald_, iald_a, iald_b, zald_, zald_a, zald_b, jald_, jald_a, jald_b, rald_, rald_a, rald_b, alen_, alen_a, sald_, sald_a, ic_, ic_a, jc_, jc_a, bc_, bc_a, bc_b, bj_, bj_a, bj_b, bz_, bz_a, band_, band_a, bor_, bor_a, bnot_, bnot_a, anil_, ai_, ai_a, ai_b, aj_, aj_a, aj_b, ar_, ar_a, ar_b, kb2i_, cvi_, cvi_a, cvi_b, cvj_, cvj_a, cvj_b, cvz_, cvz_a, cvz_b, csi_, csi_a, csj_, csj_a, csz_, csz_a, snop_, sseq_, sseq_n, sseq_s, sif_, sif_a, scut_, scut_a, ssi_, ssi_a, ssj_, ssj_a, ssr_, ssr_a, sinc_, sinc_a, sret_, sret_a, sretj_, sretj_a, sretv_, spop_, spop_a, kc_scv_, scv_, scv_a, scv_b, scs_, scs_a, fpi_, fpi_a, fpi_b, fpj_, fpj_a, fpj_b, foi_, foi_a, foi_b, foj_, foj_a, foj_b, aii_, aii_a, aii_b, aii_c, aiz_, aiz_a, aiz_b, aiz_c, aij_, aij_a, aij_b, aij_c, aoi_, aoi_a, aoi_b, aoi_c, aoj_, aoj_a, aoj_b, aoj_c, scopy_, scopy_a, scopy_b, scopy_c, scopy_d, scopy_e, ssw_, ssw_a, sel_n, sel_c, mfi_, mfi_a, mfj_, mfj_a, mfz_, mfz_a, kb_mfv_, mfv_, mfv_a, cut, lset, lset2, isL, Value.category, ent, entn, if_some, if_pair, if_cons, if_int, if_long, if_ref, ite_self, gz_b, ↓icb, ↓icb2, b2i_ne, ge0, ge1, ge2, ge3, ge4, ge5, ge6, ge7, ge8, ge9, ge10, ge11, ge12, ge13, ge14, lit32, nI_add, pk_mul, clt_nI, cle_nI, cgt_nI, cge_nI, ceq_nI, cne_nI, inr_nI, nI_clamp, nI_eq, nI_leI, nI_ltI, k492, f492_2, f492_3, f492_4, f492_5, f492_7, f492_8, f492_9, f492_10, k493, k494, k495, k496, k497, k498, k499, k500, l493, l494, l495, l496, l497, l498, l499, l500, f492_11, f492_12, f492_13, f492_15, f492_16, f492_17, f492_19, f492_20, f492_26, f492_27, f492_28, f492_29, f492_30, f492_32, f492_33, f492_34, k501, k502, k503, k504, k505, k506, k507, k508, k509, k510, k511, k512, k513, k514, k515, k516, l501, l502, l503, l504, l505, l506, l507, l508, l509, l510, l511, l512, l513, l514, l515, l516, ej, a1, cne_mm, b2i_f0, b2i_t1]
      | some v =>
        obtain ⟨a, b, q⟩ := v
        obtain ⟨a1, -, -, -⟩ := rl_s hR hi e
        have g := hG i hi a b q e
        have m1 := cne_m1 (x := a) (by omega)
        have e1 : uNn T (i + 1) = uNn T i + 1 := by simp [uNn, e]
        have e2 : vI T (i + 1) = nI i := by simp [vI, e]
        rw [e1, e2]
        simp -implicitDefEqProofs (disch := omega) [wX8_reduced_3, kp_, bsome, bnone, gi_s, gj_s, gr_s, gv_s, ik_, jk_, il_, jl_, rl_, i2_, i2_a, i2_b, j2_, j2_a, j2_b, i2d_, i2d_a, i2d_b, j2d_, j2d_a, j2d_b, i1_, i1_a, j1_, j1_a, i2l_, i2l_a, l2i_, l2i_a, fgi_, fgi_a, fgj_, fgj_a, fgr_, fgr_a, iald_, iald_a, iald_b, zald_, zald_a, zald_b, jald_, jald_a, jald_b, rald_, rald_a, rald_b, alen_, alen_a, sald_, sald_a, ic_, ic_a, jc_, jc_a, bc_, bc_a, bc_b, bj_, bj_a, bj_b, bz_, bz_a, band_, band_a, bor_, bor_a, bnot_, bnot_a, anil_, ai_, ai_a, ai_b, aj_, aj_a, aj_b, ar_, ar_a, ar_b, kb2i_, cvi_, cvi_a, cvi_b, cvj_, cvj_a, cvj_b, cvz_, cvz_a, cvz_b, csi_, csi_a, csj_, csj_a, csz_, csz_a, snop_, sseq_, sseq_n, sseq_s, sif_, sif_a, scut_, scut_a, ssi_, ssi_a, ssj_, ssj_a, ssr_, ssr_a, sinc_, sinc_a, sret_, sret_a, sretj_, sretj_a, sretv_, spop_, spop_a, kc_scv_, scv_, scv_a, scv_b, scs_, scs_a, fpi_, fpi_a, fpi_b, fpj_, fpj_a, fpj_b, foi_, foi_a, foi_b, foj_, foj_a, foj_b, aii_, aii_a, aii_b, aii_c, aiz_, aiz_a, aiz_b, aiz_c, aij_, aij_a, aij_b, aij_c, aoi_, aoi_a, aoi_b, aoi_c, aoj_, aoj_a, aoj_b, aoj_c, scopy_, scopy_a, scopy_b, scopy_c, scopy_d, scopy_e, ssw_, ssw_a, sel_n, sel_c, mfi_, mfi_a, mfj_, mfj_a, mfz_, mfz_a, kb_mfv_, mfv_, mfv_a, cut, lset, lset2, isL, Value.category, ent, entn, if_some, if_pair, if_cons, if_int, if_long, if_ref, ite_self, gz_b, ↓icb, ↓icb2, b2i_ne, ge0, ge1, ge2, ge3, ge4, ge5, ge6, ge7, ge8, ge9, ge10, ge11, ge12, ge13, ge14, lit32, nI_add, pk_mul, clt_nI, cle_nI, cgt_nI, cge_nI, ceq_nI, cne_nI, inr_nI, nI_clamp, nI_eq, nI_leI, nI_ltI, k492, f492_2, f492_3, f492_4, f492_5, f492_7, f492_8, f492_9, f492_10, k493, k494, k495, k496, k497, k498, k499, k500, l493, l494, l495, l496, l497, l498, l499, l500, f492_11, f492_12, f492_13, f492_15, f492_16, f492_17, f492_19, f492_20, f492_26, f492_27, f492_28, f492_29, f492_30, f492_32, f492_33, f492_34, k501, k502, k503, k504, k505, k506, k507, k508, k509, k510, k511, k512, k513, k514, k515, k516, l501, l502, l503, l504, l505, l506, l507, l508, l509, l510, l511, l512, l513, l514, l515, l516, ej, a1, m1, b2i_f0, b2i_t1])
    (by simp -implicitDefEqProofs (disch := omega) [qX8_reduced_3, kp_, bsome, bnone, gi_s, gj_s, gr_s, gv_s, ik_, jk_, il_, jl_, rl_, i2_, i2_a, i2_b, j2_, j2_a, j2_b, i2d_, i2d_a, i2d_b, j2d_, j2d_a, j2d_b, i1_, i1_a, j1_, j1_a, i2l_, i2l_a, l2i_, l2i_a, fgi_, fgi_a, fgj_, fgj_a, fgr_, fgr_a, iald_, iald_a, iald_b, zald_, zald_a, zald_b, jald_, jald_a, jald_b, rald_, rald_a, rald_b, alen_, alen_a, sald_, sald_a, ic_, ic_a, jc_, jc_a, bc_, bc_a, bc_b, bj_, bj_a, bj_b, bz_, bz_a, band_, band_a, bor_, bor_a, bnot_, bnot_a, anil_, ai_, ai_a, ai_b, aj_, aj_a, aj_b, ar_, ar_a, ar_b, kb2i_, cvi_, cvi_a, cvi_b, cvj_, cvj_a, cvj_b, cvz_, cvz_a, cvz_b, csi_, csi_a, csj_, csj_a, csz_, csz_a, snop_, sseq_, sseq_n, sseq_s, sif_, sif_a, scut_, scut_a, ssi_, ssi_a, ssj_, ssj_a, ssr_, ssr_a, sinc_, sinc_a, sret_, sret_a, sretj_, sretj_a, sretv_, spop_, spop_a, kc_scv_, scv_, scv_a, scv_b, scs_, scs_a, fpi_, fpi_a, fpi_b, fpj_, fpj_a, fpj_b, foi_, foi_a, foi_b, foj_, foj_a, foj_b, aii_, aii_a, aii_b, aii_c, aiz_, aiz_a, aiz_b, aiz_c, aij_, aij_a, aij_b, aij_c, aoi_, aoi_a, aoi_b, aoi_c, aoj_, aoj_a, aoj_b, aoj_c, scopy_, scopy_a, scopy_b, scopy_c, scopy_d, scopy_e, ssw_, ssw_a, sel_n, sel_c, mfi_, mfi_a, mfj_, mfj_a, mfz_, mfz_a, kb_mfv_, mfv_, mfv_a, cut, lset, lset2, isL, Value.category, ent, entn, if_some, if_pair, if_cons, if_int, if_long, if_ref, ite_self, gz_b, ↓icb, ↓icb2, b2i_ne, ge0, ge1, ge2, ge3, ge4, ge5, ge6, ge7, ge8, ge9, ge10, ge11, ge12, ge13, ge14, lit32, nI_add, pk_mul, clt_nI, cle_nI, cgt_nI, cge_nI, ceq_nI, cne_nI, inr_nI, nI_clamp, nI_eq, nI_leI, nI_ltI, k492, f492_2, f492_3, f492_4, f492_5, f492_7, f492_8, f492_9, f492_10, k493, k494, k495, k496, k497, k498, k499, k500, l493, l494, l495, l496, l497, l498, l499, l500, n1])
end
