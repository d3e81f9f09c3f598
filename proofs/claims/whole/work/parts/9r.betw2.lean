/-! ===== between: the class ===== -/
theorem f122_0 : rf 122 0 = 123 := by decide +kernel
theorem k123 : kd 123 = 9 := by decide +kernel
theorem l123 : ln 123 = 25 := by decide +kernel
def clr (S t : Nat) : Nat := S &&& (31 - 2 ^ t)
theorem clr_chk : ∀ x, x < 160 → nI (x / 5) &&& (nI (2 ^ (x % 5)) ^^^ -(nI 1)) = nI (clr (x / 5) (x % 5)) ∧ clr (x / 5) (x % 5) < 32 := by decide +kernel
theorem clr_bit_chk : ∀ x, x < 800 → (clr (x / 25) (x / 5 % 5)).testBit (x % 5) = ((x / 25).testBit (x % 5) && decide (x % 5 ≠ x / 5 % 5)) := by decide +kernel
def cMt (act : Nat → Bool) (X : Nat → Int32) (nc m i j : Nat) : Int := if i = j then (if act i = true then (dgS X i m : Int) else if i < nc then 1 else 0) else if act i = true ∧ act j = true then -(gsm X i j m : Int) else 0
section
variable {M : Me} {act : Nat → Bool} {X : Nat → Int32} {U : Nat → Int64} {nc nt np nw tm tB n i j f g t S F a b D : Nat}
set_option maxRecDepth 20000 in
theorem clr_n (hS : S < 32) (ht : t < 5) : nI S &&& (nI (2 ^ t) ^^^ -(nI 1)) = nI (clr S t) ∧ clr S t < 32 := by
  have := clr_chk (S * 5 + t) (by omega)
  rw [show (S * 5 + t) / 5 = S by omega, show (S * 5 + t) % 5 = t by omega] at this
  exact this
set_option maxRecDepth 20000 in
theorem clr_bit {c : Nat} (hS : S < 32) (ht : t < 5) (hc : c < 5) : (clr S t).testBit c = (S.testBit c && decide (c ≠ t)) := by
  have := clr_bit_chk (S * 25 + t * 5 + c) (by omega)
  rw [show (S * 25 + t * 5 + c) / 25 = S by omega, show (S * 25 + t * 5 + c) / 5 % 5 = t by omega, show (S * 25 + t * 5 + c) % 5 = c by omega] at this
  exact this
set_option maxRecDepth 20000 in
theorem c_cell {x y : Nat} : DX4_cell [.int (nI x), .int (nI y)] M = some (nI (x * 5 + y), M) := by
  simp -implicitDefEqProofs (disch := omega) [DX4_cell, EX4_cell, kp_, bsome, bnone, gi_s, gj_s, gr_s, gv_s, ik_, jk_, il_, jl_, rl_, i2_, i2_a, i2_b, j2_, j2_a, j2_b, i2d_, i2d_a, i2d_b, j2d_, j2d_a, j2d_b, i1_, i1_a, j1_, j1_a, i2l_, i2l_a, l2i_, l2i_a, fgi_, fgi_a, fgj_, fgj_a, fgr_, fgr_a, iald_, iald_a, iald_b, zald_, zald_a, zald_b, jald_, jald_a, jald_b, rald_, rald_a, rald_b, alen_, alen_a, sald_, sald_a, ic_, ic_a, jc_, jc_a, bc_, bc_a, bc_b, bj_, bj_a, bj_b, bz_, bz_a, band_, band_a, bor_, bor_a, bnot_, bnot_a, anil_, ai_, ai_a, ai_b, aj_, aj_a, aj_b, ar_, ar_a, ar_b, kb2i_, cvi_, cvi_a, cvi_b, cvj_, cvj_a, cvj_b, cvz_, cvz_a, cvz_b, csi_, csi_a, csj_, csj_a, csz_, csz_a, snop_, sseq_, sseq_n, sseq_s, sif_, sif_a, scut_, scut_a, ssi_, ssi_a, ssj_, ssj_a, ssr_, ssr_a, sinc_, sinc_a, sret_, sret_a, sretj_, sretj_a, sretv_, spop_, spop_a, kc_scv_, scv_, scv_a, scv_b, scs_, scs_a, fpi_, fpi_a, fpi_b, fpj_, fpj_a, fpj_b, foi_, foi_a, foi_b, foj_, foj_a, foj_b, aii_, aii_a, aii_b, aii_c, aiz_, aiz_a, aiz_b, aiz_c, aij_, aij_a, aij_b, aij_c, aoi_, aoi_a, aoi_b, aoi_c, aoj_, aoj_a, aoj_b, aoj_c, scopy_, scopy_a, scopy_b, scopy_c, scopy_d, scopy_e, ssw_, ssw_a, sel_n, sel_c, mfi_, mfi_a, mfj_, mfj_a, mfz_, mfz_a, kb_mfv_, mfv_, mfv_a, cut, lset, lset2, isL, Value.category, ent, entn, if_some, if_pair, if_cons, if_int, if_long, if_ref, ite_self, gz_b, ↓icb, ↓icb2, b2i_ne, ge0, ge1, ge2, ge3, ge4, ge5, ge6, ge7, ge8, ge9, ge10, ge11, ge12, ge13, ge14, lit32, nI_add, pk_mul, clt_nI, cle_nI, cgt_nI, cge_nI, ceq_nI, cne_nI, inr_nI, nI_clamp, nI_eq, nI_leI, nI_ltI]
set_option maxRecDepth 20000 in
theorem c_enter (hv : VxB X nc nt np nw tm tB) (hL : Lr M 1 X nc nt np nw tm) (hi : i < nt) (ho : oX X i = true) (hF : F < 32) (hact : ∀ c, c < 5 → F.testBit c = act c) (hU : ∀ q, U q = jI (cMt act X nc i (q / 5) (q % 5))) : DX4_enter [.ref 122, .ref (1 + 8 + i), .int (nI F)] (sJ M 123 25 U) = some (sJ M 123 25 (fun q => jI (cMt act X nc (i + 1) (q / 5) (q % 5)))) := by
  have hB := hv.2.1
  obtain ⟨d, oo, v1, v2, v3, v4, v5, v6, v7, v8, v9, v10, v11⟩ := tubeX hB.1 (hv.2.2.2.2.1 i hi)
  obtain ⟨dd, d1, d2⟩ := dX_e hB.1 (hv.2.2.2.2.1 i hi)
  have i10 : i < 10 := by omega
  have hm := hL.2.2.2.2.1 i hi
  have t0 : M.1 (1 + 8 + i) 0 = nI (fX X i) := by rw [hm 0 (by decide)]; exact v1
  have t1 : M.1 (1 + 8 + i) 1 = nI (gX X i) := by rw [hm 1 (by decide)]; exact v2
  have t2 : M.1 (1 + 8 + i) 2 = nI (dX X i) := by rw [hm 2 (by decide)]; exact dd
  have kT := a_kt m1_ i i10
  have lT := a_lt m1_ i i10
  have dn := fun x => dgS_next (X := X) (i := x) (n := i) v5 (by omega) (by omega) ho
  have gn : ∀ x y, gsm X x y (i + 1) = gsm X x y i + if (fX X i = x ∧ gX X i = y) ∨ (fX X i = y ∧ gX X i = x) then dX X i else 0 := fun x y => by
    simp only [gsm]
    by_cases q : (fX X i = x ∧ gX X i = y) ∨ (fX X i = y ∧ gX X i = x)
    · rw [if_pos q, if_pos ⟨ho, q⟩]
    · rw [if_neg q, if_neg (fun z => q z.2)]
  obtain ⟨f, ef⟩ : ∃ f, f = fX X i := ⟨_, rfl⟩
  obtain ⟨g, eg⟩ : ∃ g, g = gX X i := ⟨_, rfl⟩
  obtain ⟨D, eD⟩ : ∃ D, D = dX X i := ⟨_, rfl⟩
  rw [← ef] at v1 v3 v5 t0
  rw [← eg] at v2 v4 v5 t1
  rw [← eD] at dd d1 d2 t2
  simp only [← ef, ← eg, ← eD] at dn gn
  have f5 : f < 5 := by omega
  have g5 : g < 5 := by omega
  have jd := nI_j (n := D) (by omega)
  have bf := nI_bit (a := F) (k := f) (by omega) (by omega)
  have bg := nI_bit (a := F) (k := g) (by omega) (by omega)
  rw [hact f f5] at bf
  rw [hact g g5] at bg
  have b1 : f * 5 + f < 25 := by omega
  have b2 : g * 5 + g < 25 := by omega
  have b3 : f * 5 + g < 25 := by omega
  have b4 : g * 5 + f < 25 := by omega
  have rest : ∀ q, q < 25 → (act f = true → q ≠ f * 5 + f) → (act g = true → q ≠ g * 5 + g) → (act f = true ∧ act g = true → q ≠ f * 5 + g ∧ q ≠ g * 5 + f) → cMt act X nc (i + 1) (q / 5) (q % 5) = cMt act X nc i (q / 5) (q % 5) := fun q hq h1 h2 h3 => by
    unfold cMt
    by_cases z : q / 5 = q % 5
    · rw [if_pos z, if_pos z]
      by_cases a : act (q / 5) = true
      · rw [if_pos a, if_pos a, dn, if_neg, Nat.add_zero]
        rintro (w | w)
        · rw [← w] at a
          exact h1 a (by omega)
        · rw [← w] at a
          exact h2 a (by omega)
      · rw [if_neg a, if_neg a]
    · rw [if_neg z, if_neg z]
      by_cases a : act (q / 5) = true ∧ act (q % 5) = true
      · rw [if_pos a, if_pos a, gn, if_neg, Nat.add_zero]
        rintro (⟨w1, w2⟩ | ⟨w1, w2⟩)
        · rw [← w1, ← w2] at a
          have := (h3 a).1
          omega
        · rw [← w1, ← w2] at a
          have := (h3 ⟨a.2, a.1⟩).2
          omega
      · rw [if_neg a, if_neg a]
  have dg1 : ∀ x, x < 5 → act x = true → cMt act X nc i ((x * 5 + x) / 5) ((x * 5 + x) % 5) = (dgS X x i : Int) := fun x hx ax => by
    rw [show (x * 5 + x) / 5 = x by omega, show (x * 5 + x) % 5 = x by omega]
    unfold cMt
    rw [if_pos rfl, if_pos ax]
  have dg2 : ∀ x, x < 5 → act x = true → (f = x ∨ g = x) → cMt act X nc (i + 1) ((x * 5 + x) / 5) ((x * 5 + x) % 5) = (dgS X x i : Int) + D := fun x hx ax hfg => by
    rw [show (x * 5 + x) / 5 = x by omega, show (x * 5 + x) % 5 = x by omega]
    unfold cMt
    rw [if_pos rfl, if_pos ax, dn, if_pos hfg, Int.natCast_add]
  cases af : act f with
  | false =>
    rw [af, if_neg (by decide)] at bf
    cases ag : act g with
    | false =>
      rw [ag, if_neg (by decide)] at bg
      have fin : sJ M 123 25 (fun q => jI (cMt act X nc (i + 1) (q / 5) (q % 5))) = sJ M 123 25 U := sJ_congr (fun q hq => by
        rw [hU, rest q hq (fun w => by rw [af] at w; cases w) (fun w => by rw [ag] at w; cases w) (fun w => by rw [af] at w; cases w.1)])
      rw [fin]
      simp -implicitDefEqProofs (disch := omega) [DX4_enter, EX4_enter, kp_, bsome, bnone, gi_s, gj_s, gr_s, gv_s, ik_, jk_, il_, jl_, rl_, i2_, i2_a, i2_b, j2_, j2_a, j2_b, i2d_, i2d_a, i2d_b, j2d_, j2d_a, j2d_b, i1_, i1_a, j1_, j1_a, i2l_, i2l_a, l2i_, l2i_a, fgi_, fgi_a, fgj_, fgj_a, fgr_, fgr_a, iald_, iald_a, iald_b, zald_, zald_a, zald_b, jald_, jald_a, jald_b, rald_, rald_a, rald_b, alen_, alen_a, sald_, sald_a, ic_, ic_a, jc_, jc_a, bc_, bc_a, bc_b, bj_, bj_a, bj_b, bz_, bz_a, band_, band_a, bor_, bor_a, bnot_, bnot_a, anil_, ai_, ai_a, ai_b, aj_, aj_a, aj_b, ar_, ar_a, ar_b, kb2i_, cvi_, cvi_a, cvi_b, cvj_, cvj_a, cvj_b, cvz_, cvz_a, cvz_b, csi_, csi_a, csj_, csj_a, csz_, csz_a, snop_, sseq_, sseq_n, sseq_s, sif_, sif_a, scut_, scut_a, ssi_, ssi_a, ssj_, ssj_a, ssr_, ssr_a, sinc_, sinc_a, sret_, sret_a, sretj_, sretj_a, sretv_, spop_, spop_a, kc_scv_, scv_, scv_a, scv_b, scs_, scs_a, fpi_, fpi_a, fpi_b, fpj_, fpj_a, fpj_b, foi_, foi_a, foi_b, foj_, foj_a, foj_b, aii_, aii_a, aii_b, aii_c, aiz_, aiz_a, aiz_b, aiz_c, aij_, aij_a, aij_b, aij_c, aoi_, aoi_a, aoi_b, aoi_c, aoj_, aoj_a, aoj_b, aoj_c, scopy_, scopy_a, scopy_b, scopy_c, scopy_d, scopy_e, ssw_, ssw_a, sel_n, sel_c, mfi_, mfi_a, mfj_, mfj_a, mfz_, mfz_a, kb_mfv_, mfv_, mfv_a, cut, lset, lset2, isL, Value.category, ent, entn, if_some, if_pair, if_cons, if_int, if_long, if_ref, ite_self, gz_b, ↓icb, ↓icb2, b2i_ne, ge0, ge1, ge2, ge3, ge4, ge5, ge6, ge7, ge8, ge9, ge10, ge11, ge12, ge13, ge14, lit32, nI_add, pk_mul, clt_nI, cle_nI, cgt_nI, cge_nI, ceq_nI, cne_nI, inr_nI, nI_clamp, nI_eq, nI_leI, nI_ltI, k122, f122_0, k123, l123, sJ_1, kT, lT, t0, t1, t2, bf, bg]
    | true =>
      rw [ag, if_pos rfl] at bg
      have y1 : U (g * 5 + g) = jI (dgS X g i) := by rw [hU, dg1 g g5 ag]
      have fin : sJ M 123 25 (vp_updL U (g * 5 + g) (jI ((dgS X g i : Int) + D))) = sJ M 123 25 (fun q => jI (cMt act X nc (i + 1) (q / 5) (q % 5))) := sJ_congr (fun q hq => by
        by_cases w1 : q = g * 5 + g
        · rw [w1, pk_uLs, dg2 g g5 ag (Or.inr rfl)]
        · rw [pk_uLn w1, hU, rest q hq (fun w => by rw [af] at w; cases w) (fun _ => w1) (fun w => by rw [af] at w; cases w.1)])
      simp -implicitDefEqProofs (disch := omega) [DX4_enter, EX4_enter, kp_, bsome, bnone, gi_s, gj_s, gr_s, gv_s, ik_, jk_, il_, jl_, rl_, i2_, i2_a, i2_b, j2_, j2_a, j2_b, i2d_, i2d_a, i2d_b, j2d_, j2d_a, j2d_b, i1_, i1_a, j1_, j1_a, i2l_, i2l_a, l2i_, l2i_a, fgi_, fgi_a, fgj_, fgj_a, fgr_, fgr_a, iald_, iald_a, iald_b, zald_, zald_a, zald_b, jald_, jald_a, jald_b, rald_, rald_a, rald_b, alen_, alen_a, sald_, sald_a, ic_, ic_a, jc_, jc_a, bc_, bc_a, bc_b, bj_, bj_a, bj_b, bz_, bz_a, band_, band_a, bor_, bor_a, bnot_, bnot_a, anil_, ai_, ai_a, ai_b, aj_, aj_a, aj_b, ar_, ar_a, ar_b, kb2i_, cvi_, cvi_a, cvi_b, cvj_, cvj_a, cvj_b, cvz_, cvz_a, cvz_b, csi_, csi_a, csj_, csj_a, csz_, csz_a, snop_, sseq_, sseq_n, sseq_s, sif_, sif_a, scut_, scut_a, ssi_, ssi_a, ssj_, ssj_a, ssr_, ssr_a, sinc_, sinc_a, sret_, sret_a, sretj_, sretj_a, sretv_, spop_, spop_a, kc_scv_, scv_, scv_a, scv_b, scs_, scs_a, fpi_, fpi_a, fpi_b, fpj_, fpj_a, fpj_b, foi_, foi_a, foi_b, foj_, foj_a, foj_b, aii_, aii_a, aii_b, aii_c, aiz_, aiz_a, aiz_b, aiz_c, aij_, aij_a, aij_b, aij_c, aoi_, aoi_a, aoi_b, aoi_c, aoj_, aoj_a, aoj_b, aoj_c, scopy_, scopy_a, scopy_b, scopy_c, scopy_d, scopy_e, ssw_, ssw_a, sel_n, sel_c, mfi_, mfi_a, mfj_, mfj_a, mfz_, mfz_a, kb_mfv_, mfv_, mfv_a, cut, lset, lset2, isL, Value.category, ent, entn, if_some, if_pair, if_cons, if_int, if_long, if_ref, ite_self, gz_b, ↓icb, ↓icb2, b2i_ne, ge0, ge1, ge2, ge3, ge4, ge5, ge6, ge7, ge8, ge9, ge10, ge11, ge12, ge13, ge14, lit32, nI_add, pk_mul, clt_nI, cle_nI, cgt_nI, cge_nI, ceq_nI, cne_nI, inr_nI, nI_clamp, nI_eq, nI_leI, nI_ltI, k122, f122_0, k123, l123, sJ_1, kT, lT, t0, t1, t2, bf, bg, c_cell, jd, sJ_at, wj_sJ, y1, jI_add, fin]
  | true =>
    rw [af, if_pos rfl] at bf
    have y1 : U (f * 5 + f) = jI (dgS X f i) := by rw [hU, dg1 f f5 af]
    cases ag : act g with
    | false =>
      rw [ag, if_neg (by decide)] at bg
      have fin : sJ M 123 25 (vp_updL U (f * 5 + f) (jI ((dgS X f i : Int) + D))) = sJ M 123 25 (fun q => jI (cMt act X nc (i + 1) (q / 5) (q % 5))) := sJ_congr (fun q hq => by
        by_cases w1 : q = f * 5 + f
        · rw [w1, pk_uLs, dg2 f f5 af (Or.inl rfl)]
        · rw [pk_uLn w1, hU, rest q hq (fun _ => w1) (fun w => by rw [ag] at w; cases w) (fun w => by rw [ag] at w; cases w.2)])
      simp -implicitDefEqProofs (disch := omega) [DX4_enter, EX4_enter, kp_, bsome, bnone, gi_s, gj_s, gr_s, gv_s, ik_, jk_, il_, jl_, rl_, i2_, i2_a, i2_b, j2_, j2_a, j2_b, i2d_, i2d_a, i2d_b, j2d_, j2d_a, j2d_b, i1_, i1_a, j1_, j1_a, i2l_, i2l_a, l2i_, l2i_a, fgi_, fgi_a, fgj_, fgj_a, fgr_, fgr_a, iald_, iald_a, iald_b, zald_, zald_a, zald_b, jald_, jald_a, jald_b, rald_, rald_a, rald_b, alen_, alen_a, sald_, sald_a, ic_, ic_a, jc_, jc_a, bc_, bc_a, bc_b, bj_, bj_a, bj_b, bz_, bz_a, band_, band_a, bor_, bor_a, bnot_, bnot_a, anil_, ai_, ai_a, ai_b, aj_, aj_a, aj_b, ar_, ar_a, ar_b, kb2i_, cvi_, cvi_a, cvi_b, cvj_, cvj_a, cvj_b, cvz_, cvz_a, cvz_b, csi_, csi_a, csj_, csj_a, csz_, csz_a, snop_, sseq_, sseq_n, sseq_s, sif_, sif_a, scut_, scut_a, ssi_, ssi_a, ssj_, ssj_a, ssr_, ssr_a, sinc_, sinc_a, sret_, sret_a, sretj_, sretj_a, sretv_, spop_, spop_a, kc_scv_, scv_, scv_a, scv_b, scs_, scs_a, fpi_, fpi_a, fpi_b, fpj_, fpj_a, fpj_b, foi_, foi_a, foi_b, foj_, foj_a, foj_b, aii_, aii_a, aii_b, aii_c, aiz_, aiz_a, aiz_b, aiz_c, aij_, aij_a, aij_b, aij_c, aoi_, aoi_a, aoi_b, aoi_c, aoj_, aoj_a, aoj_b, aoj_c, scopy_, scopy_a, scopy_b, scopy_c, scopy_d, scopy_e, ssw_, ssw_a, sel_n, sel_c, mfi_, mfi_a, mfj_, mfj_a, mfz_, mfz_a, kb_mfv_, mfv_, mfv_a, cut, lset, lset2, isL, Value.category, ent, entn, if_some, if_pair, if_cons, if_int, if_long, if_ref, ite_self, gz_b, ↓icb, ↓icb2, b2i_ne, ge0, ge1, ge2, ge3, ge4, ge5, ge6, ge7, ge8, ge9, ge10, ge11, ge12, ge13, ge14, lit32, nI_add, pk_mul, clt_nI, cle_nI, cgt_nI, cge_nI, ceq_nI, cne_nI, inr_nI, nI_clamp, nI_eq, nI_leI, nI_ltI, k122, f122_0, k123, l123, sJ_1, kT, lT, t0, t1, t2, bf, bg, c_cell, jd, sJ_at, wj_sJ, y1, jI_add, fin]
    | true =>
      rw [ag, if_pos rfl] at bg
      have gm : ∀ x y, x < 5 → y < 5 → x ≠ y → act x = true → act y = true → cMt act X nc i ((x * 5 + y) / 5) ((x * 5 + y) % 5) = -(gsm X x y i : Int) := fun x y hx hy hxy ax ay => by
        rw [show (x * 5 + y) / 5 = x by omega, show (x * 5 + y) % 5 = y by omega]
        unfold cMt
        rw [if_neg hxy, if_pos ⟨ax, ay⟩]
      have gm2 : ∀ x y, x < 5 → y < 5 → x ≠ y → act x = true → act y = true → ((f = x ∧ g = y) ∨ (f = y ∧ g = x)) → cMt act X nc (i + 1) ((x * 5 + y) / 5) ((x * 5 + y) % 5) = -(gsm X x y i : Int) - D := fun x y hx hy hxy ax ay hfg => by
        rw [show (x * 5 + y) / 5 = x by omega, show (x * 5 + y) % 5 = y by omega]
        unfold cMt
        rw [if_neg hxy, if_pos ⟨ax, ay⟩, gn, if_pos hfg, Int.natCast_add]
        omega
      have y2 : vp_updL U (f * 5 + f) (jI ((dgS X f i : Int) + D)) (g * 5 + g) = jI (dgS X g i) := by rw [pk_uLn (by omega), hU, dg1 g g5 ag]
      have y3 : vp_updL (vp_updL U (f * 5 + f) (jI ((dgS X f i : Int) + D))) (g * 5 + g) (jI ((dgS X g i : Int) + D)) (f * 5 + g) = jI (-(gsm X f g i : Int)) := by
        rw [pk_uLn (by omega), pk_uLn (by omega), hU, gm f g f5 g5 v5 af ag]
      have y4 : vp_updL (vp_updL (vp_updL U (f * 5 + f) (jI ((dgS X f i : Int) + D))) (g * 5 + g) (jI ((dgS X g i : Int) + D))) (f * 5 + g) (jI (-(gsm X f g i : Int) - D)) (g * 5 + f) = jI (-(gsm X g f i : Int)) := by
        rw [pk_uLn (by omega), pk_uLn (by omega), pk_uLn (by omega), hU, gm g f g5 f5 (fun w => v5 w.symm) ag af]
      have fin : sJ M 123 25 (vp_updL (vp_updL (vp_updL (vp_updL U (f * 5 + f) (jI ((dgS X f i : Int) + D))) (g * 5 + g) (jI ((dgS X g i : Int) + D))) (f * 5 + g) (jI (-(gsm X f g i : Int) - D))) (g * 5 + f) (jI (-(gsm X g f i : Int) - D))) = sJ M 123 25 (fun q => jI (cMt act X nc (i + 1) (q / 5) (q % 5))) := sJ_congr (fun q hq => by
        by_cases w4 : q = g * 5 + f
        · rw [w4, pk_uLs, gm2 g f g5 f5 (fun w => v5 w.symm) ag af (Or.inr ⟨rfl, rfl⟩)]
        rw [pk_uLn w4]
        by_cases w3 : q = f * 5 + g
        · rw [w3, pk_uLs, gm2 f g f5 g5 v5 af ag (Or.inl ⟨rfl, rfl⟩)]
        rw [pk_uLn w3]
        by_cases w2 : q = g * 5 + g
        · rw [w2, pk_uLs, dg2 g g5 ag (Or.inr rfl)]
        rw [pk_uLn w2]
        by_cases w1 : q = f * 5 + f
        · rw [w1, pk_uLs, dg2 f f5 af (Or.inl rfl)]
        rw [pk_uLn w1, hU, rest q hq (fun _ => w1) (fun _ => w2) (fun _ => ⟨w3, w4⟩)])
      simp -implicitDefEqProofs (disch := omega) [DX4_enter, EX4_enter, kp_, bsome, bnone, gi_s, gj_s, gr_s, gv_s, ik_, jk_, il_, jl_, rl_, i2_, i2_a, i2_b, j2_, j2_a, j2_b, i2d_, i2d_a, i2d_b, j2d_, j2d_a, j2d_b, i1_, i1_a, j1_, j1_a, i2l_, i2l_a, l2i_, l2i_a, fgi_, fgi_a, fgj_, fgj_a, fgr_, fgr_a, iald_, iald_a, iald_b, zald_, zald_a, zald_b, jald_, jald_a, jald_b, rald_, rald_a, rald_b, alen_, alen_a, sald_, sald_a, ic_, ic_a, jc_, jc_a, bc_, bc_a, bc_b, bj_, bj_a, bj_b, bz_, bz_a, band_, band_a, bor_, bor_a, bnot_, bnot_a, anil_, ai_, ai_a, ai_b, aj_, aj_a, aj_b, ar_, ar_a, ar_b, kb2i_, cvi_, cvi_a, cvi_b, cvj_, cvj_a, cvj_b, cvz_, cvz_a, cvz_b, csi_, csi_a, csj_, csj_a, csz_, csz_a, snop_, sseq_, sseq_n, sseq_s, sif_, sif_a, scut_, scut_a, ssi_, ssi_a, ssj_, ssj_a, ssr_, ssr_a, sinc_, sinc_a, sret_, sret_a, sretj_, sretj_a, sretv_, spop_, spop_a, kc_scv_, scv_, scv_a, scv_b, scs_, scs_a, fpi_, fpi_a, fpi_b, fpj_, fpj_a, fpj_b, foi_, foi_a, foi_b, foj_, foj_a, foj_b, aii_, aii_a, aii_b, aii_c, aiz_, aiz_a, aiz_b, aiz_c, aij_, aij_a, aij_b, aij_c, aoi_, aoi_a, aoi_b, aoi_c, aoj_, aoj_a, aoj_b, aoj_c, scopy_, scopy_a, scopy_b, scopy_c, scopy_d, scopy_e, ssw_, ssw_a, sel_n, sel_c, mfi_, mfi_a, mfj_, mfj_a, mfz_, mfz_a, kb_mfv_, mfv_, mfv_a, cut, lset, lset2, isL, Value.category, ent, entn, if_some, if_pair, if_cons, if_int, if_long, if_ref, ite_self, gz_b, ↓icb, ↓icb2, b2i_ne, ge0, ge1, ge2, ge3, ge4, ge5, ge6, ge7, ge8, ge9, ge10, ge11, ge12, ge13, ge14, lit32, nI_add, pk_mul, clt_nI, cle_nI, cgt_nI, cge_nI, ceq_nI, cne_nI, inr_nI, nI_clamp, nI_eq, nI_leI, nI_ltI, k122, f122_0, k123, l123, sJ_1, kT, lT, t0, t1, t2, bf, bg, c_cell, jd, sJ_at, wj_sJ, y1, jI_add, y2, y3, jI_sub, y4, fin]
end
