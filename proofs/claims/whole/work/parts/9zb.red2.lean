/-! ===== reduced: a chamber taken out by the class ===== -/
def tE (w : Nat → Nat → Rat) (c : Nat) : Nat → Nat
  | 0 => 0
  | i + 1 => if w c i = 0 then tE w c i else tE w c i + 1
def tS (w : Nat → Nat → Rat) (c : Nat) : Nat → Int32
  | 0 => -(nI 1)
  | i + 1 => if w c i = 0 then tS w c i else nI i
def tF (w : Nat → Nat → Rat) (c : Nat) : Nat → Int32
  | 0 => -(nI 1)
  | i + 1 => if w c i = 0 then tF w c i else tS w c i
section
variable {w : Nat → Nat → Rat} {c : Nat}
set_option maxRecDepth 20000 in
theorem tE_le : ∀ n, tE w c n ≤ n
  | 0 => Nat.le_refl _
  | n + 1 => by
    have := tE_le n
    simp only [tE]
    split <;> omega
set_option maxRecDepth 20000 in
theorem tE_ok : ∀ n, (tE w c n = 0 → ∀ i, i < n → w c i = 0) ∧ (tE w c n = 1 → ∃ p, p < n ∧ tS w c n = nI p ∧ w c p ≠ 0 ∧ ∀ i, i < n → w c i ≠ 0 → i = p) ∧ (tE w c n = 2 → ∃ p q, p < q ∧ q < n ∧ tF w c n = nI p ∧ tS w c n = nI q ∧ w c p ≠ 0 ∧ w c q ≠ 0 ∧ ∀ i, i < n → w c i ≠ 0 → i = p ∨ i = q) ∧ (3 ≤ tE w c n → ∃ p q r, p < q ∧ q < r ∧ r < n ∧ w c p ≠ 0 ∧ w c q ≠ 0 ∧ w c r ≠ 0)
  | 0 => by
    have e : tE w c 0 = 0 := rfl
    refine ⟨fun _ i hi => by omega, fun h => by omega, fun h => by omega, fun h => by omega⟩
  | n + 1 => by
    obtain ⟨h0, h1, h2, h3⟩ := tE_ok n
    by_cases z : w c n = 0
    · have e1 : tE w c (n + 1) = tE w c n := by simp only [tE]; rw [if_pos z]
      have e2 : tS w c (n + 1) = tS w c n := by simp only [tS]; rw [if_pos z]
      have e3 : tF w c (n + 1) = tF w c n := by simp only [tF]; rw [if_pos z]
      rw [e1, e2, e3]
      refine ⟨fun h i hi => ?_, fun h => ?_, fun h => ?_, fun h => ?_⟩
      · by_cases q : i = n
        · rw [q]; exact z
        · exact h0 h i (by omega)
      · obtain ⟨p, p1, p2, p3, p4⟩ := h1 h
        refine ⟨p, by omega, p2, p3, fun i hi hz => ?_⟩
        by_cases q : i = n
        · rw [q] at hz; exact absurd z hz
        · exact p4 i (by omega) hz
      · obtain ⟨p, q, p1, p2, p3, p4, p5, p6, p7⟩ := h2 h
        refine ⟨p, q, p1, by omega, p3, p4, p5, p6, fun i hi hz => ?_⟩
        by_cases q : i = n
        · rw [q] at hz; exact absurd z hz
        · exact p7 i (by omega) hz
      · obtain ⟨p, q, r, p1, p2, p3, p4⟩ := h3 h
        exact ⟨p, q, r, p1, p2, by omega, p4⟩
    · have e1 : tE w c (n + 1) = tE w c n + 1 := by simp only [tE]; rw [if_neg z]
      have e2 : tS w c (n + 1) = nI n := by simp only [tS]; rw [if_neg z]
      have e3 : tF w c (n + 1) = tS w c n := by simp only [tF]; rw [if_neg z]
      rw [e1, e2, e3]
      refine ⟨fun h => by omega, fun h => ?_, fun h => ?_, fun h => ?_⟩
      · refine ⟨n, by omega, rfl, z, fun i hi hz => ?_⟩
        by_cases q : i = n
        · exact q
        · exact absurd (h0 (by omega) i (by omega)) hz
      · obtain ⟨p, p1, p2, p3, p4⟩ := h1 (by omega)
        refine ⟨p, n, p1, by omega, p2, rfl, p3, z, fun i hi hz => ?_⟩
        by_cases q : i = n
        · exact Or.inr q
        · exact Or.inl (p4 i (by omega) hz)
      · by_cases k : tE w c n = 2
        · obtain ⟨p, q, p1, p2, p3, p4, p5, p6, p7⟩ := h2 k
          exact ⟨p, q, n, p1, p2, by omega, p5, p6, z⟩
        · obtain ⟨p, q, r, p1, p2, p3, p4⟩ := h3 (by omega)
          exact ⟨p, q, r, p1, p2, by omega, p4⟩
set_option maxRecDepth 20000 in
theorem tE_T2 (g : Gw w) : tE w c 5 ≤ 2 ↔ T2 w c := by
  obtain ⟨h0, h1, h2, h3⟩ := tE_ok (w := w) (c := c) 5
  constructor
  · intro h
    by_cases k0 : tE w c 5 = 0
    · exact ⟨0, 0, fun i hi => absurd (h0 k0 i (gw_in g hi)) hi⟩
    · by_cases k1 : tE w c 5 = 1
      · obtain ⟨p, p1, p2, p3, p4⟩ := h1 k1
        exact ⟨p, p, fun i hi => Or.inl (p4 i (gw_in g hi) hi)⟩
      · obtain ⟨p, q, p1, p2, p3, p4, p5, p6, p7⟩ := h2 (by omega)
        exact ⟨p, q, fun i hi => p7 i (gw_in g hi) hi⟩
  · rintro ⟨p, q, h⟩
    by_cases k : tE w c 5 ≤ 2
    · exact k
    · obtain ⟨x, y, z, x1, x2, x3, x4, x5, x6⟩ := h3 (by omega)
      have := h x x4
      have := h y x5
      have := h z x6
      omega
end
def eO (c : Nat) (w : Nat → Nat → Rat) : Nat → Nat → Rat := if tE w c 5 ≤ 2 then kr c w else w
section
variable {M : Me} {w : Nat → Nat → Rat} {c d p q : Nat}
set_option maxRecDepth 20000 in
theorem kr_1t (g : Gw w) (hp : ∀ i, w c i ≠ 0 → i = p) : kr c w = pt c p 0 w := by
  funext x y
  unfold kr pt
  have z : ∀ i, i ≠ p → w c i = 0 := fun i hi => by
    by_cases e : w c i = 0
    · exact e
    · exact absurd (hp i e) hi
  by_cases k : x = c ∨ y = c ∨ x = y
  · rw [if_pos k]
    by_cases k2 : (x = c ∧ y = p) ∨ (x = p ∧ y = c)
    · rw [if_pos k2]
    · rw [if_neg k2]
      rcases k with rfl | rfl | rfl
      · rw [z y (by omega)]
      · rw [g.1, z x (by omega)]
      · rw [g.2.1]
  · rw [if_neg k, if_neg (by omega)]
    by_cases k3 : x = p
    · rw [z y (by omega)]; grind
    · rw [z x k3]; grind
set_option maxRecDepth 20000 in
theorem kr_2t (g : Gw w) (hpq : p ≠ q) (hp : w c p ≠ 0) (hq : w c q ≠ 0) (h : ∀ i, w c i ≠ 0 → i = p ∨ i = q) : kr c w = pt p q (w p q + w c p * w c q * (w c p + w c q)⁻¹) (pt c q 0 (pt c p 0 w)) := by
  have es := rs_two h hpq (gw_in g hp) (gw_in g hq)
  have cp : c ≠ p := fun e => hp (by rw [← e]; exact g.2.1 c)
  have cq : c ≠ q := fun e => hq (by rw [← e]; exact g.2.1 c)
  have z : ∀ i, i ≠ p → i ≠ q → w c i = 0 := fun i h1 h2 => by
    by_cases e : w c i = 0
    · exact e
    · have := h i e
      omega
  funext x y
  unfold kr pt
  rw [es]
  by_cases k : x = c ∨ y = c ∨ x = y
  · rw [if_pos k]
    by_cases k0 : (x = p ∧ y = q) ∨ (x = q ∧ y = p)
    · omega
    · rw [if_neg k0]
      by_cases k1 : (x = c ∧ y = q) ∨ (x = q ∧ y = c)
      · rw [if_pos k1]
      · rw [if_neg k1]
        by_cases k2 : (x = c ∧ y = p) ∨ (x = p ∧ y = c)
        · rw [if_pos k2]
        · rw [if_neg k2]
          rcases k with rfl | rfl | rfl
          · rw [z y (by omega) (by omega)]
          · rw [g.1, z x (by omega) (by omega)]
          · rw [g.2.1]
  · rw [if_neg k]
    by_cases k0 : (x = p ∧ y = q) ∨ (x = q ∧ y = p)
    · rw [if_pos k0]
      rcases k0 with ⟨rfl, rfl⟩ | ⟨rfl, rfl⟩
      · rfl
      · rw [g.1 x y]; grind
    · rw [if_neg k0, if_neg (by omega), if_neg (by omega)]
      by_cases k1 : x = p ∨ x = q
      · rw [z y (by omega) (by omega)]; grind
      · rw [z x (by omega) (by omega)]; grind
set_option maxRecDepth 20000 in
theorem c_takeLoop (hc : c < 5) (hB : ∀ x y, nu (w x y) ≤ 9000000000000000000) (g : Gw w) {a1 a2 a3 a4 a5 : Value} : swh qX4_takeOut_1 wX4_takeOut_1 [.ref 122, .int (nI c), .int (-(nI 1)), .int (-(nI 1)), .int (nI 0), .int (nI 0), a1, a2, a3, a4, a5] (ulM M w) = some (none, [.ref 122, .int (nI c), .int (tF w c 5), .int (tS w c 5), .int (nI (tE w c 5)), .int (nI 5), a1, a2, a3, a4, a5], ulM M w) :=
  swh_count (fun i => [.ref 122, .int (nI c), .int (tF w c i), .int (tS w c i), .int (nI (tE w c i)), .int (nI i), a1, a2, a3, a4, a5]) (fun _ => ulM M w) 5
    (fun i hi => by simp -implicitDefEqProofs (disch := omega) [qX4_takeOut_1, kp_, bsome, bnone, gi_s, gj_s, gr_s, gv_s, ik_, jk_, il_, jl_, rl_, i2_, i2_a, i2_b, j2_, j2_a, j2_b, i2d_, i2d_a, i2d_b, j2d_, j2d_a, j2d_b, i1_, i1_a, j1_, j1_a, i2l_, i2l_a, l2i_, l2i_a, fgi_, fgi_a, fgj_, fgj_a, fgr_, fgr_a, iald_, iald_a, iald_b, zald_, zald_a, zald_b, jald_, jald_a, jald_b, rald_, rald_a, rald_b, alen_, alen_a, sald_, sald_a, ic_, ic_a, jc_, jc_a, bc_, bc_a, bc_b, bj_, bj_a, bj_b, bz_, bz_a, band_, band_a, bor_, bor_a, bnot_, bnot_a, anil_, ai_, ai_a, ai_b, aj_, aj_a, aj_b, ar_, ar_a, ar_b, kb2i_, cvi_, cvi_a, cvi_b, cvj_, cvj_a, cvj_b, cvz_, cvz_a, cvz_b, csi_, csi_a, csj_, csj_a, csz_, csz_a, snop_, sseq_, sseq_n, sseq_s, sif_, sif_a, scut_, scut_a, ssi_, ssi_a, ssj_, ssj_a, ssr_, ssr_a, sinc_, sinc_a, sret_, sret_a, sretj_, sretj_a, sretv_, spop_, spop_a, kc_scv_, scv_, scv_a, scv_b, scs_, scs_a, fpi_, fpi_a, fpi_b, fpj_, fpj_a, fpj_b, foi_, foi_a, foi_b, foj_, foj_a, foj_b, aii_, aii_a, aii_b, aii_c, aiz_, aiz_a, aiz_b, aiz_c, aij_, aij_a, aij_b, aij_c, aoi_, aoi_a, aoi_b, aoi_c, aoj_, aoj_a, aoj_b, aoj_c, scopy_, scopy_a, scopy_b, scopy_c, scopy_d, scopy_e, ssw_, ssw_a, sel_n, sel_c, mfi_, mfi_a, mfj_, mfj_a, mfz_, mfz_a, kb_mfv_, mfv_, mfv_a, cut, lset, lset2, isL, Value.category, ent, entn, if_some, if_pair, if_cons, if_int, if_long, if_ref, ite_self, gz_b, ↓icb, ↓icb2, b2i_ne, ge0, ge1, ge2, ge3, ge4, ge5, ge6, ge7, ge8, ge9, ge10, ge11, ge12, ge13, ge14, lit32, nI_add, pk_mul, clt_nI, cle_nI, cgt_nI, cge_nI, ceq_nI, cne_nI, inr_nI, nI_clamp, nI_eq, nI_leI, nI_ltI, hi])
    (fun i hi => by
      have i1 : c * 5 + i < 25 := by omega
      have r1 : (ulM M w).2 124 (c * 5 + i) = jN (nu (w c i)) := by rw [ul_u i1, uZ_at hi]
      have ne := jI_ne (hB c i)
      by_cases z : w c i = 0
      · rw [decide_eq_false (fun k => k ((nu_0 (g.2.2.1 c i)).mpr z))] at ne
        simp only [tE, tS, tF]
        rw [if_pos z, if_pos z, if_pos z]
        simp -implicitDefEqProofs (disch := omega) [wX4_takeOut_1, kp_, bsome, bnone, gi_s, gj_s, gr_s, gv_s, ik_, jk_, il_, jl_, rl_, i2_, i2_a, i2_b, j2_, j2_a, j2_b, i2d_, i2d_a, i2d_b, j2d_, j2d_a, j2d_b, i1_, i1_a, j1_, j1_a, i2l_, i2l_a, l2i_, l2i_a, fgi_, fgi_a, fgj_, fgj_a, fgr_, fgr_a, iald_, iald_a, iald_b, zald_, zald_a, zald_b, jald_, jald_a, jald_b, rald_, rald_a, rald_b, alen_, alen_a, sald_, sald_a, ic_, ic_a, jc_, jc_a, bc_, bc_a, bc_b, bj_, bj_a, bj_b, bz_, bz_a, band_, band_a, bor_, bor_a, bnot_, bnot_a, anil_, ai_, ai_a, ai_b, aj_, aj_a, aj_b, ar_, ar_a, ar_b, kb2i_, cvi_, cvi_a, cvi_b, cvj_, cvj_a, cvj_b, cvz_, cvz_a, cvz_b, csi_, csi_a, csj_, csj_a, csz_, csz_a, snop_, sseq_, sseq_n, sseq_s, sif_, sif_a, scut_, scut_a, ssi_, ssi_a, ssj_, ssj_a, ssr_, ssr_a, sinc_, sinc_a, sret_, sret_a, sretj_, sretj_a, sretv_, spop_, spop_a, kc_scv_, scv_, scv_a, scv_b, scs_, scs_a, fpi_, fpi_a, fpi_b, fpj_, fpj_a, fpj_b, foi_, foi_a, foi_b, foj_, foj_a, foj_b, aii_, aii_a, aii_b, aii_c, aiz_, aiz_a, aiz_b, aiz_c, aij_, aij_a, aij_b, aij_c, aoi_, aoi_a, aoi_b, aoi_c, aoj_, aoj_a, aoj_b, aoj_c, scopy_, scopy_a, scopy_b, scopy_c, scopy_d, scopy_e, ssw_, ssw_a, sel_n, sel_c, mfi_, mfi_a, mfj_, mfj_a, mfz_, mfz_a, kb_mfv_, mfv_, mfv_a, cut, lset, lset2, isL, Value.category, ent, entn, if_some, if_pair, if_cons, if_int, if_long, if_ref, ite_self, gz_b, ↓icb, ↓icb2, b2i_ne, ge0, ge1, ge2, ge3, ge4, ge5, ge6, ge7, ge8, ge9, ge10, ge11, ge12, ge13, ge14, lit32, nI_add, pk_mul, clt_nI, cle_nI, cgt_nI, cge_nI, ceq_nI, cne_nI, inr_nI, nI_clamp, nI_eq, nI_leI, nI_ltI, k122, f122_1, k124, l124, c_cell, i1, r1, ne]
      · have nz : nu (w c i) ≠ 0 := fun k => z ((nu_0 (g.2.2.1 c i)).mp k)
        rw [decide_eq_true nz] at ne
        simp only [tE, tS, tF]
        rw [if_neg z, if_neg z, if_neg z]
        simp -implicitDefEqProofs (disch := omega) [wX4_takeOut_1, kp_, bsome, bnone, gi_s, gj_s, gr_s, gv_s, ik_, jk_, il_, jl_, rl_, i2_, i2_a, i2_b, j2_, j2_a, j2_b, i2d_, i2d_a, i2d_b, j2d_, j2d_a, j2d_b, i1_, i1_a, j1_, j1_a, i2l_, i2l_a, l2i_, l2i_a, fgi_, fgi_a, fgj_, fgj_a, fgr_, fgr_a, iald_, iald_a, iald_b, zald_, zald_a, zald_b, jald_, jald_a, jald_b, rald_, rald_a, rald_b, alen_, alen_a, sald_, sald_a, ic_, ic_a, jc_, jc_a, bc_, bc_a, bc_b, bj_, bj_a, bj_b, bz_, bz_a, band_, band_a, bor_, bor_a, bnot_, bnot_a, anil_, ai_, ai_a, ai_b, aj_, aj_a, aj_b, ar_, ar_a, ar_b, kb2i_, cvi_, cvi_a, cvi_b, cvj_, cvj_a, cvj_b, cvz_, cvz_a, cvz_b, csi_, csi_a, csj_, csj_a, csz_, csz_a, snop_, sseq_, sseq_n, sseq_s, sif_, sif_a, scut_, scut_a, ssi_, ssi_a, ssj_, ssj_a, ssr_, ssr_a, sinc_, sinc_a, sret_, sret_a, sretj_, sretj_a, sretv_, spop_, spop_a, kc_scv_, scv_, scv_a, scv_b, scs_, scs_a, fpi_, fpi_a, fpi_b, fpj_, fpj_a, fpj_b, foi_, foi_a, foi_b, foj_, foj_a, foj_b, aii_, aii_a, aii_b, aii_c, aiz_, aiz_a, aiz_b, aiz_c, aij_, aij_a, aij_b, aij_c, aoi_, aoi_a, aoi_b, aoi_c, aoj_, aoj_a, aoj_b, aoj_c, scopy_, scopy_a, scopy_b, scopy_c, scopy_d, scopy_e, ssw_, ssw_a, sel_n, sel_c, mfi_, mfi_a, mfj_, mfj_a, mfz_, mfz_a, kb_mfv_, mfv_, mfv_a, cut, lset, lset2, isL, Value.category, ent, entn, if_some, if_pair, if_cons, if_int, if_long, if_ref, ite_self, gz_b, ↓icb, ↓icb2, b2i_ne, ge0, ge1, ge2, ge3, ge4, ge5, ge6, ge7, ge8, ge9, ge10, ge11, ge12, ge13, ge14, lit32, nI_add, pk_mul, clt_nI, cle_nI, cgt_nI, cge_nI, ceq_nI, cne_nI, inr_nI, nI_clamp, nI_eq, nI_leI, nI_ltI, k122, f122_1, k124, l124, c_cell, i1, r1, ne])
    (by simp -implicitDefEqProofs (disch := omega) [qX4_takeOut_1, kp_, bsome, bnone, gi_s, gj_s, gr_s, gv_s, ik_, jk_, il_, jl_, rl_, i2_, i2_a, i2_b, j2_, j2_a, j2_b, i2d_, i2d_a, i2d_b, j2d_, j2d_a, j2d_b, i1_, i1_a, j1_, j1_a, i2l_, i2l_a, l2i_, l2i_a, fgi_, fgi_a, fgj_, fgj_a, fgr_, fgr_a, iald_, iald_a, iald_b, zald_, zald_a, zald_b, jald_, jald_a, jald_b, rald_, rald_a, rald_b, alen_, alen_a, sald_, sald_a, ic_, ic_a, jc_, jc_a, bc_, bc_a, bc_b, bj_, bj_a, bj_b, bz_, bz_a, band_, band_a, bor_, bor_a, bnot_, bnot_a, anil_, ai_, ai_a, ai_b, aj_, aj_a, aj_b, ar_, ar_a, ar_b, kb2i_, cvi_, cvi_a, cvi_b, cvj_, cvj_a, cvj_b, cvz_, cvz_a, cvz_b, csi_, csi_a, csj_, csj_a, csz_, csz_a, snop_, sseq_, sseq_n, sseq_s, sif_, sif_a, scut_, scut_a, ssi_, ssi_a, ssj_, ssj_a, ssr_, ssr_a, sinc_, sinc_a, sret_, sret_a, sretj_, sretj_a, sretv_, spop_, spop_a, kc_scv_, scv_, scv_a, scv_b, scs_, scs_a, fpi_, fpi_a, fpi_b, fpj_, fpj_a, fpj_b, foi_, foi_a, foi_b, foj_, foj_a, foj_b, aii_, aii_a, aii_b, aii_c, aiz_, aiz_a, aiz_b, aiz_c, aij_, aij_a, aij_b, aij_c, aoi_, aoi_a, aoi_b, aoi_c, aoj_, aoj_a, aoj_b, aoj_c, scopy_, scopy_a, scopy_b, scopy_c, scopy_d, scopy_e, ssw_, ssw_a, sel_n, sel_c, mfi_, mfi_a, mfj_, mfj_a, mfz_, mfz_a, kb_mfv_, mfv_, mfv_a, cut, lset, lset2, isL, Value.category, ent, entn, if_some, if_pair, if_cons, if_int, if_long, if_ref, ite_self, gz_b, ↓icb, ↓icb2, b2i_ne, ge0, ge1, ge2, ge3, ge4, ge5, ge6, ge7, ge8, ge9, ge10, ge11, ge12, ge13, ge14, lit32, nI_add, pk_mul, clt_nI, cle_nI, cgt_nI, cge_nI, ceq_nI, cne_nI, inr_nI, nI_clamp, nI_eq, nI_leI, nI_ltI])
set_option maxRecDepth 20000 in
theorem c_takeOut (hc : c < 5) (hB : ∀ x y, nu (w x y) ≤ 9000000000000000000) (g : Gw w) (hr : ∀ c, c < 5 → rs w c ≤ 120) (hd : rs w c ≠ 0 → ∃ d, 0 < d ∧ d ≤ 14400 ∧ Dn d w) : DX4_takeOut [.ref 122, .int (nI c)] (ulM M w) = some (ulM M (eO c w)) := by
  have lp := c_takeLoop (M := M) (a1 := .null) (a2 := .null) (a3 := .null) (a4 := .null) (a5 := .null) hc hB g
  have ej : (-1 : Int32) = -(nI 1) := rfl
  obtain ⟨h0, h1, h2, h3⟩ := tE_ok (w := w) (c := c) 5
  have hE := tE_le (w := w) (c := c) 5
  unfold eO
  by_cases k0 : tE w c 5 = 0
  · have : kr c w = w := kr_0 g (rs_of0 (fun y => by
      by_cases e : w c y = 0
      · exact e
      · exact absurd (h0 k0 y (gw_in g e)) e))
    rw [if_pos (by omega), this]
    rw [k0] at lp
    simp -implicitDefEqProofs (disch := omega) [DX4_takeOut, EX4_takeOut, kp_, bsome, bnone, gi_s, gj_s, gr_s, gv_s, ik_, jk_, il_, jl_, rl_, i2_, i2_a, i2_b, j2_, j2_a, j2_b, i2d_, i2d_a, i2d_b, j2d_, j2d_a, j2d_b, i1_, i1_a, j1_, j1_a, i2l_, i2l_a, l2i_, l2i_a, fgi_, fgi_a, fgj_, fgj_a, fgr_, fgr_a, iald_, iald_a, iald_b, zald_, zald_a, zald_b, jald_, jald_a, jald_b, rald_, rald_a, rald_b, alen_, alen_a, sald_, sald_a, ic_, ic_a, jc_, jc_a, bc_, bc_a, bc_b, bj_, bj_a, bj_b, bz_, bz_a, band_, band_a, bor_, bor_a, bnot_, bnot_a, anil_, ai_, ai_a, ai_b, aj_, aj_a, aj_b, ar_, ar_a, ar_b, kb2i_, cvi_, cvi_a, cvi_b, cvj_, cvj_a, cvj_b, cvz_, cvz_a, cvz_b, csi_, csi_a, csj_, csj_a, csz_, csz_a, snop_, sseq_, sseq_n, sseq_s, sif_, sif_a, scut_, scut_a, ssi_, ssi_a, ssj_, ssj_a, ssr_, ssr_a, sinc_, sinc_a, sret_, sret_a, sretj_, sretj_a, sretv_, spop_, spop_a, kc_scv_, scv_, scv_a, scv_b, scs_, scs_a, fpi_, fpi_a, fpi_b, fpj_, fpj_a, fpj_b, foi_, foi_a, foi_b, foj_, foj_a, foj_b, aii_, aii_a, aii_b, aii_c, aiz_, aiz_a, aiz_b, aiz_c, aij_, aij_a, aij_b, aij_c, aoi_, aoi_a, aoi_b, aoi_c, aoj_, aoj_a, aoj_b, aoj_c, scopy_, scopy_a, scopy_b, scopy_c, scopy_d, scopy_e, ssw_, ssw_a, sel_n, sel_c, mfi_, mfi_a, mfj_, mfj_a, mfz_, mfz_a, kb_mfv_, mfv_, mfv_a, cut, lset, lset2, isL, Value.category, ent, entn, if_some, if_pair, if_cons, if_int, if_long, if_ref, ite_self, gz_b, ↓icb, ↓icb2, b2i_ne, ge0, ge1, ge2, ge3, ge4, ge5, ge6, ge7, ge8, ge9, ge10, ge11, ge12, ge13, ge14, lit32, nI_add, pk_mul, clt_nI, cle_nI, cgt_nI, cge_nI, ceq_nI, cne_nI, inr_nI, nI_clamp, nI_eq, nI_leI, nI_ltI, k122, ej, lp]
  by_cases k1 : tE w c 5 = 1
  · obtain ⟨p, p1, p2, p3, p4⟩ := h1 k1
    rw [if_pos (by omega), kr_1t g (fun i hi => p4 i (gw_in g hi) hi)]
    rw [k1, p2] at lp
    have cl := c_clearR (M := M) (w := w) hc p1
    simp -implicitDefEqProofs (disch := omega) [DX4_takeOut, EX4_takeOut, kp_, bsome, bnone, gi_s, gj_s, gr_s, gv_s, ik_, jk_, il_, jl_, rl_, i2_, i2_a, i2_b, j2_, j2_a, j2_b, i2d_, i2d_a, i2d_b, j2d_, j2d_a, j2d_b, i1_, i1_a, j1_, j1_a, i2l_, i2l_a, l2i_, l2i_a, fgi_, fgi_a, fgj_, fgj_a, fgr_, fgr_a, iald_, iald_a, iald_b, zald_, zald_a, zald_b, jald_, jald_a, jald_b, rald_, rald_a, rald_b, alen_, alen_a, sald_, sald_a, ic_, ic_a, jc_, jc_a, bc_, bc_a, bc_b, bj_, bj_a, bj_b, bz_, bz_a, band_, band_a, bor_, bor_a, bnot_, bnot_a, anil_, ai_, ai_a, ai_b, aj_, aj_a, aj_b, ar_, ar_a, ar_b, kb2i_, cvi_, cvi_a, cvi_b, cvj_, cvj_a, cvj_b, cvz_, cvz_a, cvz_b, csi_, csi_a, csj_, csj_a, csz_, csz_a, snop_, sseq_, sseq_n, sseq_s, sif_, sif_a, scut_, scut_a, ssi_, ssi_a, ssj_, ssj_a, ssr_, ssr_a, sinc_, sinc_a, sret_, sret_a, sretj_, sretj_a, sretv_, spop_, spop_a, kc_scv_, scv_, scv_a, scv_b, scs_, scs_a, fpi_, fpi_a, fpi_b, fpj_, fpj_a, fpj_b, foi_, foi_a, foi_b, foj_, foj_a, foj_b, aii_, aii_a, aii_b, aii_c, aiz_, aiz_a, aiz_b, aiz_c, aij_, aij_a, aij_b, aij_c, aoi_, aoi_a, aoi_b, aoi_c, aoj_, aoj_a, aoj_b, aoj_c, scopy_, scopy_a, scopy_b, scopy_c, scopy_d, scopy_e, ssw_, ssw_a, sel_n, sel_c, mfi_, mfi_a, mfj_, mfj_a, mfz_, mfz_a, kb_mfv_, mfv_, mfv_a, cut, lset, lset2, isL, Value.category, ent, entn, if_some, if_pair, if_cons, if_int, if_long, if_ref, ite_self, gz_b, ↓icb, ↓icb2, b2i_ne, ge0, ge1, ge2, ge3, ge4, ge5, ge6, ge7, ge8, ge9, ge10, ge11, ge12, ge13, ge14, lit32, nI_add, pk_mul, clt_nI, cle_nI, cgt_nI, cge_nI, ceq_nI, cne_nI, inr_nI, nI_clamp, nI_eq, nI_leI, nI_ltI, k122, ej, lp, cl]
  by_cases k2 : tE w c 5 = 2
  · obtain ⟨p, q, p1, p2, p3, p4, p5, p6, p7⟩ := h2 k2
    have p7 : ∀ i, w c i ≠ 0 → i = p ∨ i = q := fun i hi => p7 i (gw_in g hi) hi
    have es := rs_two p7 (by omega) (by omega) p2
    have hp := g.2.2.1 c p
    have hq := g.2.2.1 c q
    have hpq := g.2.2.1 p q
    have s0 : w c p + w c q ≠ 0 := fun e => p5 (by grind)
    obtain ⟨d, d0, d1, d2⟩ := hd (by rw [es]; exact s0)
    have sb := hr c hc
    rw [es] at sb
    have rb : w p q ≤ 120 := Rat.le_trans (rs_ge (c := p) (y := q) g) (hr p (by omega))
    obtain ⟨m1, m2, m3, m4, m5⟩ := tk_num d1 hp hq hpq (dn_den d0 d2 g) (dn_den d0 d2 g) (dn_den d0 d2 g) sb rb
    have d9 : (w p q).den ≤ d := dn_den d0 d2 g
    rw [if_pos (by omega), kr_2t g (by omega) p5 p6 p7]
    rw [k2, p3, p4] at lp
    have i1 : c * 5 + p < 25 := by omega
    have i2 : c * 5 + q < 25 := by omega
    have p55 : p < 5 := by omega
    have r1 : (ulM M w).2 124 (c * 5 + p) = jN (nu (w c p)) := by rw [ul_u i1, uZ_at p55]
    have r2 : (ulM M w).2 124 (c * 5 + q) = jN (nu (w c q)) := by rw [ul_u i2, uZ_at p2]
    have r3 : (ulM M w).2 125 (c * 5 + p) = jN ((w c p).den) := by rw [ul_l i1, lZ_at p55]
    have r4 : (ulM M w).2 125 (c * 5 + q) = jN ((w c q).den) := by rw [ul_l i2, lZ_at p2]
    have cl := c_clearR (M := M) (w := w) hc p55
    have cl2 := c_clearR (M := M) (w := pt c p 0 w) hc p2
    obtain ⟨u, eu⟩ : ∃ u, u = nu (w c p) * nu (w c q) := ⟨_, rfl⟩
    obtain ⟨l, el⟩ : ∃ l, l = nu (w c p) * (w c q).den + nu (w c q) * (w c p).den := ⟨_, rfl⟩
    have tk := tk_ser hp hq s0
    have l0 := tk_pos hp hq s0
    rw [← el] at l0 m4 m5
    rw [← eu, ← el] at tk
    have u1 : u ≤ 1728000 * 1728000 := by rw [eu]; exact Nat.mul_le_mul m1 m2
    have b1 : nu (w p q) * l ≤ 1728000 * 24883200000 := Nat.mul_le_mul m3 m4
    have b2 : u * (w p q).den ≤ 1728000 * 1728000 * 14400 := Nat.mul_le_mul u1 (by omega)
    have cp : c ≠ p := fun e => p5 (by rw [← e]; exact g.2.1 c)
    have cq : c ≠ q := fun e => p6 (by rw [← e]; exact g.2.1 c)
    have ew : (pt c q 0 (pt c p 0 w)) p q = w p q := by
      unfold pt
      rw [if_neg (by omega), if_neg (by omega)]
    have jo := c_joinR (M := M) (w := pt c q 0 (pt c p 0 w)) (z := w c p * w c q * (w c p + w c q)⁻¹) (u := u) (l := l) p55 p2 (by rw [ew]; exact hpq) (tk_nn hp hq) tk l0 (by rw [ew]; omega) (by rw [ew]; exact m5)
    rw [ew] at jo
    have e1 : jN (nu (w c p)) * jN ((w c q).den) + jN (nu (w c q)) * jN ((w c p).den) = jN l := by rw [jN_mul, jN_mul, jN_add, ← el]
    have e2 : jN (nu (w c p)) * jN (nu (w c q)) = jN u := by rw [jN_mul, ← eu]
    simp -implicitDefEqProofs (disch := omega) [DX4_takeOut, EX4_takeOut, kp_, bsome, bnone, gi_s, gj_s, gr_s, gv_s, ik_, jk_, il_, jl_, rl_, i2_, i2_a, i2_b, j2_, j2_a, j2_b, i2d_, i2d_a, i2d_b, j2d_, j2d_a, j2d_b, i1_, i1_a, j1_, j1_a, i2l_, i2l_a, l2i_, l2i_a, fgi_, fgi_a, fgj_, fgj_a, fgr_, fgr_a, iald_, iald_a, iald_b, zald_, zald_a, zald_b, jald_, jald_a, jald_b, rald_, rald_a, rald_b, alen_, alen_a, sald_, sald_a, ic_, ic_a, jc_, jc_a, bc_, bc_a, bc_b, bj_, bj_a, bj_b, bz_, bz_a, band_, band_a, bor_, bor_a, bnot_, bnot_a, anil_, ai_, ai_a, ai_b, aj_, aj_a, aj_b, ar_, ar_a, ar_b, kb2i_, cvi_, cvi_a, cvi_b, cvj_, cvj_a, cvj_b, cvz_, cvz_a, cvz_b, csi_, csi_a, csj_, csj_a, csz_, csz_a, snop_, sseq_, sseq_n, sseq_s, sif_, sif_a, scut_, scut_a, ssi_, ssi_a, ssj_, ssj_a, ssr_, ssr_a, sinc_, sinc_a, sret_, sret_a, sretj_, sretj_a, sretv_, spop_, spop_a, kc_scv_, scv_, scv_a, scv_b, scs_, scs_a, fpi_, fpi_a, fpi_b, fpj_, fpj_a, fpj_b, foi_, foi_a, foi_b, foj_, foj_a, foj_b, aii_, aii_a, aii_b, aii_c, aiz_, aiz_a, aiz_b, aiz_c, aij_, aij_a, aij_b, aij_c, aoi_, aoi_a, aoi_b, aoi_c, aoj_, aoj_a, aoj_b, aoj_c, scopy_, scopy_a, scopy_b, scopy_c, scopy_d, scopy_e, ssw_, ssw_a, sel_n, sel_c, mfi_, mfi_a, mfj_, mfj_a, mfz_, mfz_a, kb_mfv_, mfv_, mfv_a, cut, lset, lset2, isL, Value.category, ent, entn, if_some, if_pair, if_cons, if_int, if_long, if_ref, ite_self, gz_b, ↓icb, ↓icb2, b2i_ne, ge0, ge1, ge2, ge3, ge4, ge5, ge6, ge7, ge8, ge9, ge10, ge11, ge12, ge13, ge14, lit32, nI_add, pk_mul, clt_nI, cle_nI, cgt_nI, cge_nI, ceq_nI, cne_nI, inr_nI, nI_clamp, nI_eq, nI_leI, nI_ltI, k122, ej, lp, f122_1, f122_2, k124, l124, k125, l125, c_cell, i1, i2, r1, r2, r3, r4, e1, e2, cl, cl2, jo]
  · rw [if_neg (by omega)]
    rcases (by omega : tE w c 5 = 3 ∨ tE w c 5 = 4 ∨ tE w c 5 = 5) with k | k | k <;> (rw [k] at lp; simp -implicitDefEqProofs (disch := omega) [DX4_takeOut, EX4_takeOut, kp_, bsome, bnone, gi_s, gj_s, gr_s, gv_s, ik_, jk_, il_, jl_, rl_, i2_, i2_a, i2_b, j2_, j2_a, j2_b, i2d_, i2d_a, i2d_b, j2d_, j2d_a, j2d_b, i1_, i1_a, j1_, j1_a, i2l_, i2l_a, l2i_, l2i_a, fgi_, fgi_a, fgj_, fgj_a, fgr_, fgr_a, iald_, iald_a, iald_b, zald_, zald_a, zald_b, jald_, jald_a, jald_b, rald_, rald_a, rald_b, alen_, alen_a, sald_, sald_a, ic_, ic_a, jc_, jc_a, bc_, bc_a, bc_b, bj_, bj_a, bj_b, bz_, bz_a, band_, band_a, bor_, bor_a, bnot_, bnot_a, anil_, ai_, ai_a, ai_b, aj_, aj_a, aj_b, ar_, ar_a, ar_b, kb2i_, cvi_, cvi_a, cvi_b, cvj_, cvj_a, cvj_b, cvz_, cvz_a, cvz_b, csi_, csi_a, csj_, csj_a, csz_, csz_a, snop_, sseq_, sseq_n, sseq_s, sif_, sif_a, scut_, scut_a, ssi_, ssi_a, ssj_, ssj_a, ssr_, ssr_a, sinc_, sinc_a, sret_, sret_a, sretj_, sretj_a, sretv_, spop_, spop_a, kc_scv_, scv_, scv_a, scv_b, scs_, scs_a, fpi_, fpi_a, fpi_b, fpj_, fpj_a, fpj_b, foi_, foi_a, foi_b, foj_, foj_a, foj_b, aii_, aii_a, aii_b, aii_c, aiz_, aiz_a, aiz_b, aiz_c, aij_, aij_a, aij_b, aij_c, aoi_, aoi_a, aoi_b, aoi_c, aoj_, aoj_a, aoj_b, aoj_c, scopy_, scopy_a, scopy_b, scopy_c, scopy_d, scopy_e, ssw_, ssw_a, sel_n, sel_c, mfi_, mfi_a, mfj_, mfj_a, mfz_, mfz_a, kb_mfv_, mfv_, mfv_a, cut, lset, lset2, isL, Value.category, ent, entn, if_some, if_pair, if_cons, if_int, if_long, if_ref, ite_self, gz_b, ↓icb, ↓icb2, b2i_ne, ge0, ge1, ge2, ge3, ge4, ge5, ge6, ge7, ge8, ge9, ge10, ge11, ge12, ge13, ge14, lit32, nI_add, pk_mul, clt_nI, cle_nI, cgt_nI, cge_nI, ceq_nI, cne_nI, inr_nI, nI_clamp, nI_eq, nI_leI, nI_ltI, k122, ej, lp])
end
