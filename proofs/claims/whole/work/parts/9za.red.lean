/-! ===== reduced: the rows of the class ===== -/
theorem f122_1 : rf 122 1 = 124 := by decide +kernel
theorem f122_2 : rf 122 2 = 125 := by decide +kernel
theorem k124 : kd 124 = 9 := by decide +kernel
theorem l124 : ln 124 = 25 := by decide +kernel
theorem k125 : kd 125 = 9 := by decide +kernel
theorem l125 : ln 125 = 25 := by decide +kernel
def uZ (w : Nat → Nat → Rat) (q : Nat) : Int64 := jN (nu (w (q / 5) (q % 5)))
def lZ (w : Nat → Nat → Rat) (q : Nat) : Int64 := jN ((w (q / 5) (q % 5)).den)
def ulM (M : Me) (w : Nat → Nat → Rat) : Me := sJ (sJ M 124 25 (uZ w)) 125 25 (lZ w)
def pt (a b : Nat) (z : Rat) (w : Nat → Nat → Rat) : Nat → Nat → Rat := fun x y => if (x = a ∧ y = b) ∨ (x = b ∧ y = a) then z else w x y
section
variable {M : Me} {w : Nat → Nat → Rat} {z : Rat} {a b c u l : Nat} {U L V : Nat → Int64}
theorem uZ_at (h : b < 5) : uZ w (a * 5 + b) = jN (nu (w a b)) := by unfold uZ; rw [show (a * 5 + b) / 5 = a by omega, show (a * 5 + b) % 5 = b by omega]
theorem lZ_at (h : b < 5) : lZ w (a * 5 + b) = jN ((w a b).den) := by unfold lZ; rw [show (a * 5 + b) / 5 = a by omega, show (a * 5 + b) % 5 = b by omega]
theorem ul_u {q : Nat} (h : q < 25) : (ulM M w).2 124 q = uZ w q := by unfold ulM; rw [sJ_ne (by decide), sJ_at h]
theorem ul_l {q : Nat} (h : q < 25) : (ulM M w).2 125 q = lZ w q := by unfold ulM; rw [sJ_at h]
theorem ul_1 : (ulM M w).1 = M.1 := Eq.trans rfl rfl
set_option maxRecDepth 20000 in
theorem sJ_swap (h : a ≠ b) {n m : Nat} : sJ (sJ M a n U) b m L = sJ (sJ M b m L) a n U := by
  refine Prod.ext rfl ?_
  funext q j
  simp only [sJ]
  by_cases h1 : q = a
  · subst h1
    simp [h]
  · simp [h1]
set_option maxRecDepth 20000 in
theorem ul_wu {q : Nat} {v : Int64} (h : q < 25) : wj (sJ (sJ M 124 25 U) 125 25 L) 124 q v = sJ (sJ M 124 25 (vp_updL U q v)) 125 25 L := by
  rw [sJ_swap (by decide), wj_sJ h, sJ_swap (by decide)]
set_option maxRecDepth 20000 in
theorem ul_wl {q : Nat} {v : Int64} (h : q < 25) : wj (sJ (sJ M 124 25 U) 125 25 L) 125 q v = sJ (sJ M 124 25 U) 125 25 (vp_updL L q v) := by
  rw [wj_sJ h]
set_option maxRecDepth 20000 in
theorem ul_congr (h1 : ∀ q, q < 25 → U q = uZ w q) (h2 : ∀ q, q < 25 → L q = lZ w q) : sJ (sJ M 124 25 U) 125 25 L = ulM M w := by
  unfold ulM
  rw [sJ_congr h1, sJ_congr h2]
set_option maxRecDepth 20000 in
theorem c_writeR (ha : a < 5) (hb : b < 5) (hu : nu z = u) (hl : z.den = l) : DX4_write [.ref 122, .int (nI a), .int (nI b), .long (jN u), .long (jN l)] (ulM M w) = some (ulM M (pt a b z w)) := by
  have i1 : a * 5 + b < 25 := by omega
  have i2 : b * 5 + a < 25 := by omega
  have e : ulM M w = sJ (sJ M 124 25 (uZ w)) 125 25 (lZ w) := rfl
  rw [e]
  have fin := ul_congr (M := M) (w := pt a b z w) (U := vp_updL (vp_updL (uZ w) (a * 5 + b) (jN u)) (b * 5 + a) (jN u)) (L := vp_updL (vp_updL (lZ w) (a * 5 + b) (jN l)) (b * 5 + a) (jN l)) (fun q hq => by
    unfold uZ pt
    by_cases q1 : q = b * 5 + a
    · rw [q1, pk_uLs, if_pos (Or.inr ⟨by omega, by omega⟩), hu]
    · rw [pk_uLn q1]
      by_cases q2 : q = a * 5 + b
      · rw [q2, pk_uLs, if_pos (Or.inl ⟨by omega, by omega⟩), hu]
      · rw [pk_uLn q2, if_neg (by omega)]) (fun q hq => by
    unfold lZ pt
    by_cases q1 : q = b * 5 + a
    · rw [q1, pk_uLs, if_pos (Or.inr ⟨by omega, by omega⟩), hl]
    · rw [pk_uLn q1]
      by_cases q2 : q = a * 5 + b
      · rw [q2, pk_uLs, if_pos (Or.inl ⟨by omega, by omega⟩), hl]
      · rw [pk_uLn q2, if_neg (by omega)])
  simp -implicitDefEqProofs (disch := omega) [DX4_write, EX4_write, kp_, bsome, bnone, gi_s, gj_s, gr_s, gv_s, ik_, jk_, il_, jl_, rl_, i2_, i2_a, i2_b, j2_, j2_a, j2_b, i2d_, i2d_a, i2d_b, j2d_, j2d_a, j2d_b, i1_, i1_a, j1_, j1_a, i2l_, i2l_a, l2i_, l2i_a, fgi_, fgi_a, fgj_, fgj_a, fgr_, fgr_a, iald_, iald_a, iald_b, zald_, zald_a, zald_b, jald_, jald_a, jald_b, rald_, rald_a, rald_b, alen_, alen_a, sald_, sald_a, ic_, ic_a, jc_, jc_a, bc_, bc_a, bc_b, bj_, bj_a, bj_b, bz_, bz_a, band_, band_a, bor_, bor_a, bnot_, bnot_a, anil_, ai_, ai_a, ai_b, aj_, aj_a, aj_b, ar_, ar_a, ar_b, kb2i_, cvi_, cvi_a, cvi_b, cvj_, cvj_a, cvj_b, cvz_, cvz_a, cvz_b, csi_, csi_a, csj_, csj_a, csz_, csz_a, snop_, sseq_, sseq_n, sseq_s, sif_, sif_a, scut_, scut_a, ssi_, ssi_a, ssj_, ssj_a, ssr_, ssr_a, sinc_, sinc_a, sret_, sret_a, sretj_, sretj_a, sretv_, spop_, spop_a, kc_scv_, scv_, scv_a, scv_b, scs_, scs_a, fpi_, fpi_a, fpi_b, fpj_, fpj_a, fpj_b, foi_, foi_a, foi_b, foj_, foj_a, foj_b, aii_, aii_a, aii_b, aii_c, aiz_, aiz_a, aiz_b, aiz_c, aij_, aij_a, aij_b, aij_c, aoi_, aoi_a, aoi_b, aoi_c, aoj_, aoj_a, aoj_b, aoj_c, scopy_, scopy_a, scopy_b, scopy_c, scopy_d, scopy_e, ssw_, ssw_a, sel_n, sel_c, mfi_, mfi_a, mfj_, mfj_a, mfz_, mfz_a, kb_mfv_, mfv_, mfv_a, cut, lset, lset2, isL, Value.category, ent, entn, if_some, if_pair, if_cons, if_int, if_long, if_ref, ite_self, gz_b, ↓icb, ↓icb2, b2i_ne, ge0, ge1, ge2, ge3, ge4, ge5, ge6, ge7, ge8, ge9, ge10, ge11, ge12, ge13, ge14, lit32, nI_add, pk_mul, clt_nI, cle_nI, cgt_nI, cge_nI, ceq_nI, cne_nI, inr_nI, nI_clamp, nI_eq, nI_leI, nI_ltI, k122, f122_1, f122_2, k124, l124, k125, l125, c_cell, i1, i2, ul_wu, ul_wl, fin]
set_option maxRecDepth 20000 in
theorem c_clearR (ha : a < 5) (hb : b < 5) : DX4_clear [.ref 122, .int (nI a), .int (nI b)] (ulM M w) = some (ulM M (pt a b 0 w)) := by
  have e := c_writeR (M := M) (w := w) (z := 0) (u := 0) (l := 1) ha hb rfl rfl
  have e0 : (0 : Int64) = jN 0 := rfl
  have e1 : (1 : Int64) = jN 1 := rfl
  simp -implicitDefEqProofs (disch := omega) [DX4_clear, EX4_clear, kp_, bsome, bnone, gi_s, gj_s, gr_s, gv_s, ik_, jk_, il_, jl_, rl_, i2_, i2_a, i2_b, j2_, j2_a, j2_b, i2d_, i2d_a, i2d_b, j2d_, j2d_a, j2d_b, i1_, i1_a, j1_, j1_a, i2l_, i2l_a, l2i_, l2i_a, fgi_, fgi_a, fgj_, fgj_a, fgr_, fgr_a, iald_, iald_a, iald_b, zald_, zald_a, zald_b, jald_, jald_a, jald_b, rald_, rald_a, rald_b, alen_, alen_a, sald_, sald_a, ic_, ic_a, jc_, jc_a, bc_, bc_a, bc_b, bj_, bj_a, bj_b, bz_, bz_a, band_, band_a, bor_, bor_a, bnot_, bnot_a, anil_, ai_, ai_a, ai_b, aj_, aj_a, aj_b, ar_, ar_a, ar_b, kb2i_, cvi_, cvi_a, cvi_b, cvj_, cvj_a, cvj_b, cvz_, cvz_a, cvz_b, csi_, csi_a, csj_, csj_a, csz_, csz_a, snop_, sseq_, sseq_n, sseq_s, sif_, sif_a, scut_, scut_a, ssi_, ssi_a, ssj_, ssj_a, ssr_, ssr_a, sinc_, sinc_a, sret_, sret_a, sretj_, sretj_a, sretv_, spop_, spop_a, kc_scv_, scv_, scv_a, scv_b, scs_, scs_a, fpi_, fpi_a, fpi_b, fpj_, fpj_a, fpj_b, foi_, foi_a, foi_b, foj_, foj_a, foj_b, aii_, aii_a, aii_b, aii_c, aiz_, aiz_a, aiz_b, aiz_c, aij_, aij_a, aij_b, aij_c, aoi_, aoi_a, aoi_b, aoi_c, aoj_, aoj_a, aoj_b, aoj_c, scopy_, scopy_a, scopy_b, scopy_c, scopy_d, scopy_e, ssw_, ssw_a, sel_n, sel_c, mfi_, mfi_a, mfj_, mfj_a, mfz_, mfz_a, kb_mfv_, mfv_, mfv_a, cut, lset, lset2, isL, Value.category, ent, entn, if_some, if_pair, if_cons, if_int, if_long, if_ref, ite_self, gz_b, ↓icb, ↓icb2, b2i_ne, ge0, ge1, ge2, ge3, ge4, ge5, ge6, ge7, ge8, ge9, ge10, ge11, ge12, ge13, ge14, lit32, nI_add, pk_mul, clt_nI, cle_nI, cgt_nI, cge_nI, ceq_nI, cne_nI, inr_nI, nI_clamp, nI_eq, nI_leI, nI_ltI, k122, e0, e1, e]
set_option maxRecDepth 20000 in
theorem jN_div {k g : Nat} (hg : 0 < g) (h : k * g ≤ 9000000000000000000) : jN (k * g) / jN g = jN k := by
  unfold jN
  have e : ((k * g : Nat) : Int) = (g : Int) * (k : Int) := by rw [Nat.mul_comm]; exact Int.natCast_mul ..
  have hh : (g : Int) * (k : Int) ≤ 9000000000000000000 := by rw [← e]; exact Int.ofNat_le.mpr h
  rw [e]
  rcases Nat.eq_zero_or_pos k with z | z
  · subst z
    show jI (g * 0) / _ = _
    rw [Int.mul_zero, show (0 : Int) = (1 : Int) * 0 by omega]
    show (0 : Int64) / jI g = 0
    exact Int64.zero_div
  · exact jI_div (by omega) (by omega) hh (by
      have : g * 1 ≤ g * k := Nat.mul_le_mul_left g z
      rw [Nat.mul_comm] at h
      omega)
set_option maxRecDepth 20000 in
theorem trm_low {r : Rat} {s d : Nat} (h : 0 ≤ r) (hd : 0 < d) (e : r * ((d : Nat) : Rat) = ((s : Nat) : Rat)) (hs : s ≤ 9000000000000000000) (hd2 : d ≤ 9000000000000000000) : trm (s : Int) d 0 = jN (nu r) ∧ trm (s : Int) d 1 = jN (r.den) := by
  obtain ⟨l1, l2, -⟩ := low h hd e
  have g0 : 0 < Nat.gcd s d := Nat.gcd_pos_of_pos_right _ hd
  have e1 : nu r * Nat.gcd s d = s := by rw [← l1]; exact Nat.div_mul_cancel (Nat.gcd_dvd_left s d)
  have e2 : r.den * Nat.gcd s d = d := by rw [← l2]; exact Nat.div_mul_cancel (Nat.gcd_dvd_right s d)
  unfold trm
  rw [Int.natAbs_natCast, if_pos rfl, if_neg (by decide)]
  constructor
  · show jN s / _ = _
    have := jN_div (k := nu r) g0 (by rw [e1]; exact hs)
    rwa [e1] at this
  · have := jN_div (k := r.den) g0 (by rw [e2]; exact hd2)
    rwa [e2] at this
set_option maxRecDepth 20000 in
theorem jN_mul {p q : Nat} : jN p * jN q = jN (p * q) := by
  unfold jN
  rw [jI_mul]
  congr 1
set_option maxRecDepth 20000 in
theorem jN_add {p q : Nat} : jN p + jN q = jN (p + q) := by
  unfold jN
  rw [jI_add]
  congr 1
set_option maxRecDepth 20000 in
theorem c_joinR (ha : a < 5) (hb : b < 5) (g : 0 ≤ w a b) (hz : 0 ≤ z) (e : z * ((l : Nat) : Rat) = ((u : Nat) : Rat)) (hl : 0 < l) (h1 : nu (w a b) * l + u * (w a b).den ≤ 9000000000000000000) (h2 : l * (w a b).den < 562949953421312) : DX4_join [.ref 122, .int (nI a), .int (nI b), .long (jN u), .long (jN l)] (ulM M w) = some (ulM M (pt a b (w a b + z) w)) := by
  have i1 : a * 5 + b < 25 := by omega
  have r1 : (ulM M w).2 124 (a * 5 + b) = jN (nu (w a b)) := by rw [ul_u i1, uZ_at hb]
  have r2 : (ulM M w).2 125 (a * 5 + b) = jN ((w a b).den) := by rw [ul_l i1, lZ_at hb]
  obtain ⟨s, es⟩ : ∃ s, s = nu (w a b) * l + u * (w a b).den := ⟨_, rfl⟩
  obtain ⟨d, ed⟩ : ∃ d, d = l * (w a b).den := ⟨_, rfl⟩
  have hd : 0 < d := by rw [ed]; exact Nat.mul_pos hl (w a b).den_pos
  have q := jo_eq g e
  rw [← es, ← ed] at q
  have t := trm_low (r := w a b + z) (by grind) hd q (by omega) (by omega)
  have t0 := c_term (M := ulM M w) (a := (s : Int)) (b := d) (w := 0) (by omega) (by omega) hd (by omega) (by decide)
  have t1 := c_term (M := ulM M w) (a := (s : Int)) (b := d) (w := 1) (by omega) (by omega) hd (by omega) (by decide)
  rw [t.1] at t0
  rw [t.2] at t1
  have m1 : jN (nu (w a b)) * jN l + jN u * jN ((w a b).den) = jI (s : Int) := by rw [jN_mul, jN_mul, jN_add, ← es]; rfl
  have m2 : jN l * jN ((w a b).den) = jN d := by rw [jN_mul, ← ed]
  have wr := c_writeR (M := M) (w := w) (z := w a b + z) ha hb rfl rfl
  simp -implicitDefEqProofs (disch := omega) [DX4_join, EX4_join, kp_, bsome, bnone, gi_s, gj_s, gr_s, gv_s, ik_, jk_, il_, jl_, rl_, i2_, i2_a, i2_b, j2_, j2_a, j2_b, i2d_, i2d_a, i2d_b, j2d_, j2d_a, j2d_b, i1_, i1_a, j1_, j1_a, i2l_, i2l_a, l2i_, l2i_a, fgi_, fgi_a, fgj_, fgj_a, fgr_, fgr_a, iald_, iald_a, iald_b, zald_, zald_a, zald_b, jald_, jald_a, jald_b, rald_, rald_a, rald_b, alen_, alen_a, sald_, sald_a, ic_, ic_a, jc_, jc_a, bc_, bc_a, bc_b, bj_, bj_a, bj_b, bz_, bz_a, band_, band_a, bor_, bor_a, bnot_, bnot_a, anil_, ai_, ai_a, ai_b, aj_, aj_a, aj_b, ar_, ar_a, ar_b, kb2i_, cvi_, cvi_a, cvi_b, cvj_, cvj_a, cvj_b, cvz_, cvz_a, cvz_b, csi_, csi_a, csj_, csj_a, csz_, csz_a, snop_, sseq_, sseq_n, sseq_s, sif_, sif_a, scut_, scut_a, ssi_, ssi_a, ssj_, ssj_a, ssr_, ssr_a, sinc_, sinc_a, sret_, sret_a, sretj_, sretj_a, sretv_, spop_, spop_a, kc_scv_, scv_, scv_a, scv_b, scs_, scs_a, fpi_, fpi_a, fpi_b, fpj_, fpj_a, fpj_b, foi_, foi_a, foi_b, foj_, foj_a, foj_b, aii_, aii_a, aii_b, aii_c, aiz_, aiz_a, aiz_b, aiz_c, aij_, aij_a, aij_b, aij_c, aoi_, aoi_a, aoi_b, aoi_c, aoj_, aoj_a, aoj_b, aoj_c, scopy_, scopy_a, scopy_b, scopy_c, scopy_d, scopy_e, ssw_, ssw_a, sel_n, sel_c, mfi_, mfi_a, mfj_, mfj_a, mfz_, mfz_a, kb_mfv_, mfv_, mfv_a, cut, lset, lset2, isL, Value.category, ent, entn, if_some, if_pair, if_cons, if_int, if_long, if_ref, ite_self, gz_b, ↓icb, ↓icb2, b2i_ne, ge0, ge1, ge2, ge3, ge4, ge5, ge6, ge7, ge8, ge9, ge10, ge11, ge12, ge13, ge14, lit32, nI_add, pk_mul, clt_nI, cle_nI, cgt_nI, cge_nI, ceq_nI, cne_nI, inr_nI, nI_clamp, nI_eq, nI_leI, nI_ltI, k122, f122_1, f122_2, k124, l124, k125, l125, c_cell, i1, r1, r2, m1, m2, t0, t1, wr]
end
