/-! ===== leaves of both ===== -/
def pI (L : List (Nat × Nat)) (i : Nat) : Nat × Nat := (L[i]?).getD (0, 0)
def okL (L : List (Nat × Nat)) (nc nt : Nat) : Prop := ∀ (i : Nat) (p : Nat × Nat), L[i]? = some p → (p.1 < nc ∨ (10 ≤ p.1 ∧ p.1 < 10 + nt)) ∧ p.2 ≤ 60
section
variable {M P Q N O : Me} {X Z : Nat → Int32} {S : Nat → Nat → Bool} {L : List (Nat × Nat)} {st : List (Nat × Nat) × Nat} {nc nt np nw tm o u j s r q m n i K nd : Nat}
set_option maxRecDepth 20000 in
theorem pI_e (h : i < L.length) : L[i]? = some (pI L i) := by
  unfold pI
  rw [List.getElem?_eq_getElem h]
  rfl
set_option maxRecDepth 20000 in
theorem okL_add (h : okL L nc nt) (hj : j < nc ∨ (10 ≤ j ∧ j < 10 + nt)) (hs : s ≤ 60) : okL (L ++ [(j, s)]) nc nt := fun i p hp => by
  rw [List.getElem?_append] at hp
  split at hp
  · exact h i p hp
  · by_cases e : i - L.length = 0
    · rw [e] at hp
      cases hp
      exact ⟨hj, hs⟩
    · rw [List.getElem?_eq_none (by simp only [List.length_singleton]; omega)] at hp
      cases hp
set_option maxRecDepth 20000 in
theorem sk1_ok (h : okL st.1 nc nt) (hj : j < nc ∨ (10 ≤ j ∧ j < 10 + nt)) : ∀ s, s ≤ 60 → okL (sk1 X nc nt np nd j s st).1 nc nt := by
  intro s
  induction s with
  | zero => intro _; exact h
  | succ s ih =>
    intro hs
    have z := ih (by omega)
    cases e : alk X nc nt np j (s + 1) with
    | none => rw [sk1_none e]; exact z
    | some a =>
      rw [sk1_some e]
      by_cases q : a = nd
      · simp only [if_pos q]
        exact okL_add z hj hs
      · simp only [if_neg q]
        exact z
set_option maxRecDepth 20000 in
theorem sk2_ok : ∀ j, okL (sk2 X nc nt np nd j).1.1 nc nt := by
  intro j
  induction j with
  | zero => intro i p hp; cases hp
  | succ j ih =>
    cases e : jnb nc nt j with
    | true =>
      rw [sk2_t e]
      exact sk1_ok ih (of_decide_eq_true e) 60 (by decide)
    | false => rw [sk2_f e]; exact ih
set_option maxRecDepth 20000 in
theorem ctB_0 {P : Nat → Bool} : ∀ n, (∀ j, j < n → P j = false) → ctB P n = 0
  | 0, _ => rfl
  | n + 1, h => by simp only [ctB]; rw [ctB_0 n (fun j hj => h j (by omega)), h n (by omega)]; rfl
set_option maxRecDepth 20000 in
theorem mxB_n {f : Nat → Nat} (h : ∀ i, f i ≤ 20) : ∀ n, mxB f n ≤ 20
  | 0 => Nat.zero_le _
  | n + 1 => by
    simp only [mxB]
    have := mxB_n h n
    have := h n
    omega
set_option maxRecDepth 20000 in
theorem c_leavesA (hv : Vx Z nc nt np nw tm) (hP : SkP Z nc nt np nw tm P) (hk : SkC P L q m) (hok : okL L nc nt) (hK : K = min L.length 20) (hl : L.length ≤ 2000) : ∃ Q, swh qX5_leaves_1 wX5_leaves_1 [.ref 98, .ref 31, .int (nI K), .int (nI 0), .null, .null, .null] P = some (none, [.ref 98, .ref 31, .int (nI K), .int (nI K), .null, .null, .null], Q) ∧ SkP Z nc nt np nw tm Q ∧ SkC Q L q m ∧ PS P Q ∧ ∀ i, i < K → ∀ c, c < 6 → Q.1 (102 + i) c = seC Z nc nt np (pI L i) c := by
  have hb := hv.2.1
  obtain ⟨Q, l1, y1, y2, y3, y4⟩ := swh_inv (c := qX5_leaves_1) (b := wX5_leaves_1) (fun i => [.ref 98, .ref 31, .int (nI K), .int (nI i), .null, .null, .null]) (fun i B => SkP Z nc nt np nw tm B ∧ SkC B L q m ∧ PS P B ∧ ∀ j, j < i → ∀ c, c < 6 → B.1 (102 + j) c = seC Z nc nt np (pI L j) c) K
    (fun i hi B hB => by simp -implicitDefEqProofs (disch := omega) [qX5_leaves_1, kp_, bsome, bnone, gi_s, gj_s, gr_s, gv_s, ik_, jk_, il_, jl_, rl_, i2_, i2_a, i2_b, j2_, j2_a, j2_b, i2d_, i2d_a, i2d_b, j2d_, j2d_a, j2d_b, i1_, i1_a, j1_, j1_a, i2l_, i2l_a, l2i_, l2i_a, fgi_, fgi_a, fgj_, fgj_a, fgr_, fgr_a, iald_, iald_a, iald_b, zald_, zald_a, zald_b, jald_, jald_a, jald_b, rald_, rald_a, rald_b, alen_, alen_a, sald_, sald_a, ic_, ic_a, jc_, jc_a, bc_, bc_a, bc_b, bj_, bj_a, bj_b, bz_, bz_a, band_, band_a, bor_, bor_a, bnot_, bnot_a, anil_, ai_, ai_a, ai_b, aj_, aj_a, aj_b, ar_, ar_a, ar_b, kb2i_, cvi_, cvi_a, cvi_b, cvj_, cvj_a, cvj_b, cvz_, cvz_a, cvz_b, csi_, csi_a, csj_, csj_a, csz_, csz_a, snop_, sseq_, sseq_n, sseq_s, sif_, sif_a, scut_, scut_a, ssi_, ssi_a, ssj_, ssj_a, ssr_, ssr_a, sinc_, sinc_a, sret_, sret_a, sretj_, sretj_a, sretv_, spop_, spop_a, kc_scv_, scv_, scv_a, scv_b, scs_, scs_a, fpi_, fpi_a, fpi_b, fpj_, fpj_a, fpj_b, foi_, foi_a, foi_b, foj_, foj_a, foj_b, aii_, aii_a, aii_b, aii_c, aiz_, aiz_a, aiz_b, aiz_c, aij_, aij_a, aij_b, aij_c, aoi_, aoi_a, aoi_b, aoi_c, aoj_, aoj_a, aoj_b, aoj_c, scopy_, scopy_a, scopy_b, scopy_c, scopy_d, scopy_e, ssw_, ssw_a, sel_n, sel_c, mfi_, mfi_a, mfj_, mfj_a, mfz_, mfz_a, kb_mfv_, mfv_, mfv_a, cut, lset, lset2, isL, Value.category, ent, entn, if_some, if_pair, if_cons, if_int, if_long, if_ref, ite_self, gz_b, ↓icb, ↓icb2, b2i_ne, ge0, ge1, ge2, ge3, ge4, ge5, ge6, ge7, ge8, ge9, ge10, ge11, ge12, ge13, ge14, lit32, nI_add, pk_mul, clt_nI, cle_nI, cgt_nI, cge_nI, ceq_nI, cne_nI, inr_nI, nI_clamp, nI_eq, nI_leI, nI_ltI, hi])
    (fun i hi B hB => by
      obtain ⟨y1, y2, y3, y4⟩ := hB
      have i20 : i < 20 := by omega
      have pe := pI_e (L := L) (i := i) (by omega)
      obtain ⟨a1, a2⟩ := y2.2.2.2.2.2 i _ i20 pe
      obtain ⟨o1, o2⟩ := hok i _ pe
      obtain ⟨⟨Y, sY, lY, vY⟩, nY, iY⟩ := y1
      obtain ⟨A, q0, q1, q2, q3, q4⟩ := c_wleak (s := (pI L i).2) lY sY hv nY iY o1 o2
      obtain ⟨R, s1, s2, s3⟩ := c_pbal q1 (lkR_vx hv o1 o2) q2 q3
      have po : PO B R := q4.trans s3.po
      have lR : Lr R 31 (lkR Z (pI L i).1 (pI L i).2) nc nt np nw tm := q1.frame hb.1 hb.2.1 hb.2.2.1 hb.2.2.2.1 (fun a z1 z2 => (s3 a (by omega)).1)
      have nR : Nh R 31 := by unfold Nh; rw [(s3 31 (by omega)).1]; exact q2
      obtain ⟨C, d1, d2, d3, d4⟩ := c_look (p := pI L i) lR hb.1 s2 i20
      have pR : SkP Z nc nt np nw tm R := ⟨⟨_, lkR_sm, lR, lkR_vx hv o1 o2⟩, nR, Or.inr ⟨_, s2⟩⟩
      have fi := f101_ i i20
      refine ⟨C, ?_, pR.fr hv (fun a z1 z2 => d2 a (by omega)) (fun _ _ _ => by rw [d3]), y2.fr (fun a ha => by rw [d2 a (by omega), (po a (by omega)).1]), y3.trans (fun a ha => ⟨by rw [d2 a (by omega), (po a (by omega)).1], by rw [d3, (po a (by omega)).2]⟩), fun j hj c hc => ?_⟩
      · simp -implicitDefEqProofs (disch := omega) [wX5_leaves_1, kp_, bsome, bnone, gi_s, gj_s, gr_s, gv_s, ik_, jk_, il_, jl_, rl_, i2_, i2_a, i2_b, j2_, j2_a, j2_b, i2d_, i2d_a, i2d_b, j2d_, j2d_a, j2d_b, i1_, i1_a, j1_, j1_a, i2l_, i2l_a, l2i_, l2i_a, fgi_, fgi_a, fgj_, fgj_a, fgr_, fgr_a, iald_, iald_a, iald_b, zald_, zald_a, zald_b, jald_, jald_a, jald_b, rald_, rald_a, rald_b, alen_, alen_a, sald_, sald_a, ic_, ic_a, jc_, jc_a, bc_, bc_a, bc_b, bj_, bj_a, bj_b, bz_, bz_a, band_, band_a, bor_, bor_a, bnot_, bnot_a, anil_, ai_, ai_a, ai_b, aj_, aj_a, aj_b, ar_, ar_a, ar_b, kb2i_, cvi_, cvi_a, cvi_b, cvj_, cvj_a, cvj_b, cvz_, cvz_a, cvz_b, csi_, csi_a, csj_, csj_a, csz_, csz_a, snop_, sseq_, sseq_n, sseq_s, sif_, sif_a, scut_, scut_a, ssi_, ssi_a, ssj_, ssj_a, ssr_, ssr_a, sinc_, sinc_a, sret_, sret_a, sretj_, sretj_a, sretv_, spop_, spop_a, kc_scv_, scv_, scv_a, scv_b, scs_, scs_a, fpi_, fpi_a, fpi_b, fpj_, fpj_a, fpj_b, foi_, foi_a, foi_b, foj_, foj_a, foj_b, aii_, aii_a, aii_b, aii_c, aiz_, aiz_a, aiz_b, aiz_c, aij_, aij_a, aij_b, aij_c, aoi_, aoi_a, aoi_b, aoi_c, aoj_, aoj_a, aoj_b, aoj_c, scopy_, scopy_a, scopy_b, scopy_c, scopy_d, scopy_e, ssw_, ssw_a, sel_n, sel_c, mfi_, mfi_a, mfj_, mfj_a, mfz_, mfz_a, kb_mfv_, mfv_, mfv_a, cut, lset, lset2, isL, Value.category, ent, entn, if_some, if_pair, if_cons, if_int, if_long, if_ref, ite_self, gz_b, ↓icb, ↓icb2, b2i_ne, ge0, ge1, ge2, ge3, ge4, ge5, ge6, ge7, ge8, ge9, ge10, ge11, ge12, ge13, ge14, lit32, nI_add, pk_mul, clt_nI, cle_nI, cgt_nI, cge_nI, ceq_nI, cne_nI, inr_nI, nI_clamp, nI_eq, nI_leI, nI_ltI, k98, f98_0, f98_1, f98_2, f98_3, k31_, k61, k99, l99, k100, l100, k101, l101, a1, a2, q0, s1, fi, d1]
      · by_cases e : j = i
        · rw [e]; exact d4 c hc
        · rw [d2 _ (by omega), (po _ (by omega)).1]; exact y4 j (by omega) c hc)
    (fun B hB => by simp -implicitDefEqProofs (disch := omega) [qX5_leaves_1, kp_, bsome, bnone, gi_s, gj_s, gr_s, gv_s, ik_, jk_, il_, jl_, rl_, i2_, i2_a, i2_b, j2_, j2_a, j2_b, i2d_, i2d_a, i2d_b, j2d_, j2d_a, j2d_b, i1_, i1_a, j1_, j1_a, i2l_, i2l_a, l2i_, l2i_a, fgi_, fgi_a, fgj_, fgj_a, fgr_, fgr_a, iald_, iald_a, iald_b, zald_, zald_a, zald_b, jald_, jald_a, jald_b, rald_, rald_a, rald_b, alen_, alen_a, sald_, sald_a, ic_, ic_a, jc_, jc_a, bc_, bc_a, bc_b, bj_, bj_a, bj_b, bz_, bz_a, band_, band_a, bor_, bor_a, bnot_, bnot_a, anil_, ai_, ai_a, ai_b, aj_, aj_a, aj_b, ar_, ar_a, ar_b, kb2i_, cvi_, cvi_a, cvi_b, cvj_, cvj_a, cvj_b, cvz_, cvz_a, cvz_b, csi_, csi_a, csj_, csj_a, csz_, csz_a, snop_, sseq_, sseq_n, sseq_s, sif_, sif_a, scut_, scut_a, ssi_, ssi_a, ssj_, ssj_a, ssr_, ssr_a, sinc_, sinc_a, sret_, sret_a, sretj_, sretj_a, sretv_, spop_, spop_a, kc_scv_, scv_, scv_a, scv_b, scs_, scs_a, fpi_, fpi_a, fpi_b, fpj_, fpj_a, fpj_b, foi_, foi_a, foi_b, foj_, foj_a, foj_b, aii_, aii_a, aii_b, aii_c, aiz_, aiz_a, aiz_b, aiz_c, aij_, aij_a, aij_b, aij_c, aoi_, aoi_a, aoi_b, aoi_c, aoj_, aoj_a, aoj_b, aoj_c, scopy_, scopy_a, scopy_b, scopy_c, scopy_d, scopy_e, ssw_, ssw_a, sel_n, sel_c, mfi_, mfi_a, mfj_, mfj_a, mfz_, mfz_a, kb_mfv_, mfv_, mfv_a, cut, lset, lset2, isL, Value.category, ent, entn, if_some, if_pair, if_cons, if_int, if_long, if_ref, ite_self, gz_b, ↓icb, ↓icb2, b2i_ne, ge0, ge1, ge2, ge3, ge4, ge5, ge6, ge7, ge8, ge9, ge10, ge11, ge12, ge13, ge14, lit32, nI_add, pk_mul, clt_nI, cle_nI, cgt_nI, cge_nI, ceq_nI, cne_nI, inr_nI, nI_clamp, nI_eq, nI_leI, nI_ltI])
    P ⟨hP, hk, PS.refl, fun j hj => by omega⟩
  exact ⟨Q, l1, y1, y2, y3, y4⟩
set_option maxRecDepth 20000 in
theorem c_leavesB (hS : ∀ i j, i < K → j < K → eqF (Q.1 (102 + i)) (Q.1 (102 + j)) 6 0 = S i j) (hK : K ≤ 20) : swh qX5_leaves_3 wX5_leaves_3 [.ref 98, .ref 31, .int (nI K), .int (nI 0), .int (nI 0), .null, .null] Q = some (none, [.ref 98, .ref 31, .int (nI K), .int (nI (mxB (fun i => ctB (fun j => decide (i ≤ j) && S i j) K) K)), .int (nI K), .null, .null], Q) := by
  obtain ⟨f, ef⟩ : ∃ f : Nat → Nat, f = fun i => ctB (fun j => decide (i ≤ j) && S i j) K := ⟨_, rfl⟩
  rw [← ef]
  have fl : ∀ i, f i ≤ 20 := fun i => by
    rw [ef]
    have := ctB_le (P := fun j => decide (i ≤ j) && S i j) K
    exact Nat.le_trans this hK
  exact swh_count (fun i => [.ref 98, .ref 31, .int (nI K), .int (nI (mxB f i)), .int (nI i), .null, .null]) (fun _ => Q) K
    (fun i hi => by simp -implicitDefEqProofs (disch := omega) [qX5_leaves_3, kp_, bsome, bnone, gi_s, gj_s, gr_s, gv_s, ik_, jk_, il_, jl_, rl_, i2_, i2_a, i2_b, j2_, j2_a, j2_b, i2d_, i2d_a, i2d_b, j2d_, j2d_a, j2d_b, i1_, i1_a, j1_, j1_a, i2l_, i2l_a, l2i_, l2i_a, fgi_, fgi_a, fgj_, fgj_a, fgr_, fgr_a, iald_, iald_a, iald_b, zald_, zald_a, zald_b, jald_, jald_a, jald_b, rald_, rald_a, rald_b, alen_, alen_a, sald_, sald_a, ic_, ic_a, jc_, jc_a, bc_, bc_a, bc_b, bj_, bj_a, bj_b, bz_, bz_a, band_, band_a, bor_, bor_a, bnot_, bnot_a, anil_, ai_, ai_a, ai_b, aj_, aj_a, aj_b, ar_, ar_a, ar_b, kb2i_, cvi_, cvi_a, cvi_b, cvj_, cvj_a, cvj_b, cvz_, cvz_a, cvz_b, csi_, csi_a, csj_, csj_a, csz_, csz_a, snop_, sseq_, sseq_n, sseq_s, sif_, sif_a, scut_, scut_a, ssi_, ssi_a, ssj_, ssj_a, ssr_, ssr_a, sinc_, sinc_a, sret_, sret_a, sretj_, sretj_a, sretv_, spop_, spop_a, kc_scv_, scv_, scv_a, scv_b, scs_, scs_a, fpi_, fpi_a, fpi_b, fpj_, fpj_a, fpj_b, foi_, foi_a, foi_b, foj_, foj_a, foj_b, aii_, aii_a, aii_b, aii_c, aiz_, aiz_a, aiz_b, aiz_c, aij_, aij_a, aij_b, aij_c, aoi_, aoi_a, aoi_b, aoi_c, aoj_, aoj_a, aoj_b, aoj_c, scopy_, scopy_a, scopy_b, scopy_c, scopy_d, scopy_e, ssw_, ssw_a, sel_n, sel_c, mfi_, mfi_a, mfj_, mfj_a, mfz_, mfz_a, kb_mfv_, mfv_, mfv_a, cut, lset, lset2, isL, Value.category, ent, entn, if_some, if_pair, if_cons, if_int, if_long, if_ref, ite_self, gz_b, ↓icb, ↓icb2, b2i_ne, ge0, ge1, ge2, ge3, ge4, ge5, ge6, ge7, ge8, ge9, ge10, ge11, ge12, ge13, ge14, lit32, nI_add, pk_mul, clt_nI, cle_nI, cgt_nI, cge_nI, ceq_nI, cne_nI, inr_nI, nI_clamp, nI_eq, nI_leI, nI_ltI, hi])
    (fun i hi => by
      have ml := mxB_n fl i
      have fi : ctB (fun j => decide (i ≤ j) && S i j) K = f i := by rw [ef]
      have l2 : swh qX5_leaves_2 wX5_leaves_2 [.ref 98, .ref 31, .int (nI K), .int (nI (mxB f i)), .int (nI i), .int (nI 0), .int (nI i)] Q = some (none, [.ref 98, .ref 31, .int (nI K), .int (nI (mxB f i)), .int (nI i), .int (nI (f i)), .int (nI K)], Q) := by
        have z := swh_count (c := qX5_leaves_2) (b := wX5_leaves_2) (fun d => [.ref 98, .ref 31, .int (nI K), .int (nI (mxB f i)), .int (nI i), .int (nI (ctB (fun j => decide (i ≤ j) && S i j) (i + d))), .int (nI (i + d))]) (fun _ => Q) (K - i)
          (fun d hd => by
            have q1 : i + d < K := by omega
            simp -implicitDefEqProofs (disch := omega) [qX5_leaves_2, kp_, bsome, bnone, gi_s, gj_s, gr_s, gv_s, ik_, jk_, il_, jl_, rl_, i2_, i2_a, i2_b, j2_, j2_a, j2_b, i2d_, i2d_a, i2d_b, j2d_, j2d_a, j2d_b, i1_, i1_a, j1_, j1_a, i2l_, i2l_a, l2i_, l2i_a, fgi_, fgi_a, fgj_, fgj_a, fgr_, fgr_a, iald_, iald_a, iald_b, zald_, zald_a, zald_b, jald_, jald_a, jald_b, rald_, rald_a, rald_b, alen_, alen_a, sald_, sald_a, ic_, ic_a, jc_, jc_a, bc_, bc_a, bc_b, bj_, bj_a, bj_b, bz_, bz_a, band_, band_a, bor_, bor_a, bnot_, bnot_a, anil_, ai_, ai_a, ai_b, aj_, aj_a, aj_b, ar_, ar_a, ar_b, kb2i_, cvi_, cvi_a, cvi_b, cvj_, cvj_a, cvj_b, cvz_, cvz_a, cvz_b, csi_, csi_a, csj_, csj_a, csz_, csz_a, snop_, sseq_, sseq_n, sseq_s, sif_, sif_a, scut_, scut_a, ssi_, ssi_a, ssj_, ssj_a, ssr_, ssr_a, sinc_, sinc_a, sret_, sret_a, sretj_, sretj_a, sretv_, spop_, spop_a, kc_scv_, scv_, scv_a, scv_b, scs_, scs_a, fpi_, fpi_a, fpi_b, fpj_, fpj_a, fpj_b, foi_, foi_a, foi_b, foj_, foj_a, foj_b, aii_, aii_a, aii_b, aii_c, aiz_, aiz_a, aiz_b, aiz_c, aij_, aij_a, aij_b, aij_c, aoi_, aoi_a, aoi_b, aoi_c, aoj_, aoj_a, aoj_b, aoj_c, scopy_, scopy_a, scopy_b, scopy_c, scopy_d, scopy_e, ssw_, ssw_a, sel_n, sel_c, mfi_, mfi_a, mfj_, mfj_a, mfz_, mfz_a, kb_mfv_, mfv_, mfv_a, cut, lset, lset2, isL, Value.category, ent, entn, if_some, if_pair, if_cons, if_int, if_long, if_ref, ite_self, gz_b, ↓icb, ↓icb2, b2i_ne, ge0, ge1, ge2, ge3, ge4, ge5, ge6, ge7, ge8, ge9, ge10, ge11, ge12, ge13, ge14, lit32, nI_add, pk_mul, clt_nI, cle_nI, cgt_nI, cge_nI, ceq_nI, cne_nI, inr_nI, nI_clamp, nI_eq, nI_leI, nI_ltI, q1])
          (fun d hd => by
            have q1 : i + d < K := by omega
            have i20 : i < 20 := by omega
            have d20 : i + d < 20 := by omega
            have sm := c_sig (P := Q) (k102_ i i20) (l102_ i i20) (k102_ (i + d) d20) (l102_ (i + d) d20)
            rw [hS i (i + d) hi q1] at sm
            have f1 := f101_ i i20
            have f2 := f101_ (i + d) d20
            have cl := ctB_le (P := fun j => decide (i ≤ j) && S i j) (i + d)
            rw [← Nat.add_assoc i d 1]
            cases e : S i (i + d) with
            | true =>
              rw [e] at sm
              have c1 : ctB (fun j => decide (i ≤ j) && S i j) (i + d + 1) = ctB (fun j => decide (i ≤ j) && S i j) (i + d) + 1 := by
                simp only [ctB]
                rw [if_pos (by rw [e, decide_eq_true (Nat.le_add_right i d)]; rfl)]
              rw [c1]
              simp -implicitDefEqProofs (disch := omega) [wX5_leaves_2, kp_, bsome, bnone, gi_s, gj_s, gr_s, gv_s, ik_, jk_, il_, jl_, rl_, i2_, i2_a, i2_b, j2_, j2_a, j2_b, i2d_, i2d_a, i2d_b, j2d_, j2d_a, j2d_b, i1_, i1_a, j1_, j1_a, i2l_, i2l_a, l2i_, l2i_a, fgi_, fgi_a, fgj_, fgj_a, fgr_, fgr_a, iald_, iald_a, iald_b, zald_, zald_a, zald_b, jald_, jald_a, jald_b, rald_, rald_a, rald_b, alen_, alen_a, sald_, sald_a, ic_, ic_a, jc_, jc_a, bc_, bc_a, bc_b, bj_, bj_a, bj_b, bz_, bz_a, band_, band_a, bor_, bor_a, bnot_, bnot_a, anil_, ai_, ai_a, ai_b, aj_, aj_a, aj_b, ar_, ar_a, ar_b, kb2i_, cvi_, cvi_a, cvi_b, cvj_, cvj_a, cvj_b, cvz_, cvz_a, cvz_b, csi_, csi_a, csj_, csj_a, csz_, csz_a, snop_, sseq_, sseq_n, sseq_s, sif_, sif_a, scut_, scut_a, ssi_, ssi_a, ssj_, ssj_a, ssr_, ssr_a, sinc_, sinc_a, sret_, sret_a, sretj_, sretj_a, sretv_, spop_, spop_a, kc_scv_, scv_, scv_a, scv_b, scs_, scs_a, fpi_, fpi_a, fpi_b, fpj_, fpj_a, fpj_b, foi_, foi_a, foi_b, foj_, foj_a, foj_b, aii_, aii_a, aii_b, aii_c, aiz_, aiz_a, aiz_b, aiz_c, aij_, aij_a, aij_b, aij_c, aoi_, aoi_a, aoi_b, aoi_c, aoj_, aoj_a, aoj_b, aoj_c, scopy_, scopy_a, scopy_b, scopy_c, scopy_d, scopy_e, ssw_, ssw_a, sel_n, sel_c, mfi_, mfi_a, mfj_, mfj_a, mfz_, mfz_a, kb_mfv_, mfv_, mfv_a, cut, lset, lset2, isL, Value.category, ent, entn, if_some, if_pair, if_cons, if_int, if_long, if_ref, ite_self, gz_b, ↓icb, ↓icb2, b2i_ne, ge0, ge1, ge2, ge3, ge4, ge5, ge6, ge7, ge8, ge9, ge10, ge11, ge12, ge13, ge14, lit32, nI_add, pk_mul, clt_nI, cle_nI, cgt_nI, cge_nI, ceq_nI, cne_nI, inr_nI, nI_clamp, nI_eq, nI_leI, nI_ltI, k98, f98_3, k101, l101, f1, f2, sm]
            | false =>
              rw [e] at sm
              have c1 : ctB (fun j => decide (i ≤ j) && S i j) (i + d + 1) = ctB (fun j => decide (i ≤ j) && S i j) (i + d) := by
                simp only [ctB]
                rw [if_neg (by rw [e, Bool.and_false]; decide)]
                rfl
              rw [c1]
              simp -implicitDefEqProofs (disch := omega) [wX5_leaves_2, kp_, bsome, bnone, gi_s, gj_s, gr_s, gv_s, ik_, jk_, il_, jl_, rl_, i2_, i2_a, i2_b, j2_, j2_a, j2_b, i2d_, i2d_a, i2d_b, j2d_, j2d_a, j2d_b, i1_, i1_a, j1_, j1_a, i2l_, i2l_a, l2i_, l2i_a, fgi_, fgi_a, fgj_, fgj_a, fgr_, fgr_a, iald_, iald_a, iald_b, zald_, zald_a, zald_b, jald_, jald_a, jald_b, rald_, rald_a, rald_b, alen_, alen_a, sald_, sald_a, ic_, ic_a, jc_, jc_a, bc_, bc_a, bc_b, bj_, bj_a, bj_b, bz_, bz_a, band_, band_a, bor_, bor_a, bnot_, bnot_a, anil_, ai_, ai_a, ai_b, aj_, aj_a, aj_b, ar_, ar_a, ar_b, kb2i_, cvi_, cvi_a, cvi_b, cvj_, cvj_a, cvj_b, cvz_, cvz_a, cvz_b, csi_, csi_a, csj_, csj_a, csz_, csz_a, snop_, sseq_, sseq_n, sseq_s, sif_, sif_a, scut_, scut_a, ssi_, ssi_a, ssj_, ssj_a, ssr_, ssr_a, sinc_, sinc_a, sret_, sret_a, sretj_, sretj_a, sretv_, spop_, spop_a, kc_scv_, scv_, scv_a, scv_b, scs_, scs_a, fpi_, fpi_a, fpi_b, fpj_, fpj_a, fpj_b, foi_, foi_a, foi_b, foj_, foj_a, foj_b, aii_, aii_a, aii_b, aii_c, aiz_, aiz_a, aiz_b, aiz_c, aij_, aij_a, aij_b, aij_c, aoi_, aoi_a, aoi_b, aoi_c, aoj_, aoj_a, aoj_b, aoj_c, scopy_, scopy_a, scopy_b, scopy_c, scopy_d, scopy_e, ssw_, ssw_a, sel_n, sel_c, mfi_, mfi_a, mfj_, mfj_a, mfz_, mfz_a, kb_mfv_, mfv_, mfv_a, cut, lset, lset2, isL, Value.category, ent, entn, if_some, if_pair, if_cons, if_int, if_long, if_ref, ite_self, gz_b, ↓icb, ↓icb2, b2i_ne, ge0, ge1, ge2, ge3, ge4, ge5, ge6, ge7, ge8, ge9, ge10, ge11, ge12, ge13, ge14, lit32, nI_add, pk_mul, clt_nI, cle_nI, cgt_nI, cge_nI, ceq_nI, cne_nI, inr_nI, nI_clamp, nI_eq, nI_leI, nI_ltI, k98, f98_3, k101, l101, f1, f2, sm])
          (by
            have q1 : i + (K - i) = K := by omega
            rw [q1]
            simp -implicitDefEqProofs (disch := omega) [qX5_leaves_2, kp_, bsome, bnone, gi_s, gj_s, gr_s, gv_s, ik_, jk_, il_, jl_, rl_, i2_, i2_a, i2_b, j2_, j2_a, j2_b, i2d_, i2d_a, i2d_b, j2d_, j2d_a, j2d_b, i1_, i1_a, j1_, j1_a, i2l_, i2l_a, l2i_, l2i_a, fgi_, fgi_a, fgj_, fgj_a, fgr_, fgr_a, iald_, iald_a, iald_b, zald_, zald_a, zald_b, jald_, jald_a, jald_b, rald_, rald_a, rald_b, alen_, alen_a, sald_, sald_a, ic_, ic_a, jc_, jc_a, bc_, bc_a, bc_b, bj_, bj_a, bj_b, bz_, bz_a, band_, band_a, bor_, bor_a, bnot_, bnot_a, anil_, ai_, ai_a, ai_b, aj_, aj_a, aj_b, ar_, ar_a, ar_b, kb2i_, cvi_, cvi_a, cvi_b, cvj_, cvj_a, cvj_b, cvz_, cvz_a, cvz_b, csi_, csi_a, csj_, csj_a, csz_, csz_a, snop_, sseq_, sseq_n, sseq_s, sif_, sif_a, scut_, scut_a, ssi_, ssi_a, ssj_, ssj_a, ssr_, ssr_a, sinc_, sinc_a, sret_, sret_a, sretj_, sretj_a, sretv_, spop_, spop_a, kc_scv_, scv_, scv_a, scv_b, scs_, scs_a, fpi_, fpi_a, fpi_b, fpj_, fpj_a, fpj_b, foi_, foi_a, foi_b, foj_, foj_a, foj_b, aii_, aii_a, aii_b, aii_c, aiz_, aiz_a, aiz_b, aiz_c, aij_, aij_a, aij_b, aij_c, aoi_, aoi_a, aoi_b, aoi_c, aoj_, aoj_a, aoj_b, aoj_c, scopy_, scopy_a, scopy_b, scopy_c, scopy_d, scopy_e, ssw_, ssw_a, sel_n, sel_c, mfi_, mfi_a, mfj_, mfj_a, mfz_, mfz_a, kb_mfv_, mfv_, mfv_a, cut, lset, lset2, isL, Value.category, ent, entn, if_some, if_pair, if_cons, if_int, if_long, if_ref, ite_self, gz_b, ↓icb, ↓icb2, b2i_ne, ge0, ge1, ge2, ge3, ge4, ge5, ge6, ge7, ge8, ge9, ge10, ge11, ge12, ge13, ge14, lit32, nI_add, pk_mul, clt_nI, cle_nI, cgt_nI, cge_nI, ceq_nI, cne_nI, inr_nI, nI_clamp, nI_eq, nI_leI, nI_ltI])
        rw [Nat.add_zero, ctB_0 i (fun j hj => by rw [decide_eq_false (by omega), Bool.false_and]), show i + (K - i) = K by omega, fi] at z
        exact z
      have mx : mxi (nI (mxB f i)) (nI (f i)) = nI (max (mxB f i) (f i)) := mxi_n (by omega) (by have := fl i; omega)
      simp only [mxB]
      simp -implicitDefEqProofs (disch := omega) [wX5_leaves_3, kp_, bsome, bnone, gi_s, gj_s, gr_s, gv_s, ik_, jk_, il_, jl_, rl_, i2_, i2_a, i2_b, j2_, j2_a, j2_b, i2d_, i2d_a, i2d_b, j2d_, j2d_a, j2d_b, i1_, i1_a, j1_, j1_a, i2l_, i2l_a, l2i_, l2i_a, fgi_, fgi_a, fgj_, fgj_a, fgr_, fgr_a, iald_, iald_a, iald_b, zald_, zald_a, zald_b, jald_, jald_a, jald_b, rald_, rald_a, rald_b, alen_, alen_a, sald_, sald_a, ic_, ic_a, jc_, jc_a, bc_, bc_a, bc_b, bj_, bj_a, bj_b, bz_, bz_a, band_, band_a, bor_, bor_a, bnot_, bnot_a, anil_, ai_, ai_a, ai_b, aj_, aj_a, aj_b, ar_, ar_a, ar_b, kb2i_, cvi_, cvi_a, cvi_b, cvj_, cvj_a, cvj_b, cvz_, cvz_a, cvz_b, csi_, csi_a, csj_, csj_a, csz_, csz_a, snop_, sseq_, sseq_n, sseq_s, sif_, sif_a, scut_, scut_a, ssi_, ssi_a, ssj_, ssj_a, ssr_, ssr_a, sinc_, sinc_a, sret_, sret_a, sretj_, sretj_a, sretv_, spop_, spop_a, kc_scv_, scv_, scv_a, scv_b, scs_, scs_a, fpi_, fpi_a, fpi_b, fpj_, fpj_a, fpj_b, foi_, foi_a, foi_b, foj_, foj_a, foj_b, aii_, aii_a, aii_b, aii_c, aiz_, aiz_a, aiz_b, aiz_c, aij_, aij_a, aij_b, aij_c, aoi_, aoi_a, aoi_b, aoi_c, aoj_, aoj_a, aoj_b, aoj_c, scopy_, scopy_a, scopy_b, scopy_c, scopy_d, scopy_e, ssw_, ssw_a, sel_n, sel_c, mfi_, mfi_a, mfj_, mfj_a, mfz_, mfz_a, kb_mfv_, mfv_, mfv_a, cut, lset, lset2, isL, Value.category, ent, entn, if_some, if_pair, if_cons, if_int, if_long, if_ref, ite_self, gz_b, ↓icb, ↓icb2, b2i_ne, ge0, ge1, ge2, ge3, ge4, ge5, ge6, ge7, ge8, ge9, ge10, ge11, ge12, ge13, ge14, lit32, nI_add, pk_mul, clt_nI, cle_nI, cgt_nI, cge_nI, ceq_nI, cne_nI, inr_nI, nI_clamp, nI_eq, nI_leI, nI_ltI, l2, mx])
    (by simp -implicitDefEqProofs (disch := omega) [qX5_leaves_3, kp_, bsome, bnone, gi_s, gj_s, gr_s, gv_s, ik_, jk_, il_, jl_, rl_, i2_, i2_a, i2_b, j2_, j2_a, j2_b, i2d_, i2d_a, i2d_b, j2d_, j2d_a, j2d_b, i1_, i1_a, j1_, j1_a, i2l_, i2l_a, l2i_, l2i_a, fgi_, fgi_a, fgj_, fgj_a, fgr_, fgr_a, iald_, iald_a, iald_b, zald_, zald_a, zald_b, jald_, jald_a, jald_b, rald_, rald_a, rald_b, alen_, alen_a, sald_, sald_a, ic_, ic_a, jc_, jc_a, bc_, bc_a, bc_b, bj_, bj_a, bj_b, bz_, bz_a, band_, band_a, bor_, bor_a, bnot_, bnot_a, anil_, ai_, ai_a, ai_b, aj_, aj_a, aj_b, ar_, ar_a, ar_b, kb2i_, cvi_, cvi_a, cvi_b, cvj_, cvj_a, cvj_b, cvz_, cvz_a, cvz_b, csi_, csi_a, csj_, csj_a, csz_, csz_a, snop_, sseq_, sseq_n, sseq_s, sif_, sif_a, scut_, scut_a, ssi_, ssi_a, ssj_, ssj_a, ssr_, ssr_a, sinc_, sinc_a, sret_, sret_a, sretj_, sretj_a, sretv_, spop_, spop_a, kc_scv_, scv_, scv_a, scv_b, scs_, scs_a, fpi_, fpi_a, fpi_b, fpj_, fpj_a, fpj_b, foi_, foi_a, foi_b, foj_, foj_a, foj_b, aii_, aii_a, aii_b, aii_c, aiz_, aiz_a, aiz_b, aiz_c, aij_, aij_a, aij_b, aij_c, aoi_, aoi_a, aoi_b, aoi_c, aoj_, aoj_a, aoj_b, aoj_c, scopy_, scopy_a, scopy_b, scopy_c, scopy_d, scopy_e, ssw_, ssw_a, sel_n, sel_c, mfi_, mfi_a, mfj_, mfj_a, mfz_, mfz_a, kb_mfv_, mfv_, mfv_a, cut, lset, lset2, isL, Value.category, ent, entn, if_some, if_pair, if_cons, if_int, if_long, if_ref, ite_self, gz_b, ↓icb, ↓icb2, b2i_ne, ge0, ge1, ge2, ge3, ge4, ge5, ge6, ge7, ge8, ge9, ge10, ge11, ge12, ge13, ge14, lit32, nI_add, pk_mul, clt_nI, cle_nI, cgt_nI, cge_nI, ceq_nI, cne_nI, inr_nI, nI_clamp, nI_eq, nI_leI, nI_ltI])
set_option maxRecDepth 20000 in
theorem c_leaves (hv : Vx Z nc nt np nw tm) (hP : SkP Z nc nt np nw tm P) (hk : SkC P L q m) (hok : okL L nc nt) (hK : K = min L.length 20) (hl : L.length ≤ 2000) : ∃ Q, DX5_leaves [.ref 98, .ref 31] P = some (nI (mxB (fun i => ctB (fun j => decide (i ≤ j) && eqF (seC Z nc nt np (pI L i)) (seC Z nc nt np (pI L j)) 6 0) K) K), Q) ∧ SkP Z nc nt np nw tm Q ∧ SkC Q L q m ∧ PS P Q := by
  obtain ⟨Q, l1, y1, y2, y3, y4⟩ := c_leavesA hv hP hk hok hK hl
  have l2 := c_leavesB (Q := Q) (K := K) (S := fun i j => eqF (seC Z nc nt np (pI L i)) (seC Z nc nt np (pI L j)) 6 0) (fun i j hi hj => by
    refine Bool.eq_iff_iff.mpr ?_
    rw [eqF_iff, eqF_iff]
    constructor
    · intro h c z1 z2
      rw [← y4 i hi c (by omega), ← y4 j hj c (by omega)]
      exact h c z1 z2
    · intro h c z1 z2
      rw [y4 i hi c (by omega), y4 j hj c (by omega)]
      exact h c z1 z2) (by omega)
  have h4 := hk.1
  have mn : mni (nI L.length) (nI 20) = nI K := by
    rw [hK]
    unfold mni
    by_cases z : 20 < L.length
    · rw [if_pos ((nI_ltI (by omega) (by omega)).mpr z), Nat.min_eq_right (by omega)]
    · rw [if_neg (fun w => z ((nI_ltI (by omega) (by omega)).mp w)), Nat.min_eq_left (by omega)]
  refine ⟨Q, ?_, y1, y2, y3⟩
  simp -implicitDefEqProofs (disch := omega) [DX5_leaves, EX5_leaves, kp_, bsome, bnone, gi_s, gj_s, gr_s, gv_s, ik_, jk_, il_, jl_, rl_, i2_, i2_a, i2_b, j2_, j2_a, j2_b, i2d_, i2d_a, i2d_b, j2d_, j2d_a, j2d_b, i1_, i1_a, j1_, j1_a, i2l_, i2l_a, l2i_, l2i_a, fgi_, fgi_a, fgj_, fgj_a, fgr_, fgr_a, iald_, iald_a, iald_b, zald_, zald_a, zald_b, jald_, jald_a, jald_b, rald_, rald_a, rald_b, alen_, alen_a, sald_, sald_a, ic_, ic_a, jc_, jc_a, bc_, bc_a, bc_b, bj_, bj_a, bj_b, bz_, bz_a, band_, band_a, bor_, bor_a, bnot_, bnot_a, anil_, ai_, ai_a, ai_b, aj_, aj_a, aj_b, ar_, ar_a, ar_b, kb2i_, cvi_, cvi_a, cvi_b, cvj_, cvj_a, cvj_b, cvz_, cvz_a, cvz_b, csi_, csi_a, csj_, csj_a, csz_, csz_a, snop_, sseq_, sseq_n, sseq_s, sif_, sif_a, scut_, scut_a, ssi_, ssi_a, ssj_, ssj_a, ssr_, ssr_a, sinc_, sinc_a, sret_, sret_a, sretj_, sretj_a, sretv_, spop_, spop_a, kc_scv_, scv_, scv_a, scv_b, scs_, scs_a, fpi_, fpi_a, fpi_b, fpj_, fpj_a, fpj_b, foi_, foi_a, foi_b, foj_, foj_a, foj_b, aii_, aii_a, aii_b, aii_c, aiz_, aiz_a, aiz_b, aiz_c, aij_, aij_a, aij_b, aij_c, aoi_, aoi_a, aoi_b, aoi_c, aoj_, aoj_a, aoj_b, aoj_c, scopy_, scopy_a, scopy_b, scopy_c, scopy_d, scopy_e, ssw_, ssw_a, sel_n, sel_c, mfi_, mfi_a, mfj_, mfj_a, mfz_, mfz_a, kb_mfv_, mfv_, mfv_a, cut, lset, lset2, isL, Value.category, ent, entn, if_some, if_pair, if_cons, if_int, if_long, if_ref, ite_self, gz_b, ↓icb, ↓icb2, b2i_ne, ge0, ge1, ge2, ge3, ge4, ge5, ge6, ge7, ge8, ge9, ge10, ge11, ge12, ge13, ge14, lit32, nI_add, pk_mul, clt_nI, cle_nI, cgt_nI, cge_nI, ceq_nI, cne_nI, inr_nI, nI_clamp, nI_eq, nI_leI, nI_ltI, k98, h4, mn, l1, l2]
end
