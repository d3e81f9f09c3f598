/-! ===== how many suspects belong together: the class ===== -/
def eqF (A B : Nat → Int32) : Nat → Nat → Bool
  | 0, _ => true
  | f + 1, m => decide (A m = B m) && eqF A B f (m + 1)
def eqU (A B : Nat → Int32) : Nat → Bool
  | 0 => true
  | n + 1 => eqU A B n && decide (A n = B n)
def ctB (P : Nat → Bool) : Nat → Nat
  | 0 => 0
  | n + 1 => ctB P n + (if P n = true then 1 else 0)
def mxB (f : Nat → Nat) : Nat → Nat
  | 0 => 0
  | n + 1 => max (mxB f n) (f n)
set_option maxRecDepth 20000 in
theorem eqF_iff {A B : Nat → Int32} : ∀ f m, eqF A B f m = true ↔ ∀ c, m ≤ c → c < m + f → A c = B c
  | 0, m => ⟨fun _ c h1 h2 => by omega, fun _ => rfl⟩
  | f + 1, m => by
    simp only [eqF, Bool.and_eq_true, decide_eq_true_eq]
    rw [eqF_iff f (m + 1)]
    constructor
    · intro h c h1 h2
      by_cases e : c = m
      · rw [e]; exact h.1
      · exact h.2 c (by omega) (by omega)
    · intro h
      exact ⟨h m (by omega) (by omega), fun c h1 h2 => h c (by omega) (by omega)⟩
set_option maxRecDepth 20000 in
theorem eqU_iff {A B : Nat → Int32} : ∀ n, eqU A B n = true ↔ ∀ c, c < n → A c = B c
  | 0 => ⟨fun _ c h => by omega, fun _ => rfl⟩
  | n + 1 => by
    simp only [eqU, Bool.and_eq_true, decide_eq_true_eq]
    rw [eqU_iff n]
    constructor
    · intro h c h1
      by_cases e : c = n
      · rw [e]; exact h.2
      · exact h.1 c (by omega)
    · intro h
      exact ⟨fun c h1 => h c (by omega), h n (by omega)⟩
set_option maxRecDepth 20000 in
theorem ctB_le {P : Nat → Bool} : ∀ n, ctB P n ≤ n
  | 0 => Nat.le_refl 0
  | n + 1 => by
    have := ctB_le (P := P) n
    simp only [ctB]
    split <;> omega
set_option maxRecDepth 20000 in
theorem ctB_mono {P Q : Nat → Bool} : ∀ n, (∀ j, j < n → P j = true → Q j = true) → ctB P n ≤ ctB Q n
  | 0, _ => Nat.le_refl 0
  | n + 1, h => by
    have := ctB_mono n (fun j hj => h j (by omega))
    simp only [ctB]
    by_cases z : P n = true
    · rw [if_pos z, if_pos (h n (by omega) z)]; omega
    · rw [if_neg z]; split <;> omega
set_option maxRecDepth 20000 in
theorem ctB_cg {P Q : Nat → Bool} (n : Nat) (h : ∀ j, j < n → P j = Q j) : ctB P n = ctB Q n :=
  Nat.le_antisymm (ctB_mono n (fun j hj z => by rw [← h j hj]; exact z)) (ctB_mono n (fun j hj z => by rw [h j hj]; exact z))
set_option maxRecDepth 20000 in
theorem mxB_le {f : Nat → Nat} {i : Nat} : ∀ n, i < n → f i ≤ mxB f n
  | 0, h => by omega
  | n + 1, h => by
    simp only [mxB]
    by_cases e : i = n
    · rw [e]; omega
    · have := mxB_le (f := f) n (by omega : i < n)
      omega
set_option maxRecDepth 20000 in
theorem mxB_ge {f : Nat → Nat} {b : Nat} : ∀ n, (∀ i, i < n → f i ≤ b) → mxB f n ≤ b
  | 0, _ => Nat.zero_le _
  | n + 1, h => by
    simp only [mxB]
    have := mxB_ge n (fun i hi => h i (by omega))
    have := h n (by omega)
    omega
set_option maxRecDepth 20000 in
theorem first_of {P : Nat → Bool} : ∀ n, P n = true → ∃ m, m ≤ n ∧ P m = true ∧ ∀ j, j < m → P j = false
  | n, h => by
    by_cases z : ∃ j, j < n ∧ P j = true
    · obtain ⟨j, j1, j2⟩ := z
      obtain ⟨m, m1, m2, m3⟩ := first_of j j2
      exact ⟨m, by omega, m2, m3⟩
    · refine ⟨n, Nat.le_refl _, h, fun j hj => ?_⟩
      cases e : P j with
      | false => rfl
      | true => exact absurd ⟨j, hj, e⟩ z
termination_by n => n
set_option maxRecDepth 20000 in
theorem mx_same {S : Nat → Nat → Bool} {n : Nat} (hr : ∀ i, S i i = true) (hs : ∀ i j, S i j = true → S j i = true) (ht : ∀ i j k, S i j = true → S j k = true → S i k = true) : mxB (fun i => ctB (fun j => decide (i ≤ j) && S i j) n) n = mxB (fun i => ctB (S i) n) n := by
  refine Nat.le_antisymm (mxB_ge n (fun i hi => ?_)) (mxB_ge n (fun i hi => ?_))
  · refine Nat.le_trans ?_ (mxB_le (f := fun i => ctB (S i) n) n hi)
    exact ctB_mono n (fun j hj z => by simp only [Bool.and_eq_true] at z; exact z.2)
  · obtain ⟨m, m1, m2, m3⟩ := first_of (P := S i) i (hr i)
    refine Nat.le_trans ?_ (mxB_le (f := fun i => ctB (fun j => decide (i ≤ j) && S i j) n) n (show m < n by omega))
    refine ctB_mono n (fun j hj z => ?_)
    have q : m ≤ j := by
      by_cases w : j < m
      · rw [m3 j w] at z; cases z
      · omega
    simp only [Bool.and_eq_true, decide_eq_true_eq]
    exact ⟨q, ht m i j (hs i m m2) z⟩
noncomputable def sgE (Z : Nat → Int32) (nc nt np : Nat) (p : Nat × Nat) : Option Nat := fR (kok (kyN (lkR Z p.1 p.2) nc nt np 9 0)) 27
noncomputable def sgV (Z : Nat → Int32) (nc nt np : Nat) (p : Nat × Nat) (c : Nat) : Nat := match sgE Z nc nt np p with
  | none => 0
  | some r => rdN (kyN (lkR Z p.1 p.2) nc nt np 9 0) r c
def seG (g : Bool) (V : Nat → Int32) (D : Nat → Bool) (c : Nat) : Int32 := if c = 5 then (if g = true then nI 0 else nI 1) else if D c = true then (if g = true then V c else -(nI 3)) else -(nI 1)
def sgG (g : Bool) (V : Nat → Int32) (D : Nat → Bool) (i : Nat) : Int32 := if i = 0 then (if g = true then nI 1 else nI 0) else if D (i - 1) = true then (if g = true then V (i - 1) else nI 0) else nI 0
set_option maxRecDepth 20000 in
theorem gg_same {g1 g2 : Bool} {V1 V2 : Nat → Int32} {D : Nat → Bool} : (∀ c, 0 ≤ c → c < 0 + 6 → seG g1 V1 D c = seG g2 V2 D c) ↔ (∀ i, i < 6 → sgG g1 V1 D i = sgG g2 V2 D i) := by
  have a5 : ∀ g V, seG g V D 5 = if g = true then nI 0 else nI 1 := fun g V => if_pos rfl
  have b0 : ∀ g V, sgG g V D 0 = if g = true then nI 1 else nI 0 := fun g V => if_pos rfl
  have ac : ∀ g V c, c ≠ 5 → seG g V D c = if D c = true then (if g = true then V c else -(nI 3)) else -(nI 1) := fun g V c h => if_neg h
  have bc : ∀ g V c, sgG g V D (c + 1) = if D c = true then (if g = true then V c else nI 0) else nI 0 := fun g V c => by
    unfold sgG
    rw [if_neg (Nat.succ_ne_zero c), Nat.add_sub_cancel]
  constructor
  · intro h i hi
    have h5 := h 5 (by omega) (by omega)
    rw [a5, a5] at h5
    have gg : g1 = g2 := by
      cases g1 <;> cases g2
      · rfl
      · exact absurd h5 (by decide)
      · exact absurd h5 (by decide)
      · rfl
    subst gg
    cases i with
    | zero => rw [b0, b0]
    | succ c =>
      have hc := h c (by omega) (by omega)
      rw [ac _ _ c (by omega), ac _ _ c (by omega)] at hc
      rw [bc, bc]
      cases e : D c with
      | false => rfl
      | true =>
        rw [e] at hc
        cases g1 with
        | false => rfl
        | true => exact hc
  · intro h c _ hc6
    have h0 := h 0 (by omega)
    rw [b0, b0] at h0
    have gg : g1 = g2 := by
      cases g1 <;> cases g2
      · rfl
      · exact absurd h0 (by decide)
      · exact absurd h0 (by decide)
      · rfl
    subst gg
    by_cases c5 : c = 5
    · rw [c5, a5, a5]
    · have hc := h (c + 1) (by omega)
      rw [bc, bc] at hc
      rw [ac _ _ c c5, ac _ _ c c5]
      cases e : D c with
      | false => rfl
      | true =>
        rw [e] at hc
        cases g1 with
        | false => rfl
        | true => exact hc
noncomputable def seC (Z : Nat → Int32) (nc nt np : Nat) (p : Nat × Nat) : Nat → Int32 := seG (sgE Z nc nt np p).isSome (fun c => nI (sgV Z nc nt np p c)) (fun c => decide (c < nc ∧ ¬ Z (8 + 4 * c + 3) = nI 0))
noncomputable def sgR (Z : Nat → Int32) (nc nt np : Nat) (p : Nat × Nat) : Nat → Int32 := sgG (sgE Z nc nt np p).isSome (fun c => nI (sgV Z nc nt np p c)) (fun c => decide (c < nc ∧ ¬ Z (8 + 4 * c + 3) = nI 0))
set_option maxRecDepth 20000 in
theorem sg_same {Z : Nat → Int32} {nc nt np : Nat} {p q : Nat × Nat} : eqF (seC Z nc nt np p) (seC Z nc nt np q) 6 0 = eqU (sgR Z nc nt np p) (sgR Z nc nt np q) 6 := by
  refine Bool.eq_iff_iff.mpr ?_
  rw [eqF_iff, eqU_iff]
  exact gg_same
set_option maxRecDepth 20000 in
theorem seC_n {Z : Nat → Int32} {nc nt np c : Nat} {p : Nat × Nat} (h5 : c ≠ 5) (h : ¬ (c < nc ∧ ¬ Z (8 + 4 * c + 3) = nI 0)) : seC Z nc nt np p c = -(nI 1) := by
  unfold seC seG
  rw [if_neg h5, if_neg (fun w => h (of_decide_eq_true w))]
set_option maxRecDepth 20000 in
theorem seC_y {Z : Nat → Int32} {nc nt np c : Nat} {p : Nat × Nat} (h5 : c ≠ 5) (h : c < nc ∧ ¬ Z (8 + 4 * c + 3) = nI 0) {r : Nat} (he : sgE Z nc nt np p = some r) : seC Z nc nt np p c = nI (sgV Z nc nt np p c) := by
  unfold seC seG
  rw [if_neg h5, if_pos (decide_eq_true h), he]
  rfl
set_option maxRecDepth 20000 in
theorem seC_h {Z : Nat → Int32} {nc nt np c : Nat} {p : Nat × Nat} (h5 : c ≠ 5) (h : c < nc ∧ ¬ Z (8 + 4 * c + 3) = nI 0) (he : sgE Z nc nt np p = none) : seC Z nc nt np p c = -(nI 3) := by
  unfold seC seG
  rw [if_neg h5, if_pos (decide_eq_true h), he]
  rfl
set_option maxRecDepth 20000 in
theorem seC_5y {Z : Nat → Int32} {nc nt np : Nat} {p : Nat × Nat} {r : Nat} (he : sgE Z nc nt np p = some r) : seC Z nc nt np p 5 = nI 0 := by
  unfold seC seG
  rw [if_pos rfl, he]
  rfl
set_option maxRecDepth 20000 in
theorem seC_5h {Z : Nat → Int32} {nc nt np : Nat} {p : Nat × Nat} (he : sgE Z nc nt np p = none) : seC Z nc nt np p 5 = nI 1 := by
  unfold seC seG
  rw [if_pos rfl, he]
  rfl
section
variable {M P Q N : Me} {X Y Z A B : Nat → Int32} {k : Nat → Nat} {L : List (Nat × Nat)} {p : Nat × Nat} {nc nt np nw tm o u j s r q m n i a b K : Nat}
set_option maxRecDepth 20000 in
theorem c_sigL (ka : kd a = 8) (la : ln a = 6) (kb : kd b = 8) (lb : ln b = 6) : ∀ f m, m + f = 6 → ∃ l r, swh qX5_same_1 wX5_same_1 [.ref a, .ref b, .int (nI m)] P = some (r, l, P) ∧ l.length = 3 ∧ ((eqF (P.1 a) (P.1 b) f m = true ∧ r = none) ∨ (eqF (P.1 a) (P.1 b) f m = false ∧ r = some (.int (nI 0))))
  | 0, m, hm => by
    refine ⟨[.ref a, .ref b, .int (nI m)], none, ?_, rfl, Or.inl ⟨rfl, rfl⟩⟩
    have z : ¬ m ≤ 5 := by omega
    refine swh_f ?_
    simp -implicitDefEqProofs (disch := omega) [qX5_same_1, kp_, bsome, bnone, gi_s, gj_s, gr_s, gv_s, ik_, jk_, il_, jl_, rl_, i2_, i2_a, i2_b, j2_, j2_a, j2_b, i2d_, i2d_a, i2d_b, j2d_, j2d_a, j2d_b, i1_, i1_a, j1_, j1_a, i2l_, i2l_a, l2i_, l2i_a, fgi_, fgi_a, fgj_, fgj_a, fgr_, fgr_a, iald_, iald_a, iald_b, zald_, zald_a, zald_b, jald_, jald_a, jald_b, rald_, rald_a, rald_b, alen_, alen_a, sald_, sald_a, ic_, ic_a, jc_, jc_a, bc_, bc_a, bc_b, bj_, bj_a, bj_b, bz_, bz_a, band_, band_a, bor_, bor_a, bnot_, bnot_a, anil_, ai_, ai_a, ai_b, aj_, aj_a, aj_b, ar_, ar_a, ar_b, kb2i_, cvi_, cvi_a, cvi_b, cvj_, cvj_a, cvj_b, cvz_, cvz_a, cvz_b, csi_, csi_a, csj_, csj_a, csz_, csz_a, snop_, sseq_, sseq_n, sseq_s, sif_, sif_a, scut_, scut_a, ssi_, ssi_a, ssj_, ssj_a, ssr_, ssr_a, sinc_, sinc_a, sret_, sret_a, sretj_, sretj_a, sretv_, spop_, spop_a, kc_scv_, scv_, scv_a, scv_b, scs_, scs_a, fpi_, fpi_a, fpi_b, fpj_, fpj_a, fpj_b, foi_, foi_a, foi_b, foj_, foj_a, foj_b, aii_, aii_a, aii_b, aii_c, aiz_, aiz_a, aiz_b, aiz_c, aij_, aij_a, aij_b, aij_c, aoi_, aoi_a, aoi_b, aoi_c, aoj_, aoj_a, aoj_b, aoj_c, scopy_, scopy_a, scopy_b, scopy_c, scopy_d, scopy_e, ssw_, ssw_a, sel_n, sel_c, mfi_, mfi_a, mfj_, mfj_a, mfz_, mfz_a, kb_mfv_, mfv_, mfv_a, cut, lset, lset2, isL, Value.category, ent, entn, if_some, if_pair, if_cons, if_int, if_long, if_ref, ite_self, gz_b, ↓icb, ↓icb2, b2i_ne, ge0, ge1, ge2, ge3, ge4, ge5, ge6, ge7, ge8, ge9, ge10, ge11, ge12, ge13, ge14, lit32, nI_add, pk_mul, clt_nI, cle_nI, cgt_nI, cge_nI, ceq_nI, cne_nI, inr_nI, nI_clamp, nI_eq, nI_leI, nI_ltI, z]
  | f + 1, m, hm => by
    have z : m ≤ 5 := by omega
    have ct : qX5_same_1 [.ref a, .ref b, .int (nI m)] P = some (true, P) := by simp -implicitDefEqProofs (disch := omega) [qX5_same_1, kp_, bsome, bnone, gi_s, gj_s, gr_s, gv_s, ik_, jk_, il_, jl_, rl_, i2_, i2_a, i2_b, j2_, j2_a, j2_b, i2d_, i2d_a, i2d_b, j2d_, j2d_a, j2d_b, i1_, i1_a, j1_, j1_a, i2l_, i2l_a, l2i_, l2i_a, fgi_, fgi_a, fgj_, fgj_a, fgr_, fgr_a, iald_, iald_a, iald_b, zald_, zald_a, zald_b, jald_, jald_a, jald_b, rald_, rald_a, rald_b, alen_, alen_a, sald_, sald_a, ic_, ic_a, jc_, jc_a, bc_, bc_a, bc_b, bj_, bj_a, bj_b, bz_, bz_a, band_, band_a, bor_, bor_a, bnot_, bnot_a, anil_, ai_, ai_a, ai_b, aj_, aj_a, aj_b, ar_, ar_a, ar_b, kb2i_, cvi_, cvi_a, cvi_b, cvj_, cvj_a, cvj_b, cvz_, cvz_a, cvz_b, csi_, csi_a, csj_, csj_a, csz_, csz_a, snop_, sseq_, sseq_n, sseq_s, sif_, sif_a, scut_, scut_a, ssi_, ssi_a, ssj_, ssj_a, ssr_, ssr_a, sinc_, sinc_a, sret_, sret_a, sretj_, sretj_a, sretv_, spop_, spop_a, kc_scv_, scv_, scv_a, scv_b, scs_, scs_a, fpi_, fpi_a, fpi_b, fpj_, fpj_a, fpj_b, foi_, foi_a, foi_b, foj_, foj_a, foj_b, aii_, aii_a, aii_b, aii_c, aiz_, aiz_a, aiz_b, aiz_c, aij_, aij_a, aij_b, aij_c, aoi_, aoi_a, aoi_b, aoi_c, aoj_, aoj_a, aoj_b, aoj_c, scopy_, scopy_a, scopy_b, scopy_c, scopy_d, scopy_e, ssw_, ssw_a, sel_n, sel_c, mfi_, mfi_a, mfj_, mfj_a, mfz_, mfz_a, kb_mfv_, mfv_, mfv_a, cut, lset, lset2, isL, Value.category, ent, entn, if_some, if_pair, if_cons, if_int, if_long, if_ref, ite_self, gz_b, ↓icb, ↓icb2, b2i_ne, ge0, ge1, ge2, ge3, ge4, ge5, ge6, ge7, ge8, ge9, ge10, ge11, ge12, ge13, ge14, lit32, nI_add, pk_mul, clt_nI, cle_nI, cgt_nI, cge_nI, ceq_nI, cne_nI, inr_nI, nI_clamp, nI_eq, nI_leI, nI_ltI, z]
    by_cases e : P.1 a m = P.1 b m
    · obtain ⟨l, r, h1, h2, h3⟩ := c_sigL ka la kb lb f (m + 1) (by omega)
      have ee : eqF (P.1 a) (P.1 b) (f + 1) m = eqF (P.1 a) (P.1 b) f (m + 1) := by simp only [eqF]; rw [decide_eq_true e, Bool.true_and]
      rw [ee]
      refine ⟨l, r, (swh_t ct ?_).trans h1, h2, h3⟩
      have ce : cne (P.1 a m) (P.1 b m) = false := by unfold cne; exact decide_eq_false (fun w => w e)
      simp -implicitDefEqProofs (disch := omega) [wX5_same_1, kp_, bsome, bnone, gi_s, gj_s, gr_s, gv_s, ik_, jk_, il_, jl_, rl_, i2_, i2_a, i2_b, j2_, j2_a, j2_b, i2d_, i2d_a, i2d_b, j2d_, j2d_a, j2d_b, i1_, i1_a, j1_, j1_a, i2l_, i2l_a, l2i_, l2i_a, fgi_, fgi_a, fgj_, fgj_a, fgr_, fgr_a, iald_, iald_a, iald_b, zald_, zald_a, zald_b, jald_, jald_a, jald_b, rald_, rald_a, rald_b, alen_, alen_a, sald_, sald_a, ic_, ic_a, jc_, jc_a, bc_, bc_a, bc_b, bj_, bj_a, bj_b, bz_, bz_a, band_, band_a, bor_, bor_a, bnot_, bnot_a, anil_, ai_, ai_a, ai_b, aj_, aj_a, aj_b, ar_, ar_a, ar_b, kb2i_, cvi_, cvi_a, cvi_b, cvj_, cvj_a, cvj_b, cvz_, cvz_a, cvz_b, csi_, csi_a, csj_, csj_a, csz_, csz_a, snop_, sseq_, sseq_n, sseq_s, sif_, sif_a, scut_, scut_a, ssi_, ssi_a, ssj_, ssj_a, ssr_, ssr_a, sinc_, sinc_a, sret_, sret_a, sretj_, sretj_a, sretv_, spop_, spop_a, kc_scv_, scv_, scv_a, scv_b, scs_, scs_a, fpi_, fpi_a, fpi_b, fpj_, fpj_a, fpj_b, foi_, foi_a, foi_b, foj_, foj_a, foj_b, aii_, aii_a, aii_b, aii_c, aiz_, aiz_a, aiz_b, aiz_c, aij_, aij_a, aij_b, aij_c, aoi_, aoi_a, aoi_b, aoi_c, aoj_, aoj_a, aoj_b, aoj_c, scopy_, scopy_a, scopy_b, scopy_c, scopy_d, scopy_e, ssw_, ssw_a, sel_n, sel_c, mfi_, mfi_a, mfj_, mfj_a, mfz_, mfz_a, kb_mfv_, mfv_, mfv_a, cut, lset, lset2, isL, Value.category, ent, entn, if_some, if_pair, if_cons, if_int, if_long, if_ref, ite_self, gz_b, ↓icb, ↓icb2, b2i_ne, ge0, ge1, ge2, ge3, ge4, ge5, ge6, ge7, ge8, ge9, ge10, ge11, ge12, ge13, ge14, lit32, nI_add, pk_mul, clt_nI, cle_nI, cgt_nI, cge_nI, ceq_nI, cne_nI, inr_nI, nI_clamp, nI_eq, nI_leI, nI_ltI, ka, la, kb, lb, ce]
    · have ee : eqF (P.1 a) (P.1 b) (f + 1) m = false := by simp only [eqF]; rw [decide_eq_false e, Bool.false_and]
      refine ⟨[.ref a, .ref b, .int (nI m)], some (.int (nI 0)), ?_, rfl, Or.inr ⟨ee, rfl⟩⟩
      refine swh_r ct ?_
      have ce : cne (P.1 a m) (P.1 b m) = true := by unfold cne; exact decide_eq_true e
      simp -implicitDefEqProofs (disch := omega) [wX5_same_1, kp_, bsome, bnone, gi_s, gj_s, gr_s, gv_s, ik_, jk_, il_, jl_, rl_, i2_, i2_a, i2_b, j2_, j2_a, j2_b, i2d_, i2d_a, i2d_b, j2d_, j2d_a, j2d_b, i1_, i1_a, j1_, j1_a, i2l_, i2l_a, l2i_, l2i_a, fgi_, fgi_a, fgj_, fgj_a, fgr_, fgr_a, iald_, iald_a, iald_b, zald_, zald_a, zald_b, jald_, jald_a, jald_b, rald_, rald_a, rald_b, alen_, alen_a, sald_, sald_a, ic_, ic_a, jc_, jc_a, bc_, bc_a, bc_b, bj_, bj_a, bj_b, bz_, bz_a, band_, band_a, bor_, bor_a, bnot_, bnot_a, anil_, ai_, ai_a, ai_b, aj_, aj_a, aj_b, ar_, ar_a, ar_b, kb2i_, cvi_, cvi_a, cvi_b, cvj_, cvj_a, cvj_b, cvz_, cvz_a, cvz_b, csi_, csi_a, csj_, csj_a, csz_, csz_a, snop_, sseq_, sseq_n, sseq_s, sif_, sif_a, scut_, scut_a, ssi_, ssi_a, ssj_, ssj_a, ssr_, ssr_a, sinc_, sinc_a, sret_, sret_a, sretj_, sretj_a, sretv_, spop_, spop_a, kc_scv_, scv_, scv_a, scv_b, scs_, scs_a, fpi_, fpi_a, fpi_b, fpj_, fpj_a, fpj_b, foi_, foi_a, foi_b, foj_, foj_a, foj_b, aii_, aii_a, aii_b, aii_c, aiz_, aiz_a, aiz_b, aiz_c, aij_, aij_a, aij_b, aij_c, aoi_, aoi_a, aoi_b, aoi_c, aoj_, aoj_a, aoj_b, aoj_c, scopy_, scopy_a, scopy_b, scopy_c, scopy_d, scopy_e, ssw_, ssw_a, sel_n, sel_c, mfi_, mfi_a, mfj_, mfj_a, mfz_, mfz_a, kb_mfv_, mfv_, mfv_a, cut, lset, lset2, isL, Value.category, ent, entn, if_some, if_pair, if_cons, if_int, if_long, if_ref, ite_self, gz_b, ↓icb, ↓icb2, b2i_ne, ge0, ge1, ge2, ge3, ge4, ge5, ge6, ge7, ge8, ge9, ge10, ge11, ge12, ge13, ge14, lit32, nI_add, pk_mul, clt_nI, cle_nI, cgt_nI, cge_nI, ceq_nI, cne_nI, inr_nI, nI_clamp, nI_eq, nI_leI, nI_ltI, ka, la, kb, lb, ce]
set_option maxRecDepth 20000 in
theorem c_sig (ka : kd a = 8) (la : ln a = 6) (kb : kd b = 8) (lb : ln b = 6) : DX5_same [.ref a, .ref b] P = some (eqF (P.1 a) (P.1 b) 6 0, P) := by
  obtain ⟨l, r, h1, h2, ⟨e, rfl⟩ | ⟨e, rfl⟩⟩ := c_sigL (P := P) ka la kb lb 6 0 (by decide)
  · rw [e]
    match l, h2 with
    | [l0, l1, l2], _ =>
      have gz1 : gz (some (.int (nI 1))) = some true := gz_b true
      simp -implicitDefEqProofs (disch := omega) [DX5_same, EX5_same, kp_, bsome, bnone, gi_s, gj_s, gr_s, gv_s, ik_, jk_, il_, jl_, rl_, i2_, i2_a, i2_b, j2_, j2_a, j2_b, i2d_, i2d_a, i2d_b, j2d_, j2d_a, j2d_b, i1_, i1_a, j1_, j1_a, i2l_, i2l_a, l2i_, l2i_a, fgi_, fgi_a, fgj_, fgj_a, fgr_, fgr_a, iald_, iald_a, iald_b, zald_, zald_a, zald_b, jald_, jald_a, jald_b, rald_, rald_a, rald_b, alen_, alen_a, sald_, sald_a, ic_, ic_a, jc_, jc_a, bc_, bc_a, bc_b, bj_, bj_a, bj_b, bz_, bz_a, band_, band_a, bor_, bor_a, bnot_, bnot_a, anil_, ai_, ai_a, ai_b, aj_, aj_a, aj_b, ar_, ar_a, ar_b, kb2i_, cvi_, cvi_a, cvi_b, cvj_, cvj_a, cvj_b, cvz_, cvz_a, cvz_b, csi_, csi_a, csj_, csj_a, csz_, csz_a, snop_, sseq_, sseq_n, sseq_s, sif_, sif_a, scut_, scut_a, ssi_, ssi_a, ssj_, ssj_a, ssr_, ssr_a, sinc_, sinc_a, sret_, sret_a, sretj_, sretj_a, sretv_, spop_, spop_a, kc_scv_, scv_, scv_a, scv_b, scs_, scs_a, fpi_, fpi_a, fpi_b, fpj_, fpj_a, fpj_b, foi_, foi_a, foi_b, foj_, foj_a, foj_b, aii_, aii_a, aii_b, aii_c, aiz_, aiz_a, aiz_b, aiz_c, aij_, aij_a, aij_b, aij_c, aoi_, aoi_a, aoi_b, aoi_c, aoj_, aoj_a, aoj_b, aoj_c, scopy_, scopy_a, scopy_b, scopy_c, scopy_d, scopy_e, ssw_, ssw_a, sel_n, sel_c, mfi_, mfi_a, mfj_, mfj_a, mfz_, mfz_a, kb_mfv_, mfv_, mfv_a, cut, lset, lset2, isL, Value.category, ent, entn, if_some, if_pair, if_cons, if_int, if_long, if_ref, ite_self, gz_b, ↓icb, ↓icb2, b2i_ne, ge0, ge1, ge2, ge3, ge4, ge5, ge6, ge7, ge8, ge9, ge10, ge11, ge12, ge13, ge14, lit32, nI_add, pk_mul, clt_nI, cle_nI, cgt_nI, cge_nI, ceq_nI, cne_nI, inr_nI, nI_clamp, nI_eq, nI_leI, nI_ltI, h1, gz1]
  · rw [e]
    simp -implicitDefEqProofs (disch := omega) [DX5_same, EX5_same, kp_, bsome, bnone, gi_s, gj_s, gr_s, gv_s, ik_, jk_, il_, jl_, rl_, i2_, i2_a, i2_b, j2_, j2_a, j2_b, i2d_, i2d_a, i2d_b, j2d_, j2d_a, j2d_b, i1_, i1_a, j1_, j1_a, i2l_, i2l_a, l2i_, l2i_a, fgi_, fgi_a, fgj_, fgj_a, fgr_, fgr_a, iald_, iald_a, iald_b, zald_, zald_a, zald_b, jald_, jald_a, jald_b, rald_, rald_a, rald_b, alen_, alen_a, sald_, sald_a, ic_, ic_a, jc_, jc_a, bc_, bc_a, bc_b, bj_, bj_a, bj_b, bz_, bz_a, band_, band_a, bor_, bor_a, bnot_, bnot_a, anil_, ai_, ai_a, ai_b, aj_, aj_a, aj_b, ar_, ar_a, ar_b, kb2i_, cvi_, cvi_a, cvi_b, cvj_, cvj_a, cvj_b, cvz_, cvz_a, cvz_b, csi_, csi_a, csj_, csj_a, csz_, csz_a, snop_, sseq_, sseq_n, sseq_s, sif_, sif_a, scut_, scut_a, ssi_, ssi_a, ssj_, ssj_a, ssr_, ssr_a, sinc_, sinc_a, sret_, sret_a, sretj_, sretj_a, sretv_, spop_, spop_a, kc_scv_, scv_, scv_a, scv_b, scs_, scs_a, fpi_, fpi_a, fpi_b, fpj_, fpj_a, fpj_b, foi_, foi_a, foi_b, foj_, foj_a, foj_b, aii_, aii_a, aii_b, aii_c, aiz_, aiz_a, aiz_b, aiz_c, aij_, aij_a, aij_b, aij_c, aoi_, aoi_a, aoi_b, aoi_c, aoj_, aoj_a, aoj_b, aoj_c, scopy_, scopy_a, scopy_b, scopy_c, scopy_d, scopy_e, ssw_, ssw_a, sel_n, sel_c, mfi_, mfi_a, mfj_, mfj_a, mfz_, mfz_a, kb_mfv_, mfv_, mfv_a, cut, lset, lset2, isL, Value.category, ent, entn, if_some, if_pair, if_cons, if_int, if_long, if_ref, ite_self, gz_b, ↓icb, ↓icb2, b2i_ne, ge0, ge1, ge2, ge3, ge4, ge5, ge6, ge7, ge8, ge9, ge10, ge11, ge12, ge13, ge14, lit32, nI_add, pk_mul, clt_nI, cle_nI, cgt_nI, cge_nI, ceq_nI, cne_nI, inr_nI, nI_clamp, nI_eq, nI_leI, nI_ltI, h1, gz_0]
set_option maxRecDepth 20000 in
theorem c_look (hL : Lr P 31 (lkR Z p.1 p.2) nc nt np nw tm) (hc5 : nc ≤ 5) (hB : BAt P (kyN (lkR Z p.1 p.2) nc nt np 9 0)) (hi : i < 20) : ∃ Q, DX5_look [.ref 98, .ref 31, .ref (102 + i)] P = some Q ∧ (∀ a, a ≠ 102 + i → Q.1 a = P.1 a) ∧ Q.2 = P.2 ∧ ∀ c, c < 6 → Q.1 (102 + i) c = seC Z nc nt np p c := by
  have ki := k102_ i hi
  have li := l102_ i hi
  have k0' : kyN (lkR Z p.1 p.2) nc nt np 9 0 0 = nc := ky_0
  obtain ⟨k, ek⟩ : ∃ k, k = kyN (lkR Z p.1 p.2) nc nt np 9 0 := ⟨_, rfl⟩
  rw [← ek] at hB k0'
  have eE : sgE Z nc nt np p = fR (kok k) 27 := by unfold sgE; rw [ek]
  have fr : ∀ B : Me, (∀ a, a ≠ 102 + i → B.1 a = P.1 a) → B.2 = P.2 → BAt B k := fun B h1 h2 => hB.frame (fun a _ z1 z2 => h1 a (by omega)) (fun _ _ _ => by rw [h2])
  have n0 := hL.2.1.1
  have key : ∀ c, c < nc → (P.1 (31 + 2 + c) 3 = -(nI 1) ↔ Z (8 + 4 * c + 3) = nI 0) := fun c hc => by
    have e := hL.2.2.2.1 c hc
    rw [← lkR_sm (X := Z) (8 + 4 * c + 3) (by omega) (by omega)] at e
    constructor
    · intro q
      rw [← e, q]
      decide
    · intro q
      rw [q] at e
      have : P.1 (31 + 2 + c) 3 + nI 1 - nI 1 = nI 0 - nI 1 := by rw [e]
      rw [Int32.add_sub_cancel] at this
      rw [this]
      decide
  obtain ⟨A, l1, y1, y2, y3⟩ := swh_inv (c := qX5_look_1) (b := wX5_look_1) (fun c => [.ref 98, .ref 31, .ref (102 + i), .int (nI c), .null]) (fun c B => (∀ a, a ≠ 102 + i → B.1 a = P.1 a) ∧ B.2 = P.2 ∧ ∀ q, q < c → B.1 (102 + i) q = seC Z nc nt np p q) 5
    (fun c hc B hB => by simp -implicitDefEqProofs (disch := omega) [qX5_look_1, kp_, bsome, bnone, gi_s, gj_s, gr_s, gv_s, ik_, jk_, il_, jl_, rl_, i2_, i2_a, i2_b, j2_, j2_a, j2_b, i2d_, i2d_a, i2d_b, j2d_, j2d_a, j2d_b, i1_, i1_a, j1_, j1_a, i2l_, i2l_a, l2i_, l2i_a, fgi_, fgi_a, fgj_, fgj_a, fgr_, fgr_a, iald_, iald_a, iald_b, zald_, zald_a, zald_b, jald_, jald_a, jald_b, rald_, rald_a, rald_b, alen_, alen_a, sald_, sald_a, ic_, ic_a, jc_, jc_a, bc_, bc_a, bc_b, bj_, bj_a, bj_b, bz_, bz_a, band_, band_a, bor_, bor_a, bnot_, bnot_a, anil_, ai_, ai_a, ai_b, aj_, aj_a, aj_b, ar_, ar_a, ar_b, kb2i_, cvi_, cvi_a, cvi_b, cvj_, cvj_a, cvj_b, cvz_, cvz_a, cvz_b, csi_, csi_a, csj_, csj_a, csz_, csz_a, snop_, sseq_, sseq_n, sseq_s, sif_, sif_a, scut_, scut_a, ssi_, ssi_a, ssj_, ssj_a, ssr_, ssr_a, sinc_, sinc_a, sret_, sret_a, sretj_, sretj_a, sretv_, spop_, spop_a, kc_scv_, scv_, scv_a, scv_b, scs_, scs_a, fpi_, fpi_a, fpi_b, fpj_, fpj_a, fpj_b, foi_, foi_a, foi_b, foj_, foj_a, foj_b, aii_, aii_a, aii_b, aii_c, aiz_, aiz_a, aiz_b, aiz_c, aij_, aij_a, aij_b, aij_c, aoi_, aoi_a, aoi_b, aoi_c, aoj_, aoj_a, aoj_b, aoj_c, scopy_, scopy_a, scopy_b, scopy_c, scopy_d, scopy_e, ssw_, ssw_a, sel_n, sel_c, mfi_, mfi_a, mfj_, mfj_a, mfz_, mfz_a, kb_mfv_, mfv_, mfv_a, cut, lset, lset2, isL, Value.category, ent, entn, if_some, if_pair, if_cons, if_int, if_long, if_ref, ite_self, gz_b, ↓icb, ↓icb2, b2i_ne, ge0, ge1, ge2, ge3, ge4, ge5, ge6, ge7, ge8, ge9, ge10, ge11, ge12, ge13, ge14, lit32, nI_add, pk_mul, clt_nI, cle_nI, cgt_nI, cge_nI, ceq_nI, cne_nI, inr_nI, nI_clamp, nI_eq, nI_leI, nI_ltI, hc])
    (fun c hc B hB => by
      obtain ⟨y1, y2, y3⟩ := hB
      have bB := fr B y1 y2
      have b0 : B.1 31 0 = nI nc := by rw [y1 31 (by omega)]; exact n0
      refine ⟨wi B (102 + i) c (seC Z nc nt np p c), ?_, fun a ha => by rw [wi_ne ha]; exact y1 a ha, y2, fun q hq => ?_⟩
      · by_cases zc : c < nc
        · have b3 : B.1 (31 + 2 + c) 3 = P.1 (31 + 2 + c) 3 := by rw [y1 _ (by omega)]
          have kT := a_kc m31_ c hc
          have lT := a_lc m31_ c hc
          by_cases zn : Z (8 + 4 * c + 3) = nI 0
          · rw [(key c zc).mpr zn] at b3
            have cn : cne (-(nI 1)) (-(nI 1)) = false := by decide
            rw [seC_n (by omega) (fun w => w.2 zn)]
            simp -implicitDefEqProofs (disch := omega) [wX5_look_1, kp_, bsome, bnone, gi_s, gj_s, gr_s, gv_s, ik_, jk_, il_, jl_, rl_, i2_, i2_a, i2_b, j2_, j2_a, j2_b, i2d_, i2d_a, i2d_b, j2d_, j2d_a, j2d_b, i1_, i1_a, j1_, j1_a, i2l_, i2l_a, l2i_, l2i_a, fgi_, fgi_a, fgj_, fgj_a, fgr_, fgr_a, iald_, iald_a, iald_b, zald_, zald_a, zald_b, jald_, jald_a, jald_b, rald_, rald_a, rald_b, alen_, alen_a, sald_, sald_a, ic_, ic_a, jc_, jc_a, bc_, bc_a, bc_b, bj_, bj_a, bj_b, bz_, bz_a, band_, band_a, bor_, bor_a, bnot_, bnot_a, anil_, ai_, ai_a, ai_b, aj_, aj_a, aj_b, ar_, ar_a, ar_b, kb2i_, cvi_, cvi_a, cvi_b, cvj_, cvj_a, cvj_b, cvz_, cvz_a, cvz_b, csi_, csi_a, csj_, csj_a, csz_, csz_a, snop_, sseq_, sseq_n, sseq_s, sif_, sif_a, scut_, scut_a, ssi_, ssi_a, ssj_, ssj_a, ssr_, ssr_a, sinc_, sinc_a, sret_, sret_a, sretj_, sretj_a, sretv_, spop_, spop_a, kc_scv_, scv_, scv_a, scv_b, scs_, scs_a, fpi_, fpi_a, fpi_b, fpj_, fpj_a, fpj_b, foi_, foi_a, foi_b, foj_, foj_a, foj_b, aii_, aii_a, aii_b, aii_c, aiz_, aiz_a, aiz_b, aiz_c, aij_, aij_a, aij_b, aij_c, aoi_, aoi_a, aoi_b, aoi_c, aoj_, aoj_a, aoj_b, aoj_c, scopy_, scopy_a, scopy_b, scopy_c, scopy_d, scopy_e, ssw_, ssw_a, sel_n, sel_c, mfi_, mfi_a, mfj_, mfj_a, mfz_, mfz_a, kb_mfv_, mfv_, mfv_a, cut, lset, lset2, isL, Value.category, ent, entn, if_some, if_pair, if_cons, if_int, if_long, if_ref, ite_self, gz_b, ↓icb, ↓icb2, b2i_ne, ge0, ge1, ge2, ge3, ge4, ge5, ge6, ge7, ge8, ge9, ge10, ge11, ge12, ge13, ge14, lit32, nI_add, pk_mul, clt_nI, cle_nI, cgt_nI, cge_nI, ceq_nI, cne_nI, inr_nI, nI_clamp, nI_eq, nI_leI, nI_ltI, k31_, b0, zc, a_9 m31_, a_k1 m31_, a_l1 m31_, a_rc m31_, kT, lT, b3, cn, ki, li]
          · have cn : cne (P.1 (31 + 2 + c) 3) (-(nI 1)) = true := by
              unfold cne
              exact decide_eq_true (fun w => zn ((key c zc).mp w))
            cases ef : fR (kok k) 27 with
            | none =>
              have ga := c_gauge1 (c := c) bB ef
              rw [seC_h (by omega) ⟨zc, zn⟩ (eE.trans ef)]
              simp -implicitDefEqProofs (disch := omega) [wX5_look_1, kp_, bsome, bnone, gi_s, gj_s, gr_s, gv_s, ik_, jk_, il_, jl_, rl_, i2_, i2_a, i2_b, j2_, j2_a, j2_b, i2d_, i2d_a, i2d_b, j2d_, j2d_a, j2d_b, i1_, i1_a, j1_, j1_a, i2l_, i2l_a, l2i_, l2i_a, fgi_, fgi_a, fgj_, fgj_a, fgr_, fgr_a, iald_, iald_a, iald_b, zald_, zald_a, zald_b, jald_, jald_a, jald_b, rald_, rald_a, rald_b, alen_, alen_a, sald_, sald_a, ic_, ic_a, jc_, jc_a, bc_, bc_a, bc_b, bj_, bj_a, bj_b, bz_, bz_a, band_, band_a, bor_, bor_a, bnot_, bnot_a, anil_, ai_, ai_a, ai_b, aj_, aj_a, aj_b, ar_, ar_a, ar_b, kb2i_, cvi_, cvi_a, cvi_b, cvj_, cvj_a, cvj_b, cvz_, cvz_a, cvz_b, csi_, csi_a, csj_, csj_a, csz_, csz_a, snop_, sseq_, sseq_n, sseq_s, sif_, sif_a, scut_, scut_a, ssi_, ssi_a, ssj_, ssj_a, ssr_, ssr_a, sinc_, sinc_a, sret_, sret_a, sretj_, sretj_a, sretv_, spop_, spop_a, kc_scv_, scv_, scv_a, scv_b, scs_, scs_a, fpi_, fpi_a, fpi_b, fpj_, fpj_a, fpj_b, foi_, foi_a, foi_b, foj_, foj_a, foj_b, aii_, aii_a, aii_b, aii_c, aiz_, aiz_a, aiz_b, aiz_c, aij_, aij_a, aij_b, aij_c, aoi_, aoi_a, aoi_b, aoi_c, aoj_, aoj_a, aoj_b, aoj_c, scopy_, scopy_a, scopy_b, scopy_c, scopy_d, scopy_e, ssw_, ssw_a, sel_n, sel_c, mfi_, mfi_a, mfj_, mfj_a, mfz_, mfz_a, kb_mfv_, mfv_, mfv_a, cut, lset, lset2, isL, Value.category, ent, entn, if_some, if_pair, if_cons, if_int, if_long, if_ref, ite_self, gz_b, ↓icb, ↓icb2, b2i_ne, ge0, ge1, ge2, ge3, ge4, ge5, ge6, ge7, ge8, ge9, ge10, ge11, ge12, ge13, ge14, lit32, nI_add, pk_mul, clt_nI, cle_nI, cgt_nI, cge_nI, ceq_nI, cne_nI, inr_nI, nI_clamp, nI_eq, nI_leI, nI_ltI, k98, f98_0, k61, k31_, b0, zc, a_9 m31_, a_k1 m31_, a_l1 m31_, a_rc m31_, kT, lT, b3, cn, ki, li, ga]
            | some r =>
              have ga := c_gauge (c := c) bB ef (by rw [k0']; exact zc)
              have ev : sgV Z nc nt np p c = rdN k r c := by unfold sgV; rw [eE, ef, ek]
              rw [seC_y (by omega) ⟨zc, zn⟩ (eE.trans ef), ev]
              simp -implicitDefEqProofs (disch := omega) [wX5_look_1, kp_, bsome, bnone, gi_s, gj_s, gr_s, gv_s, ik_, jk_, il_, jl_, rl_, i2_, i2_a, i2_b, j2_, j2_a, j2_b, i2d_, i2d_a, i2d_b, j2d_, j2d_a, j2d_b, i1_, i1_a, j1_, j1_a, i2l_, i2l_a, l2i_, l2i_a, fgi_, fgi_a, fgj_, fgj_a, fgr_, fgr_a, iald_, iald_a, iald_b, zald_, zald_a, zald_b, jald_, jald_a, jald_b, rald_, rald_a, rald_b, alen_, alen_a, sald_, sald_a, ic_, ic_a, jc_, jc_a, bc_, bc_a, bc_b, bj_, bj_a, bj_b, bz_, bz_a, band_, band_a, bor_, bor_a, bnot_, bnot_a, anil_, ai_, ai_a, ai_b, aj_, aj_a, aj_b, ar_, ar_a, ar_b, kb2i_, cvi_, cvi_a, cvi_b, cvj_, cvj_a, cvj_b, cvz_, cvz_a, cvz_b, csi_, csi_a, csj_, csj_a, csz_, csz_a, snop_, sseq_, sseq_n, sseq_s, sif_, sif_a, scut_, scut_a, ssi_, ssi_a, ssj_, ssj_a, ssr_, ssr_a, sinc_, sinc_a, sret_, sret_a, sretj_, sretj_a, sretv_, spop_, spop_a, kc_scv_, scv_, scv_a, scv_b, scs_, scs_a, fpi_, fpi_a, fpi_b, fpj_, fpj_a, fpj_b, foi_, foi_a, foi_b, foj_, foj_a, foj_b, aii_, aii_a, aii_b, aii_c, aiz_, aiz_a, aiz_b, aiz_c, aij_, aij_a, aij_b, aij_c, aoi_, aoi_a, aoi_b, aoi_c, aoj_, aoj_a, aoj_b, aoj_c, scopy_, scopy_a, scopy_b, scopy_c, scopy_d, scopy_e, ssw_, ssw_a, sel_n, sel_c, mfi_, mfi_a, mfj_, mfj_a, mfz_, mfz_a, kb_mfv_, mfv_, mfv_a, cut, lset, lset2, isL, Value.category, ent, entn, if_some, if_pair, if_cons, if_int, if_long, if_ref, ite_self, gz_b, ↓icb, ↓icb2, b2i_ne, ge0, ge1, ge2, ge3, ge4, ge5, ge6, ge7, ge8, ge9, ge10, ge11, ge12, ge13, ge14, lit32, nI_add, pk_mul, clt_nI, cle_nI, cgt_nI, cge_nI, ceq_nI, cne_nI, inr_nI, nI_clamp, nI_eq, nI_leI, nI_ltI, k98, f98_0, k61, k31_, b0, zc, a_9 m31_, a_k1 m31_, a_l1 m31_, a_rc m31_, kT, lT, b3, cn, ki, li, ga]
        · rw [seC_n (by omega) (fun w => zc w.1)]
          simp -implicitDefEqProofs (disch := omega) [wX5_look_1, kp_, bsome, bnone, gi_s, gj_s, gr_s, gv_s, ik_, jk_, il_, jl_, rl_, i2_, i2_a, i2_b, j2_, j2_a, j2_b, i2d_, i2d_a, i2d_b, j2d_, j2d_a, j2d_b, i1_, i1_a, j1_, j1_a, i2l_, i2l_a, l2i_, l2i_a, fgi_, fgi_a, fgj_, fgj_a, fgr_, fgr_a, iald_, iald_a, iald_b, zald_, zald_a, zald_b, jald_, jald_a, jald_b, rald_, rald_a, rald_b, alen_, alen_a, sald_, sald_a, ic_, ic_a, jc_, jc_a, bc_, bc_a, bc_b, bj_, bj_a, bj_b, bz_, bz_a, band_, band_a, bor_, bor_a, bnot_, bnot_a, anil_, ai_, ai_a, ai_b, aj_, aj_a, aj_b, ar_, ar_a, ar_b, kb2i_, cvi_, cvi_a, cvi_b, cvj_, cvj_a, cvj_b, cvz_, cvz_a, cvz_b, csi_, csi_a, csj_, csj_a, csz_, csz_a, snop_, sseq_, sseq_n, sseq_s, sif_, sif_a, scut_, scut_a, ssi_, ssi_a, ssj_, ssj_a, ssr_, ssr_a, sinc_, sinc_a, sret_, sret_a, sretj_, sretj_a, sretv_, spop_, spop_a, kc_scv_, scv_, scv_a, scv_b, scs_, scs_a, fpi_, fpi_a, fpi_b, fpj_, fpj_a, fpj_b, foi_, foi_a, foi_b, foj_, foj_a, foj_b, aii_, aii_a, aii_b, aii_c, aiz_, aiz_a, aiz_b, aiz_c, aij_, aij_a, aij_b, aij_c, aoi_, aoi_a, aoi_b, aoi_c, aoj_, aoj_a, aoj_b, aoj_c, scopy_, scopy_a, scopy_b, scopy_c, scopy_d, scopy_e, ssw_, ssw_a, sel_n, sel_c, mfi_, mfi_a, mfj_, mfj_a, mfz_, mfz_a, kb_mfv_, mfv_, mfv_a, cut, lset, lset2, isL, Value.category, ent, entn, if_some, if_pair, if_cons, if_int, if_long, if_ref, ite_self, gz_b, ↓icb, ↓icb2, b2i_ne, ge0, ge1, ge2, ge3, ge4, ge5, ge6, ge7, ge8, ge9, ge10, ge11, ge12, ge13, ge14, lit32, nI_add, pk_mul, clt_nI, cle_nI, cgt_nI, cge_nI, ceq_nI, cne_nI, inr_nI, nI_clamp, nI_eq, nI_leI, nI_ltI, k31_, b0, zc, ki, li]
      · by_cases e : q = c
        · rw [e, wi_at]
        · rw [wi_ns e]; exact y3 q (by omega))
    (fun B hB => by simp -implicitDefEqProofs (disch := omega) [qX5_look_1, kp_, bsome, bnone, gi_s, gj_s, gr_s, gv_s, ik_, jk_, il_, jl_, rl_, i2_, i2_a, i2_b, j2_, j2_a, j2_b, i2d_, i2d_a, i2d_b, j2d_, j2d_a, j2d_b, i1_, i1_a, j1_, j1_a, i2l_, i2l_a, l2i_, l2i_a, fgi_, fgi_a, fgj_, fgj_a, fgr_, fgr_a, iald_, iald_a, iald_b, zald_, zald_a, zald_b, jald_, jald_a, jald_b, rald_, rald_a, rald_b, alen_, alen_a, sald_, sald_a, ic_, ic_a, jc_, jc_a, bc_, bc_a, bc_b, bj_, bj_a, bj_b, bz_, bz_a, band_, band_a, bor_, bor_a, bnot_, bnot_a, anil_, ai_, ai_a, ai_b, aj_, aj_a, aj_b, ar_, ar_a, ar_b, kb2i_, cvi_, cvi_a, cvi_b, cvj_, cvj_a, cvj_b, cvz_, cvz_a, cvz_b, csi_, csi_a, csj_, csj_a, csz_, csz_a, snop_, sseq_, sseq_n, sseq_s, sif_, sif_a, scut_, scut_a, ssi_, ssi_a, ssj_, ssj_a, ssr_, ssr_a, sinc_, sinc_a, sret_, sret_a, sretj_, sretj_a, sretv_, spop_, spop_a, kc_scv_, scv_, scv_a, scv_b, scs_, scs_a, fpi_, fpi_a, fpi_b, fpj_, fpj_a, fpj_b, foi_, foi_a, foi_b, foj_, foj_a, foj_b, aii_, aii_a, aii_b, aii_c, aiz_, aiz_a, aiz_b, aiz_c, aij_, aij_a, aij_b, aij_c, aoi_, aoi_a, aoi_b, aoi_c, aoj_, aoj_a, aoj_b, aoj_c, scopy_, scopy_a, scopy_b, scopy_c, scopy_d, scopy_e, ssw_, ssw_a, sel_n, sel_c, mfi_, mfi_a, mfj_, mfj_a, mfz_, mfz_a, kb_mfv_, mfv_, mfv_a, cut, lset, lset2, isL, Value.category, ent, entn, if_some, if_pair, if_cons, if_int, if_long, if_ref, ite_self, gz_b, ↓icb, ↓icb2, b2i_ne, ge0, ge1, ge2, ge3, ge4, ge5, ge6, ge7, ge8, ge9, ge10, ge11, ge12, ge13, ge14, lit32, nI_add, pk_mul, clt_nI, cle_nI, cgt_nI, cge_nI, ceq_nI, cne_nI, inr_nI, nI_clamp, nI_eq, nI_leI, nI_ltI])
    P ⟨fun _ _ => rfl, rfl, fun q hq => by omega⟩
  have bA := fr A y1 y2
  refine ⟨wi A (102 + i) 5 (seC Z nc nt np p 5), ?_, fun a ha => by rw [wi_ne ha]; exact y1 a ha, y2, fun c hc => ?_⟩
  · cases ef : fR (kok k) 27 with
    | none =>
      have g := c_hunts1 bA ef
      rw [seC_5h (eE.trans ef)]
      simp -implicitDefEqProofs (disch := omega) [DX5_look, EX5_look, kp_, bsome, bnone, gi_s, gj_s, gr_s, gv_s, ik_, jk_, il_, jl_, rl_, i2_, i2_a, i2_b, j2_, j2_a, j2_b, i2d_, i2d_a, i2d_b, j2d_, j2d_a, j2d_b, i1_, i1_a, j1_, j1_a, i2l_, i2l_a, l2i_, l2i_a, fgi_, fgi_a, fgj_, fgj_a, fgr_, fgr_a, iald_, iald_a, iald_b, zald_, zald_a, zald_b, jald_, jald_a, jald_b, rald_, rald_a, rald_b, alen_, alen_a, sald_, sald_a, ic_, ic_a, jc_, jc_a, bc_, bc_a, bc_b, bj_, bj_a, bj_b, bz_, bz_a, band_, band_a, bor_, bor_a, bnot_, bnot_a, anil_, ai_, ai_a, ai_b, aj_, aj_a, aj_b, ar_, ar_a, ar_b, kb2i_, cvi_, cvi_a, cvi_b, cvj_, cvj_a, cvj_b, cvz_, cvz_a, cvz_b, csi_, csi_a, csj_, csj_a, csz_, csz_a, snop_, sseq_, sseq_n, sseq_s, sif_, sif_a, scut_, scut_a, ssi_, ssi_a, ssj_, ssj_a, ssr_, ssr_a, sinc_, sinc_a, sret_, sret_a, sretj_, sretj_a, sretv_, spop_, spop_a, kc_scv_, scv_, scv_a, scv_b, scs_, scs_a, fpi_, fpi_a, fpi_b, fpj_, fpj_a, fpj_b, foi_, foi_a, foi_b, foj_, foj_a, foj_b, aii_, aii_a, aii_b, aii_c, aiz_, aiz_a, aiz_b, aiz_c, aij_, aij_a, aij_b, aij_c, aoi_, aoi_a, aoi_b, aoi_c, aoj_, aoj_a, aoj_b, aoj_c, scopy_, scopy_a, scopy_b, scopy_c, scopy_d, scopy_e, ssw_, ssw_a, sel_n, sel_c, mfi_, mfi_a, mfj_, mfj_a, mfz_, mfz_a, kb_mfv_, mfv_, mfv_a, cut, lset, lset2, isL, Value.category, ent, entn, if_some, if_pair, if_cons, if_int, if_long, if_ref, ite_self, gz_b, ↓icb, ↓icb2, b2i_ne, ge0, ge1, ge2, ge3, ge4, ge5, ge6, ge7, ge8, ge9, ge10, ge11, ge12, ge13, ge14, lit32, nI_add, pk_mul, clt_nI, cle_nI, cgt_nI, cge_nI, ceq_nI, cne_nI, inr_nI, nI_clamp, nI_eq, nI_leI, nI_ltI, l1, k98, f98_0, k61, g, ki, li, b2i_t]
    | some r =>
      have g := c_hunts0 bA ef
      rw [seC_5y (eE.trans ef)]
      simp -implicitDefEqProofs (disch := omega) [DX5_look, EX5_look, kp_, bsome, bnone, gi_s, gj_s, gr_s, gv_s, ik_, jk_, il_, jl_, rl_, i2_, i2_a, i2_b, j2_, j2_a, j2_b, i2d_, i2d_a, i2d_b, j2d_, j2d_a, j2d_b, i1_, i1_a, j1_, j1_a, i2l_, i2l_a, l2i_, l2i_a, fgi_, fgi_a, fgj_, fgj_a, fgr_, fgr_a, iald_, iald_a, iald_b, zald_, zald_a, zald_b, jald_, jald_a, jald_b, rald_, rald_a, rald_b, alen_, alen_a, sald_, sald_a, ic_, ic_a, jc_, jc_a, bc_, bc_a, bc_b, bj_, bj_a, bj_b, bz_, bz_a, band_, band_a, bor_, bor_a, bnot_, bnot_a, anil_, ai_, ai_a, ai_b, aj_, aj_a, aj_b, ar_, ar_a, ar_b, kb2i_, cvi_, cvi_a, cvi_b, cvj_, cvj_a, cvj_b, cvz_, cvz_a, cvz_b, csi_, csi_a, csj_, csj_a, csz_, csz_a, snop_, sseq_, sseq_n, sseq_s, sif_, sif_a, scut_, scut_a, ssi_, ssi_a, ssj_, ssj_a, ssr_, ssr_a, sinc_, sinc_a, sret_, sret_a, sretj_, sretj_a, sretv_, spop_, spop_a, kc_scv_, scv_, scv_a, scv_b, scs_, scs_a, fpi_, fpi_a, fpi_b, fpj_, fpj_a, fpj_b, foi_, foi_a, foi_b, foj_, foj_a, foj_b, aii_, aii_a, aii_b, aii_c, aiz_, aiz_a, aiz_b, aiz_c, aij_, aij_a, aij_b, aij_c, aoi_, aoi_a, aoi_b, aoi_c, aoj_, aoj_a, aoj_b, aoj_c, scopy_, scopy_a, scopy_b, scopy_c, scopy_d, scopy_e, ssw_, ssw_a, sel_n, sel_c, mfi_, mfi_a, mfj_, mfj_a, mfz_, mfz_a, kb_mfv_, mfv_, mfv_a, cut, lset, lset2, isL, Value.category, ent, entn, if_some, if_pair, if_cons, if_int, if_long, if_ref, ite_self, gz_b, ↓icb, ↓icb2, b2i_ne, ge0, ge1, ge2, ge3, ge4, ge5, ge6, ge7, ge8, ge9, ge10, ge11, ge12, ge13, ge14, lit32, nI_add, pk_mul, clt_nI, cle_nI, cgt_nI, cge_nI, ceq_nI, cne_nI, inr_nI, nI_clamp, nI_eq, nI_leI, nI_ltI, l1, k98, f98_0, k61, g, ki, li, b2i_f]
  · by_cases e : c = 5
    · rw [e, wi_at]
    · rw [wi_ns e]; exact y3 c (by omega)
end
