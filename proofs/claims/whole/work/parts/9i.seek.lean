/-! ===== the leak sought: the class ===== -/
theorem f98_0 : rf 98 0 = 61 := by decide +kernel
theorem f98_1 : rf 98 1 = 99 := by decide +kernel
theorem f98_2 : rf 98 2 = 100 := by decide +kernel
theorem f98_3 : rf 98 3 = 101 := by decide +kernel
theorem k99 : kd 99 = 8 := by decide +kernel
theorem l99 : ln 99 = 20 := by decide +kernel
theorem k100 : kd 100 = 8 := by decide +kernel
theorem l100 : ln 100 = 20 := by decide +kernel
theorem k101 : kd 101 = 12 := by decide +kernel
theorem l101 : ln 101 = 20 := by decide +kernel
theorem f101_ : ∀ i, i < 20 → rf 101 i = 102 + i := by decide +kernel
theorem k102_ : ∀ i, i < 20 → kd (102 + i) = 8 := by decide +kernel
theorem l102_ : ∀ i, i < 20 → ln (102 + i) = 6 := by decide +kernel
def mtN (X : Nat → Int32) (V : Nat → Nat) : Nat → Nat
  | 0 => 0
  | c + 1 => mtN X V c + (if X (8 + 4 * c + 3) = nI (V c + 1) then 1 else 0)
noncomputable def alk (X : Nat → Int32) (nc nt np j s : Nat) : Option Nat := match fR (kok (kyN (lkR X j s) nc nt np 9 0)) 27 with
  | none => none
  | some r => some (mtN X (fun c => rdN (kyN (lkR X j s) nc nt np 9 0) r c) nc)
def skA (nd j s : Nat) (z : List (Nat × Nat) × Nat) : Option Nat → List (Nat × Nat) × Nat
  | none => z
  | some a => (if a = nd then z.1 ++ [(j, s)] else z.1, max z.2 a)
noncomputable def sk1 (X : Nat → Int32) (nc nt np nd j : Nat) : Nat → List (Nat × Nat) × Nat → List (Nat × Nat) × Nat
  | 0, st => st
  | s + 1, st => skA nd j (s + 1) (sk1 X nc nt np nd j s st) (alk X nc nt np j (s + 1))
def jnb (nc nt j : Nat) : Bool := decide (j < nc ∨ (10 ≤ j ∧ j < 10 + nt))
noncomputable def sk2 (X : Nat → Int32) (nc nt np nd : Nat) : Nat → (List (Nat × Nat) × Nat) × Nat
  | 0 => (([], 0), 0)
  | j + 1 => if jnb nc nt j = true then (sk1 X nc nt np nd j 60 (sk2 X nc nt np nd j).1, (sk2 X nc nt np nd j).2 + (if (sk2 X nc nt np nd j).1.1.length < (sk1 X nc nt np nd j 60 (sk2 X nc nt np nd j).1).1.length then 1 else 0)) else sk2 X nc nt np nd j
def hdJ (L : List (Nat × Nat)) : Int32 := match L with
  | [] => -(nI 1)
  | p :: _ => nI p.1
def hdS (L : List (Nat × Nat)) : Int32 := match L with
  | [] => -(nI 1)
  | p :: _ => nI p.2
def SkC (P : Me) (L : List (Nat × Nat)) (q m : Nat) : Prop := P.1 98 4 = nI L.length ∧ P.1 98 5 = hdJ L ∧ P.1 98 6 = hdS L ∧ P.1 98 7 = nI q ∧ P.1 98 8 = nI m ∧ ∀ i p, i < 20 → L[i]? = some p → P.1 99 i = nI p.1 ∧ P.1 100 i = nI p.2
def PS (M P : Me) : Prop := ∀ a, a < 31 ∨ a = 97 ∨ 122 ≤ a → P.1 a = M.1 a ∧ P.2 a = M.2 a
section
variable {M P Q N : Me} {X Y : Nat → Int32} {V W : Nat → Nat} {k : Nat → Nat} {L : List (Nat × Nat)} {st : List (Nat × Nat) × Nat} {nc nt np nw tm tB o u j s r q m nd n : Nat}
theorem PS.refl : PS M M := fun _ _ => ⟨rfl, rfl⟩
theorem PS.trans (h : PS M P) (g : PS P Q) : PS M Q := fun a ha => ⟨(g a ha).1.trans (h a ha).1, (g a ha).2.trans (h a ha).2⟩
theorem PO.ps (h : PO M P) : PS M P := fun a ha => h a (by omega)
set_option maxRecDepth 20000 in
theorem mtN_le : ∀ n, mtN X V n ≤ n
  | 0 => Nat.le_refl 0
  | n + 1 => by
    have := mtN_le n
    simp only [mtN]
    split <;> omega
set_option maxRecDepth 20000 in
theorem mtN_cg (h : ∀ c, c < n → Y (8 + 4 * c + 3) = X (8 + 4 * c + 3)) : mtN Y V n = mtN X V n := by
  induction n with
  | zero => rfl
  | succ n ih => simp only [mtN]; rw [ih (fun c hc => h c (by omega)), h n (by omega)]
set_option maxRecDepth 20000 in
theorem hdJ_add : hdJ (L ++ [(j, s)]) = if L.length = 0 then nI j else hdJ L := by
  cases L with
  | nil => rfl
  | cons a b => rfl
set_option maxRecDepth 20000 in
theorem hdS_add : hdS (L ++ [(j, s)]) = if L.length = 0 then nI s else hdS L := by
  cases L with
  | nil => rfl
  | cons a b => rfl
set_option maxRecDepth 20000 in
theorem alk_le {a : Nat} (h : alk X nc nt np j s = some a) : a ≤ nc := by
  unfold alk at h
  cases e : fR (kok (kyN (lkR X j s) nc nt np 9 0)) 27 with
  | none => rw [e] at h; cases h
  | some r =>
    rw [e] at h
    cases h
    exact mtN_le _
set_option maxRecDepth 20000 in
theorem sk1_none (e : alk X nc nt np j (s + 1) = none) : sk1 X nc nt np nd j (s + 1) st = sk1 X nc nt np nd j s st := by
  show skA nd j (s + 1) (sk1 X nc nt np nd j s st) (alk X nc nt np j (s + 1)) = _
  rw [e]
  rfl
set_option maxRecDepth 20000 in
theorem sk1_some {a : Nat} (e : alk X nc nt np j (s + 1) = some a) : sk1 X nc nt np nd j (s + 1) st = (if a = nd then (sk1 X nc nt np nd j s st).1 ++ [(j, s + 1)] else (sk1 X nc nt np nd j s st).1, max (sk1 X nc nt np nd j s st).2 a) := by
  show skA nd j (s + 1) (sk1 X nc nt np nd j s st) (alk X nc nt np j (s + 1)) = _
  rw [e]
  rfl
set_option maxRecDepth 20000 in
theorem sk1_le (hc : nc ≤ 5) (h2 : st.2 ≤ 5) (s : Nat) : (sk1 X nc nt np nd j s st).1.length ≤ st.1.length + s ∧ st.1.length ≤ (sk1 X nc nt np nd j s st).1.length ∧ (sk1 X nc nt np nd j s st).2 ≤ 5 := by
  induction s with
  | zero => exact ⟨Nat.le_refl _, Nat.le_refl _, h2⟩
  | succ s ih =>
    cases e : alk X nc nt np j (s + 1) with
    | none =>
      rw [sk1_none e]
      exact ⟨Nat.le_succ_of_le ih.1, ih.2.1, ih.2.2⟩
    | some a =>
      have al := alk_le e
      rw [sk1_some e]
      generalize sk1 X nc nt np nd j s st = z at ih
      by_cases q : a = nd
      · simp only [if_pos q, List.length_append, List.length_singleton]
        omega
      · simp only [if_neg q]
        omega
set_option maxRecDepth 20000 in
theorem sk2_t (e : jnb nc nt j = true) : sk2 X nc nt np nd (j + 1) = (sk1 X nc nt np nd j 60 (sk2 X nc nt np nd j).1, (sk2 X nc nt np nd j).2 + (if (sk2 X nc nt np nd j).1.1.length < (sk1 X nc nt np nd j 60 (sk2 X nc nt np nd j).1).1.length then 1 else 0)) := by
  show (if jnb nc nt j = true then _ else _) = _
  rw [if_pos e]
set_option maxRecDepth 20000 in
theorem sk2_f (e : jnb nc nt j = false) : sk2 X nc nt np nd (j + 1) = sk2 X nc nt np nd j := by
  show (if jnb nc nt j = true then _ else _) = _
  rw [e]
  rfl
set_option maxRecDepth 20000 in
theorem sk2_le (hc : nc ≤ 5) (j : Nat) : (sk2 X nc nt np nd j).1.1.length ≤ 60 * j ∧ (sk2 X nc nt np nd j).1.2 ≤ 5 ∧ (sk2 X nc nt np nd j).2 ≤ j := by
  induction j with
  | zero => exact ⟨Nat.le_refl _, Nat.zero_le _, Nat.le_refl _⟩
  | succ j ih =>
    cases e : jnb nc nt j with
    | true =>
      rw [sk2_t e]
      have b := sk1_le (X := X) (nt := nt) (np := np) (nd := nd) (j := j) (st := (sk2 X nc nt np nd j).1) hc ih.2.1 60
      generalize sk1 X nc nt np nd j 60 (sk2 X nc nt np nd j).1 = z at b
      generalize sk2 X nc nt np nd j = y at ih b
      simp only
      refine ⟨by omega, b.2.2, ?_⟩
      split <;> omega
    | false =>
      rw [sk2_f e]
      exact ⟨by omega, ih.2.1, by omega⟩
set_option maxRecDepth 20000 in
theorem jnt_b (hj : j < 100) (hc : nc ≤ 5) (ht : nt ≤ 10) : jnt (nI j) nc nt = jnb nc nt j := by
  unfold jnt jnb
  rw [show (10 : Int32) = nI 10 from rfl]
  by_cases z : j < 10
  · rw [if_pos ((nI_ltI (by omega) (by omega)).mpr z), inr_d (by omega) (by omega)]
    exact decide_eq_decide.mpr (by omega)
  · rw [if_neg (fun q => z ((nI_ltI (by omega) (by omega)).mp q)), pk_sub (by omega), inr_d (by omega) (by omega)]
    exact decide_eq_decide.mpr (by omega)
set_option maxRecDepth 20000 in
theorem c_notes2 {b : Nat} (hL : Lr M b X nc nt np nw tm) (hc5 : nc ≤ 5) : DX1_notes [.ref b] M = some (nI (ntc X nc), M) := by
  have hb := hL.1
  have hn := hL.2.1.1
  have key : ∀ i, i < nc → (M.1 (b + 2 + i) 3 = -(nI 1) ↔ X (8 + 4 * i + 3) = nI 0) := fun i hi => by
    have e := hL.2.2.2.1 i hi
    constructor
    · intro q
      rw [← e, q]
      decide
    · intro q
      rw [q] at e
      have : M.1 (b + 2 + i) 3 + nI 1 - nI 1 = nI 0 - nI 1 := by rw [e]
      rw [Int32.add_sub_cancel] at this
      rw [this]
      decide
  have l1 : swh qX1_notes_1 wX1_notes_1 [.ref b, .int (nI 0), .int (nI 0)] M = some (none, [.ref b, .int (nI (ntc X nc)), .int (nI nc)], M) := swh_count (fun i => [.ref b, .int (nI (ntc X i)), .int (nI i)]) (fun _ => M) nc
    (fun i hi => by simp -implicitDefEqProofs (disch := omega) [qX1_notes_1, kp_, bsome, bnone, gi_s, gj_s, gr_s, gv_s, ik_, jk_, il_, jl_, rl_, i2_, i2_a, i2_b, j2_, j2_a, j2_b, i2d_, i2d_a, i2d_b, j2d_, j2d_a, j2d_b, i1_, i1_a, j1_, j1_a, i2l_, i2l_a, l2i_, l2i_a, fgi_, fgi_a, fgj_, fgj_a, fgr_, fgr_a, iald_, iald_a, iald_b, zald_, zald_a, zald_b, jald_, jald_a, jald_b, rald_, rald_a, rald_b, alen_, alen_a, sald_, sald_a, ic_, ic_a, jc_, jc_a, bc_, bc_a, bc_b, bj_, bj_a, bj_b, bz_, bz_a, band_, band_a, bor_, bor_a, bnot_, bnot_a, anil_, ai_, ai_a, ai_b, aj_, aj_a, aj_b, ar_, ar_a, ar_b, kb2i_, cvi_, cvi_a, cvi_b, cvj_, cvj_a, cvj_b, cvz_, cvz_a, cvz_b, csi_, csi_a, csj_, csj_a, csz_, csz_a, snop_, sseq_, sseq_n, sseq_s, sif_, sif_a, scut_, scut_a, ssi_, ssi_a, ssj_, ssj_a, ssr_, ssr_a, sinc_, sinc_a, sret_, sret_a, sretj_, sretj_a, sretv_, spop_, spop_a, kc_scv_, scv_, scv_a, scv_b, scs_, scs_a, fpi_, fpi_a, fpi_b, fpj_, fpj_a, fpj_b, foi_, foi_a, foi_b, foj_, foj_a, foj_b, aii_, aii_a, aii_b, aii_c, aiz_, aiz_a, aiz_b, aiz_c, aij_, aij_a, aij_b, aij_c, aoi_, aoi_a, aoi_b, aoi_c, aoj_, aoj_a, aoj_b, aoj_c, scopy_, scopy_a, scopy_b, scopy_c, scopy_d, scopy_e, ssw_, ssw_a, sel_n, sel_c, mfi_, mfi_a, mfj_, mfj_a, mfz_, mfz_a, kb_mfv_, mfv_, mfv_a, cut, lset, lset2, isL, Value.category, ent, entn, if_some, if_pair, if_cons, if_int, if_long, if_ref, ite_self, gz_b, ↓icb, ↓icb2, b2i_ne, ge0, ge1, ge2, ge3, ge4, ge5, ge6, ge7, ge8, ge9, ge10, ge11, ge12, ge13, ge14, lit32, nI_add, pk_mul, clt_nI, cle_nI, cgt_nI, cge_nI, ceq_nI, cne_nI, inr_nI, nI_clamp, nI_eq, nI_leI, nI_ltI, a_kb hb, a_9 hb, a_10 hb, a_11 hb, a_12 hb, a_13 hb, a_k1 hb, a_l1 hb, a_k7 hb, a_l7 hb, a_k18 hb, a_l18 hb, a_k22 hb, a_l22 hb, a_k29 hb, a_l29 hb, a_rc hb, a_kc hb, a_lc hb, a_rt hb, a_kt hb, a_lt hb, a_rp hb, a_kp hb, a_lp hb, a_rw hb, a_kw hb, a_lw hb, hn, hi])
    (fun i hi => by
      have hi5 : i < 5 := by omega
      by_cases e : X (8 + 4 * i + 3) = nI 0
      · have y : cne (M.1 (b + 2 + i) 3) (-(nI 1)) = false := by
          unfold cne
          rw [(key i hi).mpr e]
          decide
        have z : ntc X (i + 1) = ntc X i := by simp only [ntc]; rw [if_pos e]; rfl
        rw [z]
        simp -implicitDefEqProofs (disch := omega) [wX1_notes_1, kp_, bsome, bnone, gi_s, gj_s, gr_s, gv_s, ik_, jk_, il_, jl_, rl_, i2_, i2_a, i2_b, j2_, j2_a, j2_b, i2d_, i2d_a, i2d_b, j2d_, j2d_a, j2d_b, i1_, i1_a, j1_, j1_a, i2l_, i2l_a, l2i_, l2i_a, fgi_, fgi_a, fgj_, fgj_a, fgr_, fgr_a, iald_, iald_a, iald_b, zald_, zald_a, zald_b, jald_, jald_a, jald_b, rald_, rald_a, rald_b, alen_, alen_a, sald_, sald_a, ic_, ic_a, jc_, jc_a, bc_, bc_a, bc_b, bj_, bj_a, bj_b, bz_, bz_a, band_, band_a, bor_, bor_a, bnot_, bnot_a, anil_, ai_, ai_a, ai_b, aj_, aj_a, aj_b, ar_, ar_a, ar_b, kb2i_, cvi_, cvi_a, cvi_b, cvj_, cvj_a, cvj_b, cvz_, cvz_a, cvz_b, csi_, csi_a, csj_, csj_a, csz_, csz_a, snop_, sseq_, sseq_n, sseq_s, sif_, sif_a, scut_, scut_a, ssi_, ssi_a, ssj_, ssj_a, ssr_, ssr_a, sinc_, sinc_a, sret_, sret_a, sretj_, sretj_a, sretv_, spop_, spop_a, kc_scv_, scv_, scv_a, scv_b, scs_, scs_a, fpi_, fpi_a, fpi_b, fpj_, fpj_a, fpj_b, foi_, foi_a, foi_b, foj_, foj_a, foj_b, aii_, aii_a, aii_b, aii_c, aiz_, aiz_a, aiz_b, aiz_c, aij_, aij_a, aij_b, aij_c, aoi_, aoi_a, aoi_b, aoi_c, aoj_, aoj_a, aoj_b, aoj_c, scopy_, scopy_a, scopy_b, scopy_c, scopy_d, scopy_e, ssw_, ssw_a, sel_n, sel_c, mfi_, mfi_a, mfj_, mfj_a, mfz_, mfz_a, kb_mfv_, mfv_, mfv_a, cut, lset, lset2, isL, Value.category, ent, entn, if_some, if_pair, if_cons, if_int, if_long, if_ref, ite_self, gz_b, ↓icb, ↓icb2, b2i_ne, ge0, ge1, ge2, ge3, ge4, ge5, ge6, ge7, ge8, ge9, ge10, ge11, ge12, ge13, ge14, lit32, nI_add, pk_mul, clt_nI, cle_nI, cgt_nI, cge_nI, ceq_nI, cne_nI, inr_nI, nI_clamp, nI_eq, nI_leI, nI_ltI, a_kb hb, a_9 hb, a_10 hb, a_11 hb, a_12 hb, a_13 hb, a_k1 hb, a_l1 hb, a_k7 hb, a_l7 hb, a_k18 hb, a_l18 hb, a_k22 hb, a_l22 hb, a_k29 hb, a_l29 hb, a_rc hb, a_kc hb, a_lc hb, a_rt hb, a_kt hb, a_lt hb, a_rp hb, a_kp hb, a_lp hb, a_rw hb, a_kw hb, a_lw hb, y]
      · have y : cne (M.1 (b + 2 + i) 3) (-(nI 1)) = true := by
          unfold cne
          exact decide_eq_true (fun q => e ((key i hi).mp q))
        have z : ntc X (i + 1) = ntc X i + 1 := by simp only [ntc]; rw [if_neg e]
        rw [z]
        simp -implicitDefEqProofs (disch := omega) [wX1_notes_1, kp_, bsome, bnone, gi_s, gj_s, gr_s, gv_s, ik_, jk_, il_, jl_, rl_, i2_, i2_a, i2_b, j2_, j2_a, j2_b, i2d_, i2d_a, i2d_b, j2d_, j2d_a, j2d_b, i1_, i1_a, j1_, j1_a, i2l_, i2l_a, l2i_, l2i_a, fgi_, fgi_a, fgj_, fgj_a, fgr_, fgr_a, iald_, iald_a, iald_b, zald_, zald_a, zald_b, jald_, jald_a, jald_b, rald_, rald_a, rald_b, alen_, alen_a, sald_, sald_a, ic_, ic_a, jc_, jc_a, bc_, bc_a, bc_b, bj_, bj_a, bj_b, bz_, bz_a, band_, band_a, bor_, bor_a, bnot_, bnot_a, anil_, ai_, ai_a, ai_b, aj_, aj_a, aj_b, ar_, ar_a, ar_b, kb2i_, cvi_, cvi_a, cvi_b, cvj_, cvj_a, cvj_b, cvz_, cvz_a, cvz_b, csi_, csi_a, csj_, csj_a, csz_, csz_a, snop_, sseq_, sseq_n, sseq_s, sif_, sif_a, scut_, scut_a, ssi_, ssi_a, ssj_, ssj_a, ssr_, ssr_a, sinc_, sinc_a, sret_, sret_a, sretj_, sretj_a, sretv_, spop_, spop_a, kc_scv_, scv_, scv_a, scv_b, scs_, scs_a, fpi_, fpi_a, fpi_b, fpj_, fpj_a, fpj_b, foi_, foi_a, foi_b, foj_, foj_a, foj_b, aii_, aii_a, aii_b, aii_c, aiz_, aiz_a, aiz_b, aiz_c, aij_, aij_a, aij_b, aij_c, aoi_, aoi_a, aoi_b, aoi_c, aoj_, aoj_a, aoj_b, aoj_c, scopy_, scopy_a, scopy_b, scopy_c, scopy_d, scopy_e, ssw_, ssw_a, sel_n, sel_c, mfi_, mfi_a, mfj_, mfj_a, mfz_, mfz_a, kb_mfv_, mfv_, mfv_a, cut, lset, lset2, isL, Value.category, ent, entn, if_some, if_pair, if_cons, if_int, if_long, if_ref, ite_self, gz_b, ↓icb, ↓icb2, b2i_ne, ge0, ge1, ge2, ge3, ge4, ge5, ge6, ge7, ge8, ge9, ge10, ge11, ge12, ge13, ge14, lit32, nI_add, pk_mul, clt_nI, cle_nI, cgt_nI, cge_nI, ceq_nI, cne_nI, inr_nI, nI_clamp, nI_eq, nI_leI, nI_ltI, a_kb hb, a_9 hb, a_10 hb, a_11 hb, a_12 hb, a_13 hb, a_k1 hb, a_l1 hb, a_k7 hb, a_l7 hb, a_k18 hb, a_l18 hb, a_k22 hb, a_l22 hb, a_k29 hb, a_l29 hb, a_rc hb, a_kc hb, a_lc hb, a_rt hb, a_kt hb, a_lt hb, a_rp hb, a_kp hb, a_lp hb, a_rw hb, a_kw hb, a_lw hb, y])
    (by simp -implicitDefEqProofs (disch := omega) [qX1_notes_1, kp_, bsome, bnone, gi_s, gj_s, gr_s, gv_s, ik_, jk_, il_, jl_, rl_, i2_, i2_a, i2_b, j2_, j2_a, j2_b, i2d_, i2d_a, i2d_b, j2d_, j2d_a, j2d_b, i1_, i1_a, j1_, j1_a, i2l_, i2l_a, l2i_, l2i_a, fgi_, fgi_a, fgj_, fgj_a, fgr_, fgr_a, iald_, iald_a, iald_b, zald_, zald_a, zald_b, jald_, jald_a, jald_b, rald_, rald_a, rald_b, alen_, alen_a, sald_, sald_a, ic_, ic_a, jc_, jc_a, bc_, bc_a, bc_b, bj_, bj_a, bj_b, bz_, bz_a, band_, band_a, bor_, bor_a, bnot_, bnot_a, anil_, ai_, ai_a, ai_b, aj_, aj_a, aj_b, ar_, ar_a, ar_b, kb2i_, cvi_, cvi_a, cvi_b, cvj_, cvj_a, cvj_b, cvz_, cvz_a, cvz_b, csi_, csi_a, csj_, csj_a, csz_, csz_a, snop_, sseq_, sseq_n, sseq_s, sif_, sif_a, scut_, scut_a, ssi_, ssi_a, ssj_, ssj_a, ssr_, ssr_a, sinc_, sinc_a, sret_, sret_a, sretj_, sretj_a, sretv_, spop_, spop_a, kc_scv_, scv_, scv_a, scv_b, scs_, scs_a, fpi_, fpi_a, fpi_b, fpj_, fpj_a, fpj_b, foi_, foi_a, foi_b, foj_, foj_a, foj_b, aii_, aii_a, aii_b, aii_c, aiz_, aiz_a, aiz_b, aiz_c, aij_, aij_a, aij_b, aij_c, aoi_, aoi_a, aoi_b, aoi_c, aoj_, aoj_a, aoj_b, aoj_c, scopy_, scopy_a, scopy_b, scopy_c, scopy_d, scopy_e, ssw_, ssw_a, sel_n, sel_c, mfi_, mfi_a, mfj_, mfj_a, mfz_, mfz_a, kb_mfv_, mfv_, mfv_a, cut, lset, lset2, isL, Value.category, ent, entn, if_some, if_pair, if_cons, if_int, if_long, if_ref, ite_self, gz_b, ↓icb, ↓icb2, b2i_ne, ge0, ge1, ge2, ge3, ge4, ge5, ge6, ge7, ge8, ge9, ge10, ge11, ge12, ge13, ge14, lit32, nI_add, pk_mul, clt_nI, cle_nI, cgt_nI, cge_nI, ceq_nI, cne_nI, inr_nI, nI_clamp, nI_eq, nI_leI, nI_ltI, a_kb hb, a_9 hb, a_10 hb, a_11 hb, a_12 hb, a_13 hb, a_k1 hb, a_l1 hb, a_k7 hb, a_l7 hb, a_k18 hb, a_l18 hb, a_k22 hb, a_l22 hb, a_k29 hb, a_l29 hb, a_rc hb, a_kc hb, a_lc hb, a_rt hb, a_kt hb, a_lt hb, a_rp hb, a_kp hb, a_lp hb, a_rw hb, a_kw hb, a_lw hb, hn])
  simp -implicitDefEqProofs (disch := omega) [DX1_notes, EX1_notes, kp_, bsome, bnone, gi_s, gj_s, gr_s, gv_s, ik_, jk_, il_, jl_, rl_, i2_, i2_a, i2_b, j2_, j2_a, j2_b, i2d_, i2d_a, i2d_b, j2d_, j2d_a, j2d_b, i1_, i1_a, j1_, j1_a, i2l_, i2l_a, l2i_, l2i_a, fgi_, fgi_a, fgj_, fgj_a, fgr_, fgr_a, iald_, iald_a, iald_b, zald_, zald_a, zald_b, jald_, jald_a, jald_b, rald_, rald_a, rald_b, alen_, alen_a, sald_, sald_a, ic_, ic_a, jc_, jc_a, bc_, bc_a, bc_b, bj_, bj_a, bj_b, bz_, bz_a, band_, band_a, bor_, bor_a, bnot_, bnot_a, anil_, ai_, ai_a, ai_b, aj_, aj_a, aj_b, ar_, ar_a, ar_b, kb2i_, cvi_, cvi_a, cvi_b, cvj_, cvj_a, cvj_b, cvz_, cvz_a, cvz_b, csi_, csi_a, csj_, csj_a, csz_, csz_a, snop_, sseq_, sseq_n, sseq_s, sif_, sif_a, scut_, scut_a, ssi_, ssi_a, ssj_, ssj_a, ssr_, ssr_a, sinc_, sinc_a, sret_, sret_a, sretj_, sretj_a, sretv_, spop_, spop_a, kc_scv_, scv_, scv_a, scv_b, scs_, scs_a, fpi_, fpi_a, fpi_b, fpj_, fpj_a, fpj_b, foi_, foi_a, foi_b, foj_, foj_a, foj_b, aii_, aii_a, aii_b, aii_c, aiz_, aiz_a, aiz_b, aiz_c, aij_, aij_a, aij_b, aij_c, aoi_, aoi_a, aoi_b, aoi_c, aoj_, aoj_a, aoj_b, aoj_c, scopy_, scopy_a, scopy_b, scopy_c, scopy_d, scopy_e, ssw_, ssw_a, sel_n, sel_c, mfi_, mfi_a, mfj_, mfj_a, mfz_, mfz_a, kb_mfv_, mfv_, mfv_a, cut, lset, lset2, isL, Value.category, ent, entn, if_some, if_pair, if_cons, if_int, if_long, if_ref, ite_self, gz_b, ↓icb, ↓icb2, b2i_ne, ge0, ge1, ge2, ge3, ge4, ge5, ge6, ge7, ge8, ge9, ge10, ge11, ge12, ge13, ge14, lit32, nI_add, pk_mul, clt_nI, cle_nI, cgt_nI, cge_nI, ceq_nI, cne_nI, inr_nI, nI_clamp, nI_eq, nI_leI, nI_ltI, l1]
set_option maxRecDepth 20000 in
theorem c_alike {b : Nat} (hL : Lr P b Y nc nt np nw tm) (hc5 : nc ≤ 5) (hB : BAt P k) (hf : fR (kok k) 27 = some r) (hk0 : k 0 = nc) : DX5_alike [.ref 98, .ref b] P = some (nI (mtN Y (fun c => rdN k r c) nc), P) := by
  have hb := hL.1
  have hn := hL.2.1.1
  obtain ⟨V, eV⟩ : ∃ V, V = fun c => rdN k r c := ⟨_, rfl⟩
  rw [← eV]
  have l1 : swh qX5_alike_1 wX5_alike_1 [.ref 98, .ref b, .int (nI 0), .int (nI 0), .null] P = some (none, [.ref 98, .ref b, .int (nI (mtN Y V nc)), .int (nI nc), .null], P) := swh_count (fun i => [.ref 98, .ref b, .int (nI (mtN Y V i)), .int (nI i), .null]) (fun _ => P) nc
    (fun i hi => by simp -implicitDefEqProofs (disch := omega) [qX5_alike_1, kp_, bsome, bnone, gi_s, gj_s, gr_s, gv_s, ik_, jk_, il_, jl_, rl_, i2_, i2_a, i2_b, j2_, j2_a, j2_b, i2d_, i2d_a, i2d_b, j2d_, j2d_a, j2d_b, i1_, i1_a, j1_, j1_a, i2l_, i2l_a, l2i_, l2i_a, fgi_, fgi_a, fgj_, fgj_a, fgr_, fgr_a, iald_, iald_a, iald_b, zald_, zald_a, zald_b, jald_, jald_a, jald_b, rald_, rald_a, rald_b, alen_, alen_a, sald_, sald_a, ic_, ic_a, jc_, jc_a, bc_, bc_a, bc_b, bj_, bj_a, bj_b, bz_, bz_a, band_, band_a, bor_, bor_a, bnot_, bnot_a, anil_, ai_, ai_a, ai_b, aj_, aj_a, aj_b, ar_, ar_a, ar_b, kb2i_, cvi_, cvi_a, cvi_b, cvj_, cvj_a, cvj_b, cvz_, cvz_a, cvz_b, csi_, csi_a, csj_, csj_a, csz_, csz_a, snop_, sseq_, sseq_n, sseq_s, sif_, sif_a, scut_, scut_a, ssi_, ssi_a, ssj_, ssj_a, ssr_, ssr_a, sinc_, sinc_a, sret_, sret_a, sretj_, sretj_a, sretv_, spop_, spop_a, kc_scv_, scv_, scv_a, scv_b, scs_, scs_a, fpi_, fpi_a, fpi_b, fpj_, fpj_a, fpj_b, foi_, foi_a, foi_b, foj_, foj_a, foj_b, aii_, aii_a, aii_b, aii_c, aiz_, aiz_a, aiz_b, aiz_c, aij_, aij_a, aij_b, aij_c, aoi_, aoi_a, aoi_b, aoi_c, aoj_, aoj_a, aoj_b, aoj_c, scopy_, scopy_a, scopy_b, scopy_c, scopy_d, scopy_e, ssw_, ssw_a, sel_n, sel_c, mfi_, mfi_a, mfj_, mfj_a, mfz_, mfz_a, kb_mfv_, mfv_, mfv_a, cut, lset, lset2, isL, Value.category, ent, entn, if_some, if_pair, if_cons, if_int, if_long, if_ref, ite_self, gz_b, ↓icb, ↓icb2, b2i_ne, ge0, ge1, ge2, ge3, ge4, ge5, ge6, ge7, ge8, ge9, ge10, ge11, ge12, ge13, ge14, lit32, nI_add, pk_mul, clt_nI, cle_nI, cgt_nI, cge_nI, ceq_nI, cne_nI, inr_nI, nI_clamp, nI_eq, nI_leI, nI_ltI, a_kb hb, a_9 hb, a_10 hb, a_11 hb, a_12 hb, a_13 hb, a_k1 hb, a_l1 hb, a_k7 hb, a_l7 hb, a_k18 hb, a_l18 hb, a_k22 hb, a_l22 hb, a_k29 hb, a_l29 hb, a_rc hb, a_kc hb, a_lc hb, a_rt hb, a_kt hb, a_lt hb, a_rp hb, a_kp hb, a_lp hb, a_rw hb, a_kw hb, a_lw hb, hn, hi])
    (fun i hi => by
      have hi5 : i < 5 := by omega
      have ga := c_gauge (c := i) hB hf (by rw [hk0]; exact hi)
      have vc : V i = rdN k r i := by rw [eV]
      have vl : V i ≤ 99999999 := by rw [vc]; exact rdN_le
      rw [← vc] at ga
      have e3 := hL.2.2.2.1 i hi
      obtain ⟨z, ez⟩ : ∃ z, z = P.1 (b + 2 + i) 3 := ⟨_, rfl⟩
      rw [← ez] at e3
      have ez' := ez.symm
      have ml := mtN_le (X := Y) (V := V) i
      by_cases e : Y (8 + 4 * i + 3) = nI (V i + 1)
      · have zz : z = nI (V i) := by
          rw [e, ← nI_add] at e3
          exact (Int32.add_left_inj _).mp e3
        have y : mtN Y V (i + 1) = mtN Y V i + 1 := by simp only [mtN]; rw [if_pos e]
        rw [y]
        rw [zz] at ez'
        have c1 : cne (nI (V i)) (-(nI 1)) = true := by
          unfold cne
          exact decide_eq_true (nI_nm1 (by omega))
        simp -implicitDefEqProofs (disch := omega) [wX5_alike_1, kp_, bsome, bnone, gi_s, gj_s, gr_s, gv_s, ik_, jk_, il_, jl_, rl_, i2_, i2_a, i2_b, j2_, j2_a, j2_b, i2d_, i2d_a, i2d_b, j2d_, j2d_a, j2d_b, i1_, i1_a, j1_, j1_a, i2l_, i2l_a, l2i_, l2i_a, fgi_, fgi_a, fgj_, fgj_a, fgr_, fgr_a, iald_, iald_a, iald_b, zald_, zald_a, zald_b, jald_, jald_a, jald_b, rald_, rald_a, rald_b, alen_, alen_a, sald_, sald_a, ic_, ic_a, jc_, jc_a, bc_, bc_a, bc_b, bj_, bj_a, bj_b, bz_, bz_a, band_, band_a, bor_, bor_a, bnot_, bnot_a, anil_, ai_, ai_a, ai_b, aj_, aj_a, aj_b, ar_, ar_a, ar_b, kb2i_, cvi_, cvi_a, cvi_b, cvj_, cvj_a, cvj_b, cvz_, cvz_a, cvz_b, csi_, csi_a, csj_, csj_a, csz_, csz_a, snop_, sseq_, sseq_n, sseq_s, sif_, sif_a, scut_, scut_a, ssi_, ssi_a, ssj_, ssj_a, ssr_, ssr_a, sinc_, sinc_a, sret_, sret_a, sretj_, sretj_a, sretv_, spop_, spop_a, kc_scv_, scv_, scv_a, scv_b, scs_, scs_a, fpi_, fpi_a, fpi_b, fpj_, fpj_a, fpj_b, foi_, foi_a, foi_b, foj_, foj_a, foj_b, aii_, aii_a, aii_b, aii_c, aiz_, aiz_a, aiz_b, aiz_c, aij_, aij_a, aij_b, aij_c, aoi_, aoi_a, aoi_b, aoi_c, aoj_, aoj_a, aoj_b, aoj_c, scopy_, scopy_a, scopy_b, scopy_c, scopy_d, scopy_e, ssw_, ssw_a, sel_n, sel_c, mfi_, mfi_a, mfj_, mfj_a, mfz_, mfz_a, kb_mfv_, mfv_, mfv_a, cut, lset, lset2, isL, Value.category, ent, entn, if_some, if_pair, if_cons, if_int, if_long, if_ref, ite_self, gz_b, ↓icb, ↓icb2, b2i_ne, ge0, ge1, ge2, ge3, ge4, ge5, ge6, ge7, ge8, ge9, ge10, ge11, ge12, ge13, ge14, lit32, nI_add, pk_mul, clt_nI, cle_nI, cgt_nI, cge_nI, ceq_nI, cne_nI, inr_nI, nI_clamp, nI_eq, nI_leI, nI_ltI, a_kb hb, a_9 hb, a_10 hb, a_11 hb, a_12 hb, a_13 hb, a_k1 hb, a_l1 hb, a_k7 hb, a_l7 hb, a_k18 hb, a_l18 hb, a_k22 hb, a_l22 hb, a_k29 hb, a_l29 hb, a_rc hb, a_kc hb, a_lc hb, a_rt hb, a_kt hb, a_lt hb, a_rp hb, a_kp hb, a_lp hb, a_rw hb, a_kw hb, a_lw hb, k98, f98_0, k61, ez', c1, ga]
      · have zz : ¬ z = nI (V i) := fun q => e (by rw [← e3, q, nI_add])
        have y : mtN Y V (i + 1) = mtN Y V i := by simp only [mtN]; rw [if_neg e]; rfl
        rw [y]
        have c2 : ceq z (nI (V i)) = false := by unfold ceq; exact decide_eq_false zz
        cases c1 : cne z (-(nI 1)) with
        | false => simp -implicitDefEqProofs (disch := omega) [wX5_alike_1, kp_, bsome, bnone, gi_s, gj_s, gr_s, gv_s, ik_, jk_, il_, jl_, rl_, i2_, i2_a, i2_b, j2_, j2_a, j2_b, i2d_, i2d_a, i2d_b, j2d_, j2d_a, j2d_b, i1_, i1_a, j1_, j1_a, i2l_, i2l_a, l2i_, l2i_a, fgi_, fgi_a, fgj_, fgj_a, fgr_, fgr_a, iald_, iald_a, iald_b, zald_, zald_a, zald_b, jald_, jald_a, jald_b, rald_, rald_a, rald_b, alen_, alen_a, sald_, sald_a, ic_, ic_a, jc_, jc_a, bc_, bc_a, bc_b, bj_, bj_a, bj_b, bz_, bz_a, band_, band_a, bor_, bor_a, bnot_, bnot_a, anil_, ai_, ai_a, ai_b, aj_, aj_a, aj_b, ar_, ar_a, ar_b, kb2i_, cvi_, cvi_a, cvi_b, cvj_, cvj_a, cvj_b, cvz_, cvz_a, cvz_b, csi_, csi_a, csj_, csj_a, csz_, csz_a, snop_, sseq_, sseq_n, sseq_s, sif_, sif_a, scut_, scut_a, ssi_, ssi_a, ssj_, ssj_a, ssr_, ssr_a, sinc_, sinc_a, sret_, sret_a, sretj_, sretj_a, sretv_, spop_, spop_a, kc_scv_, scv_, scv_a, scv_b, scs_, scs_a, fpi_, fpi_a, fpi_b, fpj_, fpj_a, fpj_b, foi_, foi_a, foi_b, foj_, foj_a, foj_b, aii_, aii_a, aii_b, aii_c, aiz_, aiz_a, aiz_b, aiz_c, aij_, aij_a, aij_b, aij_c, aoi_, aoi_a, aoi_b, aoi_c, aoj_, aoj_a, aoj_b, aoj_c, scopy_, scopy_a, scopy_b, scopy_c, scopy_d, scopy_e, ssw_, ssw_a, sel_n, sel_c, mfi_, mfi_a, mfj_, mfj_a, mfz_, mfz_a, kb_mfv_, mfv_, mfv_a, cut, lset, lset2, isL, Value.category, ent, entn, if_some, if_pair, if_cons, if_int, if_long, if_ref, ite_self, gz_b, ↓icb, ↓icb2, b2i_ne, ge0, ge1, ge2, ge3, ge4, ge5, ge6, ge7, ge8, ge9, ge10, ge11, ge12, ge13, ge14, lit32, nI_add, pk_mul, clt_nI, cle_nI, cgt_nI, cge_nI, ceq_nI, cne_nI, inr_nI, nI_clamp, nI_eq, nI_leI, nI_ltI, a_kb hb, a_9 hb, a_10 hb, a_11 hb, a_12 hb, a_13 hb, a_k1 hb, a_l1 hb, a_k7 hb, a_l7 hb, a_k18 hb, a_l18 hb, a_k22 hb, a_l22 hb, a_k29 hb, a_l29 hb, a_rc hb, a_kc hb, a_lc hb, a_rt hb, a_kt hb, a_lt hb, a_rp hb, a_kp hb, a_lp hb, a_rw hb, a_kw hb, a_lw hb, k98, f98_0, k61, ez', c1]
        | true => simp -implicitDefEqProofs (disch := omega) [wX5_alike_1, kp_, bsome, bnone, gi_s, gj_s, gr_s, gv_s, ik_, jk_, il_, jl_, rl_, i2_, i2_a, i2_b, j2_, j2_a, j2_b, i2d_, i2d_a, i2d_b, j2d_, j2d_a, j2d_b, i1_, i1_a, j1_, j1_a, i2l_, i2l_a, l2i_, l2i_a, fgi_, fgi_a, fgj_, fgj_a, fgr_, fgr_a, iald_, iald_a, iald_b, zald_, zald_a, zald_b, jald_, jald_a, jald_b, rald_, rald_a, rald_b, alen_, alen_a, sald_, sald_a, ic_, ic_a, jc_, jc_a, bc_, bc_a, bc_b, bj_, bj_a, bj_b, bz_, bz_a, band_, band_a, bor_, bor_a, bnot_, bnot_a, anil_, ai_, ai_a, ai_b, aj_, aj_a, aj_b, ar_, ar_a, ar_b, kb2i_, cvi_, cvi_a, cvi_b, cvj_, cvj_a, cvj_b, cvz_, cvz_a, cvz_b, csi_, csi_a, csj_, csj_a, csz_, csz_a, snop_, sseq_, sseq_n, sseq_s, sif_, sif_a, scut_, scut_a, ssi_, ssi_a, ssj_, ssj_a, ssr_, ssr_a, sinc_, sinc_a, sret_, sret_a, sretj_, sretj_a, sretv_, spop_, spop_a, kc_scv_, scv_, scv_a, scv_b, scs_, scs_a, fpi_, fpi_a, fpi_b, fpj_, fpj_a, fpj_b, foi_, foi_a, foi_b, foj_, foj_a, foj_b, aii_, aii_a, aii_b, aii_c, aiz_, aiz_a, aiz_b, aiz_c, aij_, aij_a, aij_b, aij_c, aoi_, aoi_a, aoi_b, aoi_c, aoj_, aoj_a, aoj_b, aoj_c, scopy_, scopy_a, scopy_b, scopy_c, scopy_d, scopy_e, ssw_, ssw_a, sel_n, sel_c, mfi_, mfi_a, mfj_, mfj_a, mfz_, mfz_a, kb_mfv_, mfv_, mfv_a, cut, lset, lset2, isL, Value.category, ent, entn, if_some, if_pair, if_cons, if_int, if_long, if_ref, ite_self, gz_b, ↓icb, ↓icb2, b2i_ne, ge0, ge1, ge2, ge3, ge4, ge5, ge6, ge7, ge8, ge9, ge10, ge11, ge12, ge13, ge14, lit32, nI_add, pk_mul, clt_nI, cle_nI, cgt_nI, cge_nI, ceq_nI, cne_nI, inr_nI, nI_clamp, nI_eq, nI_leI, nI_ltI, a_kb hb, a_9 hb, a_10 hb, a_11 hb, a_12 hb, a_13 hb, a_k1 hb, a_l1 hb, a_k7 hb, a_l7 hb, a_k18 hb, a_l18 hb, a_k22 hb, a_l22 hb, a_k29 hb, a_l29 hb, a_rc hb, a_kc hb, a_lc hb, a_rt hb, a_kt hb, a_lt hb, a_rp hb, a_kp hb, a_lp hb, a_rw hb, a_kw hb, a_lw hb, k98, f98_0, k61, ez', c1, ga, c2])
    (by simp -implicitDefEqProofs (disch := omega) [qX5_alike_1, kp_, bsome, bnone, gi_s, gj_s, gr_s, gv_s, ik_, jk_, il_, jl_, rl_, i2_, i2_a, i2_b, j2_, j2_a, j2_b, i2d_, i2d_a, i2d_b, j2d_, j2d_a, j2d_b, i1_, i1_a, j1_, j1_a, i2l_, i2l_a, l2i_, l2i_a, fgi_, fgi_a, fgj_, fgj_a, fgr_, fgr_a, iald_, iald_a, iald_b, zald_, zald_a, zald_b, jald_, jald_a, jald_b, rald_, rald_a, rald_b, alen_, alen_a, sald_, sald_a, ic_, ic_a, jc_, jc_a, bc_, bc_a, bc_b, bj_, bj_a, bj_b, bz_, bz_a, band_, band_a, bor_, bor_a, bnot_, bnot_a, anil_, ai_, ai_a, ai_b, aj_, aj_a, aj_b, ar_, ar_a, ar_b, kb2i_, cvi_, cvi_a, cvi_b, cvj_, cvj_a, cvj_b, cvz_, cvz_a, cvz_b, csi_, csi_a, csj_, csj_a, csz_, csz_a, snop_, sseq_, sseq_n, sseq_s, sif_, sif_a, scut_, scut_a, ssi_, ssi_a, ssj_, ssj_a, ssr_, ssr_a, sinc_, sinc_a, sret_, sret_a, sretj_, sretj_a, sretv_, spop_, spop_a, kc_scv_, scv_, scv_a, scv_b, scs_, scs_a, fpi_, fpi_a, fpi_b, fpj_, fpj_a, fpj_b, foi_, foi_a, foi_b, foj_, foj_a, foj_b, aii_, aii_a, aii_b, aii_c, aiz_, aiz_a, aiz_b, aiz_c, aij_, aij_a, aij_b, aij_c, aoi_, aoi_a, aoi_b, aoi_c, aoj_, aoj_a, aoj_b, aoj_c, scopy_, scopy_a, scopy_b, scopy_c, scopy_d, scopy_e, ssw_, ssw_a, sel_n, sel_c, mfi_, mfi_a, mfj_, mfj_a, mfz_, mfz_a, kb_mfv_, mfv_, mfv_a, cut, lset, lset2, isL, Value.category, ent, entn, if_some, if_pair, if_cons, if_int, if_long, if_ref, ite_self, gz_b, ↓icb, ↓icb2, b2i_ne, ge0, ge1, ge2, ge3, ge4, ge5, ge6, ge7, ge8, ge9, ge10, ge11, ge12, ge13, ge14, lit32, nI_add, pk_mul, clt_nI, cle_nI, cgt_nI, cge_nI, ceq_nI, cne_nI, inr_nI, nI_clamp, nI_eq, nI_leI, nI_ltI, a_kb hb, a_9 hb, a_10 hb, a_11 hb, a_12 hb, a_13 hb, a_k1 hb, a_l1 hb, a_k7 hb, a_l7 hb, a_k18 hb, a_l18 hb, a_k22 hb, a_l22 hb, a_k29 hb, a_l29 hb, a_rc hb, a_kc hb, a_lc hb, a_rt hb, a_kt hb, a_lt hb, a_rp hb, a_kp hb, a_lp hb, a_rw hb, a_kw hb, a_lw hb, hn])
  simp -implicitDefEqProofs (disch := omega) [DX5_alike, EX5_alike, kp_, bsome, bnone, gi_s, gj_s, gr_s, gv_s, ik_, jk_, il_, jl_, rl_, i2_, i2_a, i2_b, j2_, j2_a, j2_b, i2d_, i2d_a, i2d_b, j2d_, j2d_a, j2d_b, i1_, i1_a, j1_, j1_a, i2l_, i2l_a, l2i_, l2i_a, fgi_, fgi_a, fgj_, fgj_a, fgr_, fgr_a, iald_, iald_a, iald_b, zald_, zald_a, zald_b, jald_, jald_a, jald_b, rald_, rald_a, rald_b, alen_, alen_a, sald_, sald_a, ic_, ic_a, jc_, jc_a, bc_, bc_a, bc_b, bj_, bj_a, bj_b, bz_, bz_a, band_, band_a, bor_, bor_a, bnot_, bnot_a, anil_, ai_, ai_a, ai_b, aj_, aj_a, aj_b, ar_, ar_a, ar_b, kb2i_, cvi_, cvi_a, cvi_b, cvj_, cvj_a, cvj_b, cvz_, cvz_a, cvz_b, csi_, csi_a, csj_, csj_a, csz_, csz_a, snop_, sseq_, sseq_n, sseq_s, sif_, sif_a, scut_, scut_a, ssi_, ssi_a, ssj_, ssj_a, ssr_, ssr_a, sinc_, sinc_a, sret_, sret_a, sretj_, sretj_a, sretv_, spop_, spop_a, kc_scv_, scv_, scv_a, scv_b, scs_, scs_a, fpi_, fpi_a, fpi_b, fpj_, fpj_a, fpj_b, foi_, foi_a, foi_b, foj_, foj_a, foj_b, aii_, aii_a, aii_b, aii_c, aiz_, aiz_a, aiz_b, aiz_c, aij_, aij_a, aij_b, aij_c, aoi_, aoi_a, aoi_b, aoi_c, aoj_, aoj_a, aoj_b, aoj_c, scopy_, scopy_a, scopy_b, scopy_c, scopy_d, scopy_e, ssw_, ssw_a, sel_n, sel_c, mfi_, mfi_a, mfj_, mfj_a, mfz_, mfz_a, kb_mfv_, mfv_, mfv_a, cut, lset, lset2, isL, Value.category, ent, entn, if_some, if_pair, if_cons, if_int, if_long, if_ref, ite_self, gz_b, ↓icb, ↓icb2, b2i_ne, ge0, ge1, ge2, ge3, ge4, ge5, ge6, ge7, ge8, ge9, ge10, ge11, ge12, ge13, ge14, lit32, nI_add, pk_mul, clt_nI, cle_nI, cgt_nI, cge_nI, ceq_nI, cne_nI, inr_nI, nI_clamp, nI_eq, nI_leI, nI_ltI, l1]
set_option maxRecDepth 20000 in
theorem c_add (h : SkC P L q m) (hl : L.length ≤ 2000) : ∃ Q, DX5_add [.ref 98, .int (nI j), .int (nI s)] P = some Q ∧ SkC Q (L ++ [(j, s)]) q m ∧ (∀ a, a ≠ 98 → a ≠ 99 → a ≠ 100 → Q.1 a = P.1 a) ∧ Q.2 = P.2 := by
  obtain ⟨h4, h5, h6, h7, h8, h9⟩ := h
  have arr : ∀ i p, (L ++ [(j, s)])[i]? = some p → (i < L.length ∧ L[i]? = some p) ∨ (i = L.length ∧ p = (j, s)) := fun i p hp => by
    rw [List.getElem?_append] at hp
    split at hp
    · exact Or.inl ⟨by assumption, hp⟩
    · rename_i z
      by_cases e : i = L.length
      · rw [e, Nat.sub_self] at hp
        cases hp
        exact Or.inr ⟨e, rfl⟩
      · rw [List.getElem?_eq_none (by simp only [List.length_singleton]; omega)] at hp
        cases hp
  by_cases z0 : L.length = 0
  · rw [z0] at h4
    obtain ⟨A, eA⟩ : ∃ A : Me, A = wi (wi P 98 5 (nI j)) 98 6 (nI s) := ⟨_, rfl⟩
    have a4 : A.1 98 4 = nI 0 := by rw [eA, wi_ns (by decide), wi_ns (by decide)]; exact h4
    obtain ⟨B, eB⟩ : ∃ B : Me, B = wi (wi A 99 0 (nI j)) 100 0 (nI s) := ⟨_, rfl⟩
    have b4 : B.1 98 4 = nI 0 := by rw [eB, wi_ne (by decide), wi_ne (by decide)]; exact a4
    have b4' : (wi A 99 0 (nI j)).1 98 4 = nI 0 := by rw [wi_ne (by decide)]; exact a4
    refine ⟨wi B 98 4 (nI 1), ?_, ⟨?_, ?_, ?_, ?_, ?_, fun i p hi hp => ?_⟩, fun a n1 n2 n3 => ?_, ?_⟩
    · rw [eB] at b4 ⊢
      rw [eA] at a4 b4' b4 ⊢
      simp -implicitDefEqProofs (disch := omega) [DX5_add, EX5_add, kp_, bsome, bnone, gi_s, gj_s, gr_s, gv_s, ik_, jk_, il_, jl_, rl_, i2_, i2_a, i2_b, j2_, j2_a, j2_b, i2d_, i2d_a, i2d_b, j2d_, j2d_a, j2d_b, i1_, i1_a, j1_, j1_a, i2l_, i2l_a, l2i_, l2i_a, fgi_, fgi_a, fgj_, fgj_a, fgr_, fgr_a, iald_, iald_a, iald_b, zald_, zald_a, zald_b, jald_, jald_a, jald_b, rald_, rald_a, rald_b, alen_, alen_a, sald_, sald_a, ic_, ic_a, jc_, jc_a, bc_, bc_a, bc_b, bj_, bj_a, bj_b, bz_, bz_a, band_, band_a, bor_, bor_a, bnot_, bnot_a, anil_, ai_, ai_a, ai_b, aj_, aj_a, aj_b, ar_, ar_a, ar_b, kb2i_, cvi_, cvi_a, cvi_b, cvj_, cvj_a, cvj_b, cvz_, cvz_a, cvz_b, csi_, csi_a, csj_, csj_a, csz_, csz_a, snop_, sseq_, sseq_n, sseq_s, sif_, sif_a, scut_, scut_a, ssi_, ssi_a, ssj_, ssj_a, ssr_, ssr_a, sinc_, sinc_a, sret_, sret_a, sretj_, sretj_a, sretv_, spop_, spop_a, kc_scv_, scv_, scv_a, scv_b, scs_, scs_a, fpi_, fpi_a, fpi_b, fpj_, fpj_a, fpj_b, foi_, foi_a, foi_b, foj_, foj_a, foj_b, aii_, aii_a, aii_b, aii_c, aiz_, aiz_a, aiz_b, aiz_c, aij_, aij_a, aij_b, aij_c, aoi_, aoi_a, aoi_b, aoi_c, aoj_, aoj_a, aoj_b, aoj_c, scopy_, scopy_a, scopy_b, scopy_c, scopy_d, scopy_e, ssw_, ssw_a, sel_n, sel_c, mfi_, mfi_a, mfj_, mfj_a, mfz_, mfz_a, kb_mfv_, mfv_, mfv_a, cut, lset, lset2, isL, Value.category, ent, entn, if_some, if_pair, if_cons, if_int, if_long, if_ref, ite_self, gz_b, ↓icb, ↓icb2, b2i_ne, ge0, ge1, ge2, ge3, ge4, ge5, ge6, ge7, ge8, ge9, ge10, ge11, ge12, ge13, ge14, lit32, nI_add, pk_mul, clt_nI, cle_nI, cgt_nI, cge_nI, ceq_nI, cne_nI, inr_nI, nI_clamp, nI_eq, nI_leI, nI_ltI, k98, f98_1, f98_2, k99, l99, k100, l100, h4, a4, b4', b4]
    · rw [wi_at, List.length_append, z0]; rfl
    · rw [hdJ_add, if_pos z0, wi_ns (by decide), eB, wi_ne (by decide), wi_ne (by decide), eA, wi_ns (by decide), wi_at]
    · rw [hdS_add, if_pos z0, wi_ns (by decide), eB, wi_ne (by decide), wi_ne (by decide), eA, wi_at]
    · rw [wi_ns (by decide), eB, wi_ne (by decide), wi_ne (by decide), eA, wi_ns (by decide), wi_ns (by decide)]; exact h7
    · rw [wi_ns (by decide), eB, wi_ne (by decide), wi_ne (by decide), eA, wi_ns (by decide), wi_ns (by decide)]; exact h8
    · rcases arr i p hp with ⟨q1, -⟩ | ⟨q1, q2⟩
      · omega
      · rw [q2, q1, z0]
        refine ⟨?_, ?_⟩
        · rw [wi_ne (by decide), eB, wi_ne (by decide), wi_at]
        · rw [wi_ne (by decide), eB, wi_at]
    · rw [wi_ne n1, eB, wi_ne n3, wi_ne n2, eA, wi_ne n1, wi_ne n1]
    · rw [eB, eA]; rfl
  · by_cases z20 : L.length < 20
    · obtain ⟨B, eB⟩ : ∃ B : Me, B = wi (wi P 99 L.length (nI j)) 100 L.length (nI s) := ⟨_, rfl⟩
      have b4 : B.1 98 4 = nI L.length := by rw [eB, wi_ne (by decide), wi_ne (by decide)]; exact h4
      have b4' : (wi P 99 L.length (nI j)).1 98 4 = nI L.length := by rw [wi_ne (by decide)]; exact h4
      refine ⟨wi B 98 4 (nI (L.length + 1)), ?_, ⟨?_, ?_, ?_, ?_, ?_, fun i p hi hp => ?_⟩, fun a n1 n2 n3 => ?_, ?_⟩
      · rw [eB] at b4 ⊢
        simp -implicitDefEqProofs (disch := omega) [DX5_add, EX5_add, kp_, bsome, bnone, gi_s, gj_s, gr_s, gv_s, ik_, jk_, il_, jl_, rl_, i2_, i2_a, i2_b, j2_, j2_a, j2_b, i2d_, i2d_a, i2d_b, j2d_, j2d_a, j2d_b, i1_, i1_a, j1_, j1_a, i2l_, i2l_a, l2i_, l2i_a, fgi_, fgi_a, fgj_, fgj_a, fgr_, fgr_a, iald_, iald_a, iald_b, zald_, zald_a, zald_b, jald_, jald_a, jald_b, rald_, rald_a, rald_b, alen_, alen_a, sald_, sald_a, ic_, ic_a, jc_, jc_a, bc_, bc_a, bc_b, bj_, bj_a, bj_b, bz_, bz_a, band_, band_a, bor_, bor_a, bnot_, bnot_a, anil_, ai_, ai_a, ai_b, aj_, aj_a, aj_b, ar_, ar_a, ar_b, kb2i_, cvi_, cvi_a, cvi_b, cvj_, cvj_a, cvj_b, cvz_, cvz_a, cvz_b, csi_, csi_a, csj_, csj_a, csz_, csz_a, snop_, sseq_, sseq_n, sseq_s, sif_, sif_a, scut_, scut_a, ssi_, ssi_a, ssj_, ssj_a, ssr_, ssr_a, sinc_, sinc_a, sret_, sret_a, sretj_, sretj_a, sretv_, spop_, spop_a, kc_scv_, scv_, scv_a, scv_b, scs_, scs_a, fpi_, fpi_a, fpi_b, fpj_, fpj_a, fpj_b, foi_, foi_a, foi_b, foj_, foj_a, foj_b, aii_, aii_a, aii_b, aii_c, aiz_, aiz_a, aiz_b, aiz_c, aij_, aij_a, aij_b, aij_c, aoi_, aoi_a, aoi_b, aoi_c, aoj_, aoj_a, aoj_b, aoj_c, scopy_, scopy_a, scopy_b, scopy_c, scopy_d, scopy_e, ssw_, ssw_a, sel_n, sel_c, mfi_, mfi_a, mfj_, mfj_a, mfz_, mfz_a, kb_mfv_, mfv_, mfv_a, cut, lset, lset2, isL, Value.category, ent, entn, if_some, if_pair, if_cons, if_int, if_long, if_ref, ite_self, gz_b, ↓icb, ↓icb2, b2i_ne, ge0, ge1, ge2, ge3, ge4, ge5, ge6, ge7, ge8, ge9, ge10, ge11, ge12, ge13, ge14, lit32, nI_add, pk_mul, clt_nI, cle_nI, cgt_nI, cge_nI, ceq_nI, cne_nI, inr_nI, nI_clamp, nI_eq, nI_leI, nI_ltI, k98, f98_1, f98_2, k99, l99, k100, l100, h4, z0, z20, b4', b4]
      · rw [wi_at, List.length_append]; rfl
      · rw [hdJ_add, if_neg z0, wi_ns (by decide), eB, wi_ne (by decide), wi_ne (by decide)]; exact h5
      · rw [hdS_add, if_neg z0, wi_ns (by decide), eB, wi_ne (by decide), wi_ne (by decide)]; exact h6
      · rw [wi_ns (by decide), eB, wi_ne (by decide), wi_ne (by decide)]; exact h7
      · rw [wi_ns (by decide), eB, wi_ne (by decide), wi_ne (by decide)]; exact h8
      · rcases arr i p hp with ⟨q1, q2⟩ | ⟨q1, q2⟩
        · rw [wi_ne (by decide), wi_ne (by decide), eB, wi_ne (by decide), wi_ns (by omega), wi_ns (by omega), wi_ne (by decide)]
          exact h9 i p hi q2
        · rw [q2, q1]
          refine ⟨?_, ?_⟩
          · rw [wi_ne (by decide), eB, wi_ne (by decide), wi_at]
          · rw [wi_ne (by decide), eB, wi_at]
      · rw [wi_ne n1, eB, wi_ne n3, wi_ne n2]
      · rw [eB]; rfl
    · refine ⟨wi P 98 4 (nI (L.length + 1)), ?_, ⟨?_, ?_, ?_, ?_, ?_, fun i p hi hp => ?_⟩, fun a n1 n2 n3 => wi_ne n1, rfl⟩
      · simp -implicitDefEqProofs (disch := omega) [DX5_add, EX5_add, kp_, bsome, bnone, gi_s, gj_s, gr_s, gv_s, ik_, jk_, il_, jl_, rl_, i2_, i2_a, i2_b, j2_, j2_a, j2_b, i2d_, i2d_a, i2d_b, j2d_, j2d_a, j2d_b, i1_, i1_a, j1_, j1_a, i2l_, i2l_a, l2i_, l2i_a, fgi_, fgi_a, fgj_, fgj_a, fgr_, fgr_a, iald_, iald_a, iald_b, zald_, zald_a, zald_b, jald_, jald_a, jald_b, rald_, rald_a, rald_b, alen_, alen_a, sald_, sald_a, ic_, ic_a, jc_, jc_a, bc_, bc_a, bc_b, bj_, bj_a, bj_b, bz_, bz_a, band_, band_a, bor_, bor_a, bnot_, bnot_a, anil_, ai_, ai_a, ai_b, aj_, aj_a, aj_b, ar_, ar_a, ar_b, kb2i_, cvi_, cvi_a, cvi_b, cvj_, cvj_a, cvj_b, cvz_, cvz_a, cvz_b, csi_, csi_a, csj_, csj_a, csz_, csz_a, snop_, sseq_, sseq_n, sseq_s, sif_, sif_a, scut_, scut_a, ssi_, ssi_a, ssj_, ssj_a, ssr_, ssr_a, sinc_, sinc_a, sret_, sret_a, sretj_, sretj_a, sretv_, spop_, spop_a, kc_scv_, scv_, scv_a, scv_b, scs_, scs_a, fpi_, fpi_a, fpi_b, fpj_, fpj_a, fpj_b, foi_, foi_a, foi_b, foj_, foj_a, foj_b, aii_, aii_a, aii_b, aii_c, aiz_, aiz_a, aiz_b, aiz_c, aij_, aij_a, aij_b, aij_c, aoi_, aoi_a, aoi_b, aoi_c, aoj_, aoj_a, aoj_b, aoj_c, scopy_, scopy_a, scopy_b, scopy_c, scopy_d, scopy_e, ssw_, ssw_a, sel_n, sel_c, mfi_, mfi_a, mfj_, mfj_a, mfz_, mfz_a, kb_mfv_, mfv_, mfv_a, cut, lset, lset2, isL, Value.category, ent, entn, if_some, if_pair, if_cons, if_int, if_long, if_ref, ite_self, gz_b, ↓icb, ↓icb2, b2i_ne, ge0, ge1, ge2, ge3, ge4, ge5, ge6, ge7, ge8, ge9, ge10, ge11, ge12, ge13, ge14, lit32, nI_add, pk_mul, clt_nI, cle_nI, cgt_nI, cge_nI, ceq_nI, cne_nI, inr_nI, nI_clamp, nI_eq, nI_leI, nI_ltI, k98, f98_1, f98_2, h4, z0, z20]
      · rw [wi_at, List.length_append]; rfl
      · rw [hdJ_add, if_neg z0, wi_ns (by decide)]; exact h5
      · rw [hdS_add, if_neg z0, wi_ns (by decide)]; exact h6
      · rw [wi_ns (by decide)]; exact h7
      · rw [wi_ns (by decide)]; exact h8
      · rcases arr i p hp with ⟨q1, q2⟩ | ⟨q1, q2⟩
        · rw [wi_ne (by decide), wi_ne (by decide)]
          exact h9 i p hi q2
        · omega
end
