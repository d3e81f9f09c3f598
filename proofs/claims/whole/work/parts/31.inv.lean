/-! ===== what holds between the calls ===== -/
def Bd (x : Int32) (h : Nat) : Prop := ∃ k : Nat, x = nI k ∧ k ≤ h
def VxT (X : Nat → Int32) (nc t : Nat) : Prop := ∃ f g d o : Nat, X (28 + 4 * t) = nI f ∧ X (28 + 4 * t + 1) = nI g ∧ f < nc ∧ g < nc ∧ f ≠ g ∧ X (28 + 4 * t + 2) = nI d ∧ 1 ≤ d ∧ d ≤ 12 ∧ X (28 + 4 * t + 3) = nI o ∧ o ≤ 1
def VxP (X : Nat → Int32) (nc tm p : Nat) : Prop := ∃ a o s0 s1 s2 b0 b1 tr td : Nat, (X (68 + 9 * p) = nI a ∧ X (68 + 9 * p + 1) = nI o ∧ X (68 + 9 * p + 2) = nI s0 ∧ X (68 + 9 * p + 3) = nI s1 ∧ X (68 + 9 * p + 4) = nI s2 ∧ X (68 + 9 * p + 5) = nI b0 ∧ X (68 + 9 * p + 6) = nI b1 ∧ X (68 + 9 * p + 7) = nI tr ∧ X (68 + 9 * p + 8) = nI td) ∧ a < nc ∧ o ≤ 1 ∧ s0 ≤ 40 ∧ s1 ≤ 40 ∧ s2 ≤ 40 ∧ 1 ≤ s0 + s1 + s2 ∧ 1 ≤ b0 ∧ b0 < b1 ∧ b1 ≤ 9999 ∧ tr ≤ 9999 ∧ td ≤ tm ∧ td ≤ 10000
def VxW (X : Nat → Int32) (w : Nat) : Prop := ∃ k x n q y : Nat, X (95 + 6 * w) = nI k ∧ X (95 + 6 * w + 1) = nI x ∧ X (95 + 6 * w + 2) = nI n ∧ X (95 + 6 * w + 3) = nI q ∧ X (95 + 6 * w + 4) = nI y ∧ k ≤ 2 ∧ x ≤ 9 ∧ n ≤ 99999999 ∧ q ≤ 4 ∧ y ≤ 9
def VxL (X : Nat → Int32) (nc nt : Nat) : Prop := (X 5 = -(nI 1) ∧ X 6 = nI 0) ∨ ∃ j s : Nat, X 5 = nI j ∧ X 6 = nI s ∧ 1 ≤ s ∧ s ≤ 60 ∧ (j < nc ∨ (10 ≤ j ∧ j < 10 + nt))
/-! a row of numbers that the reference may have -/
def VxB (X : Nat → Int32) (nc nt np nw tm tB : Nat) : Prop :=
  (X 0 = nI nc ∧ X 1 = nI nt ∧ X 2 = nI np ∧ X 3 = nI nw ∧ X 4 = nI tm ∧ X 7 = nI (min tm 40)) ∧ (nc ≤ 5 ∧ nt ≤ 10 ∧ np ≤ 3 ∧ nw ≤ 6 ∧ tm ≤ 9999) ∧ VxL X nc nt ∧
  (∀ c, c < nc → Bd (X (8 + 4 * c)) 99 ∧ Bd (X (8 + 4 * c + 1)) 4999 ∧ Bd (X (8 + 4 * c + 2)) 9 ∧ Bd (X (8 + 4 * c + 3)) 100000000) ∧
  (∀ t, t < nt → VxT X nc t) ∧ (∀ p, p < np → VxP X nc tB p) ∧ (∀ w, w < nw → VxW X w) ∧
  (∀ c, c < nc → Bd (wtP X (nI c) (wtT X (nI c) nt) np) 120) ∧ (∀ k, k < min tm 40 → ∀ c, nc ≤ c → c < 5 → X (131 + 5 * k + c) = -(nI 1))
def Vx (X : Nat → Int32) (nc nt np nw tm : Nat) : Prop := VxB X nc nt np nw tm tm
def lnb : List Nat := [1, 31, 128, 158, 188, 218, 248, 278, 308, 338, 368, 398, 430, 460]
/-! the line at b holds the row X -/
def Lr (M : Me) (b : Nat) (X : Nat → Int32) (nc nt np nw tm : Nat) : Prop := b ∈ lnb ∧
  (M.1 b 0 = nI nc ∧ M.1 b 1 = nI nt ∧ M.1 b 2 = nI np ∧ M.1 b 3 = nI nw ∧ M.1 b 4 = nI tm ∧ M.1 b 5 = X 5 ∧ M.1 b 6 = X 6) ∧
  (∀ c, c < nc → ∀ j, j < 3 → M.1 (b + 2 + c) j = X (8 + 4 * c + j)) ∧ (∀ c, c < nc → M.1 (b + 2 + c) 3 + nI 1 = X (8 + 4 * c + 3)) ∧
  (∀ t, t < nt → ∀ j, j < 4 → M.1 (b + 8 + t) j = X (28 + 4 * t + j)) ∧ (∀ p, p < np → ∀ j, j < 9 → M.1 (b + 19 + p) j = X (68 + 9 * p + j)) ∧ (∀ w, w < nw → ∀ j, j < 6 → M.1 (b + 23 + w) j = X (95 + 6 * w + j)) ∧
  (∀ k, k < min tm 40 → ∀ c, c < 5 → M.1 (b + 29) ((tm - min tm 40 + k) % 40 * 5 + c) = X (131 + 5 * k + c))
/-! no helper -/
def Nh (M : Me) (b : Nat) : Prop := M.1 b 7 = -(nI 1) ∧ M.1 b 8 = nI 0
set_option maxRecDepth 20000 in
theorem Lr.frame {M M' : Me} {b : Nat} {X : Nat → Int32} {nc nt np nw tm : Nat} (h : Lr M b X nc nt np nw tm) (hc : nc ≤ 5) (ht : nt ≤ 10) (hp : np ≤ 3) (hw : nw ≤ 6) (hf : ∀ a, b ≤ a → a < b + 30 → M'.1 a = M.1 a) : Lr M' b X nc nt np nw tm := by
  obtain ⟨h0, h1, h2, h3, h4, h5, h6, h7⟩ := h
  refine ⟨h0, ?_, fun c hc1 j hj => ?_, fun c hc1 => ?_, fun t ht1 j hj => ?_, fun p hp1 j hj => ?_, fun w hw1 j hj => ?_, fun k hk c hc1 => ?_⟩
  · rw [hf b (by omega) (by omega)]; exact h1
  · rw [hf _ (by omega) (by omega)]; exact h2 c hc1 j hj
  · rw [hf _ (by omega) (by omega)]; exact h3 c hc1
  · rw [hf _ (by omega) (by omega)]; exact h4 t ht1 j hj
  · rw [hf _ (by omega) (by omega)]; exact h5 p hp1 j hj
  · rw [hf _ (by omega) (by omega)]; exact h6 w hw1 j hj
  · rw [hf _ (by omega) (by omega)]; exact h7 k hk c hc1
set_option maxRecDepth 20000 in
theorem Lr.row {M : Me} {b : Nat} {X Y : Nat → Int32} {nc nt np nw tm : Nat} (h : Lr M b X nc nt np nw tm) (hc : nc ≤ 5) (ht : nt ≤ 10) (hp : np ≤ 3) (hw : nw ≤ 6) (hf : ∀ i, i < 331 → Y i = X i) : Lr M b Y nc nt np nw tm := by
  obtain ⟨h0, h1, h2, h3, h4, h5, h6, h7⟩ := h
  refine ⟨h0, ?_, fun c hc1 j hj => ?_, fun c hc1 => ?_, fun t ht1 j hj => ?_, fun p hp1 j hj => ?_, fun w hw1 j hj => ?_, fun k hk c hc1 => ?_⟩
  · rw [hf 5 (by omega), hf 6 (by omega)]; exact h1
  · rw [hf _ (by omega)]; exact h2 c hc1 j hj
  · rw [hf _ (by omega)]; exact h3 c hc1
  · rw [hf _ (by omega)]; exact h4 t ht1 j hj
  · rw [hf _ (by omega)]; exact h5 p hp1 j hj
  · rw [hf _ (by omega)]; exact h6 w hw1 j hj
  · rw [hf _ (by omega)]; exact h7 k hk c hc1
set_option maxRecDepth 20000 in
theorem gsp_row {X Y : Nat → Int32} {p : Nat} (hp : p < 3) (hf : ∀ i, i < 331 → Y i = X i) : ∀ k, k ≤ 3 → gsp Y p k = gsp X p k
  | 0, _ => rfl
  | k + 1, hk => by simp only [gsp]; rw [gsp_row hp hf k (by omega), hf _ (by omega)]
set_option maxRecDepth 20000 in
theorem wtT_row {X Y : Nat → Int32} {x : Int32} (hf : ∀ i, i < 331 → Y i = X i) : ∀ n, n ≤ 10 → wtT Y x n = wtT X x n
  | 0, _ => rfl
  | n + 1, hn => by simp only [wtT]; rw [wtT_row hf n (by omega), hf _ (by omega), hf _ (by omega), hf _ (by omega)]
set_option maxRecDepth 20000 in
theorem wtP_row {X Y : Nat → Int32} {x z : Int32} (hf : ∀ i, i < 331 → Y i = X i) : ∀ n, n ≤ 3 → wtP Y x z n = wtP X x z n
  | 0, _ => rfl
  | n + 1, hn => by simp only [wtP]; rw [wtP_row hf n (by omega), hf _ (by omega), gsp_row (by omega) hf 3 (by omega)]
set_option maxRecDepth 20000 in
theorem VxB.row {X Y : Nat → Int32} {nc nt np nw tm tB : Nat} (h : VxB X nc nt np nw tm tB) (hf : ∀ i, i < 331 → Y i = X i) : VxB Y nc nt np nw tm tB := by
  obtain ⟨h1, h2, h3, h4, h5, h6, h7, h8, h9⟩ := h
  refine ⟨?_, h2, ?_, fun c hc => ?_, fun t ht => ?_, fun p hp => ?_, fun w hw => ?_, fun c hc => ?_, fun k hk c hc hc5 => ?_⟩
  · rw [hf 0 (by omega), hf 1 (by omega), hf 2 (by omega), hf 3 (by omega), hf 4 (by omega), hf 7 (by omega)]; exact h1
  · unfold VxL; rw [hf 5 (by omega), hf 6 (by omega)]; exact h3
  · rw [hf _ (by omega), hf _ (by omega), hf _ (by omega), hf _ (by omega)]; exact h4 c hc
  · unfold VxT; rw [hf _ (by omega), hf _ (by omega), hf _ (by omega), hf _ (by omega)]; exact h5 t ht
  · unfold VxP
    rw [hf _ (by omega), hf _ (by omega), hf _ (by omega), hf _ (by omega), hf _ (by omega), hf _ (by omega), hf _ (by omega), hf _ (by omega), hf _ (by omega)]; exact h6 p hp
  · unfold VxW; rw [hf _ (by omega), hf _ (by omega), hf _ (by omega), hf _ (by omega), hf _ (by omega)]; exact h7 w hw
  · rw [wtP_row hf np h2.2.2.1, wtT_row hf nt h2.2.1]; exact h8 c hc
  · rw [hf _ (by omega)]; exact h9 k hk c hc hc5
theorem Vx.row {X Y : Nat → Int32} {nc nt np nw tm : Nat} (h : Vx X nc nt np nw tm) (hf : ∀ i, i < 331 → Y i = X i) : Vx Y nc nt np nw tm := VxB.row h hf
/-! the line's cells -/
theorem ln_dec : ∀ b ∈ lnb, kd b = 1 ∧ rf b 9 = b + 1 ∧ rf b 10 = b + 7 ∧ rf b 11 = b + 18 ∧ rf b 12 = b + 22 ∧ rf b 13 = b + 29 ∧ kd (b + 1) = 12 ∧ ln (b + 1) = 5 ∧ kd (b + 7) = 12 ∧ ln (b + 7) = 10 ∧ kd (b + 18) = 12 ∧ ln (b + 18) = 3 ∧ kd (b + 22) = 12 ∧ ln (b + 22) = 6 ∧ kd (b + 29) = 8 ∧ ln (b + 29) = 200 := by decide +kernel
theorem ln_cd : ∀ b ∈ lnb, ∀ c, c < 5 → rf (b + 1) c = b + 2 + c ∧ kd (b + 2 + c) = 8 ∧ ln (b + 2 + c) = 4 := by decide +kernel
theorem ln_td : ∀ b ∈ lnb, ∀ t, t < 10 → rf (b + 7) t = b + 8 + t ∧ kd (b + 8 + t) = 8 ∧ ln (b + 8 + t) = 4 := by decide +kernel
theorem ln_pd : ∀ b ∈ lnb, ∀ t, t < 3 → rf (b + 18) t = b + 19 + t ∧ kd (b + 19 + t) = 8 ∧ ln (b + 19 + t) = 9 := by decide +kernel
theorem ln_wd : ∀ b ∈ lnb, ∀ t, t < 6 → rf (b + 22) t = b + 23 + t ∧ kd (b + 23 + t) = 8 ∧ ln (b + 23 + t) = 6 := by decide +kernel
section
variable {b : Nat}
theorem a_kb (h : b ∈ lnb) : kd b = 1 := (ln_dec b h).1
theorem a_9 (h : b ∈ lnb) : rf b 9 = b + 1 := (ln_dec b h).2.1
theorem a_10 (h : b ∈ lnb) : rf b 10 = b + 7 := (ln_dec b h).2.2.1
theorem a_11 (h : b ∈ lnb) : rf b 11 = b + 18 := (ln_dec b h).2.2.2.1
theorem a_12 (h : b ∈ lnb) : rf b 12 = b + 22 := (ln_dec b h).2.2.2.2.1
theorem a_13 (h : b ∈ lnb) : rf b 13 = b + 29 := (ln_dec b h).2.2.2.2.2.1
theorem a_k1 (h : b ∈ lnb) : kd (b + 1) = 12 := (ln_dec b h).2.2.2.2.2.2.1
theorem a_l1 (h : b ∈ lnb) : ln (b + 1) = 5 := (ln_dec b h).2.2.2.2.2.2.2.1
theorem a_k7 (h : b ∈ lnb) : kd (b + 7) = 12 := (ln_dec b h).2.2.2.2.2.2.2.2.1
theorem a_l7 (h : b ∈ lnb) : ln (b + 7) = 10 := (ln_dec b h).2.2.2.2.2.2.2.2.2.1
theorem a_k18 (h : b ∈ lnb) : kd (b + 18) = 12 := (ln_dec b h).2.2.2.2.2.2.2.2.2.2.1
theorem a_l18 (h : b ∈ lnb) : ln (b + 18) = 3 := (ln_dec b h).2.2.2.2.2.2.2.2.2.2.2.1
theorem a_k22 (h : b ∈ lnb) : kd (b + 22) = 12 := (ln_dec b h).2.2.2.2.2.2.2.2.2.2.2.2.1
theorem a_l22 (h : b ∈ lnb) : ln (b + 22) = 6 := (ln_dec b h).2.2.2.2.2.2.2.2.2.2.2.2.2.1
theorem a_k29 (h : b ∈ lnb) : kd (b + 29) = 8 := (ln_dec b h).2.2.2.2.2.2.2.2.2.2.2.2.2.2.1
theorem a_l29 (h : b ∈ lnb) : ln (b + 29) = 200 := (ln_dec b h).2.2.2.2.2.2.2.2.2.2.2.2.2.2.2
theorem a_rc (h : b ∈ lnb) (c : Nat) (hc : c < 5) : rf (b + 1) c = b + 2 + c := (ln_cd b h c hc).1
theorem a_kc (h : b ∈ lnb) (c : Nat) (hc : c < 5) : kd (b + 2 + c) = 8 := (ln_cd b h c hc).2.1
theorem a_lc (h : b ∈ lnb) (c : Nat) (hc : c < 5) : ln (b + 2 + c) = 4 := (ln_cd b h c hc).2.2
theorem a_rt (h : b ∈ lnb) (c : Nat) (hc : c < 10) : rf (b + 7) c = b + 8 + c := (ln_td b h c hc).1
theorem a_kt (h : b ∈ lnb) (c : Nat) (hc : c < 10) : kd (b + 8 + c) = 8 := (ln_td b h c hc).2.1
theorem a_lt (h : b ∈ lnb) (c : Nat) (hc : c < 10) : ln (b + 8 + c) = 4 := (ln_td b h c hc).2.2
theorem a_rp (h : b ∈ lnb) (c : Nat) (hc : c < 3) : rf (b + 18) c = b + 19 + c := (ln_pd b h c hc).1
theorem a_kp (h : b ∈ lnb) (c : Nat) (hc : c < 3) : kd (b + 19 + c) = 8 := (ln_pd b h c hc).2.1
theorem a_lp (h : b ∈ lnb) (c : Nat) (hc : c < 3) : ln (b + 19 + c) = 9 := (ln_pd b h c hc).2.2
theorem a_rw (h : b ∈ lnb) (c : Nat) (hc : c < 6) : rf (b + 22) c = b + 23 + c := (ln_wd b h c hc).1
theorem a_kw (h : b ∈ lnb) (c : Nat) (hc : c < 6) : kd (b + 23 + c) = 8 := (ln_wd b h c hc).2.1
theorem a_lw (h : b ∈ lnb) (c : Nat) (hc : c < 6) : ln (b + 23 + c) = 6 := (ln_wd b h c hc).2.2
end
theorem if_nI {c : Prop} [Decidable c] {x y : Nat} : (if c then nI x else nI y) = nI (if c then x else y) := by split <;> rfl
set_option maxRecDepth 20000 in
theorem mx_nI {a b : Nat} (ha : a < 2 ^ 31) (hb : b < 2 ^ 31) : (if nI a < nI b then nI b else nI a) = nI (max a b) := by
  by_cases h : a < b
  · rw [if_pos ((nI_ltI ha hb).mpr h), Nat.max_eq_right (by omega)]
  · rw [if_neg (fun q => h ((nI_ltI ha hb).mp q)), Nat.max_eq_left (by omega)]
/-! leaves of the line -/
section
variable {M : Me} {b : Nat} {X : Nat → Int32} {nc nt np nw tm : Nat}
set_option maxRecDepth 20000 in
theorem c_topSpeed {tB : Nat} (h : Lr M b X nc nt np nw tm) (hv : VxB X nc nt np nw tm tB) {p : Nat} (hp : p < np) : DX1_topSpeed [.ref b, .int (nI p)] M = some (gsp X p 3, M) := by
  have hb := h.1
  have h3 := hv.2.1.2.2.1
  have hq := h.2.2.2.2.2.1
  obtain ⟨a, o, s0, s1, s2, b0, b1, tr, td, ⟨-, -, e0, e1, e2, -⟩, -, -, z0, z1, z2, -⟩ := hv.2.2.2.2.2.1 p hp
  have g : gsp X p 3 = mxi (X (68 + 9 * p + 2)) (mxi (X (68 + 9 * p + 3)) (X (68 + 9 * p + 4))) := by
    simp (disch := omega) only [gsp, mxi, e0, e1, e2, Nat.add_zero, lit32, mx_nI]
    congr 1
    omega
  rw [g]
  simp -implicitDefEqProofs (disch := omega) [DX1_topSpeed, EX1_topSpeed, kp_, bsome, bnone, gi_s, gj_s, gr_s, gv_s, ik_, jk_, il_, jl_, rl_, i2_, i2_a, i2_b, j2_, j2_a, j2_b, i2d_, i2d_a, i2d_b, j2d_, j2d_a, j2d_b, i1_, i1_a, j1_, j1_a, i2l_, i2l_a, l2i_, l2i_a, fgi_, fgi_a, fgj_, fgj_a, fgr_, fgr_a, iald_, iald_a, iald_b, zald_, zald_a, zald_b, jald_, jald_a, jald_b, rald_, rald_a, rald_b, alen_, alen_a, sald_, sald_a, ic_, ic_a, jc_, jc_a, bc_, bc_a, bc_b, bj_, bj_a, bj_b, bz_, bz_a, band_, band_a, bor_, bor_a, bnot_, bnot_a, anil_, ai_, ai_a, ai_b, aj_, aj_a, aj_b, ar_, ar_a, ar_b, kb2i_, cvi_, cvi_a, cvi_b, cvj_, cvj_a, cvj_b, cvz_, cvz_a, cvz_b, csi_, csi_a, csj_, csj_a, csz_, csz_a, snop_, sseq_, sseq_n, sseq_s, sif_, sif_a, scut_, scut_a, ssi_, ssi_a, ssj_, ssj_a, ssr_, ssr_a, sinc_, sinc_a, sret_, sret_a, sretj_, sretj_a, sretv_, spop_, spop_a, kc_scv_, scv_, scv_a, scv_b, scs_, scs_a, fpi_, fpi_a, fpi_b, fpj_, fpj_a, fpj_b, foi_, foi_a, foi_b, foj_, foj_a, foj_b, aii_, aii_a, aii_b, aii_c, aiz_, aiz_a, aiz_b, aiz_c, aij_, aij_a, aij_b, aij_c, aoi_, aoi_a, aoi_b, aoi_c, aoj_, aoj_a, aoj_b, aoj_c, scopy_, scopy_a, scopy_b, scopy_c, scopy_d, scopy_e, ssw_, ssw_a, sel_n, sel_c, mfi_, mfi_a, mfj_, mfj_a, mfz_, mfz_a, kb_mfv_, mfv_, mfv_a, cut, lset, lset2, isL, Value.category, ent, entn, if_some, if_pair, if_cons, if_int, if_long, if_ref, ite_self, gz_b, ↓icb, ↓icb2, b2i_ne, ge0, ge1, ge2, ge3, ge4, ge5, ge6, ge7, ge8, ge9, ge10, ge11, ge12, ge13, ge14, lit32, nI_add, pk_mul, clt_nI, cle_nI, cgt_nI, cge_nI, ceq_nI, cne_nI, inr_nI, nI_clamp, nI_eq, nI_leI, nI_ltI, a_kb hb, a_9 hb, a_10 hb, a_11 hb, a_12 hb, a_13 hb, a_k1 hb, a_l1 hb, a_k7 hb, a_l7 hb, a_k18 hb, a_l18 hb, a_k22 hb, a_l22 hb, a_k29 hb, a_l29 hb, a_rc hb, a_kc hb, a_lc hb, a_rt hb, a_kt hb, a_lt hb, a_rp hb, a_kp hb, a_lp hb, a_rw hb, a_kw hb, a_lw hb, hq]
set_option maxRecDepth 20000 in
theorem add_if0 {c : Prop} [Decidable c] {x y : Int32} : x + (if c then y else nI 0) = if c then x + y else x := by
  split
  · rfl
  · exact Int32.add_zero x
set_option maxRecDepth 20000 in
theorem c_weight {tB : Nat} (h : Lr M b X nc nt np nw tm) (hv : VxB X nc nt np nw tm tB) {x : Int32} : DX1_weight [.ref b, .int x] M = some (wtP X x (wtT X x nt) np, M) := by
  have hb := h.1
  have h2 := hv.2.1.2.1
  have h3 := hv.2.1.2.2.1
  have hn1 := h.2.1.2.1
  have hn2 := h.2.1.2.2.1
  have ht := h.2.2.2.2.1
  have hq := h.2.2.2.2.2.1
  have l1 : swh qX1_weight_1 wX1_weight_1 [.ref b, .int x, .int (nI 0), .int (nI 0)] M = some (none, [.ref b, .int x, .int (wtT X x nt), .int (nI nt)], M) := swh_count (fun i => [.ref b, .int x, .int (wtT X x i), .int (nI i)]) (fun _ => M) nt
    (fun i hi => by simp -implicitDefEqProofs (disch := omega) [qX1_weight_1, kp_, bsome, bnone, gi_s, gj_s, gr_s, gv_s, ik_, jk_, il_, jl_, rl_, i2_, i2_a, i2_b, j2_, j2_a, j2_b, i2d_, i2d_a, i2d_b, j2d_, j2d_a, j2d_b, i1_, i1_a, j1_, j1_a, i2l_, i2l_a, l2i_, l2i_a, fgi_, fgi_a, fgj_, fgj_a, fgr_, fgr_a, iald_, iald_a, iald_b, zald_, zald_a, zald_b, jald_, jald_a, jald_b, rald_, rald_a, rald_b, alen_, alen_a, sald_, sald_a, ic_, ic_a, jc_, jc_a, bc_, bc_a, bc_b, bj_, bj_a, bj_b, bz_, bz_a, band_, band_a, bor_, bor_a, bnot_, bnot_a, anil_, ai_, ai_a, ai_b, aj_, aj_a, aj_b, ar_, ar_a, ar_b, kb2i_, cvi_, cvi_a, cvi_b, cvj_, cvj_a, cvj_b, cvz_, cvz_a, cvz_b, csi_, csi_a, csj_, csj_a, csz_, csz_a, snop_, sseq_, sseq_n, sseq_s, sif_, sif_a, scut_, scut_a, ssi_, ssi_a, ssj_, ssj_a, ssr_, ssr_a, sinc_, sinc_a, sret_, sret_a, sretj_, sretj_a, sretv_, spop_, spop_a, kc_scv_, scv_, scv_a, scv_b, scs_, scs_a, fpi_, fpi_a, fpi_b, fpj_, fpj_a, fpj_b, foi_, foi_a, foi_b, foj_, foj_a, foj_b, aii_, aii_a, aii_b, aii_c, aiz_, aiz_a, aiz_b, aiz_c, aij_, aij_a, aij_b, aij_c, aoi_, aoi_a, aoi_b, aoi_c, aoj_, aoj_a, aoj_b, aoj_c, scopy_, scopy_a, scopy_b, scopy_c, scopy_d, scopy_e, ssw_, ssw_a, sel_n, sel_c, mfi_, mfi_a, mfj_, mfj_a, mfz_, mfz_a, kb_mfv_, mfv_, mfv_a, cut, lset, lset2, isL, Value.category, ent, entn, if_some, if_pair, if_cons, if_int, if_long, if_ref, ite_self, gz_b, ↓icb, ↓icb2, b2i_ne, ge0, ge1, ge2, ge3, ge4, ge5, ge6, ge7, ge8, ge9, ge10, ge11, ge12, ge13, ge14, lit32, nI_add, pk_mul, clt_nI, cle_nI, cgt_nI, cge_nI, ceq_nI, cne_nI, inr_nI, nI_clamp, nI_eq, nI_leI, nI_ltI, a_kb hb, a_9 hb, a_10 hb, a_11 hb, a_12 hb, a_13 hb, a_k1 hb, a_l1 hb, a_k7 hb, a_l7 hb, a_k18 hb, a_l18 hb, a_k22 hb, a_l22 hb, a_k29 hb, a_l29 hb, a_rc hb, a_kc hb, a_lc hb, a_rt hb, a_kt hb, a_lt hb, a_rp hb, a_kp hb, a_lp hb, a_rw hb, a_kw hb, a_lw hb, hi, hn1])
    (fun i hi => by simp -implicitDefEqProofs (disch := omega) [wX1_weight_1, kp_, bsome, bnone, gi_s, gj_s, gr_s, gv_s, ik_, jk_, il_, jl_, rl_, i2_, i2_a, i2_b, j2_, j2_a, j2_b, i2d_, i2d_a, i2d_b, j2d_, j2d_a, j2d_b, i1_, i1_a, j1_, j1_a, i2l_, i2l_a, l2i_, l2i_a, fgi_, fgi_a, fgj_, fgj_a, fgr_, fgr_a, iald_, iald_a, iald_b, zald_, zald_a, zald_b, jald_, jald_a, jald_b, rald_, rald_a, rald_b, alen_, alen_a, sald_, sald_a, ic_, ic_a, jc_, jc_a, bc_, bc_a, bc_b, bj_, bj_a, bj_b, bz_, bz_a, band_, band_a, bor_, bor_a, bnot_, bnot_a, anil_, ai_, ai_a, ai_b, aj_, aj_a, aj_b, ar_, ar_a, ar_b, kb2i_, cvi_, cvi_a, cvi_b, cvj_, cvj_a, cvj_b, cvz_, cvz_a, cvz_b, csi_, csi_a, csj_, csj_a, csz_, csz_a, snop_, sseq_, sseq_n, sseq_s, sif_, sif_a, scut_, scut_a, ssi_, ssi_a, ssj_, ssj_a, ssr_, ssr_a, sinc_, sinc_a, sret_, sret_a, sretj_, sretj_a, sretv_, spop_, spop_a, kc_scv_, scv_, scv_a, scv_b, scs_, scs_a, fpi_, fpi_a, fpi_b, fpj_, fpj_a, fpj_b, foi_, foi_a, foi_b, foj_, foj_a, foj_b, aii_, aii_a, aii_b, aii_c, aiz_, aiz_a, aiz_b, aiz_c, aij_, aij_a, aij_b, aij_c, aoi_, aoi_a, aoi_b, aoi_c, aoj_, aoj_a, aoj_b, aoj_c, scopy_, scopy_a, scopy_b, scopy_c, scopy_d, scopy_e, ssw_, ssw_a, sel_n, sel_c, mfi_, mfi_a, mfj_, mfj_a, mfz_, mfz_a, kb_mfv_, mfv_, mfv_a, cut, lset, lset2, isL, Value.category, ent, entn, if_some, if_pair, if_cons, if_int, if_long, if_ref, ite_self, gz_b, ↓icb, ↓icb2, b2i_ne, ge0, ge1, ge2, ge3, ge4, ge5, ge6, ge7, ge8, ge9, ge10, ge11, ge12, ge13, ge14, lit32, nI_add, pk_mul, clt_nI, cle_nI, cgt_nI, cge_nI, ceq_nI, cne_nI, inr_nI, nI_clamp, nI_eq, nI_leI, nI_ltI, a_kb hb, a_9 hb, a_10 hb, a_11 hb, a_12 hb, a_13 hb, a_k1 hb, a_l1 hb, a_k7 hb, a_l7 hb, a_k18 hb, a_l18 hb, a_k22 hb, a_l22 hb, a_k29 hb, a_l29 hb, a_rc hb, a_kc hb, a_lc hb, a_rt hb, a_kt hb, a_lt hb, a_rp hb, a_kp hb, a_lp hb, a_rw hb, a_kw hb, a_lw hb, ht, wtT, ceq, add_if0])
    (by simp -implicitDefEqProofs (disch := omega) [qX1_weight_1, kp_, bsome, bnone, gi_s, gj_s, gr_s, gv_s, ik_, jk_, il_, jl_, rl_, i2_, i2_a, i2_b, j2_, j2_a, j2_b, i2d_, i2d_a, i2d_b, j2d_, j2d_a, j2d_b, i1_, i1_a, j1_, j1_a, i2l_, i2l_a, l2i_, l2i_a, fgi_, fgi_a, fgj_, fgj_a, fgr_, fgr_a, iald_, iald_a, iald_b, zald_, zald_a, zald_b, jald_, jald_a, jald_b, rald_, rald_a, rald_b, alen_, alen_a, sald_, sald_a, ic_, ic_a, jc_, jc_a, bc_, bc_a, bc_b, bj_, bj_a, bj_b, bz_, bz_a, band_, band_a, bor_, bor_a, bnot_, bnot_a, anil_, ai_, ai_a, ai_b, aj_, aj_a, aj_b, ar_, ar_a, ar_b, kb2i_, cvi_, cvi_a, cvi_b, cvj_, cvj_a, cvj_b, cvz_, cvz_a, cvz_b, csi_, csi_a, csj_, csj_a, csz_, csz_a, snop_, sseq_, sseq_n, sseq_s, sif_, sif_a, scut_, scut_a, ssi_, ssi_a, ssj_, ssj_a, ssr_, ssr_a, sinc_, sinc_a, sret_, sret_a, sretj_, sretj_a, sretv_, spop_, spop_a, kc_scv_, scv_, scv_a, scv_b, scs_, scs_a, fpi_, fpi_a, fpi_b, fpj_, fpj_a, fpj_b, foi_, foi_a, foi_b, foj_, foj_a, foj_b, aii_, aii_a, aii_b, aii_c, aiz_, aiz_a, aiz_b, aiz_c, aij_, aij_a, aij_b, aij_c, aoi_, aoi_a, aoi_b, aoi_c, aoj_, aoj_a, aoj_b, aoj_c, scopy_, scopy_a, scopy_b, scopy_c, scopy_d, scopy_e, ssw_, ssw_a, sel_n, sel_c, mfi_, mfi_a, mfj_, mfj_a, mfz_, mfz_a, kb_mfv_, mfv_, mfv_a, cut, lset, lset2, isL, Value.category, ent, entn, if_some, if_pair, if_cons, if_int, if_long, if_ref, ite_self, gz_b, ↓icb, ↓icb2, b2i_ne, ge0, ge1, ge2, ge3, ge4, ge5, ge6, ge7, ge8, ge9, ge10, ge11, ge12, ge13, ge14, lit32, nI_add, pk_mul, clt_nI, cle_nI, cgt_nI, cge_nI, ceq_nI, cne_nI, inr_nI, nI_clamp, nI_eq, nI_leI, nI_ltI, a_kb hb, a_9 hb, a_10 hb, a_11 hb, a_12 hb, a_13 hb, a_k1 hb, a_l1 hb, a_k7 hb, a_l7 hb, a_k18 hb, a_l18 hb, a_k22 hb, a_l22 hb, a_k29 hb, a_l29 hb, a_rc hb, a_kc hb, a_lc hb, a_rt hb, a_kt hb, a_lt hb, a_rp hb, a_kp hb, a_lp hb, a_rw hb, a_kw hb, a_lw hb, hn1])
  have l2 : ∀ z : Int32, swh qX1_weight_2 wX1_weight_2 [.ref b, .int x, .int z, .int (nI 0)] M = some (none, [.ref b, .int x, .int (wtP X x z np), .int (nI np)], M) := fun z => swh_count (fun i => [.ref b, .int x, .int (wtP X x z i), .int (nI i)]) (fun _ => M) np
    (fun i hi => by simp -implicitDefEqProofs (disch := omega) [qX1_weight_2, kp_, bsome, bnone, gi_s, gj_s, gr_s, gv_s, ik_, jk_, il_, jl_, rl_, i2_, i2_a, i2_b, j2_, j2_a, j2_b, i2d_, i2d_a, i2d_b, j2d_, j2d_a, j2d_b, i1_, i1_a, j1_, j1_a, i2l_, i2l_a, l2i_, l2i_a, fgi_, fgi_a, fgj_, fgj_a, fgr_, fgr_a, iald_, iald_a, iald_b, zald_, zald_a, zald_b, jald_, jald_a, jald_b, rald_, rald_a, rald_b, alen_, alen_a, sald_, sald_a, ic_, ic_a, jc_, jc_a, bc_, bc_a, bc_b, bj_, bj_a, bj_b, bz_, bz_a, band_, band_a, bor_, bor_a, bnot_, bnot_a, anil_, ai_, ai_a, ai_b, aj_, aj_a, aj_b, ar_, ar_a, ar_b, kb2i_, cvi_, cvi_a, cvi_b, cvj_, cvj_a, cvj_b, cvz_, cvz_a, cvz_b, csi_, csi_a, csj_, csj_a, csz_, csz_a, snop_, sseq_, sseq_n, sseq_s, sif_, sif_a, scut_, scut_a, ssi_, ssi_a, ssj_, ssj_a, ssr_, ssr_a, sinc_, sinc_a, sret_, sret_a, sretj_, sretj_a, sretv_, spop_, spop_a, kc_scv_, scv_, scv_a, scv_b, scs_, scs_a, fpi_, fpi_a, fpi_b, fpj_, fpj_a, fpj_b, foi_, foi_a, foi_b, foj_, foj_a, foj_b, aii_, aii_a, aii_b, aii_c, aiz_, aiz_a, aiz_b, aiz_c, aij_, aij_a, aij_b, aij_c, aoi_, aoi_a, aoi_b, aoi_c, aoj_, aoj_a, aoj_b, aoj_c, scopy_, scopy_a, scopy_b, scopy_c, scopy_d, scopy_e, ssw_, ssw_a, sel_n, sel_c, mfi_, mfi_a, mfj_, mfj_a, mfz_, mfz_a, kb_mfv_, mfv_, mfv_a, cut, lset, lset2, isL, Value.category, ent, entn, if_some, if_pair, if_cons, if_int, if_long, if_ref, ite_self, gz_b, ↓icb, ↓icb2, b2i_ne, ge0, ge1, ge2, ge3, ge4, ge5, ge6, ge7, ge8, ge9, ge10, ge11, ge12, ge13, ge14, lit32, nI_add, pk_mul, clt_nI, cle_nI, cgt_nI, cge_nI, ceq_nI, cne_nI, inr_nI, nI_clamp, nI_eq, nI_leI, nI_ltI, a_kb hb, a_9 hb, a_10 hb, a_11 hb, a_12 hb, a_13 hb, a_k1 hb, a_l1 hb, a_k7 hb, a_l7 hb, a_k18 hb, a_l18 hb, a_k22 hb, a_l22 hb, a_k29 hb, a_l29 hb, a_rc hb, a_kc hb, a_lc hb, a_rt hb, a_kt hb, a_lt hb, a_rp hb, a_kp hb, a_lp hb, a_rw hb, a_kw hb, a_lw hb, hi, hn2])
    (fun i hi => by simp -implicitDefEqProofs (disch := omega) [wX1_weight_2, kp_, bsome, bnone, gi_s, gj_s, gr_s, gv_s, ik_, jk_, il_, jl_, rl_, i2_, i2_a, i2_b, j2_, j2_a, j2_b, i2d_, i2d_a, i2d_b, j2d_, j2d_a, j2d_b, i1_, i1_a, j1_, j1_a, i2l_, i2l_a, l2i_, l2i_a, fgi_, fgi_a, fgj_, fgj_a, fgr_, fgr_a, iald_, iald_a, iald_b, zald_, zald_a, zald_b, jald_, jald_a, jald_b, rald_, rald_a, rald_b, alen_, alen_a, sald_, sald_a, ic_, ic_a, jc_, jc_a, bc_, bc_a, bc_b, bj_, bj_a, bj_b, bz_, bz_a, band_, band_a, bor_, bor_a, bnot_, bnot_a, anil_, ai_, ai_a, ai_b, aj_, aj_a, aj_b, ar_, ar_a, ar_b, kb2i_, cvi_, cvi_a, cvi_b, cvj_, cvj_a, cvj_b, cvz_, cvz_a, cvz_b, csi_, csi_a, csj_, csj_a, csz_, csz_a, snop_, sseq_, sseq_n, sseq_s, sif_, sif_a, scut_, scut_a, ssi_, ssi_a, ssj_, ssj_a, ssr_, ssr_a, sinc_, sinc_a, sret_, sret_a, sretj_, sretj_a, sretv_, spop_, spop_a, kc_scv_, scv_, scv_a, scv_b, scs_, scs_a, fpi_, fpi_a, fpi_b, fpj_, fpj_a, fpj_b, foi_, foi_a, foi_b, foj_, foj_a, foj_b, aii_, aii_a, aii_b, aii_c, aiz_, aiz_a, aiz_b, aiz_c, aij_, aij_a, aij_b, aij_c, aoi_, aoi_a, aoi_b, aoi_c, aoj_, aoj_a, aoj_b, aoj_c, scopy_, scopy_a, scopy_b, scopy_c, scopy_d, scopy_e, ssw_, ssw_a, sel_n, sel_c, mfi_, mfi_a, mfj_, mfj_a, mfz_, mfz_a, kb_mfv_, mfv_, mfv_a, cut, lset, lset2, isL, Value.category, ent, entn, if_some, if_pair, if_cons, if_int, if_long, if_ref, ite_self, gz_b, ↓icb, ↓icb2, b2i_ne, ge0, ge1, ge2, ge3, ge4, ge5, ge6, ge7, ge8, ge9, ge10, ge11, ge12, ge13, ge14, lit32, nI_add, pk_mul, clt_nI, cle_nI, cgt_nI, cge_nI, ceq_nI, cne_nI, inr_nI, nI_clamp, nI_eq, nI_leI, nI_ltI, a_kb hb, a_9 hb, a_10 hb, a_11 hb, a_12 hb, a_13 hb, a_k1 hb, a_l1 hb, a_k7 hb, a_l7 hb, a_k18 hb, a_l18 hb, a_k22 hb, a_l22 hb, a_k29 hb, a_l29 hb, a_rc hb, a_kc hb, a_lc hb, a_rt hb, a_kt hb, a_lt hb, a_rp hb, a_kp hb, a_lp hb, a_rw hb, a_kw hb, a_lw hb, hq, wtP, ceq, add_if0, c_topSpeed h hv])
    (by simp -implicitDefEqProofs (disch := omega) [qX1_weight_2, kp_, bsome, bnone, gi_s, gj_s, gr_s, gv_s, ik_, jk_, il_, jl_, rl_, i2_, i2_a, i2_b, j2_, j2_a, j2_b, i2d_, i2d_a, i2d_b, j2d_, j2d_a, j2d_b, i1_, i1_a, j1_, j1_a, i2l_, i2l_a, l2i_, l2i_a, fgi_, fgi_a, fgj_, fgj_a, fgr_, fgr_a, iald_, iald_a, iald_b, zald_, zald_a, zald_b, jald_, jald_a, jald_b, rald_, rald_a, rald_b, alen_, alen_a, sald_, sald_a, ic_, ic_a, jc_, jc_a, bc_, bc_a, bc_b, bj_, bj_a, bj_b, bz_, bz_a, band_, band_a, bor_, bor_a, bnot_, bnot_a, anil_, ai_, ai_a, ai_b, aj_, aj_a, aj_b, ar_, ar_a, ar_b, kb2i_, cvi_, cvi_a, cvi_b, cvj_, cvj_a, cvj_b, cvz_, cvz_a, cvz_b, csi_, csi_a, csj_, csj_a, csz_, csz_a, snop_, sseq_, sseq_n, sseq_s, sif_, sif_a, scut_, scut_a, ssi_, ssi_a, ssj_, ssj_a, ssr_, ssr_a, sinc_, sinc_a, sret_, sret_a, sretj_, sretj_a, sretv_, spop_, spop_a, kc_scv_, scv_, scv_a, scv_b, scs_, scs_a, fpi_, fpi_a, fpi_b, fpj_, fpj_a, fpj_b, foi_, foi_a, foi_b, foj_, foj_a, foj_b, aii_, aii_a, aii_b, aii_c, aiz_, aiz_a, aiz_b, aiz_c, aij_, aij_a, aij_b, aij_c, aoi_, aoi_a, aoi_b, aoi_c, aoj_, aoj_a, aoj_b, aoj_c, scopy_, scopy_a, scopy_b, scopy_c, scopy_d, scopy_e, ssw_, ssw_a, sel_n, sel_c, mfi_, mfi_a, mfj_, mfj_a, mfz_, mfz_a, kb_mfv_, mfv_, mfv_a, cut, lset, lset2, isL, Value.category, ent, entn, if_some, if_pair, if_cons, if_int, if_long, if_ref, ite_self, gz_b, ↓icb, ↓icb2, b2i_ne, ge0, ge1, ge2, ge3, ge4, ge5, ge6, ge7, ge8, ge9, ge10, ge11, ge12, ge13, ge14, lit32, nI_add, pk_mul, clt_nI, cle_nI, cgt_nI, cge_nI, ceq_nI, cne_nI, inr_nI, nI_clamp, nI_eq, nI_leI, nI_ltI, a_kb hb, a_9 hb, a_10 hb, a_11 hb, a_12 hb, a_13 hb, a_k1 hb, a_l1 hb, a_k7 hb, a_l7 hb, a_k18 hb, a_l18 hb, a_k22 hb, a_l22 hb, a_k29 hb, a_l29 hb, a_rc hb, a_kc hb, a_lc hb, a_rt hb, a_kt hb, a_lt hb, a_rp hb, a_kp hb, a_lp hb, a_rw hb, a_kw hb, a_lw hb, hn2])
  simp -implicitDefEqProofs (disch := omega) [DX1_weight, EX1_weight, kp_, bsome, bnone, gi_s, gj_s, gr_s, gv_s, ik_, jk_, il_, jl_, rl_, i2_, i2_a, i2_b, j2_, j2_a, j2_b, i2d_, i2d_a, i2d_b, j2d_, j2d_a, j2d_b, i1_, i1_a, j1_, j1_a, i2l_, i2l_a, l2i_, l2i_a, fgi_, fgi_a, fgj_, fgj_a, fgr_, fgr_a, iald_, iald_a, iald_b, zald_, zald_a, zald_b, jald_, jald_a, jald_b, rald_, rald_a, rald_b, alen_, alen_a, sald_, sald_a, ic_, ic_a, jc_, jc_a, bc_, bc_a, bc_b, bj_, bj_a, bj_b, bz_, bz_a, band_, band_a, bor_, bor_a, bnot_, bnot_a, anil_, ai_, ai_a, ai_b, aj_, aj_a, aj_b, ar_, ar_a, ar_b, kb2i_, cvi_, cvi_a, cvi_b, cvj_, cvj_a, cvj_b, cvz_, cvz_a, cvz_b, csi_, csi_a, csj_, csj_a, csz_, csz_a, snop_, sseq_, sseq_n, sseq_s, sif_, sif_a, scut_, scut_a, ssi_, ssi_a, ssj_, ssj_a, ssr_, ssr_a, sinc_, sinc_a, sret_, sret_a, sretj_, sretj_a, sretv_, spop_, spop_a, kc_scv_, scv_, scv_a, scv_b, scs_, scs_a, fpi_, fpi_a, fpi_b, fpj_, fpj_a, fpj_b, foi_, foi_a, foi_b, foj_, foj_a, foj_b, aii_, aii_a, aii_b, aii_c, aiz_, aiz_a, aiz_b, aiz_c, aij_, aij_a, aij_b, aij_c, aoi_, aoi_a, aoi_b, aoi_c, aoj_, aoj_a, aoj_b, aoj_c, scopy_, scopy_a, scopy_b, scopy_c, scopy_d, scopy_e, ssw_, ssw_a, sel_n, sel_c, mfi_, mfi_a, mfj_, mfj_a, mfz_, mfz_a, kb_mfv_, mfv_, mfv_a, cut, lset, lset2, isL, Value.category, ent, entn, if_some, if_pair, if_cons, if_int, if_long, if_ref, ite_self, gz_b, ↓icb, ↓icb2, b2i_ne, ge0, ge1, ge2, ge3, ge4, ge5, ge6, ge7, ge8, ge9, ge10, ge11, ge12, ge13, ge14, lit32, nI_add, pk_mul, clt_nI, cle_nI, cgt_nI, cge_nI, ceq_nI, cne_nI, inr_nI, nI_clamp, nI_eq, nI_leI, nI_ltI, l1, l2]
set_option maxRecDepth 20000 in
theorem c_fromWalls {tB : Nat} (h : Lr M b X nc nt np nw tm) (hv : VxB X nc nt np nw tm tB) {c : Nat} (hc : c < nc) : DX1_fromWalls [.ref b, .int (nI c)] M = some (X (8 + 4 * c + 1) * X (8 + 4 * c + 2) / nI 64, M) := by
  have hb := h.1
  have h1 := hv.2.1.1
  have hq := h.2.2.1
  simp -implicitDefEqProofs (disch := omega) [DX1_fromWalls, EX1_fromWalls, kp_, bsome, bnone, gi_s, gj_s, gr_s, gv_s, ik_, jk_, il_, jl_, rl_, i2_, i2_a, i2_b, j2_, j2_a, j2_b, i2d_, i2d_a, i2d_b, j2d_, j2d_a, j2d_b, i1_, i1_a, j1_, j1_a, i2l_, i2l_a, l2i_, l2i_a, fgi_, fgi_a, fgj_, fgj_a, fgr_, fgr_a, iald_, iald_a, iald_b, zald_, zald_a, zald_b, jald_, jald_a, jald_b, rald_, rald_a, rald_b, alen_, alen_a, sald_, sald_a, ic_, ic_a, jc_, jc_a, bc_, bc_a, bc_b, bj_, bj_a, bj_b, bz_, bz_a, band_, band_a, bor_, bor_a, bnot_, bnot_a, anil_, ai_, ai_a, ai_b, aj_, aj_a, aj_b, ar_, ar_a, ar_b, kb2i_, cvi_, cvi_a, cvi_b, cvj_, cvj_a, cvj_b, cvz_, cvz_a, cvz_b, csi_, csi_a, csj_, csj_a, csz_, csz_a, snop_, sseq_, sseq_n, sseq_s, sif_, sif_a, scut_, scut_a, ssi_, ssi_a, ssj_, ssj_a, ssr_, ssr_a, sinc_, sinc_a, sret_, sret_a, sretj_, sretj_a, sretv_, spop_, spop_a, kc_scv_, scv_, scv_a, scv_b, scs_, scs_a, fpi_, fpi_a, fpi_b, fpj_, fpj_a, fpj_b, foi_, foi_a, foi_b, foj_, foj_a, foj_b, aii_, aii_a, aii_b, aii_c, aiz_, aiz_a, aiz_b, aiz_c, aij_, aij_a, aij_b, aij_c, aoi_, aoi_a, aoi_b, aoi_c, aoj_, aoj_a, aoj_b, aoj_c, scopy_, scopy_a, scopy_b, scopy_c, scopy_d, scopy_e, ssw_, ssw_a, sel_n, sel_c, mfi_, mfi_a, mfj_, mfj_a, mfz_, mfz_a, kb_mfv_, mfv_, mfv_a, cut, lset, lset2, isL, Value.category, ent, entn, if_some, if_pair, if_cons, if_int, if_long, if_ref, ite_self, gz_b, ↓icb, ↓icb2, b2i_ne, ge0, ge1, ge2, ge3, ge4, ge5, ge6, ge7, ge8, ge9, ge10, ge11, ge12, ge13, ge14, lit32, nI_add, pk_mul, clt_nI, cle_nI, cgt_nI, cge_nI, ceq_nI, cne_nI, inr_nI, nI_clamp, nI_eq, nI_leI, nI_ltI, a_kb hb, a_9 hb, a_10 hb, a_11 hb, a_12 hb, a_13 hb, a_k1 hb, a_l1 hb, a_k7 hb, a_l7 hb, a_k18 hb, a_l18 hb, a_k22 hb, a_l22 hb, a_k29 hb, a_l29 hb, a_rc hb, a_kc hb, a_lc hb, a_rt hb, a_kt hb, a_lt hb, a_rp hb, a_kp hb, a_lp hb, a_rw hb, a_kw hb, a_lw hb, hq]
set_option maxRecDepth 20000 in
theorem c_load {tB : Nat} (h : Lr M b X nc nt np nw tm) (hv : VxB X nc nt np nw tm tB) {c : Nat} (hc : c < nc) : DX1_load [.ref b, .int (nI c)] M = some (X (8 + 4 * c) + X (8 + 4 * c + 1) * X (8 + 4 * c + 2) / nI 64, M) := by
  have hb := h.1
  have h1 := hv.2.1.1
  have hq := h.2.2.1
  simp -implicitDefEqProofs (disch := omega) [DX1_load, EX1_load, kp_, bsome, bnone, gi_s, gj_s, gr_s, gv_s, ik_, jk_, il_, jl_, rl_, i2_, i2_a, i2_b, j2_, j2_a, j2_b, i2d_, i2d_a, i2d_b, j2d_, j2d_a, j2d_b, i1_, i1_a, j1_, j1_a, i2l_, i2l_a, l2i_, l2i_a, fgi_, fgi_a, fgj_, fgj_a, fgr_, fgr_a, iald_, iald_a, iald_b, zald_, zald_a, zald_b, jald_, jald_a, jald_b, rald_, rald_a, rald_b, alen_, alen_a, sald_, sald_a, ic_, ic_a, jc_, jc_a, bc_, bc_a, bc_b, bj_, bj_a, bj_b, bz_, bz_a, band_, band_a, bor_, bor_a, bnot_, bnot_a, anil_, ai_, ai_a, ai_b, aj_, aj_a, aj_b, ar_, ar_a, ar_b, kb2i_, cvi_, cvi_a, cvi_b, cvj_, cvj_a, cvj_b, cvz_, cvz_a, cvz_b, csi_, csi_a, csj_, csj_a, csz_, csz_a, snop_, sseq_, sseq_n, sseq_s, sif_, sif_a, scut_, scut_a, ssi_, ssi_a, ssj_, ssj_a, ssr_, ssr_a, sinc_, sinc_a, sret_, sret_a, sretj_, sretj_a, sretv_, spop_, spop_a, kc_scv_, scv_, scv_a, scv_b, scs_, scs_a, fpi_, fpi_a, fpi_b, fpj_, fpj_a, fpj_b, foi_, foi_a, foi_b, foj_, foj_a, foj_b, aii_, aii_a, aii_b, aii_c, aiz_, aiz_a, aiz_b, aiz_c, aij_, aij_a, aij_b, aij_c, aoi_, aoi_a, aoi_b, aoi_c, aoj_, aoj_a, aoj_b, aoj_c, scopy_, scopy_a, scopy_b, scopy_c, scopy_d, scopy_e, ssw_, ssw_a, sel_n, sel_c, mfi_, mfi_a, mfj_, mfj_a, mfz_, mfz_a, kb_mfv_, mfv_, mfv_a, cut, lset, lset2, isL, Value.category, ent, entn, if_some, if_pair, if_cons, if_int, if_long, if_ref, ite_self, gz_b, ↓icb, ↓icb2, b2i_ne, ge0, ge1, ge2, ge3, ge4, ge5, ge6, ge7, ge8, ge9, ge10, ge11, ge12, ge13, ge14, lit32, nI_add, pk_mul, clt_nI, cle_nI, cgt_nI, cge_nI, ceq_nI, cne_nI, inr_nI, nI_clamp, nI_eq, nI_leI, nI_ltI, a_kb hb, a_9 hb, a_10 hb, a_11 hb, a_12 hb, a_13 hb, a_k1 hb, a_l1 hb, a_k7 hb, a_l7 hb, a_k18 hb, a_l18 hb, a_k22 hb, a_l22 hb, a_k29 hb, a_l29 hb, a_rc hb, a_kc hb, a_lc hb, a_rt hb, a_kt hb, a_lt hb, a_rp hb, a_kp hb, a_lp hb, a_rw hb, a_kw hb, a_lw hb, hq, c_fromWalls h hv]
set_option maxRecDepth 20000 in
theorem c_isJoint {tB : Nat} (h : Lr M b X nc nt np nw tm) (hv : VxB X nc nt np nw tm tB) {x : Int32} : DX1_isJoint [.ref b, .int x] M = some (jnt x nc nt, M) := by
  have hb := h.1
  have hn0 := h.2.1.1
  have hn1 := h.2.1.2.1
  have h1 := hv.2.1.1
  have h2 := hv.2.1.2.1
  have key : jnt x nc nt = (cge x (nI 0) && clt x (nI nc) || cge x (nI 10) && clt (x - nI 10) (nI nt)) := by
    unfold jnt cge clt
    rw [inr_bw, inr_bw]
    unfold bw
    have e1 : (nI 10).toInt = 10 := by decide
    have e2 : (10 : Int32).toInt = 10 := by decide
    have e3 : (nI 0).toInt = 0 := by decide
    have e4 := nI_toInt (n := nc) (by omega)
    have e5 := nI_toInt (n := nt) (by omega)
    have hb1 := x.toInt_lt
    have hb2 := x.le_toInt
    by_cases hx : x < 10
    · rw [if_pos hx]
      have hx' := Int32.lt_iff_toInt_lt.mp hx
      rw [e2] at hx'
      have hn : ¬ nI 10 ≤ x := fun q => by have := Int32.le_iff_toInt_le.mp q; omega
      simp only [hn, decide_false, Bool.false_and, Bool.or_false, Int32.lt_iff_toInt_lt, Int32.le_iff_toInt_le, e3, e4]
      congr 1
      exact decide_eq_decide.mpr (by omega)
    · rw [if_neg hx]
      have hx' : 10 ≤ x.toInt := by
        have : ¬ x.toInt < 10 := fun q => hx (Int32.lt_iff_toInt_lt.mpr (by rw [e2]; exact q))
        omega
      have e6 : (x - 10).toInt = x.toInt - 10 := by
        rw [Int32.toInt_sub, e2]
        exact bm32 (by omega) (by omega)
      have e7 : (x - nI 10).toInt = x.toInt - 10 := e6
      have hc : ¬ x < nI nc := fun q => by have := Int32.lt_iff_toInt_lt.mp q; omega
      have hd : nI 10 ≤ x := Int32.le_iff_toInt_le.mpr (by omega)
      simp only [hc, hd, decide_false, decide_true, Bool.and_false, Bool.false_or, Bool.true_and, Int32.lt_iff_toInt_lt, e5, e6, e7]
      rw [show decide (0 ≤ x.toInt - 10) = true from decide_eq_true (by omega), Bool.true_and]
      exact decide_eq_decide.mpr (by omega)
  rw [key]
  simp -implicitDefEqProofs (disch := omega) [DX1_isJoint, EX1_isJoint, kp_, bsome, bnone, gi_s, gj_s, gr_s, gv_s, ik_, jk_, il_, jl_, rl_, i2_, i2_a, i2_b, j2_, j2_a, j2_b, i2d_, i2d_a, i2d_b, j2d_, j2d_a, j2d_b, i1_, i1_a, j1_, j1_a, i2l_, i2l_a, l2i_, l2i_a, fgi_, fgi_a, fgj_, fgj_a, fgr_, fgr_a, iald_, iald_a, iald_b, zald_, zald_a, zald_b, jald_, jald_a, jald_b, rald_, rald_a, rald_b, alen_, alen_a, sald_, sald_a, ic_, ic_a, jc_, jc_a, bc_, bc_a, bc_b, bj_, bj_a, bj_b, bz_, bz_a, band_, band_a, bor_, bor_a, bnot_, bnot_a, anil_, ai_, ai_a, ai_b, aj_, aj_a, aj_b, ar_, ar_a, ar_b, kb2i_, cvi_, cvi_a, cvi_b, cvj_, cvj_a, cvj_b, cvz_, cvz_a, cvz_b, csi_, csi_a, csj_, csj_a, csz_, csz_a, snop_, sseq_, sseq_n, sseq_s, sif_, sif_a, scut_, scut_a, ssi_, ssi_a, ssj_, ssj_a, ssr_, ssr_a, sinc_, sinc_a, sret_, sret_a, sretj_, sretj_a, sretv_, spop_, spop_a, kc_scv_, scv_, scv_a, scv_b, scs_, scs_a, fpi_, fpi_a, fpi_b, fpj_, fpj_a, fpj_b, foi_, foi_a, foi_b, foj_, foj_a, foj_b, aii_, aii_a, aii_b, aii_c, aiz_, aiz_a, aiz_b, aiz_c, aij_, aij_a, aij_b, aij_c, aoi_, aoi_a, aoi_b, aoi_c, aoj_, aoj_a, aoj_b, aoj_c, scopy_, scopy_a, scopy_b, scopy_c, scopy_d, scopy_e, ssw_, ssw_a, sel_n, sel_c, mfi_, mfi_a, mfj_, mfj_a, mfz_, mfz_a, kb_mfv_, mfv_, mfv_a, cut, lset, lset2, isL, Value.category, ent, entn, if_some, if_pair, if_cons, if_int, if_long, if_ref, ite_self, gz_b, ↓icb, ↓icb2, b2i_ne, ge0, ge1, ge2, ge3, ge4, ge5, ge6, ge7, ge8, ge9, ge10, ge11, ge12, ge13, ge14, lit32, nI_add, pk_mul, clt_nI, cle_nI, cgt_nI, cge_nI, ceq_nI, cne_nI, inr_nI, nI_clamp, nI_eq, nI_leI, nI_ltI, a_kb hb, a_9 hb, a_10 hb, a_11 hb, a_12 hb, a_13 hb, a_k1 hb, a_l1 hb, a_k7 hb, a_l7 hb, a_k18 hb, a_l18 hb, a_k22 hb, a_l22 hb, a_k29 hb, a_l29 hb, a_rc hb, a_kc hb, a_lc hb, a_rt hb, a_kt hb, a_lt hb, a_rp hb, a_kp hb, a_lp hb, a_rw hb, a_kw hb, a_lw hb, hn0, hn1]
end
