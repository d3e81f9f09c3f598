/-! ===== a matrix is inverted ===== -/
section
variable {n k : Nat} {d : Int} {S A : Nat → Nat → Int}
set_option maxRecDepth 20000 in
theorem gi_all (hn : n ≤ 5) (h : gGI n 0 1 A) : ∀ k, k ≤ n → gGI n k (dK A k) (sK A k)
  | 0, _ => by
    rw [d_0, show sK A 0 = A from funext (fun i => funext (fun j => s_0))]
    exact h
  | k + 1, hk => by
    have ih := gi_all hn h k (by omega)
    have hd : dK A k ≠ 0 := by have := ih.1; omega
    rw [g_R4 (by omega) hd]
    exact gi_step ih (by omega) (fun i j hi hj h1 h2 => s_rec (by omega) hd h1 h2) (fun i hi h1 => s_col (by omega) hd h1) (fun j hj h1 => s_row (by omega) hd h1) (s_piv (by omega))
set_option maxRecDepth 20000 in
theorem gi_diag (h : gGI n k d S) {i : Nat} (hi : k ≤ i) (hn : i < n) : 0 < S i i := by
  have := h.2.2.2.2.1 (fun j => decide (j = i)) (fun j hj => by have := of_decide_eq_true hj; omega) ⟨i, by simp⟩
  have e : ∀ f : Nat → Int, sT (fun j => decide (j = i)) f n = f i := fun f => by
    unfold sT
    rw [← sm_delta (f := f) n hn]
    exact sm_congr n (fun i _ => by simp)
  rw [e, e] at this
  exact this
set_option maxRecDepth 20000 in
theorem sT_ge {T : Nat → Bool} {f : Nat → Int} {i : Nat} (hi : i < n) (hT : T i = true) (h : ∀ j, j < n → T j = true → j ≠ i → f j ≤ 0) : sT T f n ≤ f i := by
  have := sT_fewer (f := f) (n := n) (T := fun j => decide (j = i)) (U := T) (fun j _ hj => by rw [of_decide_eq_true hj]; exact hT) (fun j hj hu hn => h j hj hu (fun z => hn (decide_eq_true z)))
  have e : sT (fun j => decide (j = i)) f n = f i := by
    unfold sT
    rw [← sm_delta (f := f) n hi]
    exact sm_congr n (fun i _ => by simp)
  omega
/-! how large the numbers are -/
set_option maxRecDepth 20000 in
theorem gi_abs (h : gGI n k d S) (hk : k ≤ 5) {i j : Nat} (hi : i < n) (hj : j < n) : -(d * 160) ≤ S i j ∧ (k ≤ j → S i j ≤ d * 160) ∧ (i < k → j < k → 0 ≤ S i j ∧ S i j * 160 ≤ k * pw k) ∧ (i < k → k ≤ j → -d ≤ S i j ∧ S i j ≤ 0) ∧ (k ≤ i → j < k → 0 ≤ S i j ∧ S i j ≤ d) := by
  obtain ⟨d0, sg, sy, rs, ps, b1, b2, b3⟩ := id h
  have g := sg i j hi hj
  have top : ∀ i j, i < n → j < n → i < k → k ≤ j → -d ≤ S i j ∧ S i j ≤ 0 := fun i j hi hj h1 h2 => by
    have y := (rs i hi).2 h1
    have g := sg i j hi hj
    have := sT_ge (f := S i) (T := uK k) hj (decide_eq_true h2) (fun q hq hu _ => (sg i q hi hq).2.1 h1 (of_decide_eq_true hu))
    have := g.2.1 h1 h2
    omega
  have low : k ≤ i → j < k → 0 ≤ S i j ∧ S i j ≤ d := fun h1 h2 => by
    have := top j i hj hi h2 h1
    have := (sy j i hj hi).2 h2 h1
    omega
  have dg : k ≤ i → k ≤ j → -(d * 160) ≤ S i j ∧ S i j ≤ d * 160 := fun h1 h2 => by
    have c := b2 i h1 hi
    have e := gi_diag h h1 hi
    by_cases q : i = j
    · subst q
      omega
    · have := g.2.2.2 h1 h2 q
      have y := (rs i hi).1 h1
      have z := sT_fewer (f := S i) (n := n) (T := fun x => decide (x = i) || decide (x = j)) (U := uK k) (fun x _ hx => by
        rw [Bool.or_eq_true] at hx
        rcases hx with z | z
        · have := of_decide_eq_true z; exact decide_eq_true (by omega)
        · have := of_decide_eq_true z; exact decide_eq_true (by omega)) (fun x hx hu hn => (sg i x hi hx).2.2.2 h1 (of_decide_eq_true hu) (fun z => hn (by simp [← z])))
      have e2 : sT (fun x => decide (x = i) || decide (x = j)) (S i) n = S i i + S i j := by
        have := sT_ins (T := fun x => decide (x = i)) (f := S i) (n := n) (k := j) hj (decide_eq_false (fun z => q z.symm))
        have e3 : sT (fun x => decide (x = i)) (S i) n = S i i := by
          unfold sT
          rw [← sm_delta (f := S i) n hi]
          exact sm_congr n (fun i _ => by simp)
        rw [e3] at this
        exact this
      omega
  refine ⟨?_, fun h2 => ?_, fun h1 h2 => ⟨g.1 h1 h2, b3 i j h1 h2 hi hj⟩, fun h1 h2 => top i j hi hj h1 h2, low⟩
  · by_cases h1 : i < k
    · by_cases h2 : j < k
      · have := g.1 h1 h2; omega
      · have := top i j hi hj h1 (by omega); omega
    · by_cases h2 : j < k
      · have := low (by omega) h2; omega
      · exact (dg (by omega) (by omega)).1
  · by_cases h1 : i < k
    · have := top i j hi hj h1 (by omega); omega
    · exact (dg (by omega) (by omega)).2
set_option maxRecDepth 20000 in
theorem pw_le : ∀ k, k ≤ 5 → pw k ≤ 104857600000 := by
  intro k hk
  rcases (by omega : k = 0 ∨ k = 1 ∨ k = 2 ∨ k = 3 ∨ k = 4 ∨ k = 5) with rfl | rfl | rfl | rfl | rfl | rfl <;> decide
/-! the products of a step fit -/
set_option maxRecDepth 20000 in
theorem gi_fit {d2 : Int} {S2 : Nat → Nat → Int} (hn : n ≤ 5) (hk : k < n) (h : gGI n k d S) (h2 : gGI n (k + 1) d2 S2) {i j : Nat} (hi : i < n) (hj : j < n) : -9000000000000000000 ≤ d * S2 i j ∧ d * S2 i j ≤ 9000000000000000000 := by
  have d0 := h.1
  have d1 := h.2.2.2.2.2.1
  have e0 := h2.1
  have e1 := h2.2.2.2.2.2.1
  obtain ⟨a1, a2, a3, a4, a5⟩ := gi_abs h2 (by omega) hi hj
  have key : ∀ (B C : Int), d ≤ B → 0 ≤ C → B * C ≤ 9000000000000000000 → -C ≤ S2 i j → S2 i j ≤ C → -9000000000000000000 ≤ d * S2 i j ∧ d * S2 i j ≤ 9000000000000000000 := fun B C z1 z2 z3 z4 z5 => by
    have y1 := Int.mul_le_mul z1 (Int.le_refl C) z2 (by omega)
    have y2 := Int.mul_le_mul_of_nonneg_left z5 (Int.le_of_lt d0)
    have y3 := Int.mul_le_mul_of_nonneg_left z4 (Int.le_of_lt d0)
    rw [Int.mul_neg] at y3
    omega
  rcases (by omega : k = 4 ∨ k ≤ 3) with q | q
  · subst q
    have hn5 : n = 5 := by omega
    subst hn5
    have := a3 (by omega) (by omega)
    have e5 : pw (4 + 1) = 104857600000 := by decide
    exact key (pw 4) 3276800000 d1 (by decide) (by decide) (by omega) (by omega)
  · have p1 : pw k ≤ 4096000 := by
      rcases (by omega : k = 0 ∨ k = 1 ∨ k = 2 ∨ k = 3) with rfl | rfl | rfl | rfl <;> decide
    have p2 : pw (k + 1) ≤ 655360000 := by
      rcases (by omega : k = 0 ∨ k = 1 ∨ k = 2 ∨ k = 3) with rfl | rfl | rfl | rfl <;> decide
    have p3 := pw_pos (k + 1)
    refine key 4096000 104857600000 (by omega) (by decide) (by decide) (by omega) ?_
    by_cases hjk : k + 1 ≤ j
    · have := a2 hjk; omega
    · by_cases hik : i < k + 1
      · have := (a3 hik (by omega)).2
        have : ((k + 1 : Nat) : Int) * pw (k + 1) ≤ 4 * 655360000 := Int.mul_le_mul (by omega) p2 (by omega) (by omega)
        omega
      · have := (a5 (by omega) (by omega)).2
        omega
end
def jI (z : Int) : Int64 := Int64.ofInt z
theorem jI_add (a b : Int) : jI a + jI b = jI (a + b) := (Int64.ofInt_add a b).symm
theorem jI_mul (a b : Int) : jI a * jI b = jI (a * b) := (Int64.ofInt_mul a b).symm
theorem jI_sub (a b : Int) : jI a - jI b = jI (a - b) := (Int64.ofInt_sub a b).symm
theorem jI_neg (a : Int) : -jI a = jI (-a) := (Int64.ofInt_neg a).symm
theorem jI_toInt {a : Int} (h1 : -9223372036854775808 ≤ a) (h2 : a < 9223372036854775808) : (jI a).toInt = a := Int64.toInt_ofInt_of_le h1 h2
set_option maxRecDepth 20000 in
theorem jI_div {d s : Int} (h0 : 0 < d) (h1 : -9000000000000000000 ≤ d * s) (h2 : d * s ≤ 9000000000000000000) (h3 : d ≤ 9000000000000000000) : jI (d * s) / jI d = jI s := by
  apply Int64.toInt_inj.mp
  rw [Int64.toInt_div, jI_toInt (by omega) (by omega), jI_toInt (by omega) (by omega), Int.mul_tdiv_cancel_left s (by omega)]
  show _ = (Int64.ofInt s).toInt
  rw [Int64.toInt_ofInt]
set_option maxRecDepth 20000 in
theorem jI_ne0 {d : Int} (h0 : 0 < d) (h3 : d ≤ 9000000000000000000) : qeq (jI d) 0 = false := by
  unfold qeq
  refine decide_eq_false (fun q => ?_)
  have := congrArg Int64.toInt q
  rw [jI_toInt (by omega) (by omega)] at this
  have z : (0 : Int64).toInt = 0 := rfl
  omega
set_option maxRecDepth 20000 in
theorem jI_nz {d : Int} (h0 : 0 < d) (h3 : d ≤ 9000000000000000000) : (jI d = 0) = False := by
  have := of_decide_eq_false (jI_ne0 h0 h3)
  simp [this]
/-! a loop by what holds -/
set_option maxRecDepth 20000 in
theorem swh_inv {c : Bx} {b : Sx} (rs : Nat → Lo) (P : Nat → Me → Prop) (n : Nat) (ht : ∀ i, i < n → ∀ M, P i M → c (rs i) M = some (true, M)) (hb : ∀ i, i < n → ∀ M, P i M → ∃ N, b (rs i) M = some (none, rs (i + 1), N) ∧ P (i + 1) N) (hf : ∀ M, P n M → c (rs n) M = some (false, M)) (M : Me) (h0 : P 0 M) : ∃ N, swh c b (rs 0) M = some (none, rs n, N) ∧ P n N := by
  have : ∀ k, k ≤ n → ∀ M, P (n - k) M → ∃ N, swh c b (rs (n - k)) M = some (none, rs n, N) ∧ P n N := by
    intro k
    induction k with
    | zero => intro _ M h; exact ⟨M, swh_f (hf M h), h⟩
    | succ k ih =>
      intro hk M h
      obtain ⟨N, e1, e2⟩ := hb (n - (k + 1)) (by omega) M h
      rw [show n - (k + 1) + 1 = n - k by omega] at e1 e2
      obtain ⟨O, e3, e4⟩ := ih (by omega) N e2
      exact ⟨O, by rw [swh_t (ht _ (by omega) M h) e1]; exact e3, e4⟩
  have h := this n (Nat.le_refl n) M (by rw [Nat.sub_self]; exact h0)
  rwa [Nat.sub_self] at h
section
variable {M : Me} {a n k i : Nat} {d : Int} {S S2 A : Nat → Nat → Int} {Y : Nat → Int64}
set_option maxRecDepth 20000 in
theorem c_clearColumn (hn : n ≤ 5) (hk : k < n) (hi : i < n) (hik : i ≠ k) (ha : kd a = 9) (hl : ln a = 25) (hr : ∀ q, q < n → Y (i * 5 + q) = jI (S i q)) (hkr : ∀ q, q < n → Y (k * 5 + q) = jI (S k q)) (rec : ∀ q, q < n → q ≠ k → S k k * S i q - S i k * S k q = d * S2 i q) (bd : ∀ q, q < n → -9000000000000000000 ≤ d * S2 i q ∧ d * S2 i q ≤ 9000000000000000000) (d0 : 0 < d) (d1 : d ≤ 9000000000000000000) : ∃ Y2, DX2_clearColumn [.ref a, .int (nI n), .int (nI k), .int (nI i), .long (jI d)] (sJ M a 25 Y) = some (sJ M a 25 Y2) ∧ (∀ q, q < n → Y2 (i * 5 + q) = if q = k then jI (-S i k) else jI (S2 i q)) ∧ (∀ p, p ≠ i → ∀ q, q < 5 → Y2 (p * 5 + q) = Y (p * 5 + q)) := by
  obtain ⟨N, l1, Z, eN, z1, z2⟩ := swh_inv (c := qX2_clearColumn_1) (b := wX2_clearColumn_1) (fun j => [.ref a, .int (nI n), .int (nI k), .int (nI i), .long (jI d), .null, .int (nI (k * 5)), .int (nI (i * 5)), .long (jI (S k k)), .null, .long (jI (S i k)), .null, .int (nI j), .null, .null]) (fun j N => ∃ Z, N = sJ M a 25 Z ∧ (∀ q, q < n → Z (i * 5 + q) = if q < j ∧ q ≠ k then jI (S2 i q) else jI (S i q)) ∧ (∀ p, p ≠ i → ∀ q, q < 5 → Z (p * 5 + q) = Y (p * 5 + q))) n
    (fun j hj N hN => by simp -implicitDefEqProofs (disch := omega) [qX2_clearColumn_1, kp_, bsome, bnone, gi_s, gj_s, gr_s, gv_s, ik_, jk_, il_, jl_, rl_, i2_, i2_a, i2_b, j2_, j2_a, j2_b, i2d_, i2d_a, i2d_b, j2d_, j2d_a, j2d_b, i1_, i1_a, j1_, j1_a, i2l_, i2l_a, l2i_, l2i_a, fgi_, fgi_a, fgj_, fgj_a, fgr_, fgr_a, iald_, iald_a, iald_b, zald_, zald_a, zald_b, jald_, jald_a, jald_b, rald_, rald_a, rald_b, alen_, alen_a, sald_, sald_a, ic_, ic_a, jc_, jc_a, bc_, bc_a, bc_b, bj_, bj_a, bj_b, bz_, bz_a, band_, band_a, bor_, bor_a, bnot_, bnot_a, anil_, ai_, ai_a, ai_b, aj_, aj_a, aj_b, ar_, ar_a, ar_b, kb2i_, cvi_, cvi_a, cvi_b, cvj_, cvj_a, cvj_b, cvz_, cvz_a, cvz_b, csi_, csi_a, csj_, csj_a, csz_, csz_a, snop_, sseq_, sseq_n, sseq_s, sif_, sif_a, scut_, scut_a, ssi_, ssi_a, ssj_, ssj_a, ssr_, ssr_a, sinc_, sinc_a, sret_, sret_a, sretj_, sretj_a, sretv_, spop_, spop_a, kc_scv_, scv_, scv_a, scv_b, scs_, scs_a, fpi_, fpi_a, fpi_b, fpj_, fpj_a, fpj_b, foi_, foi_a, foi_b, foj_, foj_a, foj_b, aii_, aii_a, aii_b, aii_c, aiz_, aiz_a, aiz_b, aiz_c, aij_, aij_a, aij_b, aij_c, aoi_, aoi_a, aoi_b, aoi_c, aoj_, aoj_a, aoj_b, aoj_c, scopy_, scopy_a, scopy_b, scopy_c, scopy_d, scopy_e, ssw_, ssw_a, sel_n, sel_c, mfi_, mfi_a, mfj_, mfj_a, mfz_, mfz_a, kb_mfv_, mfv_, mfv_a, cut, lset, lset2, isL, Value.category, ent, entn, if_some, if_pair, if_cons, if_int, if_long, if_ref, ite_self, gz_b, ↓icb, ↓icb2, b2i_ne, ge0, ge1, ge2, ge3, ge4, ge5, ge6, ge7, ge8, ge9, ge10, ge11, ge12, ge13, ge14, lit32, nI_add, pk_mul, clt_nI, cle_nI, cgt_nI, cge_nI, ceq_nI, cne_nI, inr_nI, nI_clamp, nI_eq, nI_leI, nI_ltI, hj])
    (fun j hj N hN => by
      obtain ⟨Z, rfl, z1, z2⟩ := hN
      have e1 : Z (i * 5 + j) = jI (S i j) := by rw [z1 j hj, if_neg (by omega)]
      have e2 : Z (k * 5 + j) = jI (S k j) := by rw [z2 k (by omega) j (by omega), hkr j hj]
      by_cases q : j = k
      · subst q
        refine ⟨sJ M a 25 Z, ?_, Z, rfl, fun q hq => ?_, z2⟩
        · simp -implicitDefEqProofs (disch := omega) [wX2_clearColumn_1, kp_, bsome, bnone, gi_s, gj_s, gr_s, gv_s, ik_, jk_, il_, jl_, rl_, i2_, i2_a, i2_b, j2_, j2_a, j2_b, i2d_, i2d_a, i2d_b, j2d_, j2d_a, j2d_b, i1_, i1_a, j1_, j1_a, i2l_, i2l_a, l2i_, l2i_a, fgi_, fgi_a, fgj_, fgj_a, fgr_, fgr_a, iald_, iald_a, iald_b, zald_, zald_a, zald_b, jald_, jald_a, jald_b, rald_, rald_a, rald_b, alen_, alen_a, sald_, sald_a, ic_, ic_a, jc_, jc_a, bc_, bc_a, bc_b, bj_, bj_a, bj_b, bz_, bz_a, band_, band_a, bor_, bor_a, bnot_, bnot_a, anil_, ai_, ai_a, ai_b, aj_, aj_a, aj_b, ar_, ar_a, ar_b, kb2i_, cvi_, cvi_a, cvi_b, cvj_, cvj_a, cvj_b, cvz_, cvz_a, cvz_b, csi_, csi_a, csj_, csj_a, csz_, csz_a, snop_, sseq_, sseq_n, sseq_s, sif_, sif_a, scut_, scut_a, ssi_, ssi_a, ssj_, ssj_a, ssr_, ssr_a, sinc_, sinc_a, sret_, sret_a, sretj_, sretj_a, sretv_, spop_, spop_a, kc_scv_, scv_, scv_a, scv_b, scs_, scs_a, fpi_, fpi_a, fpi_b, fpj_, fpj_a, fpj_b, foi_, foi_a, foi_b, foj_, foj_a, foj_b, aii_, aii_a, aii_b, aii_c, aiz_, aiz_a, aiz_b, aiz_c, aij_, aij_a, aij_b, aij_c, aoi_, aoi_a, aoi_b, aoi_c, aoj_, aoj_a, aoj_b, aoj_c, scopy_, scopy_a, scopy_b, scopy_c, scopy_d, scopy_e, ssw_, ssw_a, sel_n, sel_c, mfi_, mfi_a, mfj_, mfj_a, mfz_, mfz_a, kb_mfv_, mfv_, mfv_a, cut, lset, lset2, isL, Value.category, ent, entn, if_some, if_pair, if_cons, if_int, if_long, if_ref, ite_self, gz_b, ↓icb, ↓icb2, b2i_ne, ge0, ge1, ge2, ge3, ge4, ge5, ge6, ge7, ge8, ge9, ge10, ge11, ge12, ge13, ge14, lit32, nI_add, pk_mul, clt_nI, cle_nI, cgt_nI, cge_nI, ceq_nI, cne_nI, inr_nI, nI_clamp, nI_eq, nI_leI, nI_ltI]
        · rw [z1 q hq]
          by_cases c : q < j ∧ q ≠ j
          · rw [if_pos c, if_pos (by omega)]
          · rw [if_neg c, if_neg (by omega)]
      · have r := rec j hj q
        have dv := jI_div d0 (bd j hj).1 (bd j hj).2 d1
        have q0 := jI_ne0 d0 d1
        have q1 := jI_nz d0 d1
        refine ⟨sJ M a 25 (vp_updL Z (i * 5 + j) (jI (S2 i j))), ?_, _, rfl, fun x hx => ?_, fun p hp x hx => ?_⟩
        · have b1 : i * 5 + j < 25 := by omega
          have b2 : k * 5 + j < 25 := by omega
          simp -implicitDefEqProofs (disch := omega) [wX2_clearColumn_1, kp_, bsome, bnone, gi_s, gj_s, gr_s, gv_s, ik_, jk_, il_, jl_, rl_, i2_, i2_a, i2_b, j2_, j2_a, j2_b, i2d_, i2d_a, i2d_b, j2d_, j2d_a, j2d_b, i1_, i1_a, j1_, j1_a, i2l_, i2l_a, l2i_, l2i_a, fgi_, fgi_a, fgj_, fgj_a, fgr_, fgr_a, iald_, iald_a, iald_b, zald_, zald_a, zald_b, jald_, jald_a, jald_b, rald_, rald_a, rald_b, alen_, alen_a, sald_, sald_a, ic_, ic_a, jc_, jc_a, bc_, bc_a, bc_b, bj_, bj_a, bj_b, bz_, bz_a, band_, band_a, bor_, bor_a, bnot_, bnot_a, anil_, ai_, ai_a, ai_b, aj_, aj_a, aj_b, ar_, ar_a, ar_b, kb2i_, cvi_, cvi_a, cvi_b, cvj_, cvj_a, cvj_b, cvz_, cvz_a, cvz_b, csi_, csi_a, csj_, csj_a, csz_, csz_a, snop_, sseq_, sseq_n, sseq_s, sif_, sif_a, scut_, scut_a, ssi_, ssi_a, ssj_, ssj_a, ssr_, ssr_a, sinc_, sinc_a, sret_, sret_a, sretj_, sretj_a, sretv_, spop_, spop_a, kc_scv_, scv_, scv_a, scv_b, scs_, scs_a, fpi_, fpi_a, fpi_b, fpj_, fpj_a, fpj_b, foi_, foi_a, foi_b, foj_, foj_a, foj_b, aii_, aii_a, aii_b, aii_c, aiz_, aiz_a, aiz_b, aiz_c, aij_, aij_a, aij_b, aij_c, aoi_, aoi_a, aoi_b, aoi_c, aoj_, aoj_a, aoj_b, aoj_c, scopy_, scopy_a, scopy_b, scopy_c, scopy_d, scopy_e, ssw_, ssw_a, sel_n, sel_c, mfi_, mfi_a, mfj_, mfj_a, mfz_, mfz_a, kb_mfv_, mfv_, mfv_a, cut, lset, lset2, isL, Value.category, ent, entn, if_some, if_pair, if_cons, if_int, if_long, if_ref, ite_self, gz_b, ↓icb, ↓icb2, b2i_ne, ge0, ge1, ge2, ge3, ge4, ge5, ge6, ge7, ge8, ge9, ge10, ge11, ge12, ge13, ge14, lit32, nI_add, pk_mul, clt_nI, cle_nI, cgt_nI, cge_nI, ceq_nI, cne_nI, inr_nI, nI_clamp, nI_eq, nI_leI, nI_ltI, q, ha, hl, sJ_at, e1, e2, jI_mul, jI_sub, r, q0, q1, dv, wj_sJ]
        · by_cases c : x = j
          · subst c
            rw [pk_uLs, if_pos ⟨by omega, q⟩]
          · rw [pk_uLn (by omega), z1 x hx]
            by_cases c2 : x < j ∧ x ≠ k
            · rw [if_pos c2, if_pos (by omega)]
            · rw [if_neg c2, if_neg (by omega)]
        · rw [pk_uLn (by omega)]
          exact z2 p hp x hx)
    (fun N hN => by simp -implicitDefEqProofs (disch := omega) [qX2_clearColumn_1, kp_, bsome, bnone, gi_s, gj_s, gr_s, gv_s, ik_, jk_, il_, jl_, rl_, i2_, i2_a, i2_b, j2_, j2_a, j2_b, i2d_, i2d_a, i2d_b, j2d_, j2d_a, j2d_b, i1_, i1_a, j1_, j1_a, i2l_, i2l_a, l2i_, l2i_a, fgi_, fgi_a, fgj_, fgj_a, fgr_, fgr_a, iald_, iald_a, iald_b, zald_, zald_a, zald_b, jald_, jald_a, jald_b, rald_, rald_a, rald_b, alen_, alen_a, sald_, sald_a, ic_, ic_a, jc_, jc_a, bc_, bc_a, bc_b, bj_, bj_a, bj_b, bz_, bz_a, band_, band_a, bor_, bor_a, bnot_, bnot_a, anil_, ai_, ai_a, ai_b, aj_, aj_a, aj_b, ar_, ar_a, ar_b, kb2i_, cvi_, cvi_a, cvi_b, cvj_, cvj_a, cvj_b, cvz_, cvz_a, cvz_b, csi_, csi_a, csj_, csj_a, csz_, csz_a, snop_, sseq_, sseq_n, sseq_s, sif_, sif_a, scut_, scut_a, ssi_, ssi_a, ssj_, ssj_a, ssr_, ssr_a, sinc_, sinc_a, sret_, sret_a, sretj_, sretj_a, sretv_, spop_, spop_a, kc_scv_, scv_, scv_a, scv_b, scs_, scs_a, fpi_, fpi_a, fpi_b, fpj_, fpj_a, fpj_b, foi_, foi_a, foi_b, foj_, foj_a, foj_b, aii_, aii_a, aii_b, aii_c, aiz_, aiz_a, aiz_b, aiz_c, aij_, aij_a, aij_b, aij_c, aoi_, aoi_a, aoi_b, aoi_c, aoj_, aoj_a, aoj_b, aoj_c, scopy_, scopy_a, scopy_b, scopy_c, scopy_d, scopy_e, ssw_, ssw_a, sel_n, sel_c, mfi_, mfi_a, mfj_, mfj_a, mfz_, mfz_a, kb_mfv_, mfv_, mfv_a, cut, lset, lset2, isL, Value.category, ent, entn, if_some, if_pair, if_cons, if_int, if_long, if_ref, ite_self, gz_b, ↓icb, ↓icb2, b2i_ne, ge0, ge1, ge2, ge3, ge4, ge5, ge6, ge7, ge8, ge9, ge10, ge11, ge12, ge13, ge14, lit32, nI_add, pk_mul, clt_nI, cle_nI, cgt_nI, cge_nI, ceq_nI, cne_nI, inr_nI, nI_clamp, nI_eq, nI_leI, nI_ltI])
    (sJ M a 25 Y) ⟨Y, rfl, fun q hq => by rw [if_neg (by omega)]; exact hr q hq, fun p hp q hq => rfl⟩
  subst eN
  have e1 : Y (i * 5 + k) = jI (S i k) := hr k hk
  have e2 : Y (k * 5 + k) = jI (S k k) := hkr k hk
  refine ⟨vp_updL Z (i * 5 + k) (jI (-S i k)), ?_, fun q hq => ?_, fun p hp q hq => ?_⟩
  · have b1 : i * 5 + k < 25 := by omega
    have b2 : k * 5 + k < 25 := by omega
    simp -implicitDefEqProofs (disch := omega) [DX2_clearColumn, EX2_clearColumn, kp_, bsome, bnone, gi_s, gj_s, gr_s, gv_s, ik_, jk_, il_, jl_, rl_, i2_, i2_a, i2_b, j2_, j2_a, j2_b, i2d_, i2d_a, i2d_b, j2d_, j2d_a, j2d_b, i1_, i1_a, j1_, j1_a, i2l_, i2l_a, l2i_, l2i_a, fgi_, fgi_a, fgj_, fgj_a, fgr_, fgr_a, iald_, iald_a, iald_b, zald_, zald_a, zald_b, jald_, jald_a, jald_b, rald_, rald_a, rald_b, alen_, alen_a, sald_, sald_a, ic_, ic_a, jc_, jc_a, bc_, bc_a, bc_b, bj_, bj_a, bj_b, bz_, bz_a, band_, band_a, bor_, bor_a, bnot_, bnot_a, anil_, ai_, ai_a, ai_b, aj_, aj_a, aj_b, ar_, ar_a, ar_b, kb2i_, cvi_, cvi_a, cvi_b, cvj_, cvj_a, cvj_b, cvz_, cvz_a, cvz_b, csi_, csi_a, csj_, csj_a, csz_, csz_a, snop_, sseq_, sseq_n, sseq_s, sif_, sif_a, scut_, scut_a, ssi_, ssi_a, ssj_, ssj_a, ssr_, ssr_a, sinc_, sinc_a, sret_, sret_a, sretj_, sretj_a, sretv_, spop_, spop_a, kc_scv_, scv_, scv_a, scv_b, scs_, scs_a, fpi_, fpi_a, fpi_b, fpj_, fpj_a, fpj_b, foi_, foi_a, foi_b, foj_, foj_a, foj_b, aii_, aii_a, aii_b, aii_c, aiz_, aiz_a, aiz_b, aiz_c, aij_, aij_a, aij_b, aij_c, aoi_, aoi_a, aoi_b, aoi_c, aoj_, aoj_a, aoj_b, aoj_c, scopy_, scopy_a, scopy_b, scopy_c, scopy_d, scopy_e, ssw_, ssw_a, sel_n, sel_c, mfi_, mfi_a, mfj_, mfj_a, mfz_, mfz_a, kb_mfv_, mfv_, mfv_a, cut, lset, lset2, isL, Value.category, ent, entn, if_some, if_pair, if_cons, if_int, if_long, if_ref, ite_self, gz_b, ↓icb, ↓icb2, b2i_ne, ge0, ge1, ge2, ge3, ge4, ge5, ge6, ge7, ge8, ge9, ge10, ge11, ge12, ge13, ge14, lit32, nI_add, pk_mul, clt_nI, cle_nI, cgt_nI, cge_nI, ceq_nI, cne_nI, inr_nI, nI_clamp, nI_eq, nI_leI, nI_ltI, ha, hl, sJ_at, e1, e2, l1, jI_neg, wj_sJ]
  · by_cases c : q = k
    · subst c
      rw [pk_uLs, if_pos rfl]
    · rw [pk_uLn (by omega), if_neg c, z1 q hq, if_pos ⟨hq, c⟩]
  · rw [pk_uLn (by omega)]
    exact z2 p hp q hq
/-! the class's inverse is the adjugate -/
set_option maxRecDepth 20000 in
theorem c_invert (hn : n ≤ 5) (ha : kd a = 9) (hl : ln a = 25) (hA : gGI n 0 1 A) (hY : ∀ p q, p < n → q < n → Y (p * 5 + q) = jI (A p q)) : ∃ Y2, DX2_invert [.ref a, .int (nI n)] (sJ M a 25 Y) = some (jI (dK A n), sJ M a 25 Y2) ∧ (∀ p q, p < n → q < n → Y2 (p * 5 + q) = jI (xK A n p q)) := by
  have gi := gi_all hn hA
  obtain ⟨N, l2, Z, eN, z1⟩ := swh_inv (c := qX2_invert_2) (b := wX2_invert_2) (fun k => [.ref a, .int (nI n), .long (jI (dK A k)), .null, .int (nI k), .null, .null, .null]) (fun k N => ∃ Z, N = sJ M a 25 Z ∧ ∀ p q, p < n → q < n → Z (p * 5 + q) = jI (sK A k p q)) n
    (fun k hk N hN => by simp -implicitDefEqProofs (disch := omega) [qX2_invert_2, kp_, bsome, bnone, gi_s, gj_s, gr_s, gv_s, ik_, jk_, il_, jl_, rl_, i2_, i2_a, i2_b, j2_, j2_a, j2_b, i2d_, i2d_a, i2d_b, j2d_, j2d_a, j2d_b, i1_, i1_a, j1_, j1_a, i2l_, i2l_a, l2i_, l2i_a, fgi_, fgi_a, fgj_, fgj_a, fgr_, fgr_a, iald_, iald_a, iald_b, zald_, zald_a, zald_b, jald_, jald_a, jald_b, rald_, rald_a, rald_b, alen_, alen_a, sald_, sald_a, ic_, ic_a, jc_, jc_a, bc_, bc_a, bc_b, bj_, bj_a, bj_b, bz_, bz_a, band_, band_a, bor_, bor_a, bnot_, bnot_a, anil_, ai_, ai_a, ai_b, aj_, aj_a, aj_b, ar_, ar_a, ar_b, kb2i_, cvi_, cvi_a, cvi_b, cvj_, cvj_a, cvj_b, cvz_, cvz_a, cvz_b, csi_, csi_a, csj_, csj_a, csz_, csz_a, snop_, sseq_, sseq_n, sseq_s, sif_, sif_a, scut_, scut_a, ssi_, ssi_a, ssj_, ssj_a, ssr_, ssr_a, sinc_, sinc_a, sret_, sret_a, sretj_, sretj_a, sretv_, spop_, spop_a, kc_scv_, scv_, scv_a, scv_b, scs_, scs_a, fpi_, fpi_a, fpi_b, fpj_, fpj_a, fpj_b, foi_, foi_a, foi_b, foj_, foj_a, foj_b, aii_, aii_a, aii_b, aii_c, aiz_, aiz_a, aiz_b, aiz_c, aij_, aij_a, aij_b, aij_c, aoi_, aoi_a, aoi_b, aoi_c, aoj_, aoj_a, aoj_b, aoj_c, scopy_, scopy_a, scopy_b, scopy_c, scopy_d, scopy_e, ssw_, ssw_a, sel_n, sel_c, mfi_, mfi_a, mfj_, mfj_a, mfz_, mfz_a, kb_mfv_, mfv_, mfv_a, cut, lset, lset2, isL, Value.category, ent, entn, if_some, if_pair, if_cons, if_int, if_long, if_ref, ite_self, gz_b, ↓icb, ↓icb2, b2i_ne, ge0, ge1, ge2, ge3, ge4, ge5, ge6, ge7, ge8, ge9, ge10, ge11, ge12, ge13, ge14, lit32, nI_add, pk_mul, clt_nI, cle_nI, cgt_nI, cge_nI, ceq_nI, cne_nI, inr_nI, nI_clamp, nI_eq, nI_leI, nI_ltI, hk])
    (fun k hk N hN => by
      obtain ⟨Z, rfl, z1⟩ := hN
      have g0 := gi k (by omega)
      have g1 := gi (k + 1) (by omega)
      have hd : dK A k ≠ 0 := by have := g0.1; omega
      have d1 : dK A k ≤ 9000000000000000000 := by
        have := g0.2.2.2.2.2.1
        have := pw_le k (by omega)
        omega
      obtain ⟨N, l1, W, eN, w1⟩ := swh_inv (c := qX2_invert_1) (b := wX2_invert_1) (fun i => [.ref a, .int (nI n), .long (jI (dK A k)), .null, .int (nI k), .long (jI (sK A k k k)), .null, .int (nI i)]) (fun i N => ∃ Z, N = sJ M a 25 Z ∧ ∀ p q, p < n → q < n → Z (p * 5 + q) = if p < i ∧ p ≠ k then jI (sK A (k + 1) p q) else jI (sK A k p q)) n
        (fun i hi N hN => by simp -implicitDefEqProofs (disch := omega) [qX2_invert_1, kp_, bsome, bnone, gi_s, gj_s, gr_s, gv_s, ik_, jk_, il_, jl_, rl_, i2_, i2_a, i2_b, j2_, j2_a, j2_b, i2d_, i2d_a, i2d_b, j2d_, j2d_a, j2d_b, i1_, i1_a, j1_, j1_a, i2l_, i2l_a, l2i_, l2i_a, fgi_, fgi_a, fgj_, fgj_a, fgr_, fgr_a, iald_, iald_a, iald_b, zald_, zald_a, zald_b, jald_, jald_a, jald_b, rald_, rald_a, rald_b, alen_, alen_a, sald_, sald_a, ic_, ic_a, jc_, jc_a, bc_, bc_a, bc_b, bj_, bj_a, bj_b, bz_, bz_a, band_, band_a, bor_, bor_a, bnot_, bnot_a, anil_, ai_, ai_a, ai_b, aj_, aj_a, aj_b, ar_, ar_a, ar_b, kb2i_, cvi_, cvi_a, cvi_b, cvj_, cvj_a, cvj_b, cvz_, cvz_a, cvz_b, csi_, csi_a, csj_, csj_a, csz_, csz_a, snop_, sseq_, sseq_n, sseq_s, sif_, sif_a, scut_, scut_a, ssi_, ssi_a, ssj_, ssj_a, ssr_, ssr_a, sinc_, sinc_a, sret_, sret_a, sretj_, sretj_a, sretv_, spop_, spop_a, kc_scv_, scv_, scv_a, scv_b, scs_, scs_a, fpi_, fpi_a, fpi_b, fpj_, fpj_a, fpj_b, foi_, foi_a, foi_b, foj_, foj_a, foj_b, aii_, aii_a, aii_b, aii_c, aiz_, aiz_a, aiz_b, aiz_c, aij_, aij_a, aij_b, aij_c, aoi_, aoi_a, aoi_b, aoi_c, aoj_, aoj_a, aoj_b, aoj_c, scopy_, scopy_a, scopy_b, scopy_c, scopy_d, scopy_e, ssw_, ssw_a, sel_n, sel_c, mfi_, mfi_a, mfj_, mfj_a, mfz_, mfz_a, kb_mfv_, mfv_, mfv_a, cut, lset, lset2, isL, Value.category, ent, entn, if_some, if_pair, if_cons, if_int, if_long, if_ref, ite_self, gz_b, ↓icb, ↓icb2, b2i_ne, ge0, ge1, ge2, ge3, ge4, ge5, ge6, ge7, ge8, ge9, ge10, ge11, ge12, ge13, ge14, lit32, nI_add, pk_mul, clt_nI, cle_nI, cgt_nI, cge_nI, ceq_nI, cne_nI, inr_nI, nI_clamp, nI_eq, nI_leI, nI_ltI, hi])
        (fun i hi N hN => by
          obtain ⟨W, rfl, w1⟩ := hN
          by_cases e : i = k
          · subst e
            refine ⟨sJ M a 25 W, ?_, W, rfl, fun p q hp hq => ?_⟩
            · simp -implicitDefEqProofs (disch := omega) [wX2_invert_1, kp_, bsome, bnone, gi_s, gj_s, gr_s, gv_s, ik_, jk_, il_, jl_, rl_, i2_, i2_a, i2_b, j2_, j2_a, j2_b, i2d_, i2d_a, i2d_b, j2d_, j2d_a, j2d_b, i1_, i1_a, j1_, j1_a, i2l_, i2l_a, l2i_, l2i_a, fgi_, fgi_a, fgj_, fgj_a, fgr_, fgr_a, iald_, iald_a, iald_b, zald_, zald_a, zald_b, jald_, jald_a, jald_b, rald_, rald_a, rald_b, alen_, alen_a, sald_, sald_a, ic_, ic_a, jc_, jc_a, bc_, bc_a, bc_b, bj_, bj_a, bj_b, bz_, bz_a, band_, band_a, bor_, bor_a, bnot_, bnot_a, anil_, ai_, ai_a, ai_b, aj_, aj_a, aj_b, ar_, ar_a, ar_b, kb2i_, cvi_, cvi_a, cvi_b, cvj_, cvj_a, cvj_b, cvz_, cvz_a, cvz_b, csi_, csi_a, csj_, csj_a, csz_, csz_a, snop_, sseq_, sseq_n, sseq_s, sif_, sif_a, scut_, scut_a, ssi_, ssi_a, ssj_, ssj_a, ssr_, ssr_a, sinc_, sinc_a, sret_, sret_a, sretj_, sretj_a, sretv_, spop_, spop_a, kc_scv_, scv_, scv_a, scv_b, scs_, scs_a, fpi_, fpi_a, fpi_b, fpj_, fpj_a, fpj_b, foi_, foi_a, foi_b, foj_, foj_a, foj_b, aii_, aii_a, aii_b, aii_c, aiz_, aiz_a, aiz_b, aiz_c, aij_, aij_a, aij_b, aij_c, aoi_, aoi_a, aoi_b, aoi_c, aoj_, aoj_a, aoj_b, aoj_c, scopy_, scopy_a, scopy_b, scopy_c, scopy_d, scopy_e, ssw_, ssw_a, sel_n, sel_c, mfi_, mfi_a, mfj_, mfj_a, mfz_, mfz_a, kb_mfv_, mfv_, mfv_a, cut, lset, lset2, isL, Value.category, ent, entn, if_some, if_pair, if_cons, if_int, if_long, if_ref, ite_self, gz_b, ↓icb, ↓icb2, b2i_ne, ge0, ge1, ge2, ge3, ge4, ge5, ge6, ge7, ge8, ge9, ge10, ge11, ge12, ge13, ge14, lit32, nI_add, pk_mul, clt_nI, cle_nI, cgt_nI, cge_nI, ceq_nI, cne_nI, inr_nI, nI_clamp, nI_eq, nI_leI, nI_ltI]
            · rw [w1 p q hp hq]
              by_cases c : p < i ∧ p ≠ i
              · rw [if_pos c, if_pos (by omega)]
              · rw [if_neg c, if_neg (by omega)]
          · obtain ⟨V, v0, v1, v2⟩ := c_clearColumn (M := M) (a := a) (n := n) (k := k) (i := i) (d := dK A k) (S := sK A k) (S2 := sK A (k + 1)) (Y := W) hn hk hi e ha hl (fun q hq => by rw [w1 i q hi hq, if_neg (by omega)]) (fun q hq => by rw [w1 k q hk hq, if_neg (by omega)]) (fun q hq hqk => (s_rec (by omega) hd e hqk).symm) (fun q hq => gi_fit hn hk g0 g1 hi hq) g0.1 d1
            refine ⟨sJ M a 25 V, ?_, V, rfl, fun p q hp hq => ?_⟩
            · simp -implicitDefEqProofs (disch := omega) [wX2_invert_1, kp_, bsome, bnone, gi_s, gj_s, gr_s, gv_s, ik_, jk_, il_, jl_, rl_, i2_, i2_a, i2_b, j2_, j2_a, j2_b, i2d_, i2d_a, i2d_b, j2d_, j2d_a, j2d_b, i1_, i1_a, j1_, j1_a, i2l_, i2l_a, l2i_, l2i_a, fgi_, fgi_a, fgj_, fgj_a, fgr_, fgr_a, iald_, iald_a, iald_b, zald_, zald_a, zald_b, jald_, jald_a, jald_b, rald_, rald_a, rald_b, alen_, alen_a, sald_, sald_a, ic_, ic_a, jc_, jc_a, bc_, bc_a, bc_b, bj_, bj_a, bj_b, bz_, bz_a, band_, band_a, bor_, bor_a, bnot_, bnot_a, anil_, ai_, ai_a, ai_b, aj_, aj_a, aj_b, ar_, ar_a, ar_b, kb2i_, cvi_, cvi_a, cvi_b, cvj_, cvj_a, cvj_b, cvz_, cvz_a, cvz_b, csi_, csi_a, csj_, csj_a, csz_, csz_a, snop_, sseq_, sseq_n, sseq_s, sif_, sif_a, scut_, scut_a, ssi_, ssi_a, ssj_, ssj_a, ssr_, ssr_a, sinc_, sinc_a, sret_, sret_a, sretj_, sretj_a, sretv_, spop_, spop_a, kc_scv_, scv_, scv_a, scv_b, scs_, scs_a, fpi_, fpi_a, fpi_b, fpj_, fpj_a, fpj_b, foi_, foi_a, foi_b, foj_, foj_a, foj_b, aii_, aii_a, aii_b, aii_c, aiz_, aiz_a, aiz_b, aiz_c, aij_, aij_a, aij_b, aij_c, aoi_, aoi_a, aoi_b, aoi_c, aoj_, aoj_a, aoj_b, aoj_c, scopy_, scopy_a, scopy_b, scopy_c, scopy_d, scopy_e, ssw_, ssw_a, sel_n, sel_c, mfi_, mfi_a, mfj_, mfj_a, mfz_, mfz_a, kb_mfv_, mfv_, mfv_a, cut, lset, lset2, isL, Value.category, ent, entn, if_some, if_pair, if_cons, if_int, if_long, if_ref, ite_self, gz_b, ↓icb, ↓icb2, b2i_ne, ge0, ge1, ge2, ge3, ge4, ge5, ge6, ge7, ge8, ge9, ge10, ge11, ge12, ge13, ge14, lit32, nI_add, pk_mul, clt_nI, cle_nI, cgt_nI, cge_nI, ceq_nI, cne_nI, inr_nI, nI_clamp, nI_eq, nI_leI, nI_ltI, e, v0]
            · by_cases c : p = i
              · subst c
                rw [v1 q hq, if_pos (⟨by omega, e⟩ : p < p + 1 ∧ p ≠ k)]
                by_cases c2 : q = k
                · subst c2
                  rw [if_pos rfl, s_col (by omega) hd e]
                · rw [if_neg c2]
              · rw [v2 p c q (by omega), w1 p q hp hq]
                by_cases c2 : p < i ∧ p ≠ k
                · rw [if_pos c2, if_pos (by omega)]
                · rw [if_neg c2, if_neg (by omega)])
        (fun N hN => by simp -implicitDefEqProofs (disch := omega) [qX2_invert_1, kp_, bsome, bnone, gi_s, gj_s, gr_s, gv_s, ik_, jk_, il_, jl_, rl_, i2_, i2_a, i2_b, j2_, j2_a, j2_b, i2d_, i2d_a, i2d_b, j2d_, j2d_a, j2d_b, i1_, i1_a, j1_, j1_a, i2l_, i2l_a, l2i_, l2i_a, fgi_, fgi_a, fgj_, fgj_a, fgr_, fgr_a, iald_, iald_a, iald_b, zald_, zald_a, zald_b, jald_, jald_a, jald_b, rald_, rald_a, rald_b, alen_, alen_a, sald_, sald_a, ic_, ic_a, jc_, jc_a, bc_, bc_a, bc_b, bj_, bj_a, bj_b, bz_, bz_a, band_, band_a, bor_, bor_a, bnot_, bnot_a, anil_, ai_, ai_a, ai_b, aj_, aj_a, aj_b, ar_, ar_a, ar_b, kb2i_, cvi_, cvi_a, cvi_b, cvj_, cvj_a, cvj_b, cvz_, cvz_a, cvz_b, csi_, csi_a, csj_, csj_a, csz_, csz_a, snop_, sseq_, sseq_n, sseq_s, sif_, sif_a, scut_, scut_a, ssi_, ssi_a, ssj_, ssj_a, ssr_, ssr_a, sinc_, sinc_a, sret_, sret_a, sretj_, sretj_a, sretv_, spop_, spop_a, kc_scv_, scv_, scv_a, scv_b, scs_, scs_a, fpi_, fpi_a, fpi_b, fpj_, fpj_a, fpj_b, foi_, foi_a, foi_b, foj_, foj_a, foj_b, aii_, aii_a, aii_b, aii_c, aiz_, aiz_a, aiz_b, aiz_c, aij_, aij_a, aij_b, aij_c, aoi_, aoi_a, aoi_b, aoi_c, aoj_, aoj_a, aoj_b, aoj_c, scopy_, scopy_a, scopy_b, scopy_c, scopy_d, scopy_e, ssw_, ssw_a, sel_n, sel_c, mfi_, mfi_a, mfj_, mfj_a, mfz_, mfz_a, kb_mfv_, mfv_, mfv_a, cut, lset, lset2, isL, Value.category, ent, entn, if_some, if_pair, if_cons, if_int, if_long, if_ref, ite_self, gz_b, ↓icb, ↓icb2, b2i_ne, ge0, ge1, ge2, ge3, ge4, ge5, ge6, ge7, ge8, ge9, ge10, ge11, ge12, ge13, ge14, lit32, nI_add, pk_mul, clt_nI, cle_nI, cgt_nI, cge_nI, ceq_nI, cne_nI, inr_nI, nI_clamp, nI_eq, nI_leI, nI_ltI])
        (sJ M a 25 Z) ⟨Z, rfl, fun p q hp hq => by rw [if_neg (by omega)]; exact z1 p q hp hq⟩
      subst eN
      have e1 : Z (k * 5 + k) = jI (sK A k k k) := z1 k k hk hk
      have e2 := g_R4 (A := A) (k := k) (by omega) hd
      refine ⟨sJ M a 25 (vp_updL W (k * 5 + k) (jI (dK A k))), ?_, _, rfl, fun p q hp hq => ?_⟩
      · have b2 : k * 5 + k < 25 := by omega
        rw [e2]
        simp -implicitDefEqProofs (disch := omega) [wX2_invert_2, kp_, bsome, bnone, gi_s, gj_s, gr_s, gv_s, ik_, jk_, il_, jl_, rl_, i2_, i2_a, i2_b, j2_, j2_a, j2_b, i2d_, i2d_a, i2d_b, j2d_, j2d_a, j2d_b, i1_, i1_a, j1_, j1_a, i2l_, i2l_a, l2i_, l2i_a, fgi_, fgi_a, fgj_, fgj_a, fgr_, fgr_a, iald_, iald_a, iald_b, zald_, zald_a, zald_b, jald_, jald_a, jald_b, rald_, rald_a, rald_b, alen_, alen_a, sald_, sald_a, ic_, ic_a, jc_, jc_a, bc_, bc_a, bc_b, bj_, bj_a, bj_b, bz_, bz_a, band_, band_a, bor_, bor_a, bnot_, bnot_a, anil_, ai_, ai_a, ai_b, aj_, aj_a, aj_b, ar_, ar_a, ar_b, kb2i_, cvi_, cvi_a, cvi_b, cvj_, cvj_a, cvj_b, cvz_, cvz_a, cvz_b, csi_, csi_a, csj_, csj_a, csz_, csz_a, snop_, sseq_, sseq_n, sseq_s, sif_, sif_a, scut_, scut_a, ssi_, ssi_a, ssj_, ssj_a, ssr_, ssr_a, sinc_, sinc_a, sret_, sret_a, sretj_, sretj_a, sretv_, spop_, spop_a, kc_scv_, scv_, scv_a, scv_b, scs_, scs_a, fpi_, fpi_a, fpi_b, fpj_, fpj_a, fpj_b, foi_, foi_a, foi_b, foj_, foj_a, foj_b, aii_, aii_a, aii_b, aii_c, aiz_, aiz_a, aiz_b, aiz_c, aij_, aij_a, aij_b, aij_c, aoi_, aoi_a, aoi_b, aoi_c, aoj_, aoj_a, aoj_b, aoj_c, scopy_, scopy_a, scopy_b, scopy_c, scopy_d, scopy_e, ssw_, ssw_a, sel_n, sel_c, mfi_, mfi_a, mfj_, mfj_a, mfz_, mfz_a, kb_mfv_, mfv_, mfv_a, cut, lset, lset2, isL, Value.category, ent, entn, if_some, if_pair, if_cons, if_int, if_long, if_ref, ite_self, gz_b, ↓icb, ↓icb2, b2i_ne, ge0, ge1, ge2, ge3, ge4, ge5, ge6, ge7, ge8, ge9, ge10, ge11, ge12, ge13, ge14, lit32, nI_add, pk_mul, clt_nI, cle_nI, cgt_nI, cge_nI, ceq_nI, cne_nI, inr_nI, nI_clamp, nI_eq, nI_leI, nI_ltI, ha, hl, sJ_at, e1, l1, wj_sJ]
      · by_cases c : p = k
        · subst c
          by_cases c2 : q = p
          · subst c2
            rw [pk_uLs, s_piv (by omega)]
          · rw [pk_uLn (by omega), w1 p q hp hq, if_neg (by omega), s_row (by omega) hd c2]
        · rw [pk_uLn (by omega), w1 p q hp hq, if_pos ⟨by omega, c⟩])
    (fun N hN => by simp -implicitDefEqProofs (disch := omega) [qX2_invert_2, kp_, bsome, bnone, gi_s, gj_s, gr_s, gv_s, ik_, jk_, il_, jl_, rl_, i2_, i2_a, i2_b, j2_, j2_a, j2_b, i2d_, i2d_a, i2d_b, j2d_, j2d_a, j2d_b, i1_, i1_a, j1_, j1_a, i2l_, i2l_a, l2i_, l2i_a, fgi_, fgi_a, fgj_, fgj_a, fgr_, fgr_a, iald_, iald_a, iald_b, zald_, zald_a, zald_b, jald_, jald_a, jald_b, rald_, rald_a, rald_b, alen_, alen_a, sald_, sald_a, ic_, ic_a, jc_, jc_a, bc_, bc_a, bc_b, bj_, bj_a, bj_b, bz_, bz_a, band_, band_a, bor_, bor_a, bnot_, bnot_a, anil_, ai_, ai_a, ai_b, aj_, aj_a, aj_b, ar_, ar_a, ar_b, kb2i_, cvi_, cvi_a, cvi_b, cvj_, cvj_a, cvj_b, cvz_, cvz_a, cvz_b, csi_, csi_a, csj_, csj_a, csz_, csz_a, snop_, sseq_, sseq_n, sseq_s, sif_, sif_a, scut_, scut_a, ssi_, ssi_a, ssj_, ssj_a, ssr_, ssr_a, sinc_, sinc_a, sret_, sret_a, sretj_, sretj_a, sretv_, spop_, spop_a, kc_scv_, scv_, scv_a, scv_b, scs_, scs_a, fpi_, fpi_a, fpi_b, fpj_, fpj_a, fpj_b, foi_, foi_a, foi_b, foj_, foj_a, foj_b, aii_, aii_a, aii_b, aii_c, aiz_, aiz_a, aiz_b, aiz_c, aij_, aij_a, aij_b, aij_c, aoi_, aoi_a, aoi_b, aoi_c, aoj_, aoj_a, aoj_b, aoj_c, scopy_, scopy_a, scopy_b, scopy_c, scopy_d, scopy_e, ssw_, ssw_a, sel_n, sel_c, mfi_, mfi_a, mfj_, mfj_a, mfz_, mfz_a, kb_mfv_, mfv_, mfv_a, cut, lset, lset2, isL, Value.category, ent, entn, if_some, if_pair, if_cons, if_int, if_long, if_ref, ite_self, gz_b, ↓icb, ↓icb2, b2i_ne, ge0, ge1, ge2, ge3, ge4, ge5, ge6, ge7, ge8, ge9, ge10, ge11, ge12, ge13, ge14, lit32, nI_add, pk_mul, clt_nI, cle_nI, cgt_nI, cge_nI, ceq_nI, cne_nI, inr_nI, nI_clamp, nI_eq, nI_leI, nI_ltI])
    (sJ M a 25 Y) ⟨Y, rfl, fun p q hp hq => by rw [s_0]; exact hY p q hp hq⟩
  subst eN
  rw [d_0] at l2
  refine ⟨Z, ?_, fun p q hp hq => ?_⟩
  · have j1 : (1 : Int64) = jI 1 := rfl
    simp -implicitDefEqProofs (disch := omega) [DX2_invert, EX2_invert, kp_, bsome, bnone, gi_s, gj_s, gr_s, gv_s, ik_, jk_, il_, jl_, rl_, i2_, i2_a, i2_b, j2_, j2_a, j2_b, i2d_, i2d_a, i2d_b, j2d_, j2d_a, j2d_b, i1_, i1_a, j1_, j1_a, i2l_, i2l_a, l2i_, l2i_a, fgi_, fgi_a, fgj_, fgj_a, fgr_, fgr_a, iald_, iald_a, iald_b, zald_, zald_a, zald_b, jald_, jald_a, jald_b, rald_, rald_a, rald_b, alen_, alen_a, sald_, sald_a, ic_, ic_a, jc_, jc_a, bc_, bc_a, bc_b, bj_, bj_a, bj_b, bz_, bz_a, band_, band_a, bor_, bor_a, bnot_, bnot_a, anil_, ai_, ai_a, ai_b, aj_, aj_a, aj_b, ar_, ar_a, ar_b, kb2i_, cvi_, cvi_a, cvi_b, cvj_, cvj_a, cvj_b, cvz_, cvz_a, cvz_b, csi_, csi_a, csj_, csj_a, csz_, csz_a, snop_, sseq_, sseq_n, sseq_s, sif_, sif_a, scut_, scut_a, ssi_, ssi_a, ssj_, ssj_a, ssr_, ssr_a, sinc_, sinc_a, sret_, sret_a, sretj_, sretj_a, sretv_, spop_, spop_a, kc_scv_, scv_, scv_a, scv_b, scs_, scs_a, fpi_, fpi_a, fpi_b, fpj_, fpj_a, fpj_b, foi_, foi_a, foi_b, foj_, foj_a, foj_b, aii_, aii_a, aii_b, aii_c, aiz_, aiz_a, aiz_b, aiz_c, aij_, aij_a, aij_b, aij_c, aoi_, aoi_a, aoi_b, aoi_c, aoj_, aoj_a, aoj_b, aoj_c, scopy_, scopy_a, scopy_b, scopy_c, scopy_d, scopy_e, ssw_, ssw_a, sel_n, sel_c, mfi_, mfi_a, mfj_, mfj_a, mfz_, mfz_a, kb_mfv_, mfv_, mfv_a, cut, lset, lset2, isL, Value.category, ent, entn, if_some, if_pair, if_cons, if_int, if_long, if_ref, ite_self, gz_b, ↓icb, ↓icb2, b2i_ne, ge0, ge1, ge2, ge3, ge4, ge5, ge6, ge7, ge8, ge9, ge10, ge11, ge12, ge13, ge14, lit32, nI_add, pk_mul, clt_nI, cle_nI, cgt_nI, cge_nI, ceq_nI, cne_nI, inr_nI, nI_clamp, nI_eq, nI_leI, nI_ltI, j1, l2]
  · rw [z1 p q hp hq]
    simp only [sK]
    rw [if_pos hp, if_pos hq]
end
