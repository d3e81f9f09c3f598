/-! ===== the pure part: numbers, evaluation ===== -/
theorem lit32 (n : Nat) : (OfNat.ofNat n : Int32) = nI n := rfl
theorem clt_nI {a b : Nat} (ha : a < 2 ^ 31) (hb : b < 2 ^ 31) : clt (nI a) (nI b) = decide (a < b) := by unfold clt; exact decide_eq_decide.mpr (nI_ltI ha hb)
theorem cle_nI {a b : Nat} (ha : a < 2 ^ 31) (hb : b < 2 ^ 31) : cle (nI a) (nI b) = decide (a ≤ b) := by unfold cle; exact decide_eq_decide.mpr (nI_leI ha hb)
theorem cgt_nI {a b : Nat} (ha : a < 2 ^ 31) (hb : b < 2 ^ 31) : cgt (nI a) (nI b) = decide (b < a) := by unfold cgt; exact decide_eq_decide.mpr (nI_ltI hb ha)
theorem cge_nI {a b : Nat} (ha : a < 2 ^ 31) (hb : b < 2 ^ 31) : cge (nI a) (nI b) = decide (b ≤ a) := by unfold cge; exact decide_eq_decide.mpr (nI_leI hb ha)
theorem ceq_nI {a b : Nat} (ha : a < 2 ^ 31) (hb : b < 2 ^ 31) : ceq (nI a) (nI b) = decide (a = b) := by unfold ceq; exact decide_eq_decide.mpr (nI_eq ha hb)
theorem cne_nI {a b : Nat} (ha : a < 2 ^ 31) (hb : b < 2 ^ 31) : cne (nI a) (nI b) = decide (¬ a = b) := by unfold cne; exact decide_eq_decide.mpr (not_congr (nI_eq ha hb))
theorem inr_nI {k n : Nat} (h : k < n) (hn : n ≤ 2 ^ 31) : inr (nI k) n = true := by
  have h1 : ¬ nI k < 0 := nI_pos (by omega)
  have h2 := nI_clamp (n := k) (by omega)
  simp [inr, h1, h2, h]
theorem b2i_ne (b : Bool) : cne (b2i b) (nI 0) = b := by cases b <;> decide
theorem b2i_t : b2i true = 1 := rfl
theorem b2i_f : b2i false = 0 := rfl
theorem gz_b (b : Bool) : gz (some (.int (b2i b))) = some b := by cases b <;> rfl
theorem gz_if (b : Bool) : gz (some (.int (if b = true then 1 else 0))) = some b := by cases b <;> rfl
theorem if_some {α : Type} {c : Prop} [Decidable c] {x y : α} : (if c then some x else some y) = some (if c then x else y) := by split <;> rfl
theorem if_pair {α β : Type} {c : Prop} [Decidable c] {x x' : α} {y y' : β} : (if c then (x, y) else (x', y')) = (if c then x else x', if c then y else y') := by split <;> rfl
theorem if_cons {α : Type} {c : Prop} [Decidable c] {x x' : α} {y y' : List α} : (if c then x :: y else x' :: y') = (if c then x else x') :: (if c then y else y') := by split <;> rfl
theorem if_int {c : Prop} [Decidable c] {x y : Int32} : (if c then Value.int x else Value.int y) = .int (if c then x else y) := by split <;> rfl
theorem if_long {c : Prop} [Decidable c] {x y : Int64} : (if c then Value.long x else Value.long y) = .long (if c then x else y) := by split <;> rfl
theorem if_ref {c : Prop} [Decidable c] {x y : Nat} : (if c then Value.ref x else Value.ref y) = .ref (if c then x else y) := by split <;> rfl
theorem icb {c : Bx} {r : Lo} {M : Me} : ic c (ik 1) (ik 0) r M = (c r M).bind fun b => some (b2i b.1, b.2) := by
  unfold ic ik b2i
  cases c r M with
  | none => rfl
  | some b => simp only [Option.bind_some]; split <;> rfl
theorem ge0 {α : Type} {x0 : α} {l : List α} : (x0 :: l)[0]? = some x0 := rfl
theorem ge1 {α : Type} {x0 x1 : α} {l : List α} : (x0 :: x1 :: l)[1]? = some x1 := rfl
theorem ge2 {α : Type} {x0 x1 x2 : α} {l : List α} : (x0 :: x1 :: x2 :: l)[2]? = some x2 := rfl
theorem ge3 {α : Type} {x0 x1 x2 x3 : α} {l : List α} : (x0 :: x1 :: x2 :: x3 :: l)[3]? = some x3 := rfl
theorem ge4 {α : Type} {x0 x1 x2 x3 x4 : α} {l : List α} : (x0 :: x1 :: x2 :: x3 :: x4 :: l)[4]? = some x4 := rfl
theorem ge5 {α : Type} {x0 x1 x2 x3 x4 x5 : α} {l : List α} : (x0 :: x1 :: x2 :: x3 :: x4 :: x5 :: l)[5]? = some x5 := rfl
theorem ge6 {α : Type} {x0 x1 x2 x3 x4 x5 x6 : α} {l : List α} : (x0 :: x1 :: x2 :: x3 :: x4 :: x5 :: x6 :: l)[6]? = some x6 := rfl
theorem ge7 {α : Type} {x0 x1 x2 x3 x4 x5 x6 x7 : α} {l : List α} : (x0 :: x1 :: x2 :: x3 :: x4 :: x5 :: x6 :: x7 :: l)[7]? = some x7 := rfl
theorem ge8 {α : Type} {x0 x1 x2 x3 x4 x5 x6 x7 x8 : α} {l : List α} : (x0 :: x1 :: x2 :: x3 :: x4 :: x5 :: x6 :: x7 :: x8 :: l)[8]? = some x8 := rfl
theorem ge9 {α : Type} {x0 x1 x2 x3 x4 x5 x6 x7 x8 x9 : α} {l : List α} : (x0 :: x1 :: x2 :: x3 :: x4 :: x5 :: x6 :: x7 :: x8 :: x9 :: l)[9]? = some x9 := rfl
theorem ge10 {α : Type} {x0 x1 x2 x3 x4 x5 x6 x7 x8 x9 x10 : α} {l : List α} : (x0 :: x1 :: x2 :: x3 :: x4 :: x5 :: x6 :: x7 :: x8 :: x9 :: x10 :: l)[10]? = some x10 := rfl
theorem ge11 {α : Type} {x0 x1 x2 x3 x4 x5 x6 x7 x8 x9 x10 x11 : α} {l : List α} : (x0 :: x1 :: x2 :: x3 :: x4 :: x5 :: x6 :: x7 :: x8 :: x9 :: x10 :: x11 :: l)[11]? = some x11 := rfl
theorem ge12 {α : Type} {x0 x1 x2 x3 x4 x5 x6 x7 x8 x9 x10 x11 x12 : α} {l : List α} : (x0 :: x1 :: x2 :: x3 :: x4 :: x5 :: x6 :: x7 :: x8 :: x9 :: x10 :: x11 :: x12 :: l)[12]? = some x12 := rfl
theorem ge13 {α : Type} {x0 x1 x2 x3 x4 x5 x6 x7 x8 x9 x10 x11 x12 x13 : α} {l : List α} : (x0 :: x1 :: x2 :: x3 :: x4 :: x5 :: x6 :: x7 :: x8 :: x9 :: x10 :: x11 :: x12 :: x13 :: l)[13]? = some x13 := rfl
theorem ge14 {α : Type} {x0 x1 x2 x3 x4 x5 x6 x7 x8 x9 x10 x11 x12 x13 x14 : α} {l : List α} : (x0 :: x1 :: x2 :: x3 :: x4 :: x5 :: x6 :: x7 :: x8 :: x9 :: x10 :: x11 :: x12 :: x13 :: x14 :: l)[14]? = some x14 := rfl
/-! the reference's cells -/
theorem k493 : kd 493 = 7 := by decide +kernel
theorem f493_2 : rf 493 2 = 494 := by decide +kernel
theorem f493_3 : rf 493 3 = 495 := by decide +kernel
theorem f493_4 : rf 493 4 = 496 := by decide +kernel
theorem f493_5 : rf 493 5 = 497 := by decide +kernel
theorem f493_7 : rf 493 7 = 498 := by decide +kernel
theorem f493_8 : rf 493 8 = 499 := by decide +kernel
theorem f493_9 : rf 493 9 = 500 := by decide +kernel
theorem f493_10 : rf 493 10 = 501 := by decide +kernel
theorem k494 : kd 494 = 8 := by decide +kernel
theorem k495 : kd 495 = 8 := by decide +kernel
theorem k496 : kd 496 = 8 := by decide +kernel
theorem k497 : kd 497 = 8 := by decide +kernel
theorem k498 : kd 498 = 8 := by decide +kernel
theorem k499 : kd 499 = 10 := by decide +kernel
theorem k500 : kd 500 = 8 := by decide +kernel
theorem k501 : kd 501 = 8 := by decide +kernel
theorem l494 : ln 494 = 6 := by decide +kernel
theorem l495 : ln 495 = 331 := by decide +kernel
theorem l496 : ln 496 = 3310 := by decide +kernel
theorem l497 : ln 497 = 10 := by decide +kernel
theorem l498 : ln 498 = 662 := by decide +kernel
theorem l499 : ln 499 = 2 := by decide +kernel
theorem l500 : ln 500 = 331 := by decide +kernel
theorem l501 : ln 501 = 5 := by decide +kernel
/-! leaves of the reference -/
theorem r_in {a b d : Int64} {M : Me} : DX8_in [.long a, .long b, .long d] M = some (decide (b ≤ a) && decide (a ≤ d), M) := by
  by_cases h1 : b ≤ a <;> by_cases h2 : a ≤ d <;> simp [DX8_in, EX8_in, mfz, ent, entn, isL, Value.category, sret, ic, band, bj, qge, qle, jl, gj, ik, gz, gi, h1, h2]
theorem r_chamberAt {x : Int32} {M : Me} : DX8_chamberAt [.int x] M = some (8 + 4 * x, M) := rfl
theorem r_tubeAt {x : Int32} {M : Me} : DX8_tubeAt [.int x] M = some (28 + 4 * x, M) := rfl
theorem r_pumpAt {x : Int32} {M : Me} : DX8_pumpAt [.int x] M = some (68 + 9 * x, M) := rfl
theorem r_watchAt {x : Int32} {M : Me} : DX8_watchAt [.int x] M = some (95 + 6 * x, M) := rfl
theorem r_tell {x : Int32} {M : Me} : DX8_tell [.ref 493, .int x] M = some (x, wi M 493 1 0) := by
  simp [DX8_tell, EX8_tell, sseq, sif, ssi, ssj, ssr, sinc, sret, sretj, sretv, spop, scv, scs, fpi, fpj, foi, foj, aii, aiz, aij, aoi, aoj, scut, cut, snop, il, jl, rl, ik, jk, gi, gj, gr, i2, j2, i2d, j2d, i1, j1, i2l, l2i, fgi, fgj, fgr, iald, zald, jald, rald, alen, sald, ic, jc, bc, bz, bj, band, bor, bnot, anil, ai, aj, ar, cvi, cvj, cvz, csi, csj, csz, lset, lset2, isL, Value.category, mfi, mfj, mfz, mfv, ent, entn, gv, k493]
theorem r_isOpen {t : Nat} {M : Me} (ht : t < 10) : DX8_isOpen [.ref 493, .int (nI t)] M = some (ceq (M.1 495 (28 + 4 * t + 3)) 1, M) := by
  simp (disch := omega) [DX8_isOpen, EX8_isOpen, sseq, sif, ssi, ssj, ssr, sinc, sret, sretj, sretv, spop, scv, scs, fpi, fpj, foi, foj, aii, aiz, aij, aoi, aoj, scut, cut, snop, il, jl, rl, ik, jk, gi, gj, gr, i2, j2, i2d, j2d, i1, j1, i2l, l2i, fgi, fgj, fgr, iald, zald, jald, rald, alen, sald, ic, jc, bc, bz, bj, band, bor, bnot, anil, ai, aj, ar, cvi, cvj, cvz, csi, csj, csz, lset, lset2, isL, Value.category, mfi, mfj, mfz, mfv, ent, entn, gv, if_some, if_pair, if_cons, if_int, if_long, if_ref, ite_self, gz_b, ↓icb, b2i_ne, r_tubeAt, k493, f493_3, k495, l495, ge0, ge1, ge2, ge3, ge4, ge5, ge6, ge7, ge8, ge9, ge10, ge11, ge12, ge13, ge14, lit32, nI_add, pk_mul, clt_nI, cle_nI, cgt_nI, cge_nI, ceq_nI, cne_nI, inr_nI, nI_clamp, nI_eq, nI_leI, nI_ltI]
theorem r_isAt {t : Nat} {x : Int32} {M : Me} (ht : t < 10) : DX8_isAt [.ref 493, .int (nI t), .int x] M = some (ceq (M.1 495 (28 + 4 * t)) x || ceq (M.1 495 (28 + 4 * t + 1)) x, M) := by
  simp (disch := omega) [DX8_isAt, EX8_isAt, sseq, sif, ssi, ssj, ssr, sinc, sret, sretj, sretv, spop, scv, scs, fpi, fpj, foi, foj, aii, aiz, aij, aoi, aoj, scut, cut, snop, il, jl, rl, ik, jk, gi, gj, gr, i2, j2, i2d, j2d, i1, j1, i2l, l2i, fgi, fgj, fgr, iald, zald, jald, rald, alen, sald, ic, jc, bc, bz, bj, band, bor, bnot, anil, ai, aj, ar, cvi, cvj, cvz, csi, csj, csz, lset, lset2, isL, Value.category, mfi, mfj, mfz, mfv, ent, entn, gv, if_some, if_pair, if_cons, if_int, if_long, if_ref, ite_self, gz_b, ↓icb, b2i_ne, r_tubeAt, k493, f493_3, k495, l495, ge0, ge1, ge2, ge3, ge4, ge5, ge6, ge7, ge8, ge9, ge10, ge11, ge12, ge13, ge14, lit32, nI_add, pk_mul, clt_nI, cle_nI, cgt_nI, cge_nI, ceq_nI, cne_nI, inr_nI, nI_clamp, nI_eq, nI_leI, nI_ltI]
theorem r_runs {t : Nat} {M : Me} (ht : t < 3) : DX8_runs [.ref 493, .int (nI t)] M = some (ceq (M.1 495 (68 + 9 * t + 1)) 1, M) := by
  simp (disch := omega) [DX8_runs, EX8_runs, sseq, sif, ssi, ssj, ssr, sinc, sret, sretj, sretv, spop, scv, scs, fpi, fpj, foi, foj, aii, aiz, aij, aoi, aoj, scut, cut, snop, il, jl, rl, ik, jk, gi, gj, gr, i2, j2, i2d, j2d, i1, j1, i2l, l2i, fgi, fgj, fgr, iald, zald, jald, rald, alen, sald, ic, jc, bc, bz, bj, band, bor, bnot, anil, ai, aj, ar, cvi, cvj, cvz, csi, csj, csz, lset, lset2, isL, Value.category, mfi, mfj, mfz, mfv, ent, entn, gv, if_some, if_pair, if_cons, if_int, if_long, if_ref, ite_self, gz_b, ↓icb, b2i_ne, r_pumpAt, k493, f493_3, k495, l495, ge0, ge1, ge2, ge3, ge4, ge5, ge6, ge7, ge8, ge9, ge10, ge11, ge12, ge13, ge14, lit32, nI_add, pk_mul, clt_nI, cle_nI, cgt_nI, cge_nI, ceq_nI, cne_nI, inr_nI, nI_clamp, nI_eq, nI_leI, nI_ltI]
theorem r_load {t : Nat} {M : Me} (ht : t < 5) : DX8_load [.ref 493, .int (nI t)] M = some (M.1 495 (8 + 4 * t) + M.1 495 (8 + 4 * t + 1) * M.1 495 (8 + 4 * t + 2) / 64, M) := by
  simp (disch := omega) [DX8_load, EX8_load, sseq, sif, ssi, ssj, ssr, sinc, sret, sretj, sretv, spop, scv, scs, fpi, fpj, foi, foj, aii, aiz, aij, aoi, aoj, scut, cut, snop, il, jl, rl, ik, jk, gi, gj, gr, i2, j2, i2d, j2d, i1, j1, i2l, l2i, fgi, fgj, fgr, iald, zald, jald, rald, alen, sald, ic, jc, bc, bz, bj, band, bor, bnot, anil, ai, aj, ar, cvi, cvj, cvz, csi, csj, csz, lset, lset2, isL, Value.category, mfi, mfj, mfz, mfv, ent, entn, gv, if_some, if_pair, if_cons, if_int, if_long, if_ref, ite_self, gz_b, ↓icb, b2i_ne, r_chamberAt, k493, f493_3, k495, l495, ge0, ge1, ge2, ge3, ge4, ge5, ge6, ge7, ge8, ge9, ge10, ge11, ge12, ge13, ge14, lit32, nI_add, pk_mul, clt_nI, cle_nI, cgt_nI, cge_nI, ceq_nI, cne_nI, inr_nI, nI_clamp, nI_eq, nI_leI, nI_ltI]
def gsp (X : Nat → Int32) (p : Nat) : Nat → Int32
  | 0 => 0
  | k + 1 => if gsp X p k < X (68 + 9 * p + 2 + k) then X (68 + 9 * p + 2 + k) else gsp X p k
theorem r_greatestSpeed {t : Nat} {M : Me} (ht : t < 3) : DX8_greatestSpeed [.ref 493, .int (nI t)] M = some (gsp (M.1 495) t 3, M) := by
  have l1 : swh qX8_greatestSpeed_1 wX8_greatestSpeed_1 [.ref 493, .int (nI t), .int (nI 0), .int (nI 0), .null] M = some (none, [.ref 493, .int (nI t), .int (gsp (M.1 495) t 3), .int (nI 3), .null], M) := swh_count (fun i => [.ref 493, .int (nI t), .int (gsp (M.1 495) t i), .int (nI i), .null]) (fun _ => M) 3
    (fun i hi => by simp (disch := omega) [qX8_greatestSpeed_1, sseq, sif, ssi, ssj, ssr, sinc, sret, sretj, sretv, spop, scv, scs, fpi, fpj, foi, foj, aii, aiz, aij, aoi, aoj, scut, cut, snop, il, jl, rl, ik, jk, gi, gj, gr, i2, j2, i2d, j2d, i1, j1, i2l, l2i, fgi, fgj, fgr, iald, zald, jald, rald, alen, sald, ic, jc, bc, bz, bj, band, bor, bnot, anil, ai, aj, ar, cvi, cvj, cvz, csi, csj, csz, lset, lset2, isL, Value.category, mfi, mfj, mfz, mfv, ent, entn, gv, if_some, if_pair, if_cons, if_int, if_long, if_ref, ite_self, gz_b, ↓icb, b2i_ne, ge0, ge1, ge2, ge3, ge4, ge5, ge6, ge7, ge8, ge9, ge10, ge11, ge12, ge13, ge14, lit32, nI_add, pk_mul, clt_nI, cle_nI, cgt_nI, cge_nI, ceq_nI, cne_nI, inr_nI, nI_clamp, nI_eq, nI_leI, nI_ltI, hi])
    (fun i hi => by simp (disch := omega) [wX8_greatestSpeed_1, sseq, sif, ssi, ssj, ssr, sinc, sret, sretj, sretv, spop, scv, scs, fpi, fpj, foi, foj, aii, aiz, aij, aoi, aoj, scut, cut, snop, il, jl, rl, ik, jk, gi, gj, gr, i2, j2, i2d, j2d, i1, j1, i2l, l2i, fgi, fgj, fgr, iald, zald, jald, rald, alen, sald, ic, jc, bc, bz, bj, band, bor, bnot, anil, ai, aj, ar, cvi, cvj, cvz, csi, csj, csz, lset, lset2, isL, Value.category, mfi, mfj, mfz, mfv, ent, entn, gv, if_some, if_pair, if_cons, if_int, if_long, if_ref, ite_self, gz_b, ↓icb, b2i_ne, ge0, ge1, ge2, ge3, ge4, ge5, ge6, ge7, ge8, ge9, ge10, ge11, ge12, ge13, ge14, lit32, nI_add, pk_mul, clt_nI, cle_nI, cgt_nI, cge_nI, ceq_nI, cne_nI, inr_nI, nI_clamp, nI_eq, nI_leI, nI_ltI, r_pumpAt, k493, f493_3, k495, l495, gsp, cgt])
    (by simp (disch := omega) [qX8_greatestSpeed_1, sseq, sif, ssi, ssj, ssr, sinc, sret, sretj, sretv, spop, scv, scs, fpi, fpj, foi, foj, aii, aiz, aij, aoi, aoj, scut, cut, snop, il, jl, rl, ik, jk, gi, gj, gr, i2, j2, i2d, j2d, i1, j1, i2l, l2i, fgi, fgj, fgr, iald, zald, jald, rald, alen, sald, ic, jc, bc, bz, bj, band, bor, bnot, anil, ai, aj, ar, cvi, cvj, cvz, csi, csj, csz, lset, lset2, isL, Value.category, mfi, mfj, mfz, mfv, ent, entn, gv, if_some, if_pair, if_cons, if_int, if_long, if_ref, ite_self, gz_b, ↓icb, b2i_ne, ge0, ge1, ge2, ge3, ge4, ge5, ge6, ge7, ge8, ge9, ge10, ge11, ge12, ge13, ge14, lit32, nI_add, pk_mul, clt_nI, cle_nI, cgt_nI, cge_nI, ceq_nI, cne_nI, inr_nI, nI_clamp, nI_eq, nI_leI, nI_ltI])
  simp (disch := omega) [DX8_greatestSpeed, EX8_greatestSpeed, sseq, sif, ssi, ssj, ssr, sinc, sret, sretj, sretv, spop, scv, scs, fpi, fpj, foi, foj, aii, aiz, aij, aoi, aoj, scut, cut, snop, il, jl, rl, ik, jk, gi, gj, gr, i2, j2, i2d, j2d, i1, j1, i2l, l2i, fgi, fgj, fgr, iald, zald, jald, rald, alen, sald, ic, jc, bc, bz, bj, band, bor, bnot, anil, ai, aj, ar, cvi, cvj, cvz, csi, csj, csz, lset, lset2, isL, Value.category, mfi, mfj, mfz, mfv, ent, entn, gv, if_some, if_pair, if_cons, if_int, if_long, if_ref, ite_self, gz_b, ↓icb, b2i_ne, ge0, ge1, ge2, ge3, ge4, ge5, ge6, ge7, ge8, ge9, ge10, ge11, ge12, ge13, ge14, lit32, nI_add, pk_mul, clt_nI, cle_nI, cgt_nI, cge_nI, ceq_nI, cne_nI, inr_nI, nI_clamp, nI_eq, nI_leI, nI_ltI, l1]
/-- the weight by tubes, by pumps -/
def wtT (X : Nat → Int32) (x : Int32) : Nat → Int32
  | 0 => 0
  | t + 1 => wtT X x t + (if X (28 + 4 * t) = x ∨ X (28 + 4 * t + 1) = x then X (28 + 4 * t + 2) else 0)
def wtP (X : Nat → Int32) (x z : Int32) : Nat → Int32
  | 0 => z
  | t + 1 => wtP X x z t + (if X (68 + 9 * t) = x then gsp X t 3 else 0)
theorem r_weight {x : Int32} {nt np : Nat} {M : Me} (hnt : M.1 495 1 = nI nt) (hnp : M.1 495 2 = nI np) (h1 : nt ≤ 10) (h2 : np ≤ 3) : DX8_weight [.ref 493, .int x] M = some (wtP (M.1 495) x (wtT (M.1 495) x nt) np, M) := by
  have l1 : swh qX8_weight_1 wX8_weight_1 [.ref 493, .int x, .int (nI 0), .int (nI 0)] M = some (none, [.ref 493, .int x, .int (wtT (M.1 495) x nt), .int (nI nt)], M) := swh_count (fun i => [.ref 493, .int x, .int (wtT (M.1 495) x i), .int (nI i)]) (fun _ => M) nt
    (fun i hi => by simp (disch := omega) [qX8_weight_1, sseq, sif, ssi, ssj, ssr, sinc, sret, sretj, sretv, spop, scv, scs, fpi, fpj, foi, foj, aii, aiz, aij, aoi, aoj, scut, cut, snop, il, jl, rl, ik, jk, gi, gj, gr, i2, j2, i2d, j2d, i1, j1, i2l, l2i, fgi, fgj, fgr, iald, zald, jald, rald, alen, sald, ic, jc, bc, bz, bj, band, bor, bnot, anil, ai, aj, ar, cvi, cvj, cvz, csi, csj, csz, lset, lset2, isL, Value.category, mfi, mfj, mfz, mfv, ent, entn, gv, if_some, if_pair, if_cons, if_int, if_long, if_ref, ite_self, gz_b, ↓icb, b2i_ne, ge0, ge1, ge2, ge3, ge4, ge5, ge6, ge7, ge8, ge9, ge10, ge11, ge12, ge13, ge14, lit32, nI_add, pk_mul, clt_nI, cle_nI, cgt_nI, cge_nI, ceq_nI, cne_nI, inr_nI, nI_clamp, nI_eq, nI_leI, nI_ltI, k493, f493_3, k495, l495, hi, hnt])
    (fun i hi => by simp (disch := omega) [wX8_weight_1, sseq, sif, ssi, ssj, ssr, sinc, sret, sretj, sretv, spop, scv, scs, fpi, fpj, foi, foj, aii, aiz, aij, aoi, aoj, scut, cut, snop, il, jl, rl, ik, jk, gi, gj, gr, i2, j2, i2d, j2d, i1, j1, i2l, l2i, fgi, fgj, fgr, iald, zald, jald, rald, alen, sald, ic, jc, bc, bz, bj, band, bor, bnot, anil, ai, aj, ar, cvi, cvj, cvz, csi, csj, csz, lset, lset2, isL, Value.category, mfi, mfj, mfz, mfv, ent, entn, gv, if_some, if_pair, if_cons, if_int, if_long, if_ref, ite_self, gz_b, ↓icb, b2i_ne, ge0, ge1, ge2, ge3, ge4, ge5, ge6, ge7, ge8, ge9, ge10, ge11, ge12, ge13, ge14, lit32, nI_add, pk_mul, clt_nI, cle_nI, cgt_nI, cge_nI, ceq_nI, cne_nI, inr_nI, nI_clamp, nI_eq, nI_leI, nI_ltI, r_tubeAt, r_isAt, k493, f493_3, k495, l495, wtT, ceq])
    (by simp (disch := omega) [qX8_weight_1, sseq, sif, ssi, ssj, ssr, sinc, sret, sretj, sretv, spop, scv, scs, fpi, fpj, foi, foj, aii, aiz, aij, aoi, aoj, scut, cut, snop, il, jl, rl, ik, jk, gi, gj, gr, i2, j2, i2d, j2d, i1, j1, i2l, l2i, fgi, fgj, fgr, iald, zald, jald, rald, alen, sald, ic, jc, bc, bz, bj, band, bor, bnot, anil, ai, aj, ar, cvi, cvj, cvz, csi, csj, csz, lset, lset2, isL, Value.category, mfi, mfj, mfz, mfv, ent, entn, gv, if_some, if_pair, if_cons, if_int, if_long, if_ref, ite_self, gz_b, ↓icb, b2i_ne, ge0, ge1, ge2, ge3, ge4, ge5, ge6, ge7, ge8, ge9, ge10, ge11, ge12, ge13, ge14, lit32, nI_add, pk_mul, clt_nI, cle_nI, cgt_nI, cge_nI, ceq_nI, cne_nI, inr_nI, nI_clamp, nI_eq, nI_leI, nI_ltI, k493, f493_3, k495, l495, hnt])
  have l2 : ∀ z : Int32, swh qX8_weight_2 wX8_weight_2 [.ref 493, .int x, .int z, .int (nI 0)] M = some (none, [.ref 493, .int x, .int (wtP (M.1 495) x z np), .int (nI np)], M) := fun z => swh_count (fun i => [.ref 493, .int x, .int (wtP (M.1 495) x z i), .int (nI i)]) (fun _ => M) np
    (fun i hi => by simp (disch := omega) [qX8_weight_2, sseq, sif, ssi, ssj, ssr, sinc, sret, sretj, sretv, spop, scv, scs, fpi, fpj, foi, foj, aii, aiz, aij, aoi, aoj, scut, cut, snop, il, jl, rl, ik, jk, gi, gj, gr, i2, j2, i2d, j2d, i1, j1, i2l, l2i, fgi, fgj, fgr, iald, zald, jald, rald, alen, sald, ic, jc, bc, bz, bj, band, bor, bnot, anil, ai, aj, ar, cvi, cvj, cvz, csi, csj, csz, lset, lset2, isL, Value.category, mfi, mfj, mfz, mfv, ent, entn, gv, if_some, if_pair, if_cons, if_int, if_long, if_ref, ite_self, gz_b, ↓icb, b2i_ne, ge0, ge1, ge2, ge3, ge4, ge5, ge6, ge7, ge8, ge9, ge10, ge11, ge12, ge13, ge14, lit32, nI_add, pk_mul, clt_nI, cle_nI, cgt_nI, cge_nI, ceq_nI, cne_nI, inr_nI, nI_clamp, nI_eq, nI_leI, nI_ltI, k493, f493_3, k495, l495, hi, hnp])
    (fun i hi => by simp (disch := omega) [wX8_weight_2, sseq, sif, ssi, ssj, ssr, sinc, sret, sretj, sretv, spop, scv, scs, fpi, fpj, foi, foj, aii, aiz, aij, aoi, aoj, scut, cut, snop, il, jl, rl, ik, jk, gi, gj, gr, i2, j2, i2d, j2d, i1, j1, i2l, l2i, fgi, fgj, fgr, iald, zald, jald, rald, alen, sald, ic, jc, bc, bz, bj, band, bor, bnot, anil, ai, aj, ar, cvi, cvj, cvz, csi, csj, csz, lset, lset2, isL, Value.category, mfi, mfj, mfz, mfv, ent, entn, gv, if_some, if_pair, if_cons, if_int, if_long, if_ref, ite_self, gz_b, ↓icb, b2i_ne, ge0, ge1, ge2, ge3, ge4, ge5, ge6, ge7, ge8, ge9, ge10, ge11, ge12, ge13, ge14, lit32, nI_add, pk_mul, clt_nI, cle_nI, cgt_nI, cge_nI, ceq_nI, cne_nI, inr_nI, nI_clamp, nI_eq, nI_leI, nI_ltI, r_pumpAt, r_greatestSpeed, k493, f493_3, k495, l495, wtP, ceq])
    (by simp (disch := omega) [qX8_weight_2, sseq, sif, ssi, ssj, ssr, sinc, sret, sretj, sretv, spop, scv, scs, fpi, fpj, foi, foj, aii, aiz, aij, aoi, aoj, scut, cut, snop, il, jl, rl, ik, jk, gi, gj, gr, i2, j2, i2d, j2d, i1, j1, i2l, l2i, fgi, fgj, fgr, iald, zald, jald, rald, alen, sald, ic, jc, bc, bz, bj, band, bor, bnot, anil, ai, aj, ar, cvi, cvj, cvz, csi, csj, csz, lset, lset2, isL, Value.category, mfi, mfj, mfz, mfv, ent, entn, gv, if_some, if_pair, if_cons, if_int, if_long, if_ref, ite_self, gz_b, ↓icb, b2i_ne, ge0, ge1, ge2, ge3, ge4, ge5, ge6, ge7, ge8, ge9, ge10, ge11, ge12, ge13, ge14, lit32, nI_add, pk_mul, clt_nI, cle_nI, cgt_nI, cge_nI, ceq_nI, cne_nI, inr_nI, nI_clamp, nI_eq, nI_leI, nI_ltI, k493, f493_3, k495, l495, hnp])
  simp (disch := omega) [DX8_weight, EX8_weight, sseq, sif, ssi, ssj, ssr, sinc, sret, sretj, sretv, spop, scv, scs, fpi, fpj, foi, foj, aii, aiz, aij, aoi, aoj, scut, cut, snop, il, jl, rl, ik, jk, gi, gj, gr, i2, j2, i2d, j2d, i1, j1, i2l, l2i, fgi, fgj, fgr, iald, zald, jald, rald, alen, sald, ic, jc, bc, bz, bj, band, bor, bnot, anil, ai, aj, ar, cvi, cvj, cvz, csi, csj, csz, lset, lset2, isL, Value.category, mfi, mfj, mfz, mfv, ent, entn, gv, if_some, if_pair, if_cons, if_int, if_long, if_ref, ite_self, gz_b, ↓icb, b2i_ne, ge0, ge1, ge2, ge3, ge4, ge5, ge6, ge7, ge8, ge9, ge10, ge11, ge12, ge13, ge14, lit32, nI_add, pk_mul, clt_nI, cle_nI, cgt_nI, cge_nI, ceq_nI, cne_nI, inr_nI, nI_clamp, nI_eq, nI_leI, nI_ltI, l1, l2]
theorem ofN (n : Nat) : Int32.ofNat n = nI n := rfl
theorem nI_nltz {n : Nat} (h : n < 2 ^ 31) : (nI n < nI 0) = False := by
  have := nI_pos h
  simp only [lit32] at this
  simp [this]
/-! ranges -/
def bw (x : Int32) (lo hi : Int) : Bool := decide (lo ≤ x.toInt) && decide (x.toInt ≤ hi)
theorem i64_toInt (x : Int32) : x.toInt64.toInt = x.toInt := Int32.toInt_toInt64 x
theorem l_in2 (x : Int32) (a b : Int64) : (decide (a ≤ x.toInt64) && decide (x.toInt64 ≤ b)) = bw x a.toInt b.toInt := by
  unfold bw
  simp only [Int64.le_iff_toInt_le, i64_toInt]
theorem bm64 {x : Int} (h1 : -9223372036854775808 ≤ x) (h2 : x < 9223372036854775808) : x.bmod (2 ^ 64) = x := by
  apply Int.bmod_eq_of_le <;> omega
theorem bm32 {x : Int} (h1 : -2147483648 ≤ x) (h2 : x < 2147483648) : x.bmod (2 ^ 32) = x := by
  apply Int.bmod_eq_of_le <;> omega
theorem nI64 {n : Nat} (h : n < 2 ^ 31) : ((nI n).toInt64 - 1).toInt = (n : Int) - 1 := by
  rw [Int64.toInt_sub, i64_toInt, nI_toInt h, show (1 : Int64).toInt = 1 from rfl, bm64 (by omega) (by omega)]
theorem bmI {n : Nat} (h : n < 2 ^ 31) : ((nI n).toInt - 1).bmod 18446744073709551616 = (n : Int) - 1 := by
  rw [nI_toInt h]; exact bm64 (by omega) (by omega)
theorem clamp_toInt (x : Int32) (h : ¬ x.toInt < 0) : (x.toNatClampNeg : Int) = x.toInt := by
  show ((x.toInt.toNat : Nat) : Int) = x.toInt
  omega
theorem inr_bw (x : Int32) (n : Nat) : inr x n = bw x 0 ((n : Int) - 1) := by
  unfold inr bw
  rw [Bool.eq_iff_iff]
  simp only [Bool.and_eq_true, decide_eq_true_eq, Int32.lt_iff_toInt_lt, show (0 : Int32).toInt = 0 from rfl]
  constructor
  · rintro ⟨a, b⟩
    have := clamp_toInt x a
    omega
  · rintro ⟨a, b⟩
    have := clamp_toInt x (by omega)
    omega
theorem r_isChamber {x : Int32} {n : Nat} {M : Me} (hn : M.1 495 0 = nI n) (h : n < 2 ^ 31) : DX8_isChamber [.ref 493, .int x] M = some (inr x n, M) := by
  rw [inr_bw]
  simp (disch := omega) [DX8_isChamber, EX8_isChamber, sseq, sif, ssi, ssj, ssr, sinc, sret, sretj, sretv, spop, scv, scs, fpi, fpj, foi, foj, aii, aiz, aij, aoi, aoj, scut, cut, snop, il, jl, rl, ik, jk, gi, gj, gr, i2, j2, i2d, j2d, i1, j1, i2l, l2i, fgi, fgj, fgr, iald, zald, jald, rald, alen, sald, ic, jc, bc, bz, bj, band, bor, bnot, anil, ai, aj, ar, cvi, cvj, cvz, csi, csj, csz, lset, lset2, isL, Value.category, mfi, mfj, mfz, mfv, ent, entn, gv, if_some, if_pair, if_cons, if_int, if_long, if_ref, ite_self, gz_b, ↓icb, b2i_ne, ge0, ge1, ge2, ge3, ge4, ge5, ge6, ge7, ge8, ge9, ge10, ge11, ge12, ge13, ge14, lit32, nI_add, pk_mul, clt_nI, cle_nI, cgt_nI, cge_nI, ceq_nI, cne_nI, inr_nI, nI_clamp, nI_eq, nI_leI, nI_ltI, k493, f493_2, f493_3, f493_4, f493_5, f493_7, f493_8, f493_9, f493_10, k494, k495, k496, k497, k498, k499, k500, k501, l494, l495, l496, l497, l498, l499, l500, l501, hn, r_in, l_in2, bmI]
theorem r_isTube {x : Int32} {n : Nat} {M : Me} (hn : M.1 495 1 = nI n) (h : n < 2 ^ 31) : DX8_isTube [.ref 493, .int x] M = some (inr x n, M) := by
  rw [inr_bw]
  simp (disch := omega) [DX8_isTube, EX8_isTube, sseq, sif, ssi, ssj, ssr, sinc, sret, sretj, sretv, spop, scv, scs, fpi, fpj, foi, foj, aii, aiz, aij, aoi, aoj, scut, cut, snop, il, jl, rl, ik, jk, gi, gj, gr, i2, j2, i2d, j2d, i1, j1, i2l, l2i, fgi, fgj, fgr, iald, zald, jald, rald, alen, sald, ic, jc, bc, bz, bj, band, bor, bnot, anil, ai, aj, ar, cvi, cvj, cvz, csi, csj, csz, lset, lset2, isL, Value.category, mfi, mfj, mfz, mfv, ent, entn, gv, if_some, if_pair, if_cons, if_int, if_long, if_ref, ite_self, gz_b, ↓icb, b2i_ne, ge0, ge1, ge2, ge3, ge4, ge5, ge6, ge7, ge8, ge9, ge10, ge11, ge12, ge13, ge14, lit32, nI_add, pk_mul, clt_nI, cle_nI, cgt_nI, cge_nI, ceq_nI, cne_nI, inr_nI, nI_clamp, nI_eq, nI_leI, nI_ltI, k493, f493_2, f493_3, f493_4, f493_5, f493_7, f493_8, f493_9, f493_10, k494, k495, k496, k497, k498, k499, k500, k501, l494, l495, l496, l497, l498, l499, l500, l501, hn, r_in, l_in2, bmI]
theorem r_isPump {x : Int32} {n : Nat} {M : Me} (hn : M.1 495 2 = nI n) (h : n < 2 ^ 31) : DX8_isPump [.ref 493, .int x] M = some (inr x n, M) := by
  rw [inr_bw]
  simp (disch := omega) [DX8_isPump, EX8_isPump, sseq, sif, ssi, ssj, ssr, sinc, sret, sretj, sretv, spop, scv, scs, fpi, fpj, foi, foj, aii, aiz, aij, aoi, aoj, scut, cut, snop, il, jl, rl, ik, jk, gi, gj, gr, i2, j2, i2d, j2d, i1, j1, i2l, l2i, fgi, fgj, fgr, iald, zald, jald, rald, alen, sald, ic, jc, bc, bz, bj, band, bor, bnot, anil, ai, aj, ar, cvi, cvj, cvz, csi, csj, csz, lset, lset2, isL, Value.category, mfi, mfj, mfz, mfv, ent, entn, gv, if_some, if_pair, if_cons, if_int, if_long, if_ref, ite_self, gz_b, ↓icb, b2i_ne, ge0, ge1, ge2, ge3, ge4, ge5, ge6, ge7, ge8, ge9, ge10, ge11, ge12, ge13, ge14, lit32, nI_add, pk_mul, clt_nI, cle_nI, cgt_nI, cge_nI, ceq_nI, cne_nI, inr_nI, nI_clamp, nI_eq, nI_leI, nI_ltI, k493, f493_2, f493_3, f493_4, f493_5, f493_7, f493_8, f493_9, f493_10, k494, k495, k496, k497, k498, k499, k500, k501, l494, l495, l496, l497, l498, l499, l500, l501, hn, r_in, l_in2, bmI]
theorem r_isWatch {x : Int32} {n : Nat} {M : Me} (hn : M.1 495 3 = nI n) (h : n < 2 ^ 31) : DX8_isWatch [.ref 493, .int x] M = some (inr x n, M) := by
  rw [inr_bw]
  simp (disch := omega) [DX8_isWatch, EX8_isWatch, sseq, sif, ssi, ssj, ssr, sinc, sret, sretj, sretv, spop, scv, scs, fpi, fpj, foi, foj, aii, aiz, aij, aoi, aoj, scut, cut, snop, il, jl, rl, ik, jk, gi, gj, gr, i2, j2, i2d, j2d, i1, j1, i2l, l2i, fgi, fgj, fgr, iald, zald, jald, rald, alen, sald, ic, jc, bc, bz, bj, band, bor, bnot, anil, ai, aj, ar, cvi, cvj, cvz, csi, csj, csz, lset, lset2, isL, Value.category, mfi, mfj, mfz, mfv, ent, entn, gv, if_some, if_pair, if_cons, if_int, if_long, if_ref, ite_self, gz_b, ↓icb, b2i_ne, ge0, ge1, ge2, ge3, ge4, ge5, ge6, ge7, ge8, ge9, ge10, ge11, ge12, ge13, ge14, lit32, nI_add, pk_mul, clt_nI, cle_nI, cgt_nI, cge_nI, ceq_nI, cne_nI, inr_nI, nI_clamp, nI_eq, nI_leI, nI_ltI, k493, f493_2, f493_3, f493_4, f493_5, f493_7, f493_8, f493_9, f493_10, k494, k495, k496, k497, k498, k499, k500, k501, l494, l495, l496, l497, l498, l499, l500, l501, hn, r_in, l_in2, bmI]
def jnt (x : Int32) (nc nt : Nat) : Bool := if x < 10 then inr x nc else inr (x - 10) nt
theorem r_isJoint {x : Int32} {nc nt : Nat} {M : Me} (h0 : M.1 495 0 = nI nc) (h1 : M.1 495 1 = nI nt) (hc : nc < 2 ^ 31) (ht : nt < 2 ^ 31) : DX8_isJoint [.ref 493, .int x] M = some (jnt x nc nt, M) := by
  unfold jnt
  by_cases hx : x < nI 10
  · simp (disch := omega) [DX8_isJoint, EX8_isJoint, sseq, sif, ssi, ssj, ssr, sinc, sret, sretj, sretv, spop, scv, scs, fpi, fpj, foi, foj, aii, aiz, aij, aoi, aoj, scut, cut, snop, il, jl, rl, ik, jk, gi, gj, gr, i2, j2, i2d, j2d, i1, j1, i2l, l2i, fgi, fgj, fgr, iald, zald, jald, rald, alen, sald, ic, jc, bc, bz, bj, band, bor, bnot, anil, ai, aj, ar, cvi, cvj, cvz, csi, csj, csz, lset, lset2, isL, Value.category, mfi, mfj, mfz, mfv, ent, entn, gv, if_some, if_pair, if_cons, if_int, if_long, if_ref, ite_self, gz_b, ↓icb, b2i_ne, ge0, ge1, ge2, ge3, ge4, ge5, ge6, ge7, ge8, ge9, ge10, ge11, ge12, ge13, ge14, lit32, nI_add, pk_mul, clt_nI, cle_nI, cgt_nI, cge_nI, ceq_nI, cne_nI, inr_nI, nI_clamp, nI_eq, nI_leI, nI_ltI, k493, r_isChamber h0 hc, r_isTube h1 ht, clt, hx]
  · simp (disch := omega) [DX8_isJoint, EX8_isJoint, sseq, sif, ssi, ssj, ssr, sinc, sret, sretj, sretv, spop, scv, scs, fpi, fpj, foi, foj, aii, aiz, aij, aoi, aoj, scut, cut, snop, il, jl, rl, ik, jk, gi, gj, gr, i2, j2, i2d, j2d, i1, j1, i2l, l2i, fgi, fgj, fgr, iald, zald, jald, rald, alen, sald, ic, jc, bc, bz, bj, band, bor, bnot, anil, ai, aj, ar, cvi, cvj, cvz, csi, csj, csz, lset, lset2, isL, Value.category, mfi, mfj, mfz, mfv, ent, entn, gv, if_some, if_pair, if_cons, if_int, if_long, if_ref, ite_self, gz_b, ↓icb, b2i_ne, ge0, ge1, ge2, ge3, ge4, ge5, ge6, ge7, ge8, ge9, ge10, ge11, ge12, ge13, ge14, lit32, nI_add, pk_mul, clt_nI, cle_nI, cgt_nI, cge_nI, ceq_nI, cne_nI, inr_nI, nI_clamp, nI_eq, nI_leI, nI_ltI, k493, r_isChamber h0 hc, r_isTube h1 ht, clt, hx]
/-! what is told of a refused call -/
theorem nn32 (x : Int32) : -(-x) = x := Int32.neg_neg
theorem r_refuse1 {M : Me} : DX8_refuse [.ref 493, .int (-(nI 1))] M = some (-(nI 1), wi (wi M 493 1 (-(nI 1))) 494 1 (M.1 494 1 + nI 1)) := by
  simp (disch := omega) [DX8_refuse, EX8_refuse, sseq, sif, ssi, ssj, ssr, sinc, sret, sretj, sretv, spop, scv, scs, fpi, fpj, foi, foj, aii, aiz, aij, aoi, aoj, scut, cut, snop, il, jl, rl, ik, jk, gi, gj, gr, i2, j2, i2d, j2d, i1, j1, i2l, l2i, fgi, fgj, fgr, iald, zald, jald, rald, alen, sald, ic, jc, bc, bz, bj, band, bor, bnot, anil, ai, aj, ar, cvi, cvj, cvz, csi, csj, csz, lset, lset2, isL, Value.category, mfi, mfj, mfz, mfv, ent, entn, gv, if_some, if_pair, if_cons, if_int, if_long, if_ref, ite_self, gz_b, ↓icb, b2i_ne, ge0, ge1, ge2, ge3, ge4, ge5, ge6, ge7, ge8, ge9, ge10, ge11, ge12, ge13, ge14, lit32, nI_add, pk_mul, clt_nI, cle_nI, cgt_nI, cge_nI, ceq_nI, cne_nI, inr_nI, nI_clamp, nI_eq, nI_leI, nI_ltI, k493, f493_2, f493_3, f493_4, f493_5, f493_7, f493_8, f493_9, f493_10, k494, k495, k496, k497, k498, k499, k500, k501, l494, l495, l496, l497, l498, l499, l500, l501, nn32, wi]
theorem r_refuse2 {M : Me} : DX8_refuse [.ref 493, .int (-(nI 2))] M = some (-(nI 2), wi (wi M 493 1 (-(nI 2))) 494 2 (M.1 494 2 + nI 1)) := by
  simp (disch := omega) [DX8_refuse, EX8_refuse, sseq, sif, ssi, ssj, ssr, sinc, sret, sretj, sretv, spop, scv, scs, fpi, fpj, foi, foj, aii, aiz, aij, aoi, aoj, scut, cut, snop, il, jl, rl, ik, jk, gi, gj, gr, i2, j2, i2d, j2d, i1, j1, i2l, l2i, fgi, fgj, fgr, iald, zald, jald, rald, alen, sald, ic, jc, bc, bz, bj, band, bor, bnot, anil, ai, aj, ar, cvi, cvj, cvz, csi, csj, csz, lset, lset2, isL, Value.category, mfi, mfj, mfz, mfv, ent, entn, gv, if_some, if_pair, if_cons, if_int, if_long, if_ref, ite_self, gz_b, ↓icb, b2i_ne, ge0, ge1, ge2, ge3, ge4, ge5, ge6, ge7, ge8, ge9, ge10, ge11, ge12, ge13, ge14, lit32, nI_add, pk_mul, clt_nI, cle_nI, cgt_nI, cge_nI, ceq_nI, cne_nI, inr_nI, nI_clamp, nI_eq, nI_leI, nI_ltI, k493, f493_2, f493_3, f493_4, f493_5, f493_7, f493_8, f493_9, f493_10, k494, k495, k496, k497, k498, k499, k500, k501, l494, l495, l496, l497, l498, l499, l500, l501, nn32, wi]
theorem r_refuse4 {M : Me} : DX8_refuse [.ref 493, .int (-(nI 4))] M = some (-(nI 4), wi (wi M 493 1 (-(nI 4))) 494 4 (M.1 494 4 + nI 1)) := by
  simp (disch := omega) [DX8_refuse, EX8_refuse, sseq, sif, ssi, ssj, ssr, sinc, sret, sretj, sretv, spop, scv, scs, fpi, fpj, foi, foj, aii, aiz, aij, aoi, aoj, scut, cut, snop, il, jl, rl, ik, jk, gi, gj, gr, i2, j2, i2d, j2d, i1, j1, i2l, l2i, fgi, fgj, fgr, iald, zald, jald, rald, alen, sald, ic, jc, bc, bz, bj, band, bor, bnot, anil, ai, aj, ar, cvi, cvj, cvz, csi, csj, csz, lset, lset2, isL, Value.category, mfi, mfj, mfz, mfv, ent, entn, gv, if_some, if_pair, if_cons, if_int, if_long, if_ref, ite_self, gz_b, ↓icb, b2i_ne, ge0, ge1, ge2, ge3, ge4, ge5, ge6, ge7, ge8, ge9, ge10, ge11, ge12, ge13, ge14, lit32, nI_add, pk_mul, clt_nI, cle_nI, cgt_nI, cge_nI, ceq_nI, cne_nI, inr_nI, nI_clamp, nI_eq, nI_leI, nI_ltI, k493, f493_2, f493_3, f493_4, f493_5, f493_7, f493_8, f493_9, f493_10, k494, k495, k496, k497, k498, k499, k500, k501, l494, l495, l496, l497, l498, l499, l500, l501, nn32, wi]
theorem r_refuse5 {M : Me} : DX8_refuse [.ref 493, .int (-(nI 5))] M = some (-(nI 5), wi (wi M 493 1 (-(nI 5))) 494 5 (M.1 494 5 + nI 1)) := by
  simp (disch := omega) [DX8_refuse, EX8_refuse, sseq, sif, ssi, ssj, ssr, sinc, sret, sretj, sretv, spop, scv, scs, fpi, fpj, foi, foj, aii, aiz, aij, aoi, aoj, scut, cut, snop, il, jl, rl, ik, jk, gi, gj, gr, i2, j2, i2d, j2d, i1, j1, i2l, l2i, fgi, fgj, fgr, iald, zald, jald, rald, alen, sald, ic, jc, bc, bz, bj, band, bor, bnot, anil, ai, aj, ar, cvi, cvj, cvz, csi, csj, csz, lset, lset2, isL, Value.category, mfi, mfj, mfz, mfv, ent, entn, gv, if_some, if_pair, if_cons, if_int, if_long, if_ref, ite_self, gz_b, ↓icb, b2i_ne, ge0, ge1, ge2, ge3, ge4, ge5, ge6, ge7, ge8, ge9, ge10, ge11, ge12, ge13, ge14, lit32, nI_add, pk_mul, clt_nI, cle_nI, cgt_nI, cge_nI, ceq_nI, cne_nI, inr_nI, nI_clamp, nI_eq, nI_leI, nI_ltI, k493, f493_2, f493_3, f493_4, f493_5, f493_7, f493_8, f493_9, f493_10, k494, k495, k496, k497, k498, k499, k500, k501, l494, l495, l496, l497, l498, l499, l500, l501, nn32, wi]
/-! a row copied -/
def cpR (M : Me) (a x b y n : Nat) : Me := (fun q j => if q = b ∧ y ≤ j ∧ j < y + n then M.1 a (x + (j - y)) else M.1 q j, M.2)
theorem r_copy {a x b y : Nat} {M : Me} (ha : kd a = 8) (hb : kd b = 8) (hx : x + 331 ≤ ln a) (hy : y + 331 ≤ ln b) (hl : ln a ≤ 4000) (hl2 : ln b ≤ 4000) (hne : a ≠ b) : DX8_copy [.ref a, .int (nI x), .ref b, .int (nI y)] M = some (cpR M a x b y 331) := by
  have l1 : swh qX8_copy_1 wX8_copy_1 [.ref a, .int (nI x), .ref b, .int (nI y), .int (nI 0)] (cpR M a x b y 0) = some (none, [.ref a, .int (nI x), .ref b, .int (nI y), .int (nI 331)], cpR M a x b y 331) := swh_count (fun i => [.ref a, .int (nI x), .ref b, .int (nI y), .int (nI i)]) (fun i => cpR M a x b y i) 331
    (fun i hi => by simp (disch := omega) [qX8_copy_1, sseq, sif, ssi, ssj, ssr, sinc, sret, sretj, sretv, spop, scv, scs, fpi, fpj, foi, foj, aii, aiz, aij, aoi, aoj, scut, cut, snop, il, jl, rl, ik, jk, gi, gj, gr, i2, j2, i2d, j2d, i1, j1, i2l, l2i, fgi, fgj, fgr, iald, zald, jald, rald, alen, sald, ic, jc, bc, bz, bj, band, bor, bnot, anil, ai, aj, ar, cvi, cvj, cvz, csi, csj, csz, lset, lset2, isL, Value.category, mfi, mfj, mfz, mfv, ent, entn, gv, if_some, if_pair, if_cons, if_int, if_long, if_ref, ite_self, gz_b, ↓icb, b2i_ne, ge0, ge1, ge2, ge3, ge4, ge5, ge6, ge7, ge8, ge9, ge10, ge11, ge12, ge13, ge14, lit32, nI_add, pk_mul, clt_nI, cle_nI, cgt_nI, cge_nI, ceq_nI, cne_nI, inr_nI, nI_clamp, nI_eq, nI_leI, nI_ltI, k493, f493_2, f493_3, f493_4, f493_5, f493_7, f493_8, f493_9, f493_10, k494, k495, k496, k497, k498, k499, k500, k501, l494, l495, l496, l497, l498, l499, l500, l501, hi])
    (fun i hi => by
      simp (disch := omega) [wX8_copy_1, sseq, sif, ssi, ssj, ssr, sinc, sret, sretj, sretv, spop, scv, scs, fpi, fpj, foi, foj, aii, aiz, aij, aoi, aoj, scut, cut, snop, il, jl, rl, ik, jk, gi, gj, gr, i2, j2, i2d, j2d, i1, j1, i2l, l2i, fgi, fgj, fgr, iald, zald, jald, rald, alen, sald, ic, jc, bc, bz, bj, band, bor, bnot, anil, ai, aj, ar, cvi, cvj, cvz, csi, csj, csz, lset, lset2, isL, Value.category, mfi, mfj, mfz, mfv, ent, entn, gv, if_some, if_pair, if_cons, if_int, if_long, if_ref, ite_self, gz_b, ↓icb, b2i_ne, ge0, ge1, ge2, ge3, ge4, ge5, ge6, ge7, ge8, ge9, ge10, ge11, ge12, ge13, ge14, lit32, nI_add, pk_mul, clt_nI, cle_nI, cgt_nI, cge_nI, ceq_nI, cne_nI, inr_nI, nI_clamp, nI_eq, nI_leI, nI_ltI, k493, f493_2, f493_3, f493_4, f493_5, f493_7, f493_8, f493_9, f493_10, k494, k495, k496, k497, k498, k499, k500, k501, l494, l495, l496, l497, l498, l499, l500, l501, ha, hb]
      unfold cpR wi
      simp only [Prod.mk.injEq, and_true]
      funext q j
      by_cases e1 : q = b
      · subst e1
        by_cases e2 : j = y + i
        · subst e2
          simp [Ne.symm hne, hne]
        · simp only [e2, and_false, if_false, true_and]
          by_cases e3 : y ≤ j ∧ j < y + i
          · rw [if_pos e3, if_pos ⟨e3.1, by omega⟩]
          · rw [if_neg e3, if_neg (by omega)]
      · simp [e1])
    (by simp (disch := omega) [qX8_copy_1, sseq, sif, ssi, ssj, ssr, sinc, sret, sretj, sretv, spop, scv, scs, fpi, fpj, foi, foj, aii, aiz, aij, aoi, aoj, scut, cut, snop, il, jl, rl, ik, jk, gi, gj, gr, i2, j2, i2d, j2d, i1, j1, i2l, l2i, fgi, fgj, fgr, iald, zald, jald, rald, alen, sald, ic, jc, bc, bz, bj, band, bor, bnot, anil, ai, aj, ar, cvi, cvj, cvz, csi, csj, csz, lset, lset2, isL, Value.category, mfi, mfj, mfz, mfv, ent, entn, gv, if_some, if_pair, if_cons, if_int, if_long, if_ref, ite_self, gz_b, ↓icb, b2i_ne, ge0, ge1, ge2, ge3, ge4, ge5, ge6, ge7, ge8, ge9, ge10, ge11, ge12, ge13, ge14, lit32, nI_add, pk_mul, clt_nI, cle_nI, cgt_nI, cge_nI, ceq_nI, cne_nI, inr_nI, nI_clamp, nI_eq, nI_leI, nI_ltI, k493, f493_2, f493_3, f493_4, f493_5, f493_7, f493_8, f493_9, f493_10, k494, k495, k496, k497, k498, k499, k500, k501, l494, l495, l496, l497, l498, l499, l500, l501])
  have e0 : cpR M a x b y 0 = M := by
    unfold cpR
    have : (fun q j => if q = b ∧ y ≤ j ∧ j < y + 0 then M.1 a (x + (j - y)) else M.1 q j) = M.1 := by
      funext q j
      rw [if_neg (by omega)]
    rw [this]
  rw [e0] at l1
  simp (disch := omega) [DX8_copy, EX8_copy, sseq, sif, ssi, ssj, ssr, sinc, sret, sretj, sretv, spop, scv, scs, fpi, fpj, foi, foj, aii, aiz, aij, aoi, aoj, scut, cut, snop, il, jl, rl, ik, jk, gi, gj, gr, i2, j2, i2d, j2d, i1, j1, i2l, l2i, fgi, fgj, fgr, iald, zald, jald, rald, alen, sald, ic, jc, bc, bz, bj, band, bor, bnot, anil, ai, aj, ar, cvi, cvj, cvz, csi, csj, csz, lset, lset2, isL, Value.category, mfi, mfj, mfz, mfv, ent, entn, gv, if_some, if_pair, if_cons, if_int, if_long, if_ref, ite_self, gz_b, ↓icb, b2i_ne, ge0, ge1, ge2, ge3, ge4, ge5, ge6, ge7, ge8, ge9, ge10, ge11, ge12, ge13, ge14, lit32, nI_add, pk_mul, clt_nI, cle_nI, cgt_nI, cge_nI, ceq_nI, cne_nI, inr_nI, nI_clamp, nI_eq, nI_leI, nI_ltI, k493, f493_2, f493_3, f493_4, f493_5, f493_7, f493_8, f493_9, f493_10, k494, k495, k496, k497, k498, k499, k500, k501, l494, l495, l496, l497, l498, l499, l500, l501, l1]
