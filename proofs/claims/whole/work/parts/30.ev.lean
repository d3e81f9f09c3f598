/-! ===== the pure part: numbers, evaluation ===== -/
theorem lit32 (n : Nat) : (OfNat.ofNat n : Int32) = nI n := rfl
theorem clt_nI {a b : Nat} (ha : a < 2 ^ 31) (hb : b < 2 ^ 31) : clt (nI a) (nI b) = decide (a < b) := by unfold clt; exact decide_eq_decide.mpr (nI_ltI ha hb)
theorem cle_nI {a b : Nat} (ha : a < 2 ^ 31) (hb : b < 2 ^ 31) : cle (nI a) (nI b) = decide (a ≤ b) := by unfold cle; exact decide_eq_decide.mpr (nI_leI ha hb)
theorem cgt_nI {a b : Nat} (ha : a < 2 ^ 31) (hb : b < 2 ^ 31) : cgt (nI a) (nI b) = decide (b < a) := by unfold cgt; exact decide_eq_decide.mpr (nI_ltI hb ha)
theorem cge_nI {a b : Nat} (ha : a < 2 ^ 31) (hb : b < 2 ^ 31) : cge (nI a) (nI b) = decide (b ≤ a) := by unfold cge; exact decide_eq_decide.mpr (nI_leI hb ha)
theorem ceq_nI {a b : Nat} (ha : a < 2 ^ 31) (hb : b < 2 ^ 31) : ceq (nI a) (nI b) = decide (a = b) := by unfold ceq; exact decide_eq_decide.mpr (nI_eq ha hb)
theorem cne_nI {a b : Nat} (ha : a < 2 ^ 31) (hb : b < 2 ^ 31) : cne (nI a) (nI b) = decide (¬ a = b) := by unfold cne; exact decide_eq_decide.mpr (not_congr (nI_eq ha hb))
theorem inr_nI {k n : Nat} (h : k < n) (hn : n ≤ 2 ^ 31) : inr (nI k) n = true := by
  have h1 : ¬ nI k < 0 := nI_pos (by omega)
  have h2 := nI_clamp (n := k) (by omega)
  simp [inr, h1, h2, h]
theorem b2i_ne (b : Bool) : cne (b2i b) 0 = b := by cases b <;> decide
theorem b2i_t : b2i true = 1 := rfl
theorem b2i_f : b2i false = 0 := rfl
theorem gz_b (b : Bool) : gz (some (.int (b2i b))) = some b := by cases b <;> rfl
theorem gz_if (b : Bool) : gz (some (.int (if b = true then 1 else 0))) = some b := by cases b <;> rfl
theorem if_some {α : Type} {c : Prop} [Decidable c] {x y : α} : (if c then some x else some y) = some (if c then x else y) := by split <;> rfl
theorem if_pair {α β : Type} {c : Prop} [Decidable c] {x x' : α} {y y' : β} : (if c then (x, y) else (x', y')) = (if c then x else x', if c then y else y') := by split <;> rfl
theorem if_cons {α : Type} {c : Prop} [Decidable c] {x x' : α} {y y' : List α} : (if c then x :: y else x' :: y') = (if c then x else x') :: (if c then y else y') := by split <;> rfl
theorem if_int {c : Prop} [Decidable c] {x y : Int32} : (if c then Value.int x else Value.int y) = .int (if c then x else y) := by split <;> rfl
theorem if_long {c : Prop} [Decidable c] {x y : Int64} : (if c then Value.long x else Value.long y) = .long (if c then x else y) := by split <;> rfl
theorem if_ref {c : Prop} [Decidable c] {x y : Nat} : (if c then Value.ref x else Value.ref y) = .ref (if c then x else y) := by split <;> rfl
theorem icb {c : Bx} {r : Lo} {M : Me} : ic c (ik 1) (ik 0) r M = (c r M).bind fun b => some (b2i b.1, b.2) := by
  unfold ic ik b2i
  cases c r M with
  | none => rfl
  | some b => simp only [Option.bind_some]; split <;> rfl
/-! the reference's cells -/
theorem k493 : kd 493 = 7 := rfl
theorem f493_2 : rf 493 2 = 494 := rfl
theorem f493_3 : rf 493 3 = 495 := rfl
theorem f493_4 : rf 493 4 = 496 := rfl
theorem f493_5 : rf 493 5 = 497 := rfl
theorem f493_7 : rf 493 7 = 498 := rfl
theorem f493_8 : rf 493 8 = 499 := rfl
theorem f493_9 : rf 493 9 = 500 := rfl
theorem f493_10 : rf 493 10 = 501 := rfl
theorem k494 : kd 494 = 8 := rfl
theorem k495 : kd 495 = 8 := rfl
theorem k496 : kd 496 = 8 := rfl
theorem k497 : kd 497 = 8 := rfl
theorem k498 : kd 498 = 8 := rfl
theorem k499 : kd 499 = 10 := rfl
theorem k500 : kd 500 = 8 := rfl
theorem k501 : kd 501 = 8 := rfl
theorem l494 : ln 494 = 6 := rfl
theorem l495 : ln 495 = 331 := rfl
theorem l496 : ln 496 = 3310 := rfl
theorem l497 : ln 497 = 10 := rfl
theorem l498 : ln 498 = 662 := rfl
theorem l499 : ln 499 = 2 := rfl
theorem l500 : ln 500 = 331 := rfl
theorem l501 : ln 501 = 5 := rfl
/-! leaves of the reference -/
theorem r_in {a b d : Int64} {M : Me} : DX8_in [.long a, .long b, .long d] M = some (decide (b ≤ a) && decide (a ≤ d), M) := by
  by_cases h1 : b ≤ a <;> by_cases h2 : a ≤ d <;> simp [DX8_in, EX8_in, mfz, ent, entn, isL, Value.category, sret, ic, band, bj, qge, qle, jl, gj, ik, gz, gi, h1, h2]
theorem r_chamberAt {x : Int32} {M : Me} : DX8_chamberAt [.int x] M = some (8 + 4 * x, M) := rfl
theorem r_tubeAt {x : Int32} {M : Me} : DX8_tubeAt [.int x] M = some (28 + 4 * x, M) := rfl
theorem r_pumpAt {x : Int32} {M : Me} : DX8_pumpAt [.int x] M = some (68 + 9 * x, M) := rfl
theorem r_watchAt {x : Int32} {M : Me} : DX8_watchAt [.int x] M = some (95 + 6 * x, M) := rfl
theorem r_tell {x : Int32} {M : Me} : DX8_tell [.ref 493, .int x] M = some (x, wi M 493 1 0) := rfl
theorem r_isOpen {t : Nat} {M : Me} (ht : t < 10) : DX8_isOpen [.ref 493, .int (nI t)] M = some (ceq (M.1 495 (28 + 4 * t + 3)) 1, M) := by
  simp (disch := omega) [DX8_isOpen, EX8_isOpen, sseq, sif, ssi, ssj, ssr, sinc, sret, sretj, sretv, spop, scv, scs, fpi, fpj, foi, foj, aii, aiz, aij, aoi, aoj, scut, cut, snop, il, jl, rl, ik, jk, gi, gj, gr, i2, j2, i2d, j2d, i1, j1, i2l, l2i, fgi, fgj, fgr, iald, zald, jald, rald, alen, sald, ic, jc, bc, bz, bj, band, bor, bnot, anil, ai, aj, ar, cvi, cvj, cvz, csi, csj, csz, lset, lset2, isL, Value.category, mfi, mfj, mfz, mfv, ent, entn, gv, mxi, mni, mxj, mnj, abj, if_some, if_pair, if_cons, if_int, if_long, if_ref, ite_self, gz_b, ↓icb, b2i_ne, r_tubeAt, k493, f493_3, k495, l495, lit32, nI_add, pk_mul, clt_nI, cle_nI, cgt_nI, cge_nI, ceq_nI, cne_nI, inr_nI, nI_clamp]
theorem r_isAt {t : Nat} {x : Int32} {M : Me} (ht : t < 10) : DX8_isAt [.ref 493, .int (nI t), .int x] M = some (ceq (M.1 495 (28 + 4 * t)) x || ceq (M.1 495 (28 + 4 * t + 1)) x, M) := by
  simp (disch := omega) [DX8_isAt, EX8_isAt, sseq, sif, ssi, ssj, ssr, sinc, sret, sretj, sretv, spop, scv, scs, fpi, fpj, foi, foj, aii, aiz, aij, aoi, aoj, scut, cut, snop, il, jl, rl, ik, jk, gi, gj, gr, i2, j2, i2d, j2d, i1, j1, i2l, l2i, fgi, fgj, fgr, iald, zald, jald, rald, alen, sald, ic, jc, bc, bz, bj, band, bor, bnot, anil, ai, aj, ar, cvi, cvj, cvz, csi, csj, csz, lset, lset2, isL, Value.category, mfi, mfj, mfz, mfv, ent, entn, gv, mxi, mni, mxj, mnj, abj, if_some, if_pair, if_cons, if_int, if_long, if_ref, ite_self, gz_b, ↓icb, b2i_ne, r_tubeAt, k493, f493_3, k495, l495, lit32, nI_add, pk_mul, clt_nI, cle_nI, cgt_nI, cge_nI, ceq_nI, cne_nI, inr_nI, nI_clamp]
theorem r_runs {t : Nat} {M : Me} (ht : t < 3) : DX8_runs [.ref 493, .int (nI t)] M = some (ceq (M.1 495 (68 + 9 * t + 1)) 1, M) := by
  simp (disch := omega) [DX8_runs, EX8_runs, sseq, sif, ssi, ssj, ssr, sinc, sret, sretj, sretv, spop, scv, scs, fpi, fpj, foi, foj, aii, aiz, aij, aoi, aoj, scut, cut, snop, il, jl, rl, ik, jk, gi, gj, gr, i2, j2, i2d, j2d, i1, j1, i2l, l2i, fgi, fgj, fgr, iald, zald, jald, rald, alen, sald, ic, jc, bc, bz, bj, band, bor, bnot, anil, ai, aj, ar, cvi, cvj, cvz, csi, csj, csz, lset, lset2, isL, Value.category, mfi, mfj, mfz, mfv, ent, entn, gv, mxi, mni, mxj, mnj, abj, if_some, if_pair, if_cons, if_int, if_long, if_ref, ite_self, gz_b, ↓icb, b2i_ne, r_pumpAt, k493, f493_3, k495, l495, lit32, nI_add, pk_mul, clt_nI, cle_nI, cgt_nI, cge_nI, ceq_nI, cne_nI, inr_nI, nI_clamp]
theorem r_load {t : Nat} {M : Me} (ht : t < 5) : DX8_load [.ref 493, .int (nI t)] M = some (M.1 495 (8 + 4 * t) + M.1 495 (8 + 4 * t + 1) * M.1 495 (8 + 4 * t + 2) / 64, M) := by
  simp (disch := omega) [DX8_load, EX8_load, sseq, sif, ssi, ssj, ssr, sinc, sret, sretj, sretv, spop, scv, scs, fpi, fpj, foi, foj, aii, aiz, aij, aoi, aoj, scut, cut, snop, il, jl, rl, ik, jk, gi, gj, gr, i2, j2, i2d, j2d, i1, j1, i2l, l2i, fgi, fgj, fgr, iald, zald, jald, rald, alen, sald, ic, jc, bc, bz, bj, band, bor, bnot, anil, ai, aj, ar, cvi, cvj, cvz, csi, csj, csz, lset, lset2, isL, Value.category, mfi, mfj, mfz, mfv, ent, entn, gv, mxi, mni, mxj, mnj, abj, if_some, if_pair, if_cons, if_int, if_long, if_ref, ite_self, gz_b, ↓icb, b2i_ne, r_chamberAt, k493, f493_3, k495, l495, lit32, nI_add, pk_mul, clt_nI, cle_nI, cgt_nI, cge_nI, ceq_nI, cne_nI, inr_nI, nI_clamp]
def gsp (X : Nat → Int32) (p : Nat) : Nat → Int32
  | 0 => 0
  | k + 1 => if gsp X p k < X (68 + 9 * p + 2 + k) then X (68 + 9 * p + 2 + k) else gsp X p k
theorem r_greatestSpeed {t : Nat} {M : Me} (ht : t < 3) : DX8_greatestSpeed [.ref 493, .int (nI t)] M = some (gsp (M.1 495) t 3, M) := by
  have l1 := swh_count (c := qX8_greatestSpeed_1) (b := wX8_greatestSpeed_1) (fun i => [.ref 493, .int (nI t), .int (gsp (M.1 495) t i), .int (nI i), .null]) (fun _ => M) 3
    (fun i hi => by simp (disch := omega) [qX8_greatestSpeed_1, sseq, sif, ssi, ssj, ssr, sinc, sret, sretj, sretv, spop, scv, scs, fpi, fpj, foi, foj, aii, aiz, aij, aoi, aoj, scut, cut, snop, il, jl, rl, ik, jk, gi, gj, gr, i2, j2, i2d, j2d, i1, j1, i2l, l2i, fgi, fgj, fgr, iald, zald, jald, rald, alen, sald, ic, jc, bc, bz, bj, band, bor, bnot, anil, ai, aj, ar, cvi, cvj, cvz, csi, csj, csz, lset, lset2, isL, Value.category, mfi, mfj, mfz, mfv, ent, entn, gv, mxi, mni, mxj, mnj, abj, if_some, if_pair, if_cons, if_int, if_long, if_ref, ite_self, gz_b, ↓icb, b2i_ne, lit32, nI_add, pk_mul, clt_nI, cle_nI, cgt_nI, cge_nI, ceq_nI, cne_nI, inr_nI, nI_clamp, hi])
    (fun i hi => by simp (disch := omega) [wX8_greatestSpeed_1, sseq, sif, ssi, ssj, ssr, sinc, sret, sretj, sretv, spop, scv, scs, fpi, fpj, foi, foj, aii, aiz, aij, aoi, aoj, scut, cut, snop, il, jl, rl, ik, jk, gi, gj, gr, i2, j2, i2d, j2d, i1, j1, i2l, l2i, fgi, fgj, fgr, iald, zald, jald, rald, alen, sald, ic, jc, bc, bz, bj, band, bor, bnot, anil, ai, aj, ar, cvi, cvj, cvz, csi, csj, csz, lset, lset2, isL, Value.category, mfi, mfj, mfz, mfv, ent, entn, gv, mxi, mni, mxj, mnj, abj, if_some, if_pair, if_cons, if_int, if_long, if_ref, ite_self, gz_b, ↓icb, b2i_ne, lit32, nI_add, pk_mul, clt_nI, cle_nI, cgt_nI, cge_nI, ceq_nI, cne_nI, inr_nI, nI_clamp, r_pumpAt, k493, f493_3, k495, l495, gsp, cgt])
    (by simp (disch := omega) [qX8_greatestSpeed_1, sseq, sif, ssi, ssj, ssr, sinc, sret, sretj, sretv, spop, scv, scs, fpi, fpj, foi, foj, aii, aiz, aij, aoi, aoj, scut, cut, snop, il, jl, rl, ik, jk, gi, gj, gr, i2, j2, i2d, j2d, i1, j1, i2l, l2i, fgi, fgj, fgr, iald, zald, jald, rald, alen, sald, ic, jc, bc, bz, bj, band, bor, bnot, anil, ai, aj, ar, cvi, cvj, cvz, csi, csj, csz, lset, lset2, isL, Value.category, mfi, mfj, mfz, mfv, ent, entn, gv, mxi, mni, mxj, mnj, abj, if_some, if_pair, if_cons, if_int, if_long, if_ref, ite_self, gz_b, ↓icb, b2i_ne, lit32, nI_add, pk_mul, clt_nI, cle_nI, cgt_nI, cge_nI, ceq_nI, cne_nI, inr_nI, nI_clamp])
  simp (disch := omega) [DX8_greatestSpeed, EX8_greatestSpeed, sseq, sif, ssi, ssj, ssr, sinc, sret, sretj, sretv, spop, scv, scs, fpi, fpj, foi, foj, aii, aiz, aij, aoi, aoj, scut, cut, snop, il, jl, rl, ik, jk, gi, gj, gr, i2, j2, i2d, j2d, i1, j1, i2l, l2i, fgi, fgj, fgr, iald, zald, jald, rald, alen, sald, ic, jc, bc, bz, bj, band, bor, bnot, anil, ai, aj, ar, cvi, cvj, cvz, csi, csj, csz, lset, lset2, isL, Value.category, mfi, mfj, mfz, mfv, ent, entn, gv, mxi, mni, mxj, mnj, abj, if_some, if_pair, if_cons, if_int, if_long, if_ref, ite_self, gz_b, ↓icb, b2i_ne, lit32, nI_add, pk_mul, clt_nI, cle_nI, cgt_nI, cge_nI, ceq_nI, cne_nI, inr_nI, nI_clamp, nI_0, l1]
