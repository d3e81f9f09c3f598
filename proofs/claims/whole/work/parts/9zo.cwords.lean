/-! words, decoded code and what a new object holds: for the constructors -/
theorem lnb_d : ∀ b ∈ lnb, b + 30 ≤ 61 ∨ (128 ≤ b ∧ b + 30 ≤ 492) := by decide +kernel
theorem lnb_ne {b : Nat} (hb : b ∈ lnb) : b + 30 ≤ 61 ∨ (128 ≤ b ∧ b + 30 ≤ 492) := lnb_d b hb
def ddX0 : List Value := [.null, .null, .null, .null, .int 0, .null, .null, .null, .int 0, .int 0, .null, .long 0]
theorem dfX0 : ∀ j, j < 12 → defaultValue (tyX0 j) = vp_V ddX0 j := by decide +kernel
def ddX1 : List Value := [.int 0, .int 0, .int 0, .int 0, .int 0, .int 0, .int 0, .int 0, .int 0, .null, .null, .null, .null, .null]
theorem dfX1 : ∀ j, j < 14 → defaultValue (tyX1 j) = vp_V ddX1 j := by decide +kernel
def ddX3 : List Value := [.null, .null, .int 0, .int 0]
theorem dfX3 : ∀ j, j < 4 → defaultValue (tyX3 j) = vp_V ddX3 j := by decide +kernel
def ddX4 : List Value := [.null, .null, .null, .long 0, .long 0, .int 0]
theorem dfX4 : ∀ j, j < 6 → defaultValue (tyX4 j) = vp_V ddX4 j := by decide +kernel
def ddX5 : List Value := [.null, .null, .null, .null, .int 0, .int 0, .int 0, .int 0, .int 0]
theorem dfX5 : ∀ j, j < 9 → defaultValue (tyX5 j) = vp_V ddX5 j := by decide +kernel
def ddX6 : List Value := [.null, .int 0]
theorem dfX6 : ∀ j, j < 2 → defaultValue (tyX6 j) = vp_V ddX6 j := by decide +kernel
def ddX7 : List Value := [.null, .null, .null, .null, .null, .null, .null, .null, .null, .null, .int 0]
theorem dfX7 : ∀ j, j < 11 → defaultValue (tyX7 j) = vp_V ddX7 j := by decide +kernel
def ddX8 : List Value := [.int 0, .int 0, .null, .null, .null, .null, .int 0, .null, .null, .null, .null, .null, .null, .null, .long 0, .null, .null, .null, .long 0, .null, .null, .int 0, .int 0, .int 0, .int 0, .int 0, .null, .null, .null, .null, .null, .int 0, .null, .null, .null]
theorem dfX8 : ∀ j, j < 35 → defaultValue (tyX8 j) = vp_V ddX8 j := by decide +kernel
set_option maxRecDepth 20000 in
theorem fi_X0 {h0 : Nat} {cy : Nat → ClassId} : ce h0 cy M0 61 = .inr (0, [.ref (h0 + 62), .ref (h0 + 63), .ref (h0 + 64), .ref (h0 + 92), .int 0, .ref (h0 + 93), .ref (h0 + 94), .ref (h0 + 95), .int (-1), .int 0, .ref (h0 + 96), .long 1]) := rfl
set_option maxRecDepth 20000 in
theorem fi_X6 {h0 : Nat} {cy : Nat → ClassId} : ce h0 cy M0 97 = .inr (5, [.ref (h0 + 61), .int 0]) := rfl
set_option maxRecDepth 20000 in
theorem fi_X5 {h0 : Nat} {cy : Nat → ClassId} : ce h0 cy M0 98 = .inr (4, [.ref (h0 + 61), .ref (h0 + 99), .ref (h0 + 100), .ref (h0 + 101), .int 0, .int 0, .int 0, .int 0, .int 0]) := rfl
set_option maxRecDepth 20000 in
theorem fi_X4 {h0 : Nat} {cy : Nat → ClassId} : ce h0 cy M0 122 = .inr (3, [.ref (h0 + 123), .ref (h0 + 124), .ref (h0 + 125), .long 0, .long 0, .int 0]) := rfl
set_option maxRecDepth 20000 in
theorem fi_X3 {h0 : Nat} {cy : Nat → ClassId} : ce h0 cy M0 126 = .inr (2, [.ref (h0 + 127), .ref (h0 + 428), .int 0, .int 0]) := rfl
set_option maxRecDepth 20000 in
theorem fi_X7 {h0 : Nat} {cy : Nat → ClassId} : ce h0 cy M0 0 = .inr (6, [.ref (h0 + 1), .ref (h0 + 31), .ref (h0 + 61), .ref (h0 + 97), .ref (h0 + 98), .ref (h0 + 122), .ref (h0 + 126), .ref (h0 + 429), .ref (h0 + 490), .ref (h0 + 491), .int 0]) := rfl
set_option maxRecDepth 20000 in
theorem fi_X8 {h0 : Nat} {cy : Nat → ClassId} : ce h0 cy M0 492 = .inr (7, [.int 0, .int 0, .ref (h0 + 493), .ref (h0 + 494), .ref (h0 + 495), .ref (h0 + 496), .int 0, .ref (h0 + 497), .ref (h0 + 498), .ref (h0 + 499), .ref (h0 + 500), .ref (h0 + 501), .ref (h0 + 502), .ref (h0 + 503), .long 0, .ref (h0 + 504), .ref (h0 + 505), .ref (h0 + 506), .long 0, .ref (h0 + 507), .ref (h0 + 508), .int 0, .int 0, .int 0, .int 0, .int 0, .ref (h0 + 509), .ref (h0 + 510), .ref (h0 + 511), .ref (h0 + 512), .ref (h0 + 513), .int 0, .ref (h0 + 514), .ref (h0 + 515), .ref (h0 + 516)]) := rfl
set_option maxRecDepth 20000 in
theorem fi_X1 {h0 b : Nat} {cy : Nat → ClassId} (hb : b ∈ lnb) : ce h0 cy M0 b = .inr (1, [.int 0, .int 0, .int 0, .int 0, .int 0, .int (-1), .int 0, .int (-1), .int 0, .ref (h0 + (b + 1)), .ref (h0 + (b + 7)), .ref (h0 + (b + 18)), .ref (h0 + (b + 22)), .ref (h0 + (b + 29))]) := by
  have hn := lnb_ne hb
  rw [ce_obj (a_kb hb) (by decide)]
  have e : ∀ k, k < 9 → fv h0 M0 b 1 k = .int (if k = 5 ∨ k = 7 then -1 else 0) := fun k hk => by
    have hf : ft 1 k = 0 := (by decide : ∀ k, k < 9 → ft 1 k = 0) k hk
    unfold fv
    rw [if_pos hf]
    simp [M0, a_kb hb, show b ≠ 61 by omega, show b ≠ 62 by omega, show b ≠ 494 by omega]
  have e2 : ∀ k, 9 ≤ k → k < 14 → fv h0 M0 b 1 k = .ref (h0 + rf b k) := fun k h1 h2 => by
    have hf : ft 1 k = 2 := (by decide : ∀ k, k < 14 → 9 ≤ k → ft 1 k = 2) k h2 h1
    unfold fv
    rw [if_neg (by omega), if_neg (by omega)]
  show Sum.inr (1, [fv h0 M0 b 1 0, fv h0 M0 b 1 1, fv h0 M0 b 1 2, fv h0 M0 b 1 3, fv h0 M0 b 1 4, fv h0 M0 b 1 5, fv h0 M0 b 1 6, fv h0 M0 b 1 7, fv h0 M0 b 1 8, fv h0 M0 b 1 9, fv h0 M0 b 1 10, fv h0 M0 b 1 11, fv h0 M0 b 1 12, fv h0 M0 b 1 13]) = _
  rw [e 0 (by decide), e 1 (by decide), e 2 (by decide), e 3 (by decide), e 4 (by decide), e 5 (by decide), e 6 (by decide), e 7 (by decide), e 8 (by decide), e2 9 (by decide) (by decide), e2 10 (by decide) (by decide), e2 11 (by decide) (by decide), e2 12 (by decide) (by decide), e2 13 (by decide) (by decide), a_9 hb, a_10 hb, a_11 hb, a_12 hb, a_13 hb]
  rfl
set_option maxRecDepth 20000 in
theorem z_ref {h0 a k n : Nat} {cy : Nat → ClassId} (h : kd a = k) (hk : 11 ≤ k) (hn : ln a = n) : ce h0 cy M0 a = .inl (cy k, n, .inr (.inr (.inr (.inr (fun i => some (h0 + rf a i)))))) := by
  subst h
  rw [ce_ref hk, hn]
set_option maxRecDepth 20000 in
theorem z_62 {h0 : Nat} {cy : Nat → ClassId} : ce h0 cy M0 62 = .inl (cy 8, 54, .inl (upd (fun _ => 0) (0 : Int32).toNatClampNeg (-1))) := by
  rw [ce_int rfl]
  congr 4
  funext i
  by_cases h : i = 0
  · subst h; rfl
  · simp [M0, upd, h, show kd 62 = 8 from rfl]
set_option maxRecDepth 20000 in
theorem z_494 {h0 : Nat} {cy : Nat → ClassId} : ce h0 cy M0 494 = .inl (cy 8, 331, .inl (upd (fun _ => 0) (5 : Int32).toNatClampNeg (-1))) := by
  rw [ce_int rfl]
  congr 4
  funext i
  by_cases h : i = 5
  · subst h; rfl
  · simp [M0, upd, h, show kd 494 = 8 from rfl]
set_option maxRecDepth 20000 in
theorem at_arr {h0 a N : Nat} {D : va_G} {cA : ClassId} {f f2 : Nat → Option Nat} {H : Heap} (h : va_at D vwCl (h0 + a, .inl (cA, N, .inr (.inr (.inr (.inr f))))) H) (hf : ∀ i, i < N → f i = f2 i) : va_at D vwCl (h0 + a, .inl (cA, N, .inr (.inr (.inr (.inr f2))))) H := by
  have e : vp_cell cA (N, .inr (.inr (.inr (.inr f)))) = vp_cell cA (N, .inr (.inr (.inr (.inr f2)))) := by
    rw [vp_cell_q, vp_cell_q]
    unfold arrV
    congr 1
    congr 1
    funext q
    show va_rf (f q.val) = va_rf (f2 q.val)
    rw [hf _ q.isLt]
  have h1 : H[h0 + a]? = some (vp_cell cA (N, .inr (.inr (.inr (.inr f))))) := h
  show H[h0 + a]? = some (vp_cell cA (N, .inr (.inr (.inr (.inr f2)))))
  rw [← e]
  exact h1
set_option maxRecDepth 20000 in
theorem ar_127 {h0 : Nat} {cy : Nat → ClassId} {D : va_G} {H : Heap} (h : va_at D vwCl (h0 + 127, .inl (cy 11, 10, .inr (.inr (.inr (.inr (va_up (va_up (va_up (va_up (va_up (va_up (va_up (va_up (va_up (va_up (fun _ => none) (0 : Int32).toNatClampNeg (some (h0 + 128))) (1 : Int32).toNatClampNeg (some (h0 + 158))) (2 : Int32).toNatClampNeg (some (h0 + 188))) (3 : Int32).toNatClampNeg (some (h0 + 218))) (4 : Int32).toNatClampNeg (some (h0 + 248))) (5 : Int32).toNatClampNeg (some (h0 + 278))) (6 : Int32).toNatClampNeg (some (h0 + 308))) (7 : Int32).toNatClampNeg (some (h0 + 338))) (8 : Int32).toNatClampNeg (some (h0 + 368))) (9 : Int32).toNatClampNeg (some (h0 + 398)))))))) H) : va_at D vwCl (h0 + 127, ce h0 cy M0 127) H := by
  rw [z_ref (k := 11) (n := 10) rfl (by decide) rfl]
  refine at_arr h (fun i hi => ?_)
  match i, hi with
  | 0, _ => rfl
  | 1, _ => rfl
  | 2, _ => rfl
  | 3, _ => rfl
  | 4, _ => rfl
  | 5, _ => rfl
  | 6, _ => rfl
  | 7, _ => rfl
  | 8, _ => rfl
  | 9, _ => rfl
  | k + 10, hk => exact absurd hk (by omega)
set_option maxRecDepth 20000 in
theorem ar_429 {h0 : Nat} {cy : Nat → ClassId} {D : va_G} {H : Heap} (h : va_at D vwCl (h0 + 429, .inl (cy 11, 2, .inr (.inr (.inr (.inr (va_up (va_up (fun _ => none) (0 : Int32).toNatClampNeg (some (h0 + 430))) (1 : Int32).toNatClampNeg (some (h0 + 460)))))))) H) : va_at D vwCl (h0 + 429, ce h0 cy M0 429) H := by
  rw [z_ref (k := 11) (n := 2) rfl (by decide) rfl]
  refine at_arr h (fun i hi => ?_)
  match i, hi with
  | 0, _ => rfl
  | 1, _ => rfl
  | k + 2, hk => exact absurd hk (by omega)
theorem km_X1_3 : Cond.methodLink RX1 3 Lib.objectInit ∈ lw_g := lw_gm (tb1 (List.mem_of_getElem? (i := 27) rfl)) rfl
theorem kO_i : Cond.instanceMethod Lib.objectInit ∈ lw_g := lw_gm (tb1 (List.mem_of_getElem? (i := 20) rfl)) rfl
theorem kO_c : Cond.code Lib.objectInit ⟨#[0xb1]⟩ 1 none ∈ lw_g := lw_gm (tb1 (List.mem_of_getElem? (i := 21) rfl)) rfl
theorem kf_X1_9 : Fld RX1 9 TX1 5 := lw_gm (tb1 (List.mem_of_getElem? (i := 51) rfl)) rfl
theorem kf_X1_15 : Fld RX1 15 TX1 7 := lw_gm (tb1 (List.mem_of_getElem? (i := 55) rfl)) rfl
theorem kc_X1_18 : Cond.classLink RX1 18 ("[" ++ (FieldType.array .int).toString) ∈ lw_g := lw_gm (tb1 (List.mem_of_getElem? (i := 28) rfl)) rfl
theorem ka_int : Cond.arrayClass .int ∈ lw_g := lw_gm (tb1 (List.mem_of_getElem? (i := 105) rfl)) rfl
theorem kf_X1_20 : Fld RX1 20 TX1 9 := lw_gm (tb1 (List.mem_of_getElem? (i := 59) rfl)) rfl
theorem kf_X1_23 : Fld RX1 23 TX1 10 := lw_gm (tb1 (List.mem_of_getElem? (i := 62) rfl)) rfl
theorem kf_X1_26 : Fld RX1 26 TX1 11 := lw_gm (tb1 (List.mem_of_getElem? (i := 66) rfl)) rfl
theorem kf_X1_29 : Fld RX1 29 TX1 12 := lw_gm (tb1 (List.mem_of_getElem? (i := 70) rfl)) rfl
theorem kf_X1_32 : Fld RX1 32 TX1 13 := lw_gm (tb1 (List.mem_of_getElem? (i := 73) rfl)) rfl
theorem hk_X1 : Mtk yX1_init cX1_init 1 0 := ⟨⟨lw_gm (tb1 (List.mem_of_getElem? (i := 25) rfl)) rfl, lw_gm (tb1 (List.mem_of_getElem? (i := 2) rfl)) rfl, lw_gm (tb1 (List.mem_of_getElem? (i := 26) rfl)) rfl⟩, rfl, by decide +kernel, by decide +kernel, by decide +kernel⟩
theorem km_X0_5 : Cond.methodLink RX0 5 Lib.objectInit ∈ lw_g := lw_gm (tb1 (List.mem_of_getElem? (i := 111) rfl)) rfl
theorem kf_X0_11 : Fld RX0 11 TX0 0 := lw_gm (tb1 (List.mem_of_getElem? (i := 114) rfl)) rfl
theorem qk_63 : kd 63 = 8 ∧ ln 63 = 54 := by decide +kernel
theorem kf_X0_15 : Fld RX0 15 TX0 1 := lw_gm (tb1 (List.mem_of_getElem? (i := 115) rfl)) rfl
theorem kc_X0_18 : Cond.classLink RX0 18 ("[" ++ (FieldType.array .long).toString) ∈ lw_g := lw_gm (tb1 (List.mem_of_getElem? (i := 112) rfl)) rfl
theorem ka_long : Cond.arrayClass .long ∈ lw_g := lw_gm (tb1 (List.mem_of_getElem? (i := 153) rfl)) rfl
theorem qk_64 : kd 64 = 13 ∧ ln 64 = 27 := by decide +kernel
theorem rr_64 : ∀ q, q < 27 → rf 64 q = 64 + 1 + q := by decide +kernel
theorem rk_64 : ∀ q, q < 27 → kd (64 + 1 + q) = 9 ∧ ln (64 + 1 + q) = 25 := by decide +kernel
theorem kf_X0_20 : Fld RX0 20 TX0 2 := lw_gm (tb1 (List.mem_of_getElem? (i := 116) rfl)) rfl
theorem qk_92 : kd 92 = 9 ∧ ln 92 = 27 := by decide +kernel
theorem kf_X0_23 : Fld RX0 23 TX0 3 := lw_gm (tb1 (List.mem_of_getElem? (i := 117) rfl)) rfl
theorem qk_93 : kd 93 = 8 ∧ ln 93 = 27 := by decide +kernel
theorem kf_X0_27 : Fld RX0 27 TX0 5 := lw_gm (tb1 (List.mem_of_getElem? (i := 119) rfl)) rfl
theorem qk_94 : kd 94 = 8 ∧ ln 94 = 5 := by decide +kernel
theorem kf_X0_30 : Fld RX0 30 TX0 6 := lw_gm (tb1 (List.mem_of_getElem? (i := 120) rfl)) rfl
theorem qk_95 : kd 95 = 8 ∧ ln 95 = 5 := by decide +kernel
theorem kf_X0_33 : Fld RX0 33 TX0 7 := lw_gm (tb1 (List.mem_of_getElem? (i := 121) rfl)) rfl
theorem qk_96 : kd 96 = 9 ∧ ln 96 = 5 := by decide +kernel
theorem kf_X0_36 : Fld RX0 36 TX0 10 := lw_gm (tb1 (List.mem_of_getElem? (i := 124) rfl)) rfl
theorem kf_X0_39 : Fld RX0 39 TX0 11 := lw_gm (tb1 (List.mem_of_getElem? (i := 126) rfl)) rfl
theorem kf_X0_43 : Fld RX0 43 TX0 8 := lw_gm (tb1 (List.mem_of_getElem? (i := 122) rfl)) rfl
theorem hk_X0 : Mtk yX0_init cX0_init 1 0 := ⟨⟨lw_gm (tb1 (List.mem_of_getElem? (i := 109) rfl)) rfl, lw_gm (tb1 (List.mem_of_getElem? (i := 3) rfl)) rfl, lw_gm (tb1 (List.mem_of_getElem? (i := 110) rfl)) rfl⟩, rfl, by decide +kernel, by decide +kernel, by decide +kernel⟩
theorem km_X6_3 : Cond.methodLink RX6 3 Lib.objectInit ∈ lw_g := lw_gm (tb1 (List.mem_of_getElem? (i := 159) rfl)) rfl
theorem kf_X6_9 : Fld RX6 9 TX6 0 := lw_gm (tb1 (List.mem_of_getElem? (i := 160) rfl)) rfl
theorem hk_X6 : Mtk yX6_init cX6_init 2 1 := ⟨⟨lw_gm (tb1 (List.mem_of_getElem? (i := 157) rfl)) rfl, lw_gm (tb1 (List.mem_of_getElem? (i := 4) rfl)) rfl, lw_gm (tb1 (List.mem_of_getElem? (i := 158) rfl)) rfl⟩, rfl, by decide +kernel, by decide +kernel, by decide +kernel⟩
theorem km_X5_3 : Cond.methodLink RX5 3 Lib.objectInit ∈ lw_g := lw_gm (tb1 (List.mem_of_getElem? (i := 173) rfl)) rfl
theorem kf_X5_9 : Fld RX5 9 TX5 0 := lw_gm (tb1 (List.mem_of_getElem? (i := 175) rfl)) rfl
theorem qk_99 : kd 99 = 8 ∧ ln 99 = 20 := by decide +kernel
theorem kf_X5_15 : Fld RX5 15 TX5 1 := lw_gm (tb1 (List.mem_of_getElem? (i := 176) rfl)) rfl
theorem qk_100 : kd 100 = 8 ∧ ln 100 = 20 := by decide +kernel
theorem kf_X5_19 : Fld RX5 19 TX5 2 := lw_gm (tb1 (List.mem_of_getElem? (i := 177) rfl)) rfl
theorem kc_X5_22 : Cond.classLink RX5 22 ("[" ++ (FieldType.array .int).toString) ∈ lw_g := lw_gm (tb1 (List.mem_of_getElem? (i := 174) rfl)) rfl
theorem qk_101 : kd 101 = 12 ∧ ln 101 = 20 := by decide +kernel
theorem rr_101 : ∀ q, q < 20 → rf 101 q = 101 + 1 + q := by decide +kernel
theorem rk_101 : ∀ q, q < 20 → kd (101 + 1 + q) = 8 ∧ ln (101 + 1 + q) = 6 := by decide +kernel
theorem kf_X5_24 : Fld RX5 24 TX5 3 := lw_gm (tb1 (List.mem_of_getElem? (i := 178) rfl)) rfl
theorem hk_X5 : Mtk yX5_init cX5_init 2 1 := ⟨⟨lw_gm (tb1 (List.mem_of_getElem? (i := 171) rfl)) rfl, lw_gm (tb1 (List.mem_of_getElem? (i := 5) rfl)) rfl, lw_gm (tb1 (List.mem_of_getElem? (i := 172) rfl)) rfl⟩, rfl, by decide +kernel, by decide +kernel, by decide +kernel⟩
theorem km_X4_3 : Cond.methodLink RX4 3 Lib.objectInit ∈ lw_g := lw_gm (tb1 (List.mem_of_getElem? (i := 213) rfl)) rfl
theorem qk_123 : kd 123 = 9 ∧ ln 123 = 25 := by decide +kernel
theorem kf_X4_9 : Fld RX4 9 TX4 0 := lw_gm (tb1 (List.mem_of_getElem? (i := 214) rfl)) rfl
theorem qk_124 : kd 124 = 9 ∧ ln 124 = 25 := by decide +kernel
theorem kf_X4_15 : Fld RX4 15 TX4 1 := lw_gm (tb1 (List.mem_of_getElem? (i := 215) rfl)) rfl
theorem qk_125 : kd 125 = 9 ∧ ln 125 = 25 := by decide +kernel
theorem kf_X4_18 : Fld RX4 18 TX4 2 := lw_gm (tb1 (List.mem_of_getElem? (i := 216) rfl)) rfl
theorem hk_X4 : Mtk yX4_init cX4_init 1 0 := ⟨⟨lw_gm (tb1 (List.mem_of_getElem? (i := 211) rfl)) rfl, lw_gm (tb1 (List.mem_of_getElem? (i := 6) rfl)) rfl, lw_gm (tb1 (List.mem_of_getElem? (i := 212) rfl)) rfl⟩, rfl, by decide +kernel, by decide +kernel, by decide +kernel⟩
theorem km_X3_3 : Cond.methodLink RX3 3 Lib.objectInit ∈ lw_g := lw_gm (tb2 (List.mem_of_getElem? (i := 1) rfl)) rfl
theorem kc_X3_9 : Cond.classLink RX3 9 "VacuumDesk$Line" ∈ lw_g := lw_gm (tb2 (List.mem_of_getElem? (i := 2) rfl)) rfl
theorem kf_X3_11 : Fld RX3 11 TX3 0 := lw_gm (tb2 (List.mem_of_getElem? (i := 5) rfl)) rfl
theorem ki_X1 : Cond.instantiable RX1 14 ∈ lw_g := lw_gm (tb1 (List.mem_of_getElem? (i := 23) rfl)) rfl
theorem kn_X1 : Cond.initialized RX1 ∈ lw_g := lw_gm (tb1 (List.mem_of_getElem? (i := 2) rfl)) rfl
theorem km_X3_17 : Cond.methodLink RX3 17 yX1_init ∈ lw_g := lw_gm (tb2 (List.mem_of_getElem? (i := 4) rfl)) rfl
theorem qk_428 : kd 428 = 8 ∧ ln 428 = 10 := by decide +kernel
theorem kf_X3_18 : Fld RX3 18 TX3 1 := lw_gm (tb2 (List.mem_of_getElem? (i := 6) rfl)) rfl
theorem hk_X3 : Mtk yX3_init cX3_init 2 0 := ⟨⟨lw_gm (tb1 (List.mem_of_getElem? (i := 239) rfl)) rfl, lw_gm (tb1 (List.mem_of_getElem? (i := 7) rfl)) rfl, lw_gm (tb2 (List.mem_of_getElem? (i := 0) rfl)) rfl⟩, rfl, by decide +kernel, by decide +kernel, by decide +kernel⟩
theorem km_X7_1 : Cond.methodLink RX7 1 Lib.objectInit ∈ lw_g := lw_gm (tb1 (List.mem_of_getElem? (i := 19) rfl)) rfl
theorem kc_X7_7 : Cond.classLink RX7 7 RX1 ∈ lw_g := lw_gm (tb1 (List.mem_of_getElem? (i := 22) rfl)) rfl
theorem km_X7_9 : Cond.methodLink RX7 9 yX1_init ∈ lw_g := lw_gm (tb1 (List.mem_of_getElem? (i := 24) rfl)) rfl
theorem kf_X7_10 : Fld RX7 10 TX7 0 := lw_gm (tb2 (List.mem_of_getElem? (i := 19) rfl)) rfl
theorem kf_X7_16 : Fld RX7 16 TX7 1 := lw_gm (tb2 (List.mem_of_getElem? (i := 20) rfl)) rfl
theorem kc_X7_19 : Cond.classLink RX7 19 RX0 ∈ lw_g := lw_gm (tb1 (List.mem_of_getElem? (i := 106) rfl)) rfl
theorem ki_X0 : Cond.instantiable RX0 12 ∈ lw_g := lw_gm (tb1 (List.mem_of_getElem? (i := 107) rfl)) rfl
theorem kn_X0 : Cond.initialized RX0 ∈ lw_g := lw_gm (tb1 (List.mem_of_getElem? (i := 3) rfl)) rfl
theorem km_X7_21 : Cond.methodLink RX7 21 yX0_init ∈ lw_g := lw_gm (tb1 (List.mem_of_getElem? (i := 108) rfl)) rfl
theorem kf_X7_22 : Fld RX7 22 TX7 2 := lw_gm (tb2 (List.mem_of_getElem? (i := 21) rfl)) rfl
theorem kc_X7_26 : Cond.classLink RX7 26 RX6 ∈ lw_g := lw_gm (tb1 (List.mem_of_getElem? (i := 154) rfl)) rfl
theorem ki_X6 : Cond.instantiable RX6 2 ∈ lw_g := lw_gm (tb1 (List.mem_of_getElem? (i := 155) rfl)) rfl
theorem kn_X6 : Cond.initialized RX6 ∈ lw_g := lw_gm (tb1 (List.mem_of_getElem? (i := 4) rfl)) rfl
theorem km_X7_28 : Cond.methodLink RX7 28 yX6_init ∈ lw_g := lw_gm (tb1 (List.mem_of_getElem? (i := 156) rfl)) rfl
theorem kf_X7_31 : Fld RX7 31 TX7 3 := lw_gm (tb2 (List.mem_of_getElem? (i := 22) rfl)) rfl
theorem kc_X7_35 : Cond.classLink RX7 35 RX5 ∈ lw_g := lw_gm (tb1 (List.mem_of_getElem? (i := 168) rfl)) rfl
theorem ki_X5 : Cond.instantiable RX5 9 ∈ lw_g := lw_gm (tb1 (List.mem_of_getElem? (i := 169) rfl)) rfl
theorem kn_X5 : Cond.initialized RX5 ∈ lw_g := lw_gm (tb1 (List.mem_of_getElem? (i := 5) rfl)) rfl
theorem km_X7_37 : Cond.methodLink RX7 37 yX5_init ∈ lw_g := lw_gm (tb1 (List.mem_of_getElem? (i := 170) rfl)) rfl
theorem kf_X7_38 : Fld RX7 38 TX7 4 := lw_gm (tb2 (List.mem_of_getElem? (i := 23) rfl)) rfl
theorem kc_X7_42 : Cond.classLink RX7 42 RX4 ∈ lw_g := lw_gm (tb1 (List.mem_of_getElem? (i := 208) rfl)) rfl
theorem ki_X4 : Cond.instantiable RX4 6 ∈ lw_g := lw_gm (tb1 (List.mem_of_getElem? (i := 209) rfl)) rfl
theorem kn_X4 : Cond.initialized RX4 ∈ lw_g := lw_gm (tb1 (List.mem_of_getElem? (i := 6) rfl)) rfl
theorem km_X7_44 : Cond.methodLink RX7 44 yX4_init ∈ lw_g := lw_gm (tb1 (List.mem_of_getElem? (i := 210) rfl)) rfl
theorem kf_X7_45 : Fld RX7 45 TX7 5 := lw_gm (tb2 (List.mem_of_getElem? (i := 24) rfl)) rfl
theorem kc_X7_49 : Cond.classLink RX7 49 RX3 ∈ lw_g := lw_gm (tb1 (List.mem_of_getElem? (i := 236) rfl)) rfl
theorem ki_X3 : Cond.instantiable RX3 4 ∈ lw_g := lw_gm (tb1 (List.mem_of_getElem? (i := 237) rfl)) rfl
theorem kn_X3 : Cond.initialized RX3 ∈ lw_g := lw_gm (tb1 (List.mem_of_getElem? (i := 7) rfl)) rfl
theorem km_X7_51 : Cond.methodLink RX7 51 yX3_init ∈ lw_g := lw_gm (tb1 (List.mem_of_getElem? (i := 238) rfl)) rfl
theorem kf_X7_52 : Fld RX7 52 TX7 6 := lw_gm (tb2 (List.mem_of_getElem? (i := 25) rfl)) rfl
theorem kf_X7_56 : Fld RX7 56 TX7 7 := lw_gm (tb2 (List.mem_of_getElem? (i := 26) rfl)) rfl
theorem ka_boolean : Cond.arrayClass .boolean ∈ lw_g := lw_gm (tb2 (List.mem_of_getElem? (i := 53) rfl)) rfl
theorem qk_490 : kd 490 = 10 ∧ ln 490 = 2 := by decide +kernel
theorem kf_X7_60 : Fld RX7 60 TX7 8 := lw_gm (tb2 (List.mem_of_getElem? (i := 27) rfl)) rfl
theorem qk_491 : kd 491 = 8 ∧ ln 491 = 4 := by decide +kernel
theorem kf_X7_64 : Fld RX7 64 TX7 9 := lw_gm (tb2 (List.mem_of_getElem? (i := 28) rfl)) rfl
theorem kf_X7_68 : Fld RX7 68 TX7 10 := lw_gm (tb2 (List.mem_of_getElem? (i := 29) rfl)) rfl
theorem hk_X7 : Mtk yX7_init cX7_init 2 0 := ⟨⟨lw_gm (tb1 (List.mem_of_getElem? (i := 17) rfl)) rfl, lw_gm (tb1 (List.mem_of_getElem? (i := 1) rfl)) rfl, lw_gm (tb1 (List.mem_of_getElem? (i := 18) rfl)) rfl⟩, rfl, by decide +kernel, by decide +kernel, by decide +kernel⟩
theorem km_X8_1 : Cond.methodLink RX8 1 Lib.objectInit ∈ lw_g := lw_gm (tb4 (List.mem_of_getElem? (i := 182) rfl)) rfl
theorem qk_493 : kd 493 = 8 ∧ ln 493 = 6 := by decide +kernel
theorem kf_X8_7 : Fld RX8 7 TX8 2 := lw_gm (tb4 (List.mem_of_getElem? (i := 185) rfl)) rfl
theorem kf_X8_13 : Fld RX8 13 TX8 3 := lw_gm (tb4 (List.mem_of_getElem? (i := 186) rfl)) rfl
theorem qk_495 : kd 495 = 8 ∧ ln 495 = 3310 := by decide +kernel
theorem kf_X8_16 : Fld RX8 16 TX8 4 := lw_gm (tb4 (List.mem_of_getElem? (i := 187) rfl)) rfl
theorem qk_496 : kd 496 = 8 ∧ ln 496 = 10 := by decide +kernel
theorem kf_X8_19 : Fld RX8 19 TX8 5 := lw_gm (tb4 (List.mem_of_getElem? (i := 188) rfl)) rfl
theorem qk_497 : kd 497 = 8 ∧ ln 497 = 662 := by decide +kernel
theorem kf_X8_22 : Fld RX8 22 TX8 7 := lw_gm (tb4 (List.mem_of_getElem? (i := 190) rfl)) rfl
theorem qk_498 : kd 498 = 10 ∧ ln 498 = 2 := by decide +kernel
theorem kf_X8_25 : Fld RX8 25 TX8 8 := lw_gm (tb4 (List.mem_of_getElem? (i := 191) rfl)) rfl
theorem qk_499 : kd 499 = 8 ∧ ln 499 = 331 := by decide +kernel
theorem kf_X8_29 : Fld RX8 29 TX8 9 := lw_gm (tb4 (List.mem_of_getElem? (i := 192) rfl)) rfl
theorem qk_500 : kd 500 = 8 ∧ ln 500 = 5 := by decide +kernel
theorem kf_X8_32 : Fld RX8 32 TX8 10 := lw_gm (tb4 (List.mem_of_getElem? (i := 193) rfl)) rfl
theorem qk_501 : kd 501 = 9 ∧ ln 501 = 25 := by decide +kernel
theorem kf_X8_35 : Fld RX8 35 TX8 11 := lw_gm (tb4 (List.mem_of_getElem? (i := 194) rfl)) rfl
theorem qk_502 : kd 502 = 9 ∧ ln 502 = 25 := by decide +kernel
theorem kf_X8_39 : Fld RX8 39 TX8 12 := lw_gm (tb4 (List.mem_of_getElem? (i := 195) rfl)) rfl
theorem qk_503 : kd 503 = 9 ∧ ln 503 = 16 := by decide +kernel
theorem kf_X8_42 : Fld RX8 42 TX8 13 := lw_gm (tb4 (List.mem_of_getElem? (i := 196) rfl)) rfl
theorem qk_504 : kd 504 = 8 ∧ ln 504 = 5 := by decide +kernel
theorem kf_X8_45 : Fld RX8 45 TX8 15 := lw_gm (tb4 (List.mem_of_getElem? (i := 198) rfl)) rfl
theorem qk_505 : kd 505 = 8 ∧ ln 505 = 5 := by decide +kernel
theorem kf_X8_48 : Fld RX8 48 TX8 16 := lw_gm (tb4 (List.mem_of_getElem? (i := 199) rfl)) rfl
theorem qk_506 : kd 506 = 9 ∧ ln 506 = 5 := by decide +kernel
theorem kf_X8_51 : Fld RX8 51 TX8 17 := lw_gm (tb4 (List.mem_of_getElem? (i := 200) rfl)) rfl
theorem qk_507 : kd 507 = 10 ∧ ln 507 = 5 := by decide +kernel
theorem kf_X8_54 : Fld RX8 54 TX8 19 := lw_gm (tb4 (List.mem_of_getElem? (i := 202) rfl)) rfl
theorem qk_508 : kd 508 = 8 ∧ ln 508 = 3 := by decide +kernel
theorem kf_X8_57 : Fld RX8 57 TX8 20 := lw_gm (tb4 (List.mem_of_getElem? (i := 203) rfl)) rfl
theorem qk_509 : kd 509 = 8 ∧ ln 509 = 3 := by decide +kernel
theorem kf_X8_60 : Fld RX8 60 TX8 26 := lw_gm (tb4 (List.mem_of_getElem? (i := 209) rfl)) rfl
theorem qk_510 : kd 510 = 8 ∧ ln 510 = 10 := by decide +kernel
theorem kf_X8_63 : Fld RX8 63 TX8 27 := lw_gm (tb4 (List.mem_of_getElem? (i := 210) rfl)) rfl
theorem qk_511 : kd 511 = 8 ∧ ln 511 = 10 := by decide +kernel
theorem kf_X8_66 : Fld RX8 66 TX8 28 := lw_gm (tb4 (List.mem_of_getElem? (i := 211) rfl)) rfl
theorem qk_512 : kd 512 = 9 ∧ ln 512 = 10 := by decide +kernel
theorem kf_X8_69 : Fld RX8 69 TX8 29 := lw_gm (tb4 (List.mem_of_getElem? (i := 212) rfl)) rfl
theorem qk_513 : kd 513 = 9 ∧ ln 513 = 10 := by decide +kernel
theorem kf_X8_72 : Fld RX8 72 TX8 30 := lw_gm (tb4 (List.mem_of_getElem? (i := 213) rfl)) rfl
theorem qk_514 : kd 514 = 8 ∧ ln 514 = 20 := by decide +kernel
theorem kf_X8_75 : Fld RX8 75 TX8 32 := lw_gm (tb4 (List.mem_of_getElem? (i := 215) rfl)) rfl
theorem qk_515 : kd 515 = 8 ∧ ln 515 = 20 := by decide +kernel
theorem kf_X8_78 : Fld RX8 78 TX8 33 := lw_gm (tb4 (List.mem_of_getElem? (i := 216) rfl)) rfl
theorem qk_516 : kd 516 = 8 ∧ ln 516 = 120 := by decide +kernel
theorem kf_X8_81 : Fld RX8 81 TX8 34 := lw_gm (tb4 (List.mem_of_getElem? (i := 217) rfl)) rfl
theorem hk_X8 : Mtk yX8_init cX8_init 1 0 := ⟨⟨lw_gm (tb4 (List.mem_of_getElem? (i := 180) rfl)) rfl, lw_gm (tb1 (List.mem_of_getElem? (i := 8) rfl)) rfl, lw_gm (tb4 (List.mem_of_getElem? (i := 181) rfl)) rfl⟩, rfl, by decide +kernel, by decide +kernel, by decide +kernel⟩
theorem dX1_init_0 : decode cX1_init 0 = .ok (.aload_n 0, 1) := by decide +kernel
theorem dX1_init_1 : decode cX1_init 1 = .ok (.invokespecial 3, 3) := by decide +kernel
theorem dX1_init_4 : decode cX1_init 4 = .ok (.aload_n 0, 1) := by decide +kernel
theorem dX1_init_5 : decode cX1_init 5 = .ok (.iconst (-1), 1) := by decide +kernel
theorem dX1_init_6 : decode cX1_init 6 = .ok (.putfield 9, 3) := by decide +kernel
theorem dX1_init_9 : decode cX1_init 9 = .ok (.aload_n 0, 1) := by decide +kernel
theorem dX1_init_10 : decode cX1_init 10 = .ok (.iconst (-1), 1) := by decide +kernel
theorem dX1_init_11 : decode cX1_init 11 = .ok (.putfield 15, 3) := by decide +kernel
theorem dX1_init_14 : decode cX1_init 14 = .ok (.aload_n 0, 1) := by decide +kernel
theorem dX1_init_15 : decode cX1_init 15 = .ok (.iconst 5, 1) := by decide +kernel
theorem dX1_init_16 : decode cX1_init 16 = .ok (.iconst 4, 1) := by decide +kernel
theorem dX1_init_17 : decode cX1_init 17 = .ok (.multianewarray 18 2, 4) := by decide +kernel
theorem dX1_init_21 : decode cX1_init 21 = .ok (.putfield 20, 3) := by decide +kernel
theorem dX1_init_24 : decode cX1_init 24 = .ok (.aload_n 0, 1) := by decide +kernel
theorem dX1_init_25 : decode cX1_init 25 = .ok (.bipush 10, 2) := by decide +kernel
theorem dX1_init_27 : decode cX1_init 27 = .ok (.iconst 4, 1) := by decide +kernel
theorem dX1_init_28 : decode cX1_init 28 = .ok (.multianewarray 18 2, 4) := by decide +kernel
theorem dX1_init_32 : decode cX1_init 32 = .ok (.putfield 23, 3) := by decide +kernel
theorem dX1_init_35 : decode cX1_init 35 = .ok (.aload_n 0, 1) := by decide +kernel
theorem dX1_init_36 : decode cX1_init 36 = .ok (.iconst 3, 1) := by decide +kernel
theorem dX1_init_37 : decode cX1_init 37 = .ok (.bipush 9, 2) := by decide +kernel
theorem dX1_init_39 : decode cX1_init 39 = .ok (.multianewarray 18 2, 4) := by decide +kernel
theorem dX1_init_43 : decode cX1_init 43 = .ok (.putfield 26, 3) := by decide +kernel
theorem dX1_init_46 : decode cX1_init 46 = .ok (.aload_n 0, 1) := by decide +kernel
theorem dX1_init_47 : decode cX1_init 47 = .ok (.bipush 6, 2) := by decide +kernel
theorem dX1_init_49 : decode cX1_init 49 = .ok (.bipush 6, 2) := by decide +kernel
theorem dX1_init_51 : decode cX1_init 51 = .ok (.multianewarray 18 2, 4) := by decide +kernel
theorem dX1_init_55 : decode cX1_init 55 = .ok (.putfield 29, 3) := by decide +kernel
theorem dX1_init_58 : decode cX1_init 58 = .ok (.aload_n 0, 1) := by decide +kernel
theorem dX1_init_59 : decode cX1_init 59 = .ok (.sipush 200, 3) := by decide +kernel
theorem dX1_init_62 : decode cX1_init 62 = .ok (.newarray .int, 2) := by decide +kernel
theorem dX1_init_64 : decode cX1_init 64 = .ok (.putfield 32, 3) := by decide +kernel
theorem dX1_init_67 : decode cX1_init 67 = .ok (.return_, 1) := by decide +kernel
theorem dX0_init_0 : decode cX0_init 0 = .ok (.aload_n 0, 1) := by decide +kernel
theorem dX0_init_1 : decode cX0_init 1 = .ok (.invokespecial 5, 3) := by decide +kernel
theorem dX0_init_4 : decode cX0_init 4 = .ok (.aload_n 0, 1) := by decide +kernel
theorem dX0_init_5 : decode cX0_init 5 = .ok (.bipush 54, 2) := by decide +kernel
theorem dX0_init_7 : decode cX0_init 7 = .ok (.newarray .int, 2) := by decide +kernel
theorem dX0_init_9 : decode cX0_init 9 = .ok (.putfield 11, 3) := by decide +kernel
theorem dX0_init_12 : decode cX0_init 12 = .ok (.aload_n 0, 1) := by decide +kernel
theorem dX0_init_13 : decode cX0_init 13 = .ok (.getfield 11, 3) := by decide +kernel
theorem dX0_init_16 : decode cX0_init 16 = .ok (.iconst 0, 1) := by decide +kernel
theorem dX0_init_17 : decode cX0_init 17 = .ok (.iconst (-1), 1) := by decide +kernel
theorem dX0_init_18 : decode cX0_init 18 = .ok (.iastore, 1) := by decide +kernel
theorem dX0_init_19 : decode cX0_init 19 = .ok (.aload_n 0, 1) := by decide +kernel
theorem dX0_init_20 : decode cX0_init 20 = .ok (.bipush 54, 2) := by decide +kernel
theorem dX0_init_22 : decode cX0_init 22 = .ok (.newarray .int, 2) := by decide +kernel
theorem dX0_init_24 : decode cX0_init 24 = .ok (.putfield 15, 3) := by decide +kernel
theorem dX0_init_27 : decode cX0_init 27 = .ok (.aload_n 0, 1) := by decide +kernel
theorem dX0_init_28 : decode cX0_init 28 = .ok (.bipush 27, 2) := by decide +kernel
theorem dX0_init_30 : decode cX0_init 30 = .ok (.bipush 25, 2) := by decide +kernel
theorem dX0_init_32 : decode cX0_init 32 = .ok (.multianewarray 18 2, 4) := by decide +kernel
theorem dX0_init_36 : decode cX0_init 36 = .ok (.putfield 20, 3) := by decide +kernel
theorem dX0_init_39 : decode cX0_init 39 = .ok (.aload_n 0, 1) := by decide +kernel
theorem dX0_init_40 : decode cX0_init 40 = .ok (.bipush 27, 2) := by decide +kernel
theorem dX0_init_42 : decode cX0_init 42 = .ok (.newarray .long, 2) := by decide +kernel
theorem dX0_init_44 : decode cX0_init 44 = .ok (.putfield 23, 3) := by decide +kernel
theorem dX0_init_47 : decode cX0_init 47 = .ok (.aload_n 0, 1) := by decide +kernel
theorem dX0_init_48 : decode cX0_init 48 = .ok (.bipush 27, 2) := by decide +kernel
theorem dX0_init_50 : decode cX0_init 50 = .ok (.newarray .int, 2) := by decide +kernel
theorem dX0_init_52 : decode cX0_init 52 = .ok (.putfield 27, 3) := by decide +kernel
theorem dX0_init_55 : decode cX0_init 55 = .ok (.aload_n 0, 1) := by decide +kernel
theorem dX0_init_56 : decode cX0_init 56 = .ok (.iconst 5, 1) := by decide +kernel
theorem dX0_init_57 : decode cX0_init 57 = .ok (.newarray .int, 2) := by decide +kernel
theorem dX0_init_59 : decode cX0_init 59 = .ok (.putfield 30, 3) := by decide +kernel
theorem dX0_init_62 : decode cX0_init 62 = .ok (.aload_n 0, 1) := by decide +kernel
theorem dX0_init_63 : decode cX0_init 63 = .ok (.iconst 5, 1) := by decide +kernel
theorem dX0_init_64 : decode cX0_init 64 = .ok (.newarray .int, 2) := by decide +kernel
theorem dX0_init_66 : decode cX0_init 66 = .ok (.putfield 33, 3) := by decide +kernel
theorem dX0_init_69 : decode cX0_init 69 = .ok (.aload_n 0, 1) := by decide +kernel
theorem dX0_init_70 : decode cX0_init 70 = .ok (.iconst 5, 1) := by decide +kernel
theorem dX0_init_71 : decode cX0_init 71 = .ok (.newarray .long, 2) := by decide +kernel
theorem dX0_init_73 : decode cX0_init 73 = .ok (.putfield 36, 3) := by decide +kernel
theorem dX0_init_76 : decode cX0_init 76 = .ok (.aload_n 0, 1) := by decide +kernel
theorem dX0_init_77 : decode cX0_init 77 = .ok (.lconst 1, 1) := by decide +kernel
theorem dX0_init_78 : decode cX0_init 78 = .ok (.putfield 39, 3) := by decide +kernel
theorem dX0_init_81 : decode cX0_init 81 = .ok (.aload_n 0, 1) := by decide +kernel
theorem dX0_init_82 : decode cX0_init 82 = .ok (.iconst (-1), 1) := by decide +kernel
theorem dX0_init_83 : decode cX0_init 83 = .ok (.putfield 43, 3) := by decide +kernel
theorem dX0_init_86 : decode cX0_init 86 = .ok (.return_, 1) := by decide +kernel
theorem dX6_init_0 : decode cX6_init 0 = .ok (.aload_n 0, 1) := by decide +kernel
theorem dX6_init_1 : decode cX6_init 1 = .ok (.invokespecial 3, 3) := by decide +kernel
theorem dX6_init_4 : decode cX6_init 4 = .ok (.aload_n 0, 1) := by decide +kernel
theorem dX6_init_5 : decode cX6_init 5 = .ok (.aload_n 1, 1) := by decide +kernel
theorem dX6_init_6 : decode cX6_init 6 = .ok (.putfield 9, 3) := by decide +kernel
theorem dX6_init_9 : decode cX6_init 9 = .ok (.return_, 1) := by decide +kernel
theorem dX5_init_0 : decode cX5_init 0 = .ok (.aload_n 0, 1) := by decide +kernel
theorem dX5_init_1 : decode cX5_init 1 = .ok (.invokespecial 3, 3) := by decide +kernel
theorem dX5_init_4 : decode cX5_init 4 = .ok (.aload_n 0, 1) := by decide +kernel
theorem dX5_init_5 : decode cX5_init 5 = .ok (.aload_n 1, 1) := by decide +kernel
theorem dX5_init_6 : decode cX5_init 6 = .ok (.putfield 9, 3) := by decide +kernel
theorem dX5_init_9 : decode cX5_init 9 = .ok (.aload_n 0, 1) := by decide +kernel
theorem dX5_init_10 : decode cX5_init 10 = .ok (.bipush 20, 2) := by decide +kernel
theorem dX5_init_12 : decode cX5_init 12 = .ok (.newarray .int, 2) := by decide +kernel
theorem dX5_init_14 : decode cX5_init 14 = .ok (.putfield 15, 3) := by decide +kernel
theorem dX5_init_17 : decode cX5_init 17 = .ok (.aload_n 0, 1) := by decide +kernel
theorem dX5_init_18 : decode cX5_init 18 = .ok (.bipush 20, 2) := by decide +kernel
theorem dX5_init_20 : decode cX5_init 20 = .ok (.newarray .int, 2) := by decide +kernel
theorem dX5_init_22 : decode cX5_init 22 = .ok (.putfield 19, 3) := by decide +kernel
theorem dX5_init_25 : decode cX5_init 25 = .ok (.aload_n 0, 1) := by decide +kernel
theorem dX5_init_26 : decode cX5_init 26 = .ok (.bipush 20, 2) := by decide +kernel
theorem dX5_init_28 : decode cX5_init 28 = .ok (.bipush 6, 2) := by decide +kernel
theorem dX5_init_30 : decode cX5_init 30 = .ok (.multianewarray 22 2, 4) := by decide +kernel
theorem dX5_init_34 : decode cX5_init 34 = .ok (.putfield 24, 3) := by decide +kernel
theorem dX5_init_37 : decode cX5_init 37 = .ok (.return_, 1) := by decide +kernel
theorem dX4_init_0 : decode cX4_init 0 = .ok (.aload_n 0, 1) := by decide +kernel
theorem dX4_init_1 : decode cX4_init 1 = .ok (.invokespecial 3, 3) := by decide +kernel
theorem dX4_init_4 : decode cX4_init 4 = .ok (.aload_n 0, 1) := by decide +kernel
theorem dX4_init_5 : decode cX4_init 5 = .ok (.bipush 25, 2) := by decide +kernel
theorem dX4_init_7 : decode cX4_init 7 = .ok (.newarray .long, 2) := by decide +kernel
theorem dX4_init_9 : decode cX4_init 9 = .ok (.putfield 9, 3) := by decide +kernel
theorem dX4_init_12 : decode cX4_init 12 = .ok (.aload_n 0, 1) := by decide +kernel
theorem dX4_init_13 : decode cX4_init 13 = .ok (.bipush 25, 2) := by decide +kernel
theorem dX4_init_15 : decode cX4_init 15 = .ok (.newarray .long, 2) := by decide +kernel
theorem dX4_init_17 : decode cX4_init 17 = .ok (.putfield 15, 3) := by decide +kernel
theorem dX4_init_20 : decode cX4_init 20 = .ok (.aload_n 0, 1) := by decide +kernel
theorem dX4_init_21 : decode cX4_init 21 = .ok (.bipush 25, 2) := by decide +kernel
theorem dX4_init_23 : decode cX4_init 23 = .ok (.newarray .long, 2) := by decide +kernel
theorem dX4_init_25 : decode cX4_init 25 = .ok (.putfield 18, 3) := by decide +kernel
theorem dX4_init_28 : decode cX4_init 28 = .ok (.return_, 1) := by decide +kernel
theorem dX3_init_0 : decode cX3_init 0 = .ok (.aload_n 0, 1) := by decide +kernel
theorem dX3_init_1 : decode cX3_init 1 = .ok (.invokespecial 3, 3) := by decide +kernel
theorem dX3_init_4 : decode cX3_init 4 = .ok (.aload_n 0, 1) := by decide +kernel
theorem dX3_init_5 : decode cX3_init 5 = .ok (.bipush 10, 2) := by decide +kernel
theorem dX3_init_7 : decode cX3_init 7 = .ok (.anewarray 9, 3) := by decide +kernel
theorem dX3_init_10 : decode cX3_init 10 = .ok (.putfield 11, 3) := by decide +kernel
theorem dX3_init_13 : decode cX3_init 13 = .ok (.iconst 0, 1) := by decide +kernel
theorem dX3_init_14 : decode cX3_init 14 = .ok (.istore_n 1, 1) := by decide +kernel
theorem dX3_init_15 : decode cX3_init 15 = .ok (.iload_n 1, 1) := by decide +kernel
theorem dX3_init_16 : decode cX3_init 16 = .ok (.bipush 10, 2) := by decide +kernel
theorem dX3_init_18 : decode cX3_init 18 = .ok (.if_icmp .ge 22, 3) := by decide +kernel
theorem dX3_init_21 : decode cX3_init 21 = .ok (.aload_n 0, 1) := by decide +kernel
theorem dX3_init_22 : decode cX3_init 22 = .ok (.getfield 11, 3) := by decide +kernel
theorem dX3_init_25 : decode cX3_init 25 = .ok (.iload_n 1, 1) := by decide +kernel
theorem dX3_init_26 : decode cX3_init 26 = .ok (.new 9, 3) := by decide +kernel
theorem dX3_init_29 : decode cX3_init 29 = .ok (.dup, 1) := by decide +kernel
theorem dX3_init_30 : decode cX3_init 30 = .ok (.invokespecial 17, 3) := by decide +kernel
theorem dX3_init_33 : decode cX3_init 33 = .ok (.aastore, 1) := by decide +kernel
theorem dX3_init_34 : decode cX3_init 34 = .ok (.iinc 1 1, 3) := by decide +kernel
theorem dX3_init_37 : decode cX3_init 37 = .ok (.goto (-22), 3) := by decide +kernel
theorem dX3_init_40 : decode cX3_init 40 = .ok (.aload_n 0, 1) := by decide +kernel
theorem dX3_init_41 : decode cX3_init 41 = .ok (.bipush 10, 2) := by decide +kernel
theorem dX3_init_43 : decode cX3_init 43 = .ok (.newarray .int, 2) := by decide +kernel
theorem dX3_init_45 : decode cX3_init 45 = .ok (.putfield 18, 3) := by decide +kernel
theorem dX3_init_48 : decode cX3_init 48 = .ok (.return_, 1) := by decide +kernel
theorem dX7_init_0 : decode cX7_init 0 = .ok (.aload_n 0, 1) := by decide +kernel
theorem dX7_init_1 : decode cX7_init 1 = .ok (.invokespecial 1, 3) := by decide +kernel
theorem dX7_init_4 : decode cX7_init 4 = .ok (.aload_n 0, 1) := by decide +kernel
theorem dX7_init_5 : decode cX7_init 5 = .ok (.new 7, 3) := by decide +kernel
theorem dX7_init_8 : decode cX7_init 8 = .ok (.dup, 1) := by decide +kernel
theorem dX7_init_9 : decode cX7_init 9 = .ok (.invokespecial 9, 3) := by decide +kernel
theorem dX7_init_12 : decode cX7_init 12 = .ok (.putfield 10, 3) := by decide +kernel
theorem dX7_init_15 : decode cX7_init 15 = .ok (.aload_n 0, 1) := by decide +kernel
theorem dX7_init_16 : decode cX7_init 16 = .ok (.new 7, 3) := by decide +kernel
theorem dX7_init_19 : decode cX7_init 19 = .ok (.dup, 1) := by decide +kernel
theorem dX7_init_20 : decode cX7_init 20 = .ok (.invokespecial 9, 3) := by decide +kernel
theorem dX7_init_23 : decode cX7_init 23 = .ok (.putfield 16, 3) := by decide +kernel
theorem dX7_init_26 : decode cX7_init 26 = .ok (.aload_n 0, 1) := by decide +kernel
theorem dX7_init_27 : decode cX7_init 27 = .ok (.new 19, 3) := by decide +kernel
theorem dX7_init_30 : decode cX7_init 30 = .ok (.dup, 1) := by decide +kernel
theorem dX7_init_31 : decode cX7_init 31 = .ok (.invokespecial 21, 3) := by decide +kernel
theorem dX7_init_34 : decode cX7_init 34 = .ok (.putfield 22, 3) := by decide +kernel
theorem dX7_init_37 : decode cX7_init 37 = .ok (.aload_n 0, 1) := by decide +kernel
theorem dX7_init_38 : decode cX7_init 38 = .ok (.new 26, 3) := by decide +kernel
theorem dX7_init_41 : decode cX7_init 41 = .ok (.dup, 1) := by decide +kernel
theorem dX7_init_42 : decode cX7_init 42 = .ok (.aload_n 0, 1) := by decide +kernel
theorem dX7_init_43 : decode cX7_init 43 = .ok (.getfield 22, 3) := by decide +kernel
theorem dX7_init_46 : decode cX7_init 46 = .ok (.invokespecial 28, 3) := by decide +kernel
theorem dX7_init_49 : decode cX7_init 49 = .ok (.putfield 31, 3) := by decide +kernel
theorem dX7_init_52 : decode cX7_init 52 = .ok (.aload_n 0, 1) := by decide +kernel
theorem dX7_init_53 : decode cX7_init 53 = .ok (.new 35, 3) := by decide +kernel
theorem dX7_init_56 : decode cX7_init 56 = .ok (.dup, 1) := by decide +kernel
theorem dX7_init_57 : decode cX7_init 57 = .ok (.aload_n 0, 1) := by decide +kernel
theorem dX7_init_58 : decode cX7_init 58 = .ok (.getfield 22, 3) := by decide +kernel
theorem dX7_init_61 : decode cX7_init 61 = .ok (.invokespecial 37, 3) := by decide +kernel
theorem dX7_init_64 : decode cX7_init 64 = .ok (.putfield 38, 3) := by decide +kernel
theorem dX7_init_67 : decode cX7_init 67 = .ok (.aload_n 0, 1) := by decide +kernel
theorem dX7_init_68 : decode cX7_init 68 = .ok (.new 42, 3) := by decide +kernel
theorem dX7_init_71 : decode cX7_init 71 = .ok (.dup, 1) := by decide +kernel
theorem dX7_init_72 : decode cX7_init 72 = .ok (.invokespecial 44, 3) := by decide +kernel
theorem dX7_init_75 : decode cX7_init 75 = .ok (.putfield 45, 3) := by decide +kernel
theorem dX7_init_78 : decode cX7_init 78 = .ok (.aload_n 0, 1) := by decide +kernel
theorem dX7_init_79 : decode cX7_init 79 = .ok (.new 49, 3) := by decide +kernel
theorem dX7_init_82 : decode cX7_init 82 = .ok (.dup, 1) := by decide +kernel
theorem dX7_init_83 : decode cX7_init 83 = .ok (.invokespecial 51, 3) := by decide +kernel
theorem dX7_init_86 : decode cX7_init 86 = .ok (.putfield 52, 3) := by decide +kernel
theorem dX7_init_89 : decode cX7_init 89 = .ok (.aload_n 0, 1) := by decide +kernel
theorem dX7_init_90 : decode cX7_init 90 = .ok (.iconst 2, 1) := by decide +kernel
theorem dX7_init_91 : decode cX7_init 91 = .ok (.anewarray 7, 3) := by decide +kernel
theorem dX7_init_94 : decode cX7_init 94 = .ok (.putfield 56, 3) := by decide +kernel
theorem dX7_init_97 : decode cX7_init 97 = .ok (.iconst 0, 1) := by decide +kernel
theorem dX7_init_98 : decode cX7_init 98 = .ok (.istore_n 1, 1) := by decide +kernel
theorem dX7_init_99 : decode cX7_init 99 = .ok (.iload_n 1, 1) := by decide +kernel
theorem dX7_init_100 : decode cX7_init 100 = .ok (.iconst 2, 1) := by decide +kernel
theorem dX7_init_101 : decode cX7_init 101 = .ok (.if_icmp .ge 22, 3) := by decide +kernel
theorem dX7_init_104 : decode cX7_init 104 = .ok (.aload_n 0, 1) := by decide +kernel
theorem dX7_init_105 : decode cX7_init 105 = .ok (.getfield 56, 3) := by decide +kernel
theorem dX7_init_108 : decode cX7_init 108 = .ok (.iload_n 1, 1) := by decide +kernel
theorem dX7_init_109 : decode cX7_init 109 = .ok (.new 7, 3) := by decide +kernel
theorem dX7_init_112 : decode cX7_init 112 = .ok (.dup, 1) := by decide +kernel
theorem dX7_init_113 : decode cX7_init 113 = .ok (.invokespecial 9, 3) := by decide +kernel
theorem dX7_init_116 : decode cX7_init 116 = .ok (.aastore, 1) := by decide +kernel
theorem dX7_init_117 : decode cX7_init 117 = .ok (.iinc 1 1, 3) := by decide +kernel
theorem dX7_init_120 : decode cX7_init 120 = .ok (.goto (-21), 3) := by decide +kernel
theorem dX7_init_123 : decode cX7_init 123 = .ok (.aload_n 0, 1) := by decide +kernel
theorem dX7_init_124 : decode cX7_init 124 = .ok (.iconst 2, 1) := by decide +kernel
theorem dX7_init_125 : decode cX7_init 125 = .ok (.newarray .boolean, 2) := by decide +kernel
theorem dX7_init_127 : decode cX7_init 127 = .ok (.putfield 60, 3) := by decide +kernel
theorem dX7_init_130 : decode cX7_init 130 = .ok (.aload_n 0, 1) := by decide +kernel
theorem dX7_init_131 : decode cX7_init 131 = .ok (.iconst 4, 1) := by decide +kernel
theorem dX7_init_132 : decode cX7_init 132 = .ok (.newarray .int, 2) := by decide +kernel
theorem dX7_init_134 : decode cX7_init 134 = .ok (.putfield 64, 3) := by decide +kernel
theorem dX7_init_137 : decode cX7_init 137 = .ok (.aload_n 0, 1) := by decide +kernel
theorem dX7_init_138 : decode cX7_init 138 = .ok (.iconst 0, 1) := by decide +kernel
theorem dX7_init_139 : decode cX7_init 139 = .ok (.putfield 68, 3) := by decide +kernel
theorem dX7_init_142 : decode cX7_init 142 = .ok (.return_, 1) := by decide +kernel
theorem dX8_init_0 : decode cX8_init 0 = .ok (.aload_n 0, 1) := by decide +kernel
theorem dX8_init_1 : decode cX8_init 1 = .ok (.invokespecial 1, 3) := by decide +kernel
theorem dX8_init_4 : decode cX8_init 4 = .ok (.aload_n 0, 1) := by decide +kernel
theorem dX8_init_5 : decode cX8_init 5 = .ok (.bipush 6, 2) := by decide +kernel
theorem dX8_init_7 : decode cX8_init 7 = .ok (.newarray .int, 2) := by decide +kernel
theorem dX8_init_9 : decode cX8_init 9 = .ok (.putfield 7, 3) := by decide +kernel
theorem dX8_init_12 : decode cX8_init 12 = .ok (.aload_n 0, 1) := by decide +kernel
theorem dX8_init_13 : decode cX8_init 13 = .ok (.sipush 331, 3) := by decide +kernel
theorem dX8_init_16 : decode cX8_init 16 = .ok (.newarray .int, 2) := by decide +kernel
theorem dX8_init_18 : decode cX8_init 18 = .ok (.putfield 13, 3) := by decide +kernel
theorem dX8_init_21 : decode cX8_init 21 = .ok (.aload_n 0, 1) := by decide +kernel
theorem dX8_init_22 : decode cX8_init 22 = .ok (.sipush 3310, 3) := by decide +kernel
theorem dX8_init_25 : decode cX8_init 25 = .ok (.newarray .int, 2) := by decide +kernel
theorem dX8_init_27 : decode cX8_init 27 = .ok (.putfield 16, 3) := by decide +kernel
theorem dX8_init_30 : decode cX8_init 30 = .ok (.aload_n 0, 1) := by decide +kernel
theorem dX8_init_31 : decode cX8_init 31 = .ok (.bipush 10, 2) := by decide +kernel
theorem dX8_init_33 : decode cX8_init 33 = .ok (.newarray .int, 2) := by decide +kernel
theorem dX8_init_35 : decode cX8_init 35 = .ok (.putfield 19, 3) := by decide +kernel
theorem dX8_init_38 : decode cX8_init 38 = .ok (.aload_n 0, 1) := by decide +kernel
theorem dX8_init_39 : decode cX8_init 39 = .ok (.sipush 662, 3) := by decide +kernel
theorem dX8_init_42 : decode cX8_init 42 = .ok (.newarray .int, 2) := by decide +kernel
theorem dX8_init_44 : decode cX8_init 44 = .ok (.putfield 22, 3) := by decide +kernel
theorem dX8_init_47 : decode cX8_init 47 = .ok (.aload_n 0, 1) := by decide +kernel
theorem dX8_init_48 : decode cX8_init 48 = .ok (.iconst 2, 1) := by decide +kernel
theorem dX8_init_49 : decode cX8_init 49 = .ok (.newarray .boolean, 2) := by decide +kernel
theorem dX8_init_51 : decode cX8_init 51 = .ok (.putfield 25, 3) := by decide +kernel
theorem dX8_init_54 : decode cX8_init 54 = .ok (.aload_n 0, 1) := by decide +kernel
theorem dX8_init_55 : decode cX8_init 55 = .ok (.sipush 331, 3) := by decide +kernel
theorem dX8_init_58 : decode cX8_init 58 = .ok (.newarray .int, 2) := by decide +kernel
theorem dX8_init_60 : decode cX8_init 60 = .ok (.putfield 29, 3) := by decide +kernel
theorem dX8_init_63 : decode cX8_init 63 = .ok (.aload_n 0, 1) := by decide +kernel
theorem dX8_init_64 : decode cX8_init 64 = .ok (.iconst 5, 1) := by decide +kernel
theorem dX8_init_65 : decode cX8_init 65 = .ok (.newarray .int, 2) := by decide +kernel
theorem dX8_init_67 : decode cX8_init 67 = .ok (.putfield 32, 3) := by decide +kernel
theorem dX8_init_70 : decode cX8_init 70 = .ok (.aload_n 0, 1) := by decide +kernel
theorem dX8_init_71 : decode cX8_init 71 = .ok (.bipush 25, 2) := by decide +kernel
theorem dX8_init_73 : decode cX8_init 73 = .ok (.newarray .long, 2) := by decide +kernel
theorem dX8_init_75 : decode cX8_init 75 = .ok (.putfield 35, 3) := by decide +kernel
theorem dX8_init_78 : decode cX8_init 78 = .ok (.aload_n 0, 1) := by decide +kernel
theorem dX8_init_79 : decode cX8_init 79 = .ok (.bipush 25, 2) := by decide +kernel
theorem dX8_init_81 : decode cX8_init 81 = .ok (.newarray .long, 2) := by decide +kernel
theorem dX8_init_83 : decode cX8_init 83 = .ok (.putfield 39, 3) := by decide +kernel
theorem dX8_init_86 : decode cX8_init 86 = .ok (.aload_n 0, 1) := by decide +kernel
theorem dX8_init_87 : decode cX8_init 87 = .ok (.bipush 16, 2) := by decide +kernel
theorem dX8_init_89 : decode cX8_init 89 = .ok (.newarray .long, 2) := by decide +kernel
theorem dX8_init_91 : decode cX8_init 91 = .ok (.putfield 42, 3) := by decide +kernel
theorem dX8_init_94 : decode cX8_init 94 = .ok (.aload_n 0, 1) := by decide +kernel
theorem dX8_init_95 : decode cX8_init 95 = .ok (.iconst 5, 1) := by decide +kernel
theorem dX8_init_96 : decode cX8_init 96 = .ok (.newarray .int, 2) := by decide +kernel
theorem dX8_init_98 : decode cX8_init 98 = .ok (.putfield 45, 3) := by decide +kernel
theorem dX8_init_101 : decode cX8_init 101 = .ok (.aload_n 0, 1) := by decide +kernel
theorem dX8_init_102 : decode cX8_init 102 = .ok (.iconst 5, 1) := by decide +kernel
theorem dX8_init_103 : decode cX8_init 103 = .ok (.newarray .int, 2) := by decide +kernel
theorem dX8_init_105 : decode cX8_init 105 = .ok (.putfield 48, 3) := by decide +kernel
theorem dX8_init_108 : decode cX8_init 108 = .ok (.aload_n 0, 1) := by decide +kernel
theorem dX8_init_109 : decode cX8_init 109 = .ok (.iconst 5, 1) := by decide +kernel
theorem dX8_init_110 : decode cX8_init 110 = .ok (.newarray .long, 2) := by decide +kernel
theorem dX8_init_112 : decode cX8_init 112 = .ok (.putfield 51, 3) := by decide +kernel
theorem dX8_init_115 : decode cX8_init 115 = .ok (.aload_n 0, 1) := by decide +kernel
theorem dX8_init_116 : decode cX8_init 116 = .ok (.iconst 5, 1) := by decide +kernel
theorem dX8_init_117 : decode cX8_init 117 = .ok (.newarray .boolean, 2) := by decide +kernel
theorem dX8_init_119 : decode cX8_init 119 = .ok (.putfield 54, 3) := by decide +kernel
theorem dX8_init_122 : decode cX8_init 122 = .ok (.aload_n 0, 1) := by decide +kernel
theorem dX8_init_123 : decode cX8_init 123 = .ok (.iconst 3, 1) := by decide +kernel
theorem dX8_init_124 : decode cX8_init 124 = .ok (.newarray .int, 2) := by decide +kernel
theorem dX8_init_126 : decode cX8_init 126 = .ok (.putfield 57, 3) := by decide +kernel
theorem dX8_init_129 : decode cX8_init 129 = .ok (.aload_n 0, 1) := by decide +kernel
theorem dX8_init_130 : decode cX8_init 130 = .ok (.iconst 3, 1) := by decide +kernel
theorem dX8_init_131 : decode cX8_init 131 = .ok (.newarray .int, 2) := by decide +kernel
theorem dX8_init_133 : decode cX8_init 133 = .ok (.putfield 60, 3) := by decide +kernel
theorem dX8_init_136 : decode cX8_init 136 = .ok (.aload_n 0, 1) := by decide +kernel
theorem dX8_init_137 : decode cX8_init 137 = .ok (.bipush 10, 2) := by decide +kernel
theorem dX8_init_139 : decode cX8_init 139 = .ok (.newarray .int, 2) := by decide +kernel
theorem dX8_init_141 : decode cX8_init 141 = .ok (.putfield 63, 3) := by decide +kernel
theorem dX8_init_144 : decode cX8_init 144 = .ok (.aload_n 0, 1) := by decide +kernel
theorem dX8_init_145 : decode cX8_init 145 = .ok (.bipush 10, 2) := by decide +kernel
theorem dX8_init_147 : decode cX8_init 147 = .ok (.newarray .int, 2) := by decide +kernel
theorem dX8_init_149 : decode cX8_init 149 = .ok (.putfield 66, 3) := by decide +kernel
theorem dX8_init_152 : decode cX8_init 152 = .ok (.aload_n 0, 1) := by decide +kernel
theorem dX8_init_153 : decode cX8_init 153 = .ok (.bipush 10, 2) := by decide +kernel
theorem dX8_init_155 : decode cX8_init 155 = .ok (.newarray .long, 2) := by decide +kernel
theorem dX8_init_157 : decode cX8_init 157 = .ok (.putfield 69, 3) := by decide +kernel
theorem dX8_init_160 : decode cX8_init 160 = .ok (.aload_n 0, 1) := by decide +kernel
theorem dX8_init_161 : decode cX8_init 161 = .ok (.bipush 10, 2) := by decide +kernel
theorem dX8_init_163 : decode cX8_init 163 = .ok (.newarray .long, 2) := by decide +kernel
theorem dX8_init_165 : decode cX8_init 165 = .ok (.putfield 72, 3) := by decide +kernel
theorem dX8_init_168 : decode cX8_init 168 = .ok (.aload_n 0, 1) := by decide +kernel
theorem dX8_init_169 : decode cX8_init 169 = .ok (.bipush 20, 2) := by decide +kernel
theorem dX8_init_171 : decode cX8_init 171 = .ok (.newarray .int, 2) := by decide +kernel
theorem dX8_init_173 : decode cX8_init 173 = .ok (.putfield 75, 3) := by decide +kernel
theorem dX8_init_176 : decode cX8_init 176 = .ok (.aload_n 0, 1) := by decide +kernel
theorem dX8_init_177 : decode cX8_init 177 = .ok (.bipush 20, 2) := by decide +kernel
theorem dX8_init_179 : decode cX8_init 179 = .ok (.newarray .int, 2) := by decide +kernel
theorem dX8_init_181 : decode cX8_init 181 = .ok (.putfield 78, 3) := by decide +kernel
theorem dX8_init_184 : decode cX8_init 184 = .ok (.aload_n 0, 1) := by decide +kernel
theorem dX8_init_185 : decode cX8_init 185 = .ok (.bipush 120, 2) := by decide +kernel
theorem dX8_init_187 : decode cX8_init 187 = .ok (.newarray .int, 2) := by decide +kernel
theorem dX8_init_189 : decode cX8_init 189 = .ok (.putfield 81, 3) := by decide +kernel
theorem dX8_init_192 : decode cX8_init 192 = .ok (.aload_n 0, 1) := by decide +kernel
theorem dX8_init_193 : decode cX8_init 193 = .ok (.getfield 13, 3) := by decide +kernel
theorem dX8_init_196 : decode cX8_init 196 = .ok (.iconst 5, 1) := by decide +kernel
theorem dX8_init_197 : decode cX8_init 197 = .ok (.iconst (-1), 1) := by decide +kernel
theorem dX8_init_198 : decode cX8_init 198 = .ok (.iastore, 1) := by decide +kernel
theorem dX8_init_199 : decode cX8_init 199 = .ok (.return_, 1) := by decide +kernel
