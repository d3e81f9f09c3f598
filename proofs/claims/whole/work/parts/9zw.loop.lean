section
variable {p : Program} {l : Launch} {e : Env} {s : State} {m : MethodId} {below : List Frame} {meth : Method} {c : Code} {b L : Nat} {xs : Nat → Int32} {h0 : Nat} {D : va_G} {cy : Nat → ClassId} {tt : Nat → Nat} {cells slots : Nat} {Q : State → Prop} {k : Nat} {ls : Array Slot} {M : Me}
set_option maxRecDepth 20000 in
theorem lw_sw (X : Lx p s m c b L xs h0 D cy tt cells slots) (hl : Ll ls b h0 k) (hk : k + 6 ≤ L) (hI : Inv M) (kk : ∀ M2, Inv M2 → Kc room_1 p l e s m #[Value.ref b] below meth c h0 D cy cells slots Q 1534 ls [] M2) (x : Nat) (hx : x < 43) : ∃ (off : Int) (tg : Nat), (#[187, 220, 283, 316, 359, 402, 425, 448, 481, 544, 567, 590, 623, 636, 649, 672, 695, 729, 752, 786, 820, 843, 887, 931, 954, 977, 1020, 1043, 1066, 1099, 1132, 1155, 1178, 1191, 1234, 1277, 1300, 1333, 1366, 1399, 1432, 1465, 1488] : Array Int)[x]? = some off ∧ ((33 : Nat) : Int) + off = (tg : Int) ∧ Kc room_1 p l e s m #[Value.ref b] below meth c h0 D cy cells slots Q tg ls [] M := by
  match x, hx with
  | 0, _ => exact ⟨187, 220, rfl, rfl, lw_c0 X hl hk hI kk⟩
  | 1, _ => exact ⟨220, 253, rfl, rfl, lw_c1 X hl hk hI kk⟩
  | 2, _ => exact ⟨283, 316, rfl, rfl, lw_c2 X hl hk hI kk⟩
  | 3, _ => exact ⟨316, 349, rfl, rfl, lw_c3 X hl hk hI kk⟩
  | 4, _ => exact ⟨359, 392, rfl, rfl, lw_c4 X hl hk hI kk⟩
  | 5, _ => exact ⟨402, 435, rfl, rfl, lw_c5 X hl hk hI kk⟩
  | 6, _ => exact ⟨425, 458, rfl, rfl, lw_c6 X hl hk hI kk⟩
  | 7, _ => exact ⟨448, 481, rfl, rfl, lw_c7 X hl hk hI kk⟩
  | 8, _ => exact ⟨481, 514, rfl, rfl, lw_c8 X hl hk hI kk⟩
  | 9, _ => exact ⟨544, 577, rfl, rfl, lw_c9 X hl hk hI kk⟩
  | 10, _ => exact ⟨567, 600, rfl, rfl, lw_c10 X hl hk hI kk⟩
  | 11, _ => exact ⟨590, 623, rfl, rfl, lw_c11 X hl hk hI kk⟩
  | 12, _ => exact ⟨623, 656, rfl, rfl, lw_c12 X hl hk hI kk⟩
  | 13, _ => exact ⟨636, 669, rfl, rfl, lw_c13 X hl hk hI kk⟩
  | 14, _ => exact ⟨649, 682, rfl, rfl, lw_c14 X hl hk hI kk⟩
  | 15, _ => exact ⟨672, 705, rfl, rfl, lw_c15 X hl hk hI kk⟩
  | 16, _ => exact ⟨695, 728, rfl, rfl, lw_c16 X hl hk hI kk⟩
  | 17, _ => exact ⟨729, 762, rfl, rfl, lw_c17 X hl hk hI kk⟩
  | 18, _ => exact ⟨752, 785, rfl, rfl, lw_c18 X hl hk hI kk⟩
  | 19, _ => exact ⟨786, 819, rfl, rfl, lw_c19 X hl hk hI kk⟩
  | 20, _ => exact ⟨820, 853, rfl, rfl, lw_c20 X hl hk hI kk⟩
  | 21, _ => exact ⟨843, 876, rfl, rfl, lw_c21 X hl hk hI kk⟩
  | 22, _ => exact ⟨887, 920, rfl, rfl, lw_c22 X hl hk hI kk⟩
  | 23, _ => exact ⟨931, 964, rfl, rfl, lw_c23 X hl hk hI kk⟩
  | 24, _ => exact ⟨954, 987, rfl, rfl, lw_c24 X hl hk hI kk⟩
  | 25, _ => exact ⟨977, 1010, rfl, rfl, lw_c25 X hl hk hI kk⟩
  | 26, _ => exact ⟨1020, 1053, rfl, rfl, lw_c26 X hl hk hI kk⟩
  | 27, _ => exact ⟨1043, 1076, rfl, rfl, lw_c27 X hl hk hI kk⟩
  | 28, _ => exact ⟨1066, 1099, rfl, rfl, lw_c28 X hl hk hI kk⟩
  | 29, _ => exact ⟨1099, 1132, rfl, rfl, lw_c29 X hl hk hI kk⟩
  | 30, _ => exact ⟨1132, 1165, rfl, rfl, lw_c30 X hl hk hI kk⟩
  | 31, _ => exact ⟨1155, 1188, rfl, rfl, lw_c31 X hl hk hI kk⟩
  | 32, _ => exact ⟨1178, 1211, rfl, rfl, lw_c32 X hl hk hI kk⟩
  | 33, _ => exact ⟨1191, 1224, rfl, rfl, lw_c33 X hl hk hI kk⟩
  | 34, _ => exact ⟨1234, 1267, rfl, rfl, lw_c34 X hl hk hI kk⟩
  | 35, _ => exact ⟨1277, 1310, rfl, rfl, lw_c35 X hl hk hI kk⟩
  | 36, _ => exact ⟨1300, 1333, rfl, rfl, lw_c36 X hl hk hI kk⟩
  | 37, _ => exact ⟨1333, 1366, rfl, rfl, lw_c37 X hl hk hI kk⟩
  | 38, _ => exact ⟨1366, 1399, rfl, rfl, lw_c38 X hl hk hI kk⟩
  | 39, _ => exact ⟨1399, 1432, rfl, rfl, lw_c39 X hl hk hI kk⟩
  | 40, _ => exact ⟨1432, 1465, rfl, rfl, lw_c40 X hl hk hI kk⟩
  | 41, _ => exact ⟨1465, 1498, rfl, rfl, lw_c41 X hl hk hI kk⟩
  | 42, _ => exact ⟨1488, 1521, rfl, rfl, lw_c42 X hl hk hI kk⟩
  | x + 43, hx => exact absurd hx (by omega)
set_option maxRecDepth 20000 in
theorem lw_row (X : Lx p s m c b L xs h0 D cy tt cells slots) (hl : Ll ls b h0 k) (hk : k + 6 ≤ L) (hI : Inv M) (kk : ∀ M2, Inv M2 → Kc room_1 p l e s m #[Value.ref b] below meth c h0 D cy cells slots Q 1534 ls [] M2) : Kc room_1 p l e s m #[Value.ref b] below meth c h0 D cy cells slots Q 27 ls [] M := by
  intro H locs hP hS
  obtain ⟨ok, hX, hbl, hz, hL⟩ := id X
  refine lv_aload_n ok.1.1 ok.1.2.1 dL_law_27 rfl (lv_at hl 3 rfl) ?_
  refine lv_iload_n ok.1.1 ok.1.2.1 dL_law_28 rfl (lv_at hl 0 rfl) ?_
  refine va_sld ok.1.1 ok.1.2.1 hX hbl (by rw [← hz]; exact Nat.not_le.mpr hbl) hS (nI_inL (show k < L by omega) hL) dL_law_29 ?_
  refine lv_bipush (v := 63) ok.1.1 ok.1.2.1 dL_law_30 (by decide) ?_
  refine lv_iand ok.1.1 ok.1.2.1 dL_law_32 ?_
  generalize xs (nI k).toNatClampNeg &&& 63 = v
  by_cases hv : v.toInt < 0 ∨ 42 < v.toInt
  · exact lv_tableOut (tgt := 1534) ok.1.1 ok.1.2.1 dL_law_33 hv (by decide) (kk M hI H locs hP hS)
  · obtain ⟨off, tg, ho, ht, hs⟩ := lw_sw (l := l) (e := e) (below := below) (meth := meth) (Q := Q) X hl hk hI kk (v.toInt - 0).toNat (by omega)
    exact lv_tableIn ok.1.1 ok.1.2.1 dL_law_33 (fun q => hv (Or.inl q)) (fun q => hv (Or.inr q)) ho ht (hs H locs hP hS)
set_option maxRecDepth 20000 in
theorem lw_loop (X : Lx p s m c b L xs h0 D cy tt cells slots) (kE : ∀ (ls : Array Slot) (M : Me), Kc room_1 p l e s m #[Value.ref b] below meth c h0 D cy cells slots Q 1540 ls [] M) : ∀ (n k : Nat) (ls : Array Slot) (M : Me), k ≤ L → L + 1 - k ≤ n → Ll ls b h0 k → Inv M → Kc room_1 p l e s m #[Value.ref b] below meth c h0 D cy cells slots Q 18 ls [] M := by
  intro n
  induction n with
  | zero => intro k ls M h1 h2; omega
  | succ n ih =>
    intro k ls M h1 h2 hl hI H locs hP hS
    obtain ⟨ok, hX, hbl, hz, hL⟩ := id X
    refine lv_iload_n ok.1.1 ok.1.2.1 dL_law_18 rfl (lv_at hl 0 rfl) ?_
    refine lv_aload_n ok.1.1 ok.1.2.1 dL_law_19 rfl (lv_at hl 3 rfl) ?_
    refine va_slen ok.1.1 ok.1.2.1 hX hbl (by rw [← hz]; exact Nat.not_le.mpr hbl) hS dL_law_20 ?_
    refine lv_bipush (v := 6) ok.1.1 ok.1.2.1 dL_law_21 (by decide) ?_
    refine lv_isub ok.1.1 ok.1.2.1 dL_law_23 ?_
    refine lv_icmp_gt (tgt := 1540) ok.1.1 ok.1.2.1 dL_law_24 (by decide) (fun _ => kE ls M H locs hP hS) (fun z => ?_)
    have hk : k + 6 ≤ L := by
      rw [Int32.lt_iff_toInt_lt, nI_toInt (by omega), Int32.toInt_sub, show (Int32.ofNat L).toInt = (L : Int) from nI_toInt (by omega), show (6 : Int32).toInt = 6 from rfl, Int.bmod_eq_of_le (by omega) (by omega)] at z
      omega
    refine lw_row (l := l) (e := e) (below := below) (meth := meth) (Q := Q) X hl hk hI (fun M2 hI2 => ?_) H locs hP hS
    intro H locs hP hS
    refine lv_iinc (v := nI (k + 6)) (lv' := [(3, .int (nI (k + 6))), (2, .ref (h0 + 492)), (1, .ref (h0 + 0)), (0, .ref b)]) ok.1.1 ok.1.2.1 dL_law_1534 hl (k := 0) rfl (by rw [show Int32.ofInt 6 = nI 6 from rfl, nI_add]) (by decide) rfl (fun ls2 hl2 => ?_)
    refine lv_goto (tgt := 18) ok.1.1 ok.1.2.1 dL_law_1537 (by decide) ?_
    exact ih (k + 6) ls2 M2 hk (by omega) hl2 hI2 H locs hP hS
end
