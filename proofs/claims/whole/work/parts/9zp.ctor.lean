set_option maxHeartbeats 4000000 in
set_option maxRecDepth 20000 in
set_option maxRecDepth 20000 in
theorem k_line {l : Launch} {h0 : Nat} {D : va_G} {cy : Nat → ClassId} {tt : Nat → Nat} {b : Nat} (hb : b ∈ lnb) {g : Nat → va_E} (hG : ∀ a, b ≤ a → g a = ce h0 cy M0 a) : Mk l yX1_init cX1_init 1 1 29 347 12 h0 D cy tt [.ref (h0 + b)] (ov g b (.inr (1, ddX1))) (b + 1) g (b + 30) := by
  refine mk_k (by decide +kernel) rfl (Nat.le_of_ble_eq_true rfl) ?_
  intro p e s m args below meth c Q ls ok hK hZ hO hin hs hl hret
  replace hl : lv_has ls 1 [(0, .ref (h0 + b))] := hl
  refine g_w (pc2 := 1) (fun _ _ => lv_aload_n ok.1 ok.2.1 dX1_init_0 rfl (lv_at hl 0 rfl)) ?_
  refine g_obj ok hl.1 km_X1_3 kO_i kO_c dX1_init_1 (rfl : 1 + 3 = 4) (Nat.le_of_ble_eq_true rfl) (Nat.le_of_ble_eq_true rfl) ?_
  refine g_w (pc2 := 5) (fun _ _ => lv_aload_n ok.1 ok.2.1 dX1_init_4 rfl (lv_at hl 0 rfl)) ?_
  refine g_w (pc2 := 6) (fun _ _ => lv_iconst (v := (-1)) ok.1 ok.2.1 dX1_init_5 (by decide +kernel)) ?_
  refine g_put (fs2 := [.int 0, .int 0, .int 0, .int 0, .int 0, .int (-1), .int 0, .int 0, .int 0, .null, .null, .null, .null, .null]) (tyk := .int) ok hK hin kX1 kf_X1_9 (by decide) rfl rfl dX1_init_6 (rfl : 6 + 3 = 9) (by omega) (by omega) ov_s (Nat.le_of_ble_eq_true rfl) rfl rfl rfl ov_ov ?_
  refine g_w (pc2 := 10) (fun _ _ => lv_aload_n ok.1 ok.2.1 dX1_init_9 rfl (lv_at hl 0 rfl)) ?_
  refine g_w (pc2 := 11) (fun _ _ => lv_iconst (v := (-1)) ok.1 ok.2.1 dX1_init_10 (by decide +kernel)) ?_
  refine g_put (fs2 := [.int 0, .int 0, .int 0, .int 0, .int 0, .int (-1), .int 0, .int (-1), .int 0, .null, .null, .null, .null, .null]) (tyk := .int) ok hK hin kX1 kf_X1_15 (by decide) rfl rfl dX1_init_11 (rfl : 11 + 3 = 14) (by omega) (by omega) ov_s (Nat.le_of_ble_eq_true rfl) rfl rfl rfl ov_ov ?_
  refine g_w (pc2 := 15) (fun _ _ => lv_aload_n ok.1 ok.2.1 dX1_init_14 rfl (lv_at hl 0 rfl)) ?_
  refine g_w (pc2 := 16) (fun _ _ => lv_iconst (v := 5) ok.1 ok.2.1 dX1_init_15 (by decide +kernel)) ?_
  refine g_w (pc2 := 17) (fun _ _ => lv_iconst (v := 4) ok.1 ok.2.1 dX1_init_16 (by decide +kernel)) ?_
  refine g_multi (tI := .int) (N2 := 5) (K := 4) ok (hK.2 4 _ rfl).2 (hK.2 0 _ rfl).2 kc_X1_18 (ov_a hO.1) ka_int rfl (by decide) dX1_init_17 (rfl : 17 + 4 = 21) (rfl : b + 1 + 1 + 5 = b + 7) ((ov_n (by omega)).trans ((hG _ (by omega)).trans (z_ref (a_k1 hb) (by decide) (a_l1 hb)))) (fun q hq => by rw [a_rc hb q hq]) (fun q hq => ((ov_n (by omega)).trans ((hG _ (by omega)).trans (z_int (a_kc hb q hq) (by have := lnb_ne hb; omega) (by have := lnb_ne hb; omega) (a_lc hb q hq))))) rfl (by decide) (by decide) (by decide) (by decide) (by decide) (by decide) (Nat.le_of_ble_eq_true rfl) (Nat.le_of_ble_eq_true rfl) ?_
  refine g_put (fs2 := [.int 0, .int 0, .int 0, .int 0, .int 0, .int (-1), .int 0, .int (-1), .int 0, .ref (h0 + (b + 1)), .null, .null, .null, .null]) (tyk := (.array (.array .int))) ok hK hin kX1 kf_X1_20 (by decide) rfl rfl dX1_init_21 (rfl : 21 + 3 = 24) (by omega) (by omega) ov_s (Nat.le_of_ble_eq_true rfl) rfl rfl rfl ov_ov ?_
  refine g_w (pc2 := 25) (fun _ _ => lv_aload_n ok.1 ok.2.1 dX1_init_24 rfl (lv_at hl 0 rfl)) ?_
  refine g_w (pc2 := 27) (fun _ _ => lv_bipush (v := 10) ok.1 ok.2.1 dX1_init_25 (by decide +kernel)) ?_
  refine g_w (pc2 := 28) (fun _ _ => lv_iconst (v := 4) ok.1 ok.2.1 dX1_init_27 (by decide +kernel)) ?_
  refine g_multi (tI := .int) (N2 := 10) (K := 4) ok (hK.2 4 _ rfl).2 (hK.2 0 _ rfl).2 kc_X1_18 (ov_a hO.1) ka_int rfl (by decide) dX1_init_28 (rfl : 28 + 4 = 32) (rfl : b + 7 + 1 + 10 = b + 18) ((ov_n (by omega)).trans ((hG _ (by omega)).trans (z_ref (a_k7 hb) (by decide) (a_l7 hb)))) (fun q hq => by rw [a_rt hb q hq]) (fun q hq => ((ov_n (by omega)).trans ((hG _ (by omega)).trans (z_int (a_kt hb q hq) (by have := lnb_ne hb; omega) (by have := lnb_ne hb; omega) (a_lt hb q hq))))) rfl (by decide) (by decide) (by decide) (by decide) (by decide) (by decide) (Nat.le_of_ble_eq_true rfl) (Nat.le_of_ble_eq_true rfl) ?_
  refine g_put (fs2 := [.int 0, .int 0, .int 0, .int 0, .int 0, .int (-1), .int 0, .int (-1), .int 0, .ref (h0 + (b + 1)), .ref (h0 + (b + 7)), .null, .null, .null]) (tyk := (.array (.array .int))) ok hK hin kX1 kf_X1_23 (by decide) rfl rfl dX1_init_32 (rfl : 32 + 3 = 35) (by omega) (by omega) ov_s (Nat.le_of_ble_eq_true rfl) rfl rfl rfl ov_ov ?_
  refine g_w (pc2 := 36) (fun _ _ => lv_aload_n ok.1 ok.2.1 dX1_init_35 rfl (lv_at hl 0 rfl)) ?_
  refine g_w (pc2 := 37) (fun _ _ => lv_iconst (v := 3) ok.1 ok.2.1 dX1_init_36 (by decide +kernel)) ?_
  refine g_w (pc2 := 39) (fun _ _ => lv_bipush (v := 9) ok.1 ok.2.1 dX1_init_37 (by decide +kernel)) ?_
  refine g_multi (tI := .int) (N2 := 3) (K := 9) ok (hK.2 4 _ rfl).2 (hK.2 0 _ rfl).2 kc_X1_18 (ov_a hO.1) ka_int rfl (by decide) dX1_init_39 (rfl : 39 + 4 = 43) (rfl : b + 18 + 1 + 3 = b + 22) ((ov_n (by omega)).trans ((hG _ (by omega)).trans (z_ref (a_k18 hb) (by decide) (a_l18 hb)))) (fun q hq => by rw [a_rp hb q hq]) (fun q hq => ((ov_n (by omega)).trans ((hG _ (by omega)).trans (z_int (a_kp hb q hq) (by have := lnb_ne hb; omega) (by have := lnb_ne hb; omega) (a_lp hb q hq))))) rfl (by decide) (by decide) (by decide) (by decide) (by decide) (by decide) (Nat.le_of_ble_eq_true rfl) (Nat.le_of_ble_eq_true rfl) ?_
  refine g_put (fs2 := [.int 0, .int 0, .int 0, .int 0, .int 0, .int (-1), .int 0, .int (-1), .int 0, .ref (h0 + (b + 1)), .ref (h0 + (b + 7)), .ref (h0 + (b + 18)), .null, .null]) (tyk := (.array (.array .int))) ok hK hin kX1 kf_X1_26 (by decide) rfl rfl dX1_init_43 (rfl : 43 + 3 = 46) (by omega) (by omega) ov_s (Nat.le_of_ble_eq_true rfl) rfl rfl rfl ov_ov ?_
  refine g_w (pc2 := 47) (fun _ _ => lv_aload_n ok.1 ok.2.1 dX1_init_46 rfl (lv_at hl 0 rfl)) ?_
  refine g_w (pc2 := 49) (fun _ _ => lv_bipush (v := 6) ok.1 ok.2.1 dX1_init_47 (by decide +kernel)) ?_
  refine g_w (pc2 := 51) (fun _ _ => lv_bipush (v := 6) ok.1 ok.2.1 dX1_init_49 (by decide +kernel)) ?_
  refine g_multi (tI := .int) (N2 := 6) (K := 6) ok (hK.2 4 _ rfl).2 (hK.2 0 _ rfl).2 kc_X1_18 (ov_a hO.1) ka_int rfl (by decide) dX1_init_51 (rfl : 51 + 4 = 55) (rfl : b + 22 + 1 + 6 = b + 29) ((ov_n (by omega)).trans ((hG _ (by omega)).trans (z_ref (a_k22 hb) (by decide) (a_l22 hb)))) (fun q hq => by rw [a_rw hb q hq]) (fun q hq => ((ov_n (by omega)).trans ((hG _ (by omega)).trans (z_int (a_kw hb q hq) (by have := lnb_ne hb; omega) (by have := lnb_ne hb; omega) (a_lw hb q hq))))) rfl (by decide) (by decide) (by decide) (by decide) (by decide) (by decide) (Nat.le_of_ble_eq_true rfl) (Nat.le_of_ble_eq_true rfl) ?_
  refine g_put (fs2 := [.int 0, .int 0, .int 0, .int 0, .int 0, .int (-1), .int 0, .int (-1), .int 0, .ref (h0 + (b + 1)), .ref (h0 + (b + 7)), .ref (h0 + (b + 18)), .ref (h0 + (b + 22)), .null]) (tyk := (.array (.array .int))) ok hK hin kX1 kf_X1_29 (by decide) rfl rfl dX1_init_55 (rfl : 55 + 3 = 58) (by omega) (by omega) ov_s (Nat.le_of_ble_eq_true rfl) rfl rfl rfl ov_ov ?_
  refine g_w (pc2 := 59) (fun _ _ => lv_aload_n ok.1 ok.2.1 dX1_init_58 rfl (lv_at hl 0 rfl)) ?_
  refine g_w (pc2 := 62) (fun _ _ => lv_sipush (v := 200) ok.1 ok.2.1 dX1_init_59 (by decide +kernel)) ?_
  refine g_newi ok hK ka_int dX1_init_62 (rfl : 62 + 2 = 64) (rfl : b + 29 + 1 = b + 30) ((ov_n (by omega)).trans ((hG _ (by omega)).trans (z_int (a_k29 hb) (by have := lnb_ne hb; omega) (by have := lnb_ne hb; omega) (a_l29 hb)))) (by decide +kernel) (by decide +kernel) (Nat.le_of_ble_eq_true rfl) (Nat.le_of_ble_eq_true rfl) (Nat.le_of_ble_eq_true rfl) ?_
  refine g_put (fs2 := [.int 0, .int 0, .int 0, .int 0, .int 0, .int (-1), .int 0, .int (-1), .int 0, .ref (h0 + (b + 1)), .ref (h0 + (b + 7)), .ref (h0 + (b + 18)), .ref (h0 + (b + 22)), .ref (h0 + (b + 29))]) (tyk := (.array .int)) ok hK hin kX1 kf_X1_32 (by decide) rfl rfl dX1_init_64 (rfl : 64 + 3 = 67) (by omega) (by omega) ov_s (Nat.le_of_ble_eq_true rfl) rfl rfl rfl ov_ov ?_
  refine g_eq (ov_id ((hG _ (by omega)).trans (fi_X1 hb))) ?_
  exact hret 67 ls dX1_init_67

set_option maxHeartbeats 4000000 in
set_option maxRecDepth 20000 in
set_option maxRecDepth 20000 in
theorem k_bal {l : Launch} {h0 : Nat} {D : va_G} {cy : Nat → ClassId} {tt : Nat → Nat} {g : Nat → va_E} (hG : ∀ a, 61 ≤ a → g a = ce h0 cy M0 a) : Mk l yX0_init cX0_init 1 1 35 879 12 h0 D cy tt [.ref (h0 + 61)] (ov g 61 (.inr (0, ddX0))) (62) g (97) := by
  refine mk_k (by decide +kernel) rfl (Nat.le_of_ble_eq_true rfl) ?_
  intro p e s m args below meth c Q ls ok hK hZ hO hin hs hl hret
  replace hl : lv_has ls 1 [(0, .ref (h0 + 61))] := hl
  refine g_w (pc2 := 1) (fun _ _ => lv_aload_n ok.1 ok.2.1 dX0_init_0 rfl (lv_at hl 0 rfl)) ?_
  refine g_obj ok hl.1 km_X0_5 kO_i kO_c dX0_init_1 (rfl : 1 + 3 = 4) (Nat.le_of_ble_eq_true rfl) (Nat.le_of_ble_eq_true rfl) ?_
  refine g_w (pc2 := 5) (fun _ _ => lv_aload_n ok.1 ok.2.1 dX0_init_4 rfl (lv_at hl 0 rfl)) ?_
  refine g_w (pc2 := 7) (fun _ _ => lv_bipush (v := 54) ok.1 ok.2.1 dX0_init_5 (by decide +kernel)) ?_
  refine g_ov (x := .inl (cy 8, 54, .inl (fun _ => 0))) ?_
  refine g_newi ok hK ka_int dX0_init_7 (rfl : 7 + 2 = 9) (rfl : 62 + 1 = 63) ov_s (by decide +kernel) (by decide +kernel) (Nat.le_of_ble_eq_true rfl) (Nat.le_of_ble_eq_true rfl) (Nat.le_of_ble_eq_true rfl) ?_
  refine g_put (fs2 := [.ref (h0 + 62), .null, .null, .null, .int 0, .null, .null, .null, .int 0, .int 0, .null, .long 0]) (tyk := (.array .int)) ok hK hin kX0 kf_X0_11 (by decide) rfl rfl dX0_init_9 (rfl : 9 + 3 = 12) (by omega) (by omega) ((ov_n (by omega)).trans ov_s) (Nat.le_of_ble_eq_true rfl) rfl rfl rfl (ov_sw (by omega)) ?_
  refine g_w (pc2 := 13) (fun _ _ => lv_aload_n ok.1 ok.2.1 dX0_init_12 rfl (lv_at hl 0 rfl)) ?_
  refine g_get ok hK kX0 kf_X0_11 (by decide) dX0_init_13 (rfl : 13 + 3 = 16) (by omega) ((ov_n (by omega)).trans ov_s) rfl ?_
  refine g_w (pc2 := 17) (fun _ _ => lv_iconst (v := 0) ok.1 ok.2.1 dX0_init_16 (by decide +kernel)) ?_
  refine g_w (pc2 := 18) (fun _ _ => lv_iconst (v := (-1)) ok.1 ok.2.1 dX0_init_17 (by decide +kernel)) ?_
  refine g_iast (N2 := 54) (f := fun _ => 0) ok hK dX0_init_18 (rfl : 18 + 1 = 19) (by omega) (by omega) ov_s (by unfold vp_in; decide) ov_ov ?_
  refine g_eq (ov_id (((ov_n (by omega)).trans (hG _ (by omega))).trans z_62)) ?_
  refine g_w (pc2 := 20) (fun _ _ => lv_aload_n ok.1 ok.2.1 dX0_init_19 rfl (lv_at hl 0 rfl)) ?_
  refine g_w (pc2 := 22) (fun _ _ => lv_bipush (v := 54) ok.1 ok.2.1 dX0_init_20 (by decide +kernel)) ?_
  refine g_newi ok hK ka_int dX0_init_22 (rfl : 22 + 2 = 24) (rfl : 63 + 1 = 64) ((ov_n (by omega)).trans ((hG _ (by omega)).trans (z_int qk_63.1 (by decide) (by decide) qk_63.2))) (by decide +kernel) (by decide +kernel) (Nat.le_of_ble_eq_true rfl) (Nat.le_of_ble_eq_true rfl) (Nat.le_of_ble_eq_true rfl) ?_
  refine g_put (fs2 := [.ref (h0 + 62), .ref (h0 + 63), .null, .null, .int 0, .null, .null, .null, .int 0, .int 0, .null, .long 0]) (tyk := (.array .int)) ok hK hin kX0 kf_X0_15 (by decide) rfl rfl dX0_init_24 (rfl : 24 + 3 = 27) (by omega) (by omega) ov_s (Nat.le_of_ble_eq_true rfl) rfl rfl rfl ov_ov ?_
  refine g_w (pc2 := 28) (fun _ _ => lv_aload_n ok.1 ok.2.1 dX0_init_27 rfl (lv_at hl 0 rfl)) ?_
  refine g_w (pc2 := 30) (fun _ _ => lv_bipush (v := 27) ok.1 ok.2.1 dX0_init_28 (by decide +kernel)) ?_
  refine g_w (pc2 := 32) (fun _ _ => lv_bipush (v := 25) ok.1 ok.2.1 dX0_init_30 (by decide +kernel)) ?_
  refine g_multi (tI := .long) (N2 := 27) (K := 25) ok (hK.2 5 _ rfl).2 (hK.2 1 _ rfl).2 kc_X0_18 (ov_a hO.2.1) ka_long rfl (by decide) dX0_init_32 (rfl : 32 + 4 = 36) (rfl : 64 + 1 + 27 = 92) ((ov_n (by omega)).trans ((hG _ (by omega)).trans (z_ref qk_64.1 (by decide) qk_64.2))) (fun q hq => by rw [rr_64 q hq]) (fun q hq => ((ov_n (by omega)).trans ((hG _ (by omega)).trans (z_long (rk_64 q hq).1 (rk_64 q hq).2)))) rfl (by decide) (by decide) (by decide) (by decide) (by decide) (by decide) (Nat.le_of_ble_eq_true rfl) (Nat.le_of_ble_eq_true rfl) ?_
  refine g_put (fs2 := [.ref (h0 + 62), .ref (h0 + 63), .ref (h0 + 64), .null, .int 0, .null, .null, .null, .int 0, .int 0, .null, .long 0]) (tyk := (.array (.array .long))) ok hK hin kX0 kf_X0_20 (by decide) rfl rfl dX0_init_36 (rfl : 36 + 3 = 39) (by omega) (by omega) ov_s (Nat.le_of_ble_eq_true rfl) rfl rfl rfl ov_ov ?_
  refine g_w (pc2 := 40) (fun _ _ => lv_aload_n ok.1 ok.2.1 dX0_init_39 rfl (lv_at hl 0 rfl)) ?_
  refine g_w (pc2 := 42) (fun _ _ => lv_bipush (v := 27) ok.1 ok.2.1 dX0_init_40 (by decide +kernel)) ?_
  refine g_newj ok hK ka_long dX0_init_42 (rfl : 42 + 2 = 44) (rfl : 92 + 1 = 93) ((ov_n (by omega)).trans ((hG _ (by omega)).trans (z_long qk_92.1 qk_92.2))) (by decide +kernel) (by decide +kernel) (Nat.le_of_ble_eq_true rfl) (Nat.le_of_ble_eq_true rfl) (Nat.le_of_ble_eq_true rfl) ?_
  refine g_put (fs2 := [.ref (h0 + 62), .ref (h0 + 63), .ref (h0 + 64), .ref (h0 + 92), .int 0, .null, .null, .null, .int 0, .int 0, .null, .long 0]) (tyk := (.array .long)) ok hK hin kX0 kf_X0_23 (by decide) rfl rfl dX0_init_44 (rfl : 44 + 3 = 47) (by omega) (by omega) ov_s (Nat.le_of_ble_eq_true rfl) rfl rfl rfl ov_ov ?_
  refine g_w (pc2 := 48) (fun _ _ => lv_aload_n ok.1 ok.2.1 dX0_init_47 rfl (lv_at hl 0 rfl)) ?_
  refine g_w (pc2 := 50) (fun _ _ => lv_bipush (v := 27) ok.1 ok.2.1 dX0_init_48 (by decide +kernel)) ?_
  refine g_newi ok hK ka_int dX0_init_50 (rfl : 50 + 2 = 52) (rfl : 93 + 1 = 94) ((ov_n (by omega)).trans ((hG _ (by omega)).trans (z_int qk_93.1 (by decide) (by decide) qk_93.2))) (by decide +kernel) (by decide +kernel) (Nat.le_of_ble_eq_true rfl) (Nat.le_of_ble_eq_true rfl) (Nat.le_of_ble_eq_true rfl) ?_
  refine g_put (fs2 := [.ref (h0 + 62), .ref (h0 + 63), .ref (h0 + 64), .ref (h0 + 92), .int 0, .ref (h0 + 93), .null, .null, .int 0, .int 0, .null, .long 0]) (tyk := (.array .int)) ok hK hin kX0 kf_X0_27 (by decide) rfl rfl dX0_init_52 (rfl : 52 + 3 = 55) (by omega) (by omega) ov_s (Nat.le_of_ble_eq_true rfl) rfl rfl rfl ov_ov ?_
  refine g_w (pc2 := 56) (fun _ _ => lv_aload_n ok.1 ok.2.1 dX0_init_55 rfl (lv_at hl 0 rfl)) ?_
  refine g_w (pc2 := 57) (fun _ _ => lv_iconst (v := 5) ok.1 ok.2.1 dX0_init_56 (by decide +kernel)) ?_
  refine g_newi ok hK ka_int dX0_init_57 (rfl : 57 + 2 = 59) (rfl : 94 + 1 = 95) ((ov_n (by omega)).trans ((hG _ (by omega)).trans (z_int qk_94.1 (by decide) (by decide) qk_94.2))) (by decide +kernel) (by decide +kernel) (Nat.le_of_ble_eq_true rfl) (Nat.le_of_ble_eq_true rfl) (Nat.le_of_ble_eq_true rfl) ?_
  refine g_put (fs2 := [.ref (h0 + 62), .ref (h0 + 63), .ref (h0 + 64), .ref (h0 + 92), .int 0, .ref (h0 + 93), .ref (h0 + 94), .null, .int 0, .int 0, .null, .long 0]) (tyk := (.array .int)) ok hK hin kX0 kf_X0_30 (by decide) rfl rfl dX0_init_59 (rfl : 59 + 3 = 62) (by omega) (by omega) ov_s (Nat.le_of_ble_eq_true rfl) rfl rfl rfl ov_ov ?_
  refine g_w (pc2 := 63) (fun _ _ => lv_aload_n ok.1 ok.2.1 dX0_init_62 rfl (lv_at hl 0 rfl)) ?_
  refine g_w (pc2 := 64) (fun _ _ => lv_iconst (v := 5) ok.1 ok.2.1 dX0_init_63 (by decide +kernel)) ?_
  refine g_newi ok hK ka_int dX0_init_64 (rfl : 64 + 2 = 66) (rfl : 95 + 1 = 96) ((ov_n (by omega)).trans ((hG _ (by omega)).trans (z_int qk_95.1 (by decide) (by decide) qk_95.2))) (by decide +kernel) (by decide +kernel) (Nat.le_of_ble_eq_true rfl) (Nat.le_of_ble_eq_true rfl) (Nat.le_of_ble_eq_true rfl) ?_
  refine g_put (fs2 := [.ref (h0 + 62), .ref (h0 + 63), .ref (h0 + 64), .ref (h0 + 92), .int 0, .ref (h0 + 93), .ref (h0 + 94), .ref (h0 + 95), .int 0, .int 0, .null, .long 0]) (tyk := (.array .int)) ok hK hin kX0 kf_X0_33 (by decide) rfl rfl dX0_init_66 (rfl : 66 + 3 = 69) (by omega) (by omega) ov_s (Nat.le_of_ble_eq_true rfl) rfl rfl rfl ov_ov ?_
  refine g_w (pc2 := 70) (fun _ _ => lv_aload_n ok.1 ok.2.1 dX0_init_69 rfl (lv_at hl 0 rfl)) ?_
  refine g_w (pc2 := 71) (fun _ _ => lv_iconst (v := 5) ok.1 ok.2.1 dX0_init_70 (by decide +kernel)) ?_
  refine g_newj ok hK ka_long dX0_init_71 (rfl : 71 + 2 = 73) (rfl : 96 + 1 = 97) ((ov_n (by omega)).trans ((hG _ (by omega)).trans (z_long qk_96.1 qk_96.2))) (by decide +kernel) (by decide +kernel) (Nat.le_of_ble_eq_true rfl) (Nat.le_of_ble_eq_true rfl) (Nat.le_of_ble_eq_true rfl) ?_
  refine g_put (fs2 := [.ref (h0 + 62), .ref (h0 + 63), .ref (h0 + 64), .ref (h0 + 92), .int 0, .ref (h0 + 93), .ref (h0 + 94), .ref (h0 + 95), .int 0, .int 0, .ref (h0 + 96), .long 0]) (tyk := (.array .long)) ok hK hin kX0 kf_X0_36 (by decide) rfl rfl dX0_init_73 (rfl : 73 + 3 = 76) (by omega) (by omega) ov_s (Nat.le_of_ble_eq_true rfl) rfl rfl rfl ov_ov ?_
  refine g_w (pc2 := 77) (fun _ _ => lv_aload_n ok.1 ok.2.1 dX0_init_76 rfl (lv_at hl 0 rfl)) ?_
  refine g_w (pc2 := 78) (fun _ _ => lv_lconst (v := 1) ok.1 ok.2.1 dX0_init_77 (by decide)) ?_
  refine g_put (fs2 := [.ref (h0 + 62), .ref (h0 + 63), .ref (h0 + 64), .ref (h0 + 92), .int 0, .ref (h0 + 93), .ref (h0 + 94), .ref (h0 + 95), .int 0, .int 0, .ref (h0 + 96), .long 1]) (tyk := .long) ok hK hin kX0 kf_X0_39 (by decide) rfl rfl dX0_init_78 (rfl : 78 + 3 = 81) (by omega) (by omega) ov_s (Nat.le_of_ble_eq_true rfl) rfl rfl rfl ov_ov ?_
  refine g_w (pc2 := 82) (fun _ _ => lv_aload_n ok.1 ok.2.1 dX0_init_81 rfl (lv_at hl 0 rfl)) ?_
  refine g_w (pc2 := 83) (fun _ _ => lv_iconst (v := (-1)) ok.1 ok.2.1 dX0_init_82 (by decide +kernel)) ?_
  refine g_put (fs2 := [.ref (h0 + 62), .ref (h0 + 63), .ref (h0 + 64), .ref (h0 + 92), .int 0, .ref (h0 + 93), .ref (h0 + 94), .ref (h0 + 95), .int (-1), .int 0, .ref (h0 + 96), .long 1]) (tyk := .int) ok hK hin kX0 kf_X0_43 (by decide) rfl rfl dX0_init_83 (rfl : 83 + 3 = 86) (by omega) (by omega) ov_s (Nat.le_of_ble_eq_true rfl) rfl rfl rfl ov_ov ?_
  refine g_eq (ov_id ((hG _ (by omega)).trans fi_X0)) ?_
  exact hret 86 ls dX0_init_86

set_option maxHeartbeats 4000000 in
set_option maxRecDepth 20000 in
set_option maxRecDepth 20000 in
theorem k_walk {l : Launch} {h0 : Nat} {D : va_G} {cy : Nat → ClassId} {tt : Nat → Nat} {g : Nat → va_E} (hG : ∀ a, 97 ≤ a → g a = ce h0 cy M0 a) : Mk l yX6_init cX6_init 2 1 0 0 12 h0 D cy tt [.ref (h0 + 97), .ref (h0 + 61)] (ov g 97 (.inr (5, ddX6))) (98) g (98) := by
  refine mk_k (by decide +kernel) rfl (Nat.le_of_ble_eq_true rfl) ?_
  intro p e s m args below meth c Q ls ok hK hZ hO hin hs hl hret
  replace hl : lv_has ls 2 [(0, .ref (h0 + 97)), (1, .ref (h0 + 61))] := hl
  refine g_w (pc2 := 1) (fun _ _ => lv_aload_n ok.1 ok.2.1 dX6_init_0 rfl (lv_at hl 0 rfl)) ?_
  refine g_obj ok hl.1 km_X6_3 kO_i kO_c dX6_init_1 (rfl : 1 + 3 = 4) (Nat.le_of_ble_eq_true rfl) (Nat.le_of_ble_eq_true rfl) ?_
  refine g_w (pc2 := 5) (fun _ _ => lv_aload_n ok.1 ok.2.1 dX6_init_4 rfl (lv_at hl 0 rfl)) ?_
  refine g_w (pc2 := 6) (fun _ _ => lv_aload_n ok.1 ok.2.1 dX6_init_5 rfl (lv_at hl 1 rfl)) ?_
  refine g_put (fs2 := [.ref (h0 + 61), .int 0]) (tyk := (.object "VacuumDesk$Balance")) ok hK hin kX6 kf_X6_9 (by decide) rfl rfl dX6_init_6 (rfl : 6 + 3 = 9) (by omega) (by omega) ov_s (Nat.le_of_ble_eq_true rfl) rfl rfl rfl ov_ov ?_
  refine g_eq (ov_id ((hG _ (by omega)).trans fi_X6)) ?_
  exact hret 9 ls dX6_init_9

set_option maxHeartbeats 4000000 in
set_option maxRecDepth 20000 in
set_option maxRecDepth 20000 in
theorem k_seek {l : Launch} {h0 : Nat} {D : va_G} {cy : Nat → ClassId} {tt : Nat → Nat} {g : Nat → va_E} (hG : ∀ a, 98 ≤ a → g a = ce h0 cy M0 a) : Mk l yX5_init cX5_init 2 1 23 180 12 h0 D cy tt [.ref (h0 + 98), .ref (h0 + 61)] (ov g 98 (.inr (4, ddX5))) (99) g (122) := by
  refine mk_k (by decide +kernel) rfl (Nat.le_of_ble_eq_true rfl) ?_
  intro p e s m args below meth c Q ls ok hK hZ hO hin hs hl hret
  replace hl : lv_has ls 2 [(0, .ref (h0 + 98)), (1, .ref (h0 + 61))] := hl
  refine g_w (pc2 := 1) (fun _ _ => lv_aload_n ok.1 ok.2.1 dX5_init_0 rfl (lv_at hl 0 rfl)) ?_
  refine g_obj ok hl.1 km_X5_3 kO_i kO_c dX5_init_1 (rfl : 1 + 3 = 4) (Nat.le_of_ble_eq_true rfl) (Nat.le_of_ble_eq_true rfl) ?_
  refine g_w (pc2 := 5) (fun _ _ => lv_aload_n ok.1 ok.2.1 dX5_init_4 rfl (lv_at hl 0 rfl)) ?_
  refine g_w (pc2 := 6) (fun _ _ => lv_aload_n ok.1 ok.2.1 dX5_init_5 rfl (lv_at hl 1 rfl)) ?_
  refine g_put (fs2 := [.ref (h0 + 61), .null, .null, .null, .int 0, .int 0, .int 0, .int 0, .int 0]) (tyk := (.object "VacuumDesk$Balance")) ok hK hin kX5 kf_X5_9 (by decide) rfl rfl dX5_init_6 (rfl : 6 + 3 = 9) (by omega) (by omega) ov_s (Nat.le_of_ble_eq_true rfl) rfl rfl rfl ov_ov ?_
  refine g_w (pc2 := 10) (fun _ _ => lv_aload_n ok.1 ok.2.1 dX5_init_9 rfl (lv_at hl 0 rfl)) ?_
  refine g_w (pc2 := 12) (fun _ _ => lv_bipush (v := 20) ok.1 ok.2.1 dX5_init_10 (by decide +kernel)) ?_
  refine g_newi ok hK ka_int dX5_init_12 (rfl : 12 + 2 = 14) (rfl : 99 + 1 = 100) ((ov_n (by omega)).trans ((hG _ (by omega)).trans (z_int qk_99.1 (by decide) (by decide) qk_99.2))) (by decide +kernel) (by decide +kernel) (Nat.le_of_ble_eq_true rfl) (Nat.le_of_ble_eq_true rfl) (Nat.le_of_ble_eq_true rfl) ?_
  refine g_put (fs2 := [.ref (h0 + 61), .ref (h0 + 99), .null, .null, .int 0, .int 0, .int 0, .int 0, .int 0]) (tyk := (.array .int)) ok hK hin kX5 kf_X5_15 (by decide) rfl rfl dX5_init_14 (rfl : 14 + 3 = 17) (by omega) (by omega) ov_s (Nat.le_of_ble_eq_true rfl) rfl rfl rfl ov_ov ?_
  refine g_w (pc2 := 18) (fun _ _ => lv_aload_n ok.1 ok.2.1 dX5_init_17 rfl (lv_at hl 0 rfl)) ?_
  refine g_w (pc2 := 20) (fun _ _ => lv_bipush (v := 20) ok.1 ok.2.1 dX5_init_18 (by decide +kernel)) ?_
  refine g_newi ok hK ka_int dX5_init_20 (rfl : 20 + 2 = 22) (rfl : 100 + 1 = 101) ((ov_n (by omega)).trans ((hG _ (by omega)).trans (z_int qk_100.1 (by decide) (by decide) qk_100.2))) (by decide +kernel) (by decide +kernel) (Nat.le_of_ble_eq_true rfl) (Nat.le_of_ble_eq_true rfl) (Nat.le_of_ble_eq_true rfl) ?_
  refine g_put (fs2 := [.ref (h0 + 61), .ref (h0 + 99), .ref (h0 + 100), .null, .int 0, .int 0, .int 0, .int 0, .int 0]) (tyk := (.array .int)) ok hK hin kX5 kf_X5_19 (by decide) rfl rfl dX5_init_22 (rfl : 22 + 3 = 25) (by omega) (by omega) ov_s (Nat.le_of_ble_eq_true rfl) rfl rfl rfl ov_ov ?_
  refine g_w (pc2 := 26) (fun _ _ => lv_aload_n ok.1 ok.2.1 dX5_init_25 rfl (lv_at hl 0 rfl)) ?_
  refine g_w (pc2 := 28) (fun _ _ => lv_bipush (v := 20) ok.1 ok.2.1 dX5_init_26 (by decide +kernel)) ?_
  refine g_w (pc2 := 30) (fun _ _ => lv_bipush (v := 6) ok.1 ok.2.1 dX5_init_28 (by decide +kernel)) ?_
  refine g_multi (tI := .int) (N2 := 20) (K := 6) ok (hK.2 4 _ rfl).2 (hK.2 0 _ rfl).2 kc_X5_22 (ov_a hO.1) ka_int rfl (by decide) dX5_init_30 (rfl : 30 + 4 = 34) (rfl : 101 + 1 + 20 = 122) ((ov_n (by omega)).trans ((hG _ (by omega)).trans (z_ref qk_101.1 (by decide) qk_101.2))) (fun q hq => by rw [rr_101 q hq]) (fun q hq => ((ov_n (by omega)).trans ((hG _ (by omega)).trans (z_int (rk_101 q hq).1 (by omega) (by omega) (rk_101 q hq).2)))) rfl (by decide) (by decide) (by decide) (by decide) (by decide) (by decide) (Nat.le_of_ble_eq_true rfl) (Nat.le_of_ble_eq_true rfl) ?_
  refine g_put (fs2 := [.ref (h0 + 61), .ref (h0 + 99), .ref (h0 + 100), .ref (h0 + 101), .int 0, .int 0, .int 0, .int 0, .int 0]) (tyk := (.array (.array .int))) ok hK hin kX5 kf_X5_24 (by decide) rfl rfl dX5_init_34 (rfl : 34 + 3 = 37) (by omega) (by omega) ov_s (Nat.le_of_ble_eq_true rfl) rfl rfl rfl ov_ov ?_
  refine g_eq (ov_id ((hG _ (by omega)).trans fi_X5)) ?_
  exact hret 37 ls dX5_init_37

set_option maxHeartbeats 4000000 in
set_option maxRecDepth 20000 in
set_option maxRecDepth 20000 in
theorem k_path {l : Launch} {h0 : Nat} {D : va_G} {cy : Nat → ClassId} {tt : Nat → Nat} {g : Nat → va_E} (hG : ∀ a, 122 ≤ a → g a = ce h0 cy M0 a) : Mk l yX4_init cX4_init 1 1 3 75 12 h0 D cy tt [.ref (h0 + 122)] (ov g 122 (.inr (3, ddX4))) (123) g (126) := by
  refine mk_k (by decide +kernel) rfl (Nat.le_of_ble_eq_true rfl) ?_
  intro p e s m args below meth c Q ls ok hK hZ hO hin hs hl hret
  replace hl : lv_has ls 1 [(0, .ref (h0 + 122))] := hl
  refine g_w (pc2 := 1) (fun _ _ => lv_aload_n ok.1 ok.2.1 dX4_init_0 rfl (lv_at hl 0 rfl)) ?_
  refine g_obj ok hl.1 km_X4_3 kO_i kO_c dX4_init_1 (rfl : 1 + 3 = 4) (Nat.le_of_ble_eq_true rfl) (Nat.le_of_ble_eq_true rfl) ?_
  refine g_w (pc2 := 5) (fun _ _ => lv_aload_n ok.1 ok.2.1 dX4_init_4 rfl (lv_at hl 0 rfl)) ?_
  refine g_w (pc2 := 7) (fun _ _ => lv_bipush (v := 25) ok.1 ok.2.1 dX4_init_5 (by decide +kernel)) ?_
  refine g_newj ok hK ka_long dX4_init_7 (rfl : 7 + 2 = 9) (rfl : 123 + 1 = 124) ((ov_n (by omega)).trans ((hG _ (by omega)).trans (z_long qk_123.1 qk_123.2))) (by decide +kernel) (by decide +kernel) (Nat.le_of_ble_eq_true rfl) (Nat.le_of_ble_eq_true rfl) (Nat.le_of_ble_eq_true rfl) ?_
  refine g_put (fs2 := [.ref (h0 + 123), .null, .null, .long 0, .long 0, .int 0]) (tyk := (.array .long)) ok hK hin kX4 kf_X4_9 (by decide) rfl rfl dX4_init_9 (rfl : 9 + 3 = 12) (by omega) (by omega) ov_s (Nat.le_of_ble_eq_true rfl) rfl rfl rfl ov_ov ?_
  refine g_w (pc2 := 13) (fun _ _ => lv_aload_n ok.1 ok.2.1 dX4_init_12 rfl (lv_at hl 0 rfl)) ?_
  refine g_w (pc2 := 15) (fun _ _ => lv_bipush (v := 25) ok.1 ok.2.1 dX4_init_13 (by decide +kernel)) ?_
  refine g_newj ok hK ka_long dX4_init_15 (rfl : 15 + 2 = 17) (rfl : 124 + 1 = 125) ((ov_n (by omega)).trans ((hG _ (by omega)).trans (z_long qk_124.1 qk_124.2))) (by decide +kernel) (by decide +kernel) (Nat.le_of_ble_eq_true rfl) (Nat.le_of_ble_eq_true rfl) (Nat.le_of_ble_eq_true rfl) ?_
  refine g_put (fs2 := [.ref (h0 + 123), .ref (h0 + 124), .null, .long 0, .long 0, .int 0]) (tyk := (.array .long)) ok hK hin kX4 kf_X4_15 (by decide) rfl rfl dX4_init_17 (rfl : 17 + 3 = 20) (by omega) (by omega) ov_s (Nat.le_of_ble_eq_true rfl) rfl rfl rfl ov_ov ?_
  refine g_w (pc2 := 21) (fun _ _ => lv_aload_n ok.1 ok.2.1 dX4_init_20 rfl (lv_at hl 0 rfl)) ?_
  refine g_w (pc2 := 23) (fun _ _ => lv_bipush (v := 25) ok.1 ok.2.1 dX4_init_21 (by decide +kernel)) ?_
  refine g_newj ok hK ka_long dX4_init_23 (rfl : 23 + 2 = 25) (rfl : 125 + 1 = 126) ((ov_n (by omega)).trans ((hG _ (by omega)).trans (z_long qk_125.1 qk_125.2))) (by decide +kernel) (by decide +kernel) (Nat.le_of_ble_eq_true rfl) (Nat.le_of_ble_eq_true rfl) (Nat.le_of_ble_eq_true rfl) ?_
  refine g_put (fs2 := [.ref (h0 + 123), .ref (h0 + 124), .ref (h0 + 125), .long 0, .long 0, .int 0]) (tyk := (.array .long)) ok hK hin kX4 kf_X4_18 (by decide) rfl rfl dX4_init_25 (rfl : 25 + 3 = 28) (by omega) (by omega) ov_s (Nat.le_of_ble_eq_true rfl) rfl rfl rfl ov_ov ?_
  refine g_eq (ov_id ((hG _ (by omega)).trans fi_X4)) ?_
  exact hret 28 ls dX4_init_28

