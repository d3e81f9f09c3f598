set_option maxHeartbeats 4000000 in
set_option maxRecDepth 20000 in
set_option maxRecDepth 20000 in
theorem k_past {l : Launch} {h0 : Nat} {D : va_G} {cy : Nat → ClassId} {tt : Nat → Nat} {g : Nat → va_E} (hG : ∀ a, 127 ≤ a → g a = ce h0 cy M0 a) : Mk l yX3_init cX3_init 2 2 302 3630 32 h0 D cy tt [.ref (h0 + 127)] (ov g 127 (.inr (2, ddX3))) (128) g (430) := by
  refine mk_k (by decide +kernel) rfl (by decide) ?_
  intro p e s m args below meth c Q ls ok hK hZ hO hin hs hl hret
  replace hl : lv_has ls 2 [(0, .ref (h0 + 127))] := hl
  refine g_w (pc2 := 1) (fun _ _ => lv_aload_n ok.1 ok.2.1 dX3_init_0 rfl (lv_at hl 0 rfl)) ?_
  refine g_obj ok hl.1 km_X3_3 kO_i kO_c dX3_init_1 (rfl : 1 + 3 = 4) (Nat.le_of_ble_eq_true rfl) (Nat.le_of_ble_eq_true rfl) ?_
  refine g_w (pc2 := 5) (fun _ _ => lv_aload_n ok.1 ok.2.1 dX3_init_4 rfl (lv_at hl 0 rfl)) ?_
  refine g_w (pc2 := 7) (fun _ _ => lv_bipush (v := 10) ok.1 ok.2.1 dX3_init_5 (by decide)) ?_
  refine g_anew ok hK kc_X3_9 (ov_a hO.2.2) dX3_init_7 (rfl : 7 + 3 = 10) (rfl : 128 + 1 = 129) (by decide) (by decide) (by decide) (Nat.le_of_ble_eq_true rfl) (Nat.le_of_ble_eq_true rfl) ?_
  refine g_put (tyk := (.array (.object "VacuumDesk$Line"))) ok hK hin kX3 kf_X3_11 (by decide) rfl rfl dX3_init_10 (rfl : 10 + 3 = 13) (by omega) (by omega) ((ov_n (by omega)).trans ov_s) (Nat.le_of_ble_eq_true rfl) rfl rfl rfl (ov_sw (by omega)) ?_
  refine g_w (pc2 := 14) (fun _ _ => lv_iconst (v := 0) ok.1 ok.2.1 dX3_init_13 (by decide)) ?_
  refine g_ws (pc2 := 15) (lv2 := [(1, .int 0), (0, .ref (h0 + 127))]) (fun _ _ => lv_istore_n ok.1 ok.2.1 dX3_init_14 rfl hl (by decide) rfl) (fun ls hl => ?_)
  refine g_w (pc2 := 16) (fun _ _ => lv_iload_n ok.1 ok.2.1 dX3_init_15 rfl (lv_at hl 0 rfl)) ?_
  refine g_w (pc2 := 18) (fun _ _ => lv_bipush (v := 10) ok.1 ok.2.1 dX3_init_16 (by decide)) ?_
  refine g_w (pc2 := 21) (fun _ _ kk => lv_icmp_ge (tgt := 40) ok.1 ok.2.1 dX3_init_18 (by decide) (fun q => absurd q (by decide)) (fun _ => kk)) ?_
  refine g_w (pc2 := 22) (fun _ _ => lv_aload_n ok.1 ok.2.1 dX3_init_21 rfl (lv_at hl 1 rfl)) ?_
  refine g_get ok hK kX3 kf_X3_11 (by decide) dX3_init_22 (rfl : 22 + 3 = 25) (by omega) ((ov_n (by omega)).trans ov_s) rfl ?_
  refine g_w (pc2 := 26) (fun _ _ => lv_iload_n ok.1 ok.2.1 dX3_init_25 rfl (lv_at hl 0 rfl)) ?_
  refine g_new ok hK kX1 kc_X3_9 ki_X1 kn_X1 dfX1 dX3_init_26 (rfl : 26 + 3 = 29) (rfl : 129 + 1 = 130) (Nat.le_of_ble_eq_true rfl) (Nat.le_of_ble_eq_true rfl) ?_
  refine g_w (pc2 := 30) (fun _ _ => lv_dup ok.1 ok.2.1 dX3_init_29 rfl) ?_
  refine g_call (As := []) (st := [.ref (h0 + 129), .int 0, .ref (h0 + 128)]) ok hK hZ hO hl.1 hk_X1 km_X3_17 (k_line (List.mem_of_getElem? (i := 2) rfl) (fun a ha => ((ov_n (by omega)).trans ((ov_n (by omega)).trans (hG a (by omega)))))) rfl (Nat.le_of_ble_eq_true rfl) dX3_init_30 (rfl : 30 + 3 = 33) ⟨Nat.le_of_ble_eq_true rfl, Nat.le_of_ble_eq_true rfl⟩ ⟨Nat.le_of_ble_eq_true rfl, Nat.le_of_ble_eq_true rfl⟩ ?_
  refine g_aast (b := 129) (N2 := 10) (f := (fun _ => none)) ok hK dX3_init_33 (rfl : 33 + 1 = 34) (by omega) (by omega) ov_s (by omega) ((ov_n (by omega)).trans ((ov_n (by omega)).trans ((hG _ (by omega)).trans (fi_X1 (List.mem_of_getElem? (i := 2) rfl))))) (by decide) ov_ov ?_
  refine g_ws (pc2 := 37) (lv2 := [(1, .int 1), (0, .ref (h0 + 127))]) (fun _ _ => lv_iinc (v := 1) ok.1 ok.2.1 dX3_init_34 hl (k := 0) rfl (by decide) (by decide) rfl) (fun ls hl => ?_)
  refine g_w (pc2 := 15) (fun _ _ => lv_goto ok.1 ok.2.1 dX3_init_37 (by decide)) ?_
  refine g_w (pc2 := 16) (fun _ _ => lv_iload_n ok.1 ok.2.1 dX3_init_15 rfl (lv_at hl 0 rfl)) ?_
  refine g_w (pc2 := 18) (fun _ _ => lv_bipush (v := 10) ok.1 ok.2.1 dX3_init_16 (by decide)) ?_
  refine g_w (pc2 := 21) (fun _ _ kk => lv_icmp_ge (tgt := 40) ok.1 ok.2.1 dX3_init_18 (by decide) (fun q => absurd q (by decide)) (fun _ => kk)) ?_
  refine g_w (pc2 := 22) (fun _ _ => lv_aload_n ok.1 ok.2.1 dX3_init_21 rfl (lv_at hl 1 rfl)) ?_
  refine g_get ok hK kX3 kf_X3_11 (by decide) dX3_init_22 (rfl : 22 + 3 = 25) (by omega) ((ov_n (by omega)).trans ov_s) rfl ?_
  refine g_w (pc2 := 26) (fun _ _ => lv_iload_n ok.1 ok.2.1 dX3_init_25 rfl (lv_at hl 0 rfl)) ?_
  refine g_new ok hK kX1 kc_X3_9 ki_X1 kn_X1 dfX1 dX3_init_26 (rfl : 26 + 3 = 29) (rfl : 159 + 1 = 160) (Nat.le_of_ble_eq_true rfl) (Nat.le_of_ble_eq_true rfl) ?_
  refine g_w (pc2 := 30) (fun _ _ => lv_dup ok.1 ok.2.1 dX3_init_29 rfl) ?_
  refine g_call (As := []) (st := [.ref (h0 + 159), .int 1, .ref (h0 + 128)]) ok hK hZ hO hl.1 hk_X1 km_X3_17 (k_line (List.mem_of_getElem? (i := 3) rfl) (fun a ha => ((ov_n (by omega)).trans ((ov_n (by omega)).trans (hG a (by omega)))))) rfl (Nat.le_of_ble_eq_true rfl) dX3_init_30 (rfl : 30 + 3 = 33) ⟨Nat.le_of_ble_eq_true rfl, Nat.le_of_ble_eq_true rfl⟩ ⟨Nat.le_of_ble_eq_true rfl, Nat.le_of_ble_eq_true rfl⟩ ?_
  refine g_aast (b := 159) (N2 := 10) (f := (va_up (fun _ => none) (0 : Int32).toNatClampNeg (some (h0 + 129)))) ok hK dX3_init_33 (rfl : 33 + 1 = 34) (by omega) (by omega) ov_s (by omega) ((ov_n (by omega)).trans ((ov_n (by omega)).trans ((hG _ (by omega)).trans (fi_X1 (List.mem_of_getElem? (i := 3) rfl))))) (by decide) ov_ov ?_
  refine g_ws (pc2 := 37) (lv2 := [(1, .int 2), (0, .ref (h0 + 127))]) (fun _ _ => lv_iinc (v := 2) ok.1 ok.2.1 dX3_init_34 hl (k := 0) rfl (by decide) (by decide) rfl) (fun ls hl => ?_)
  refine g_w (pc2 := 15) (fun _ _ => lv_goto ok.1 ok.2.1 dX3_init_37 (by decide)) ?_
  refine g_w (pc2 := 16) (fun _ _ => lv_iload_n ok.1 ok.2.1 dX3_init_15 rfl (lv_at hl 0 rfl)) ?_
  refine g_w (pc2 := 18) (fun _ _ => lv_bipush (v := 10) ok.1 ok.2.1 dX3_init_16 (by decide)) ?_
  refine g_w (pc2 := 21) (fun _ _ kk => lv_icmp_ge (tgt := 40) ok.1 ok.2.1 dX3_init_18 (by decide) (fun q => absurd q (by decide)) (fun _ => kk)) ?_
  refine g_w (pc2 := 22) (fun _ _ => lv_aload_n ok.1 ok.2.1 dX3_init_21 rfl (lv_at hl 1 rfl)) ?_
  refine g_get ok hK kX3 kf_X3_11 (by decide) dX3_init_22 (rfl : 22 + 3 = 25) (by omega) ((ov_n (by omega)).trans ov_s) rfl ?_
  refine g_w (pc2 := 26) (fun _ _ => lv_iload_n ok.1 ok.2.1 dX3_init_25 rfl (lv_at hl 0 rfl)) ?_
  refine g_new ok hK kX1 kc_X3_9 ki_X1 kn_X1 dfX1 dX3_init_26 (rfl : 26 + 3 = 29) (rfl : 189 + 1 = 190) (Nat.le_of_ble_eq_true rfl) (Nat.le_of_ble_eq_true rfl) ?_
  refine g_w (pc2 := 30) (fun _ _ => lv_dup ok.1 ok.2.1 dX3_init_29 rfl) ?_
  refine g_call (As := []) (st := [.ref (h0 + 189), .int 2, .ref (h0 + 128)]) ok hK hZ hO hl.1 hk_X1 km_X3_17 (k_line (List.mem_of_getElem? (i := 4) rfl) (fun a ha => ((ov_n (by omega)).trans ((ov_n (by omega)).trans (hG a (by omega)))))) rfl (Nat.le_of_ble_eq_true rfl) dX3_init_30 (rfl : 30 + 3 = 33) ⟨Nat.le_of_ble_eq_true rfl, Nat.le_of_ble_eq_true rfl⟩ ⟨Nat.le_of_ble_eq_true rfl, Nat.le_of_ble_eq_true rfl⟩ ?_
  refine g_aast (b := 189) (N2 := 10) (f := (va_up (va_up (fun _ => none) (0 : Int32).toNatClampNeg (some (h0 + 129))) (1 : Int32).toNatClampNeg (some (h0 + 159)))) ok hK dX3_init_33 (rfl : 33 + 1 = 34) (by omega) (by omega) ov_s (by omega) ((ov_n (by omega)).trans ((ov_n (by omega)).trans ((hG _ (by omega)).trans (fi_X1 (List.mem_of_getElem? (i := 4) rfl))))) (by decide) ov_ov ?_
  refine g_ws (pc2 := 37) (lv2 := [(1, .int 3), (0, .ref (h0 + 127))]) (fun _ _ => lv_iinc (v := 3) ok.1 ok.2.1 dX3_init_34 hl (k := 0) rfl (by decide) (by decide) rfl) (fun ls hl => ?_)
  refine g_w (pc2 := 15) (fun _ _ => lv_goto ok.1 ok.2.1 dX3_init_37 (by decide)) ?_
  refine g_w (pc2 := 16) (fun _ _ => lv_iload_n ok.1 ok.2.1 dX3_init_15 rfl (lv_at hl 0 rfl)) ?_
  refine g_w (pc2 := 18) (fun _ _ => lv_bipush (v := 10) ok.1 ok.2.1 dX3_init_16 (by decide)) ?_
  refine g_w (pc2 := 21) (fun _ _ kk => lv_icmp_ge (tgt := 40) ok.1 ok.2.1 dX3_init_18 (by decide) (fun q => absurd q (by decide)) (fun _ => kk)) ?_
  refine g_w (pc2 := 22) (fun _ _ => lv_aload_n ok.1 ok.2.1 dX3_init_21 rfl (lv_at hl 1 rfl)) ?_
  refine g_get ok hK kX3 kf_X3_11 (by decide) dX3_init_22 (rfl : 22 + 3 = 25) (by omega) ((ov_n (by omega)).trans ov_s) rfl ?_
  refine g_w (pc2 := 26) (fun _ _ => lv_iload_n ok.1 ok.2.1 dX3_init_25 rfl (lv_at hl 0 rfl)) ?_
  refine g_new ok hK kX1 kc_X3_9 ki_X1 kn_X1 dfX1 dX3_init_26 (rfl : 26 + 3 = 29) (rfl : 219 + 1 = 220) (Nat.le_of_ble_eq_true rfl) (Nat.le_of_ble_eq_true rfl) ?_
  refine g_w (pc2 := 30) (fun _ _ => lv_dup ok.1 ok.2.1 dX3_init_29 rfl) ?_
  refine g_call (As := []) (st := [.ref (h0 + 219), .int 3, .ref (h0 + 128)]) ok hK hZ hO hl.1 hk_X1 km_X3_17 (k_line (List.mem_of_getElem? (i := 5) rfl) (fun a ha => ((ov_n (by omega)).trans ((ov_n (by omega)).trans (hG a (by omega)))))) rfl (Nat.le_of_ble_eq_true rfl) dX3_init_30 (rfl : 30 + 3 = 33) ⟨Nat.le_of_ble_eq_true rfl, Nat.le_of_ble_eq_true rfl⟩ ⟨Nat.le_of_ble_eq_true rfl, Nat.le_of_ble_eq_true rfl⟩ ?_
  refine g_aast (b := 219) (N2 := 10) (f := (va_up (va_up (va_up (fun _ => none) (0 : Int32).toNatClampNeg (some (h0 + 129))) (1 : Int32).toNatClampNeg (some (h0 + 159))) (2 : Int32).toNatClampNeg (some (h0 + 189)))) ok hK dX3_init_33 (rfl : 33 + 1 = 34) (by omega) (by omega) ov_s (by omega) ((ov_n (by omega)).trans ((ov_n (by omega)).trans ((hG _ (by omega)).trans (fi_X1 (List.mem_of_getElem? (i := 5) rfl))))) (by decide) ov_ov ?_
  refine g_ws (pc2 := 37) (lv2 := [(1, .int 4), (0, .ref (h0 + 127))]) (fun _ _ => lv_iinc (v := 4) ok.1 ok.2.1 dX3_init_34 hl (k := 0) rfl (by decide) (by decide) rfl) (fun ls hl => ?_)
  refine g_w (pc2 := 15) (fun _ _ => lv_goto ok.1 ok.2.1 dX3_init_37 (by decide)) ?_
  refine g_w (pc2 := 16) (fun _ _ => lv_iload_n ok.1 ok.2.1 dX3_init_15 rfl (lv_at hl 0 rfl)) ?_
  refine g_w (pc2 := 18) (fun _ _ => lv_bipush (v := 10) ok.1 ok.2.1 dX3_init_16 (by decide)) ?_
  refine g_w (pc2 := 21) (fun _ _ kk => lv_icmp_ge (tgt := 40) ok.1 ok.2.1 dX3_init_18 (by decide) (fun q => absurd q (by decide)) (fun _ => kk)) ?_
  refine g_w (pc2 := 22) (fun _ _ => lv_aload_n ok.1 ok.2.1 dX3_init_21 rfl (lv_at hl 1 rfl)) ?_
  refine g_get ok hK kX3 kf_X3_11 (by decide) dX3_init_22 (rfl : 22 + 3 = 25) (by omega) ((ov_n (by omega)).trans ov_s) rfl ?_
  refine g_w (pc2 := 26) (fun _ _ => lv_iload_n ok.1 ok.2.1 dX3_init_25 rfl (lv_at hl 0 rfl)) ?_
  refine g_new ok hK kX1 kc_X3_9 ki_X1 kn_X1 dfX1 dX3_init_26 (rfl : 26 + 3 = 29) (rfl : 249 + 1 = 250) (Nat.le_of_ble_eq_true rfl) (Nat.le_of_ble_eq_true rfl) ?_
  refine g_w (pc2 := 30) (fun _ _ => lv_dup ok.1 ok.2.1 dX3_init_29 rfl) ?_
  refine g_call (As := []) (st := [.ref (h0 + 249), .int 4, .ref (h0 + 128)]) ok hK hZ hO hl.1 hk_X1 km_X3_17 (k_line (List.mem_of_getElem? (i := 6) rfl) (fun a ha => ((ov_n (by omega)).trans ((ov_n (by omega)).trans (hG a (by omega)))))) rfl (Nat.le_of_ble_eq_true rfl) dX3_init_30 (rfl : 30 + 3 = 33) ⟨Nat.le_of_ble_eq_true rfl, Nat.le_of_ble_eq_true rfl⟩ ⟨Nat.le_of_ble_eq_true rfl, Nat.le_of_ble_eq_true rfl⟩ ?_
  refine g_aast (b := 249) (N2 := 10) (f := (va_up (va_up (va_up (va_up (fun _ => none) (0 : Int32).toNatClampNeg (some (h0 + 129))) (1 : Int32).toNatClampNeg (some (h0 + 159))) (2 : Int32).toNatClampNeg (some (h0 + 189))) (3 : Int32).toNatClampNeg (some (h0 + 219)))) ok hK dX3_init_33 (rfl : 33 + 1 = 34) (by omega) (by omega) ov_s (by omega) ((ov_n (by omega)).trans ((ov_n (by omega)).trans ((hG _ (by omega)).trans (fi_X1 (List.mem_of_getElem? (i := 6) rfl))))) (by decide) ov_ov ?_
  refine g_ws (pc2 := 37) (lv2 := [(1, .int 5), (0, .ref (h0 + 127))]) (fun _ _ => lv_iinc (v := 5) ok.1 ok.2.1 dX3_init_34 hl (k := 0) rfl (by decide) (by decide) rfl) (fun ls hl => ?_)
  refine g_w (pc2 := 15) (fun _ _ => lv_goto ok.1 ok.2.1 dX3_init_37 (by decide)) ?_
  refine g_w (pc2 := 16) (fun _ _ => lv_iload_n ok.1 ok.2.1 dX3_init_15 rfl (lv_at hl 0 rfl)) ?_
  refine g_w (pc2 := 18) (fun _ _ => lv_bipush (v := 10) ok.1 ok.2.1 dX3_init_16 (by decide)) ?_
  refine g_w (pc2 := 21) (fun _ _ kk => lv_icmp_ge (tgt := 40) ok.1 ok.2.1 dX3_init_18 (by decide) (fun q => absurd q (by decide)) (fun _ => kk)) ?_
  refine g_w (pc2 := 22) (fun _ _ => lv_aload_n ok.1 ok.2.1 dX3_init_21 rfl (lv_at hl 1 rfl)) ?_
  refine g_get ok hK kX3 kf_X3_11 (by decide) dX3_init_22 (rfl : 22 + 3 = 25) (by omega) ((ov_n (by omega)).trans ov_s) rfl ?_
  refine g_w (pc2 := 26) (fun _ _ => lv_iload_n ok.1 ok.2.1 dX3_init_25 rfl (lv_at hl 0 rfl)) ?_
  refine g_new ok hK kX1 kc_X3_9 ki_X1 kn_X1 dfX1 dX3_init_26 (rfl : 26 + 3 = 29) (rfl : 279 + 1 = 280) (Nat.le_of_ble_eq_true rfl) (Nat.le_of_ble_eq_true rfl) ?_
  refine g_w (pc2 := 30) (fun _ _ => lv_dup ok.1 ok.2.1 dX3_init_29 rfl) ?_
  refine g_call (As := []) (st := [.ref (h0 + 279), .int 5, .ref (h0 + 128)]) ok hK hZ hO hl.1 hk_X1 km_X3_17 (k_line (List.mem_of_getElem? (i := 7) rfl) (fun a ha => ((ov_n (by omega)).trans ((ov_n (by omega)).trans (hG a (by omega)))))) rfl (Nat.le_of_ble_eq_true rfl) dX3_init_30 (rfl : 30 + 3 = 33) ⟨Nat.le_of_ble_eq_true rfl, Nat.le_of_ble_eq_true rfl⟩ ⟨Nat.le_of_ble_eq_true rfl, Nat.le_of_ble_eq_true rfl⟩ ?_
  refine g_aast (b := 279) (N2 := 10) (f := (va_up (va_up (va_up (va_up (va_up (fun _ => none) (0 : Int32).toNatClampNeg (some (h0 + 129))) (1 : Int32).toNatClampNeg (some (h0 + 159))) (2 : Int32).toNatClampNeg (some (h0 + 189))) (3 : Int32).toNatClampNeg (some (h0 + 219))) (4 : Int32).toNatClampNeg (some (h0 + 249)))) ok hK dX3_init_33 (rfl : 33 + 1 = 34) (by omega) (by omega) ov_s (by omega) ((ov_n (by omega)).trans ((ov_n (by omega)).trans ((hG _ (by omega)).trans (fi_X1 (List.mem_of_getElem? (i := 7) rfl))))) (by decide) ov_ov ?_
  refine g_ws (pc2 := 37) (lv2 := [(1, .int 6), (0, .ref (h0 + 127))]) (fun _ _ => lv_iinc (v := 6) ok.1 ok.2.1 dX3_init_34 hl (k := 0) rfl (by decide) (by decide) rfl) (fun ls hl => ?_)
  refine g_w (pc2 := 15) (fun _ _ => lv_goto ok.1 ok.2.1 dX3_init_37 (by decide)) ?_
  refine g_w (pc2 := 16) (fun _ _ => lv_iload_n ok.1 ok.2.1 dX3_init_15 rfl (lv_at hl 0 rfl)) ?_
  refine g_w (pc2 := 18) (fun _ _ => lv_bipush (v := 10) ok.1 ok.2.1 dX3_init_16 (by decide)) ?_
  refine g_w (pc2 := 21) (fun _ _ kk => lv_icmp_ge (tgt := 40) ok.1 ok.2.1 dX3_init_18 (by decide) (fun q => absurd q (by decide)) (fun _ => kk)) ?_
  refine g_w (pc2 := 22) (fun _ _ => lv_aload_n ok.1 ok.2.1 dX3_init_21 rfl (lv_at hl 1 rfl)) ?_
  refine g_get ok hK kX3 kf_X3_11 (by decide) dX3_init_22 (rfl : 22 + 3 = 25) (by omega) ((ov_n (by omega)).trans ov_s) rfl ?_
  refine g_w (pc2 := 26) (fun _ _ => lv_iload_n ok.1 ok.2.1 dX3_init_25 rfl (lv_at hl 0 rfl)) ?_
  refine g_new ok hK kX1 kc_X3_9 ki_X1 kn_X1 dfX1 dX3_init_26 (rfl : 26 + 3 = 29) (rfl : 309 + 1 = 310) (Nat.le_of_ble_eq_true rfl) (Nat.le_of_ble_eq_true rfl) ?_
  refine g_w (pc2 := 30) (fun _ _ => lv_dup ok.1 ok.2.1 dX3_init_29 rfl) ?_
  refine g_call (As := []) (st := [.ref (h0 + 309), .int 6, .ref (h0 + 128)]) ok hK hZ hO hl.1 hk_X1 km_X3_17 (k_line (List.mem_of_getElem? (i := 8) rfl) (fun a ha => ((ov_n (by omega)).trans ((ov_n (by omega)).trans (hG a (by omega)))))) rfl (Nat.le_of_ble_eq_true rfl) dX3_init_30 (rfl : 30 + 3 = 33) ⟨Nat.le_of_ble_eq_true rfl, Nat.le_of_ble_eq_true rfl⟩ ⟨Nat.le_of_ble_eq_true rfl, Nat.le_of_ble_eq_true rfl⟩ ?_
  refine g_aast (b := 309) (N2 := 10) (f := (va_up (va_up (va_up (va_up (va_up (va_up (fun _ => none) (0 : Int32).toNatClampNeg (some (h0 + 129))) (1 : Int32).toNatClampNeg (some (h0 + 159))) (2 : Int32).toNatClampNeg (some (h0 + 189))) (3 : Int32).toNatClampNeg (some (h0 + 219))) (4 : Int32).toNatClampNeg (some (h0 + 249))) (5 : Int32).toNatClampNeg (some (h0 + 279)))) ok hK dX3_init_33 (rfl : 33 + 1 = 34) (by omega) (by omega) ov_s (by omega) ((ov_n (by omega)).trans ((ov_n (by omega)).trans ((hG _ (by omega)).trans (fi_X1 (List.mem_of_getElem? (i := 8) rfl))))) (by decide) ov_ov ?_
  refine g_ws (pc2 := 37) (lv2 := [(1, .int 7), (0, .ref (h0 + 127))]) (fun _ _ => lv_iinc (v := 7) ok.1 ok.2.1 dX3_init_34 hl (k := 0) rfl (by decide) (by decide) rfl) (fun ls hl => ?_)
  refine g_w (pc2 := 15) (fun _ _ => lv_goto ok.1 ok.2.1 dX3_init_37 (by decide)) ?_
  refine g_w (pc2 := 16) (fun _ _ => lv_iload_n ok.1 ok.2.1 dX3_init_15 rfl (lv_at hl 0 rfl)) ?_
  refine g_w (pc2 := 18) (fun _ _ => lv_bipush (v := 10) ok.1 ok.2.1 dX3_init_16 (by decide)) ?_
  refine g_w (pc2 := 21) (fun _ _ kk => lv_icmp_ge (tgt := 40) ok.1 ok.2.1 dX3_init_18 (by decide) (fun q => absurd q (by decide)) (fun _ => kk)) ?_
  refine g_w (pc2 := 22) (fun _ _ => lv_aload_n ok.1 ok.2.1 dX3_init_21 rfl (lv_at hl 1 rfl)) ?_
  refine g_get ok hK kX3 kf_X3_11 (by decide) dX3_init_22 (rfl : 22 + 3 = 25) (by omega) ((ov_n (by omega)).trans ov_s) rfl ?_
  refine g_w (pc2 := 26) (fun _ _ => lv_iload_n ok.1 ok.2.1 dX3_init_25 rfl (lv_at hl 0 rfl)) ?_
  refine g_new ok hK kX1 kc_X3_9 ki_X1 kn_X1 dfX1 dX3_init_26 (rfl : 26 + 3 = 29) (rfl : 339 + 1 = 340) (Nat.le_of_ble_eq_true rfl) (Nat.le_of_ble_eq_true rfl) ?_
  refine g_w (pc2 := 30) (fun _ _ => lv_dup ok.1 ok.2.1 dX3_init_29 rfl) ?_
  refine g_call (As := []) (st := [.ref (h0 + 339), .int 7, .ref (h0 + 128)]) ok hK hZ hO hl.1 hk_X1 km_X3_17 (k_line (List.mem_of_getElem? (i := 9) rfl) (fun a ha => ((ov_n (by omega)).trans ((ov_n (by omega)).trans (hG a (by omega)))))) rfl (Nat.le_of_ble_eq_true rfl) dX3_init_30 (rfl : 30 + 3 = 33) ⟨Nat.le_of_ble_eq_true rfl, Nat.le_of_ble_eq_true rfl⟩ ⟨Nat.le_of_ble_eq_true rfl, Nat.le_of_ble_eq_true rfl⟩ ?_
  refine g_aast (b := 339) (N2 := 10) (f := (va_up (va_up (va_up (va_up (va_up (va_up (va_up (fun _ => none) (0 : Int32).toNatClampNeg (some (h0 + 129))) (1 : Int32).toNatClampNeg (some (h0 + 159))) (2 : Int32).toNatClampNeg (some (h0 + 189))) (3 : Int32).toNatClampNeg (some (h0 + 219))) (4 : Int32).toNatClampNeg (some (h0 + 249))) (5 : Int32).toNatClampNeg (some (h0 + 279))) (6 : Int32).toNatClampNeg (some (h0 + 309)))) ok hK dX3_init_33 (rfl : 33 + 1 = 34) (by omega) (by omega) ov_s (by omega) ((ov_n (by omega)).trans ((ov_n (by omega)).trans ((hG _ (by omega)).trans (fi_X1 (List.mem_of_getElem? (i := 9) rfl))))) (by decide) ov_ov ?_
  refine g_ws (pc2 := 37) (lv2 := [(1, .int 8), (0, .ref (h0 + 127))]) (fun _ _ => lv_iinc (v := 8) ok.1 ok.2.1 dX3_init_34 hl (k := 0) rfl (by decide) (by decide) rfl) (fun ls hl => ?_)
  refine g_w (pc2 := 15) (fun _ _ => lv_goto ok.1 ok.2.1 dX3_init_37 (by decide)) ?_
  refine g_w (pc2 := 16) (fun _ _ => lv_iload_n ok.1 ok.2.1 dX3_init_15 rfl (lv_at hl 0 rfl)) ?_
  refine g_w (pc2 := 18) (fun _ _ => lv_bipush (v := 10) ok.1 ok.2.1 dX3_init_16 (by decide)) ?_
  refine g_w (pc2 := 21) (fun _ _ kk => lv_icmp_ge (tgt := 40) ok.1 ok.2.1 dX3_init_18 (by decide) (fun q => absurd q (by decide)) (fun _ => kk)) ?_
  refine g_w (pc2 := 22) (fun _ _ => lv_aload_n ok.1 ok.2.1 dX3_init_21 rfl (lv_at hl 1 rfl)) ?_
  refine g_get ok hK kX3 kf_X3_11 (by decide) dX3_init_22 (rfl : 22 + 3 = 25) (by omega) ((ov_n (by omega)).trans ov_s) rfl ?_
  refine g_w (pc2 := 26) (fun _ _ => lv_iload_n ok.1 ok.2.1 dX3_init_25 rfl (lv_at hl 0 rfl)) ?_
  refine g_new ok hK kX1 kc_X3_9 ki_X1 kn_X1 dfX1 dX3_init_26 (rfl : 26 + 3 = 29) (rfl : 369 + 1 = 370) (Nat.le_of_ble_eq_true rfl) (Nat.le_of_ble_eq_true rfl) ?_
  refine g_w (pc2 := 30) (fun _ _ => lv_dup ok.1 ok.2.1 dX3_init_29 rfl) ?_
  refine g_call (As := []) (st := [.ref (h0 + 369), .int 8, .ref (h0 + 128)]) ok hK hZ hO hl.1 hk_X1 km_X3_17 (k_line (List.mem_of_getElem? (i := 10) rfl) (fun a ha => ((ov_n (by omega)).trans ((ov_n (by omega)).trans (hG a (by omega)))))) rfl (Nat.le_of_ble_eq_true rfl) dX3_init_30 (rfl : 30 + 3 = 33) ⟨Nat.le_of_ble_eq_true rfl, Nat.le_of_ble_eq_true rfl⟩ ⟨Nat.le_of_ble_eq_true rfl, Nat.le_of_ble_eq_true rfl⟩ ?_
  refine g_aast (b := 369) (N2 := 10) (f := (va_up (va_up (va_up (va_up (va_up (va_up (va_up (va_up (fun _ => none) (0 : Int32).toNatClampNeg (some (h0 + 129))) (1 : Int32).toNatClampNeg (some (h0 + 159))) (2 : Int32).toNatClampNeg (some (h0 + 189))) (3 : Int32).toNatClampNeg (some (h0 + 219))) (4 : Int32).toNatClampNeg (some (h0 + 249))) (5 : Int32).toNatClampNeg (some (h0 + 279))) (6 : Int32).toNatClampNeg (some (h0 + 309))) (7 : Int32).toNatClampNeg (some (h0 + 339)))) ok hK dX3_init_33 (rfl : 33 + 1 = 34) (by omega) (by omega) ov_s (by omega) ((ov_n (by omega)).trans ((ov_n (by omega)).trans ((hG _ (by omega)).trans (fi_X1 (List.mem_of_getElem? (i := 10) rfl))))) (by decide) ov_ov ?_
  refine g_ws (pc2 := 37) (lv2 := [(1, .int 9), (0, .ref (h0 + 127))]) (fun _ _ => lv_iinc (v := 9) ok.1 ok.2.1 dX3_init_34 hl (k := 0) rfl (by decide) (by decide) rfl) (fun ls hl => ?_)
  refine g_w (pc2 := 15) (fun _ _ => lv_goto ok.1 ok.2.1 dX3_init_37 (by decide)) ?_
  refine g_w (pc2 := 16) (fun _ _ => lv_iload_n ok.1 ok.2.1 dX3_init_15 rfl (lv_at hl 0 rfl)) ?_
  refine g_w (pc2 := 18) (fun _ _ => lv_bipush (v := 10) ok.1 ok.2.1 dX3_init_16 (by decide)) ?_
  refine g_w (pc2 := 21) (fun _ _ kk => lv_icmp_ge (tgt := 40) ok.1 ok.2.1 dX3_init_18 (by decide) (fun q => absurd q (by decide)) (fun _ => kk)) ?_
  refine g_w (pc2 := 22) (fun _ _ => lv_aload_n ok.1 ok.2.1 dX3_init_21 rfl (lv_at hl 1 rfl)) ?_
  refine g_get ok hK kX3 kf_X3_11 (by decide) dX3_init_22 (rfl : 22 + 3 = 25) (by omega) ((ov_n (by omega)).trans ov_s) rfl ?_
  refine g_w (pc2 := 26) (fun _ _ => lv_iload_n ok.1 ok.2.1 dX3_init_25 rfl (lv_at hl 0 rfl)) ?_
  refine g_new ok hK kX1 kc_X3_9 ki_X1 kn_X1 dfX1 dX3_init_26 (rfl : 26 + 3 = 29) (rfl : 399 + 1 = 400) (Nat.le_of_ble_eq_true rfl) (Nat.le_of_ble_eq_true rfl) ?_
  refine g_w (pc2 := 30) (fun _ _ => lv_dup ok.1 ok.2.1 dX3_init_29 rfl) ?_
  refine g_call (As := []) (st := [.ref (h0 + 399), .int 9, .ref (h0 + 128)]) ok hK hZ hO hl.1 hk_X1 km_X3_17 (k_line (List.mem_of_getElem? (i := 11) rfl) (fun a ha => ((ov_n (by omega)).trans ((ov_n (by omega)).trans (hG a (by omega)))))) rfl (Nat.le_of_ble_eq_true rfl) dX3_init_30 (rfl : 30 + 3 = 33) ⟨Nat.le_of_ble_eq_true rfl, Nat.le_of_ble_eq_true rfl⟩ ⟨Nat.le_of_ble_eq_true rfl, Nat.le_of_ble_eq_true rfl⟩ ?_
  refine g_aast (b := 399) (N2 := 10) (f := (va_up (va_up (va_up (va_up (va_up (va_up (va_up (va_up (va_up (fun _ => none) (0 : Int32).toNatClampNeg (some (h0 + 129))) (1 : Int32).toNatClampNeg (some (h0 + 159))) (2 : Int32).toNatClampNeg (some (h0 + 189))) (3 : Int32).toNatClampNeg (some (h0 + 219))) (4 : Int32).toNatClampNeg (some (h0 + 249))) (5 : Int32).toNatClampNeg (some (h0 + 279))) (6 : Int32).toNatClampNeg (some (h0 + 309))) (7 : Int32).toNatClampNeg (some (h0 + 339))) (8 : Int32).toNatClampNeg (some (h0 + 369)))) ok hK dX3_init_33 (rfl : 33 + 1 = 34) (by omega) (by omega) ov_s (by omega) ((ov_n (by omega)).trans ((ov_n (by omega)).trans ((hG _ (by omega)).trans (fi_X1 (List.mem_of_getElem? (i := 11) rfl))))) (by decide) ov_ov ?_
  refine g_as (a := 128) (x := ce h0 cy M0 128) (g2 := (ov g 127 (.inr (2, [.ref (h0 + 128), .null, .int 0, .int 0])))) (fun H h => ar_128 (by rw [ov_s] at h; exact h)) ((ov_n (by omega)).trans (hG _ (by omega))) (fun b _ hb => ov_n hb) ?_
  refine g_ws (pc2 := 37) (lv2 := [(1, .int 10), (0, .ref (h0 + 127))]) (fun _ _ => lv_iinc (v := 10) ok.1 ok.2.1 dX3_init_34 hl (k := 0) rfl (by decide) (by decide) rfl) (fun ls hl => ?_)
  refine g_w (pc2 := 15) (fun _ _ => lv_goto ok.1 ok.2.1 dX3_init_37 (by decide)) ?_
  refine g_w (pc2 := 16) (fun _ _ => lv_iload_n ok.1 ok.2.1 dX3_init_15 rfl (lv_at hl 0 rfl)) ?_
  refine g_w (pc2 := 18) (fun _ _ => lv_bipush (v := 10) ok.1 ok.2.1 dX3_init_16 (by decide)) ?_
  refine g_w (pc2 := 40) (fun _ _ kk => lv_icmp_ge (tgt := 40) ok.1 ok.2.1 dX3_init_18 (by decide) (fun _ => kk) (fun q => absurd (by decide) q)) ?_
  refine g_w (pc2 := 41) (fun _ _ => lv_aload_n ok.1 ok.2.1 dX3_init_40 rfl (lv_at hl 1 rfl)) ?_
  refine g_w (pc2 := 43) (fun _ _ => lv_bipush (v := 10) ok.1 ok.2.1 dX3_init_41 (by decide)) ?_
  refine g_newi ok hK ka_int dX3_init_43 (rfl : 43 + 2 = 45) (rfl : 429 + 1 = 430) ((ov_n (by omega)).trans ((hG _ (by omega)).trans (z_int rfl (by decide) (by decide) rfl))) (by decide) (by decide) (by decide) (Nat.le_of_ble_eq_true rfl) (Nat.le_of_ble_eq_true rfl) ?_
  refine g_put (tyk := (.array .int)) ok hK hin kX3 kf_X3_18 (by decide) rfl rfl dX3_init_45 (rfl : 45 + 3 = 48) (by omega) (by omega) ov_s (Nat.le_of_ble_eq_true rfl) rfl rfl rfl ov_ov ?_
  refine g_eq (ov_id ((hG _ (by omega)).trans fi_X3)) ?_
  exact hret 48 ls dX3_init_48

set_option maxHeartbeats 4000000 in
set_option maxRecDepth 20000 in
set_option maxRecDepth 20000 in
theorem k_desk {l : Launch} {h0 : Nat} {D : va_G} {cy : Nat → ClassId} {tt : Nat → Nat} {g : Nat → va_E} (hG : ∀ a, 0 ≤ a → g a = ce h0 cy M0 a) : Mk l yX7_init cX7_init 2 3 492 6276 53 h0 D cy tt [.ref (h0 + 0)] (ov g 0 (.inr (6, ddX7))) (1) g (493) := by
  refine mk_k (by decide +kernel) rfl (by decide) ?_
  intro p e s m args below meth c Q ls ok hK hZ hO hin hs hl hret
  replace hl : lv_has ls 2 [(0, .ref (h0 + 0))] := hl
  refine g_w (pc2 := 1) (fun _ _ => lv_aload_n ok.1 ok.2.1 dX7_init_0 rfl (lv_at hl 0 rfl)) ?_
  refine g_obj ok hl.1 km_X7_1 kO_i kO_c dX7_init_1 (rfl : 1 + 3 = 4) (Nat.le_of_ble_eq_true rfl) (Nat.le_of_ble_eq_true rfl) ?_
  refine g_w (pc2 := 5) (fun _ _ => lv_aload_n ok.1 ok.2.1 dX7_init_4 rfl (lv_at hl 0 rfl)) ?_
  refine g_new ok hK kX1 kc_X7_7 ki_X1 kn_X1 dfX1 dX7_init_5 (rfl : 5 + 3 = 8) (rfl : 1 + 1 = 2) (Nat.le_of_ble_eq_true rfl) (Nat.le_of_ble_eq_true rfl) ?_
  refine g_w (pc2 := 9) (fun _ _ => lv_dup ok.1 ok.2.1 dX7_init_8 rfl) ?_
  refine g_call (As := []) (st := [.ref (h0 + 1), .ref (h0 + 0)]) ok hK hZ hO hl.1 hk_X1 km_X7_9 (k_line (List.mem_of_getElem? (i := 0) rfl) (fun a ha => ((ov_n (by omega)).trans (hG a (by omega))))) rfl (Nat.le_of_ble_eq_true rfl) dX7_init_9 (rfl : 9 + 3 = 12) ⟨Nat.le_of_ble_eq_true rfl, Nat.le_of_ble_eq_true rfl⟩ ⟨Nat.le_of_ble_eq_true rfl, Nat.le_of_ble_eq_true rfl⟩ ?_
  refine g_put (tyk := (.object "VacuumDesk$Line")) ok hK hin kX7 kf_X7_10 (by decide) rfl rfl dX7_init_12 (rfl : 12 + 3 = 15) (by omega) (by omega) ov_s (Nat.le_of_ble_eq_true rfl) rfl rfl rfl ov_ov ?_
  refine g_w (pc2 := 16) (fun _ _ => lv_aload_n ok.1 ok.2.1 dX7_init_15 rfl (lv_at hl 0 rfl)) ?_
  refine g_new ok hK kX1 kc_X7_7 ki_X1 kn_X1 dfX1 dX7_init_16 (rfl : 16 + 3 = 19) (rfl : 31 + 1 = 32) (Nat.le_of_ble_eq_true rfl) (Nat.le_of_ble_eq_true rfl) ?_
  refine g_w (pc2 := 20) (fun _ _ => lv_dup ok.1 ok.2.1 dX7_init_19 rfl) ?_
  refine g_call (As := []) (st := [.ref (h0 + 31), .ref (h0 + 0)]) ok hK hZ hO hl.1 hk_X1 km_X7_9 (k_line (List.mem_of_getElem? (i := 1) rfl) (fun a ha => ((ov_n (by omega)).trans (hG a (by omega))))) rfl (Nat.le_of_ble_eq_true rfl) dX7_init_20 (rfl : 20 + 3 = 23) ⟨Nat.le_of_ble_eq_true rfl, Nat.le_of_ble_eq_true rfl⟩ ⟨Nat.le_of_ble_eq_true rfl, Nat.le_of_ble_eq_true rfl⟩ ?_
  refine g_put (tyk := (.object "VacuumDesk$Line")) ok hK hin kX7 kf_X7_16 (by decide) rfl rfl dX7_init_23 (rfl : 23 + 3 = 26) (by omega) (by omega) ov_s (Nat.le_of_ble_eq_true rfl) rfl rfl rfl ov_ov ?_
  refine g_w (pc2 := 27) (fun _ _ => lv_aload_n ok.1 ok.2.1 dX7_init_26 rfl (lv_at hl 0 rfl)) ?_
  refine g_new ok hK kX0 kc_X7_19 ki_X0 kn_X0 dfX0 dX7_init_27 (rfl : 27 + 3 = 30) (rfl : 61 + 1 = 62) (Nat.le_of_ble_eq_true rfl) (Nat.le_of_ble_eq_true rfl) ?_
  refine g_w (pc2 := 31) (fun _ _ => lv_dup ok.1 ok.2.1 dX7_init_30 rfl) ?_
  refine g_call (As := []) (st := [.ref (h0 + 61), .ref (h0 + 0)]) ok hK hZ hO hl.1 hk_X0 km_X7_21 (k_bal (fun a ha => ((ov_n (by omega)).trans (hG a (by omega))))) rfl (Nat.le_of_ble_eq_true rfl) dX7_init_31 (rfl : 31 + 3 = 34) ⟨Nat.le_of_ble_eq_true rfl, Nat.le_of_ble_eq_true rfl⟩ ⟨Nat.le_of_ble_eq_true rfl, Nat.le_of_ble_eq_true rfl⟩ ?_
  refine g_put (tyk := (.object "VacuumDesk$Balance")) ok hK hin kX7 kf_X7_22 (by decide) rfl rfl dX7_init_34 (rfl : 34 + 3 = 37) (by omega) (by omega) ov_s (Nat.le_of_ble_eq_true rfl) rfl rfl rfl ov_ov ?_
  refine g_w (pc2 := 38) (fun _ _ => lv_aload_n ok.1 ok.2.1 dX7_init_37 rfl (lv_at hl 0 rfl)) ?_
  refine g_new ok hK kX6 kc_X7_26 ki_X6 kn_X6 dfX6 dX7_init_38 (rfl : 38 + 3 = 41) (rfl : 98 + 1 = 99) (Nat.le_of_ble_eq_true rfl) (Nat.le_of_ble_eq_true rfl) ?_
  refine g_w (pc2 := 42) (fun _ _ => lv_dup ok.1 ok.2.1 dX7_init_41 rfl) ?_
  refine g_w (pc2 := 43) (fun _ _ => lv_aload_n ok.1 ok.2.1 dX7_init_42 rfl (lv_at hl 0 rfl)) ?_
  refine g_get ok hK kX7 kf_X7_22 (by decide) dX7_init_43 (rfl : 43 + 3 = 46) (by omega) ((ov_n (by omega)).trans ov_s) rfl ?_
  refine g_call (As := [.ref (h0 + 61)]) (st := [.ref (h0 + 98), .ref (h0 + 0)]) ok hK hZ hO hl.1 hk_X6 km_X7_28 (k_walk (fun a ha => ((ov_n (by omega)).trans (hG a (by omega))))) rfl (Nat.le_of_ble_eq_true rfl) dX7_init_46 (rfl : 46 + 3 = 49) ⟨Nat.le_of_ble_eq_true rfl, Nat.le_of_ble_eq_true rfl⟩ ⟨Nat.le_of_ble_eq_true rfl, Nat.le_of_ble_eq_true rfl⟩ ?_
  refine g_put (tyk := (.object "VacuumDesk$Walker")) ok hK hin kX7 kf_X7_31 (by decide) rfl rfl dX7_init_49 (rfl : 49 + 3 = 52) (by omega) (by omega) ov_s (Nat.le_of_ble_eq_true rfl) rfl rfl rfl ov_ov ?_
  refine g_w (pc2 := 53) (fun _ _ => lv_aload_n ok.1 ok.2.1 dX7_init_52 rfl (lv_at hl 0 rfl)) ?_
  refine g_new ok hK kX5 kc_X7_35 ki_X5 kn_X5 dfX5 dX7_init_53 (rfl : 53 + 3 = 56) (rfl : 99 + 1 = 100) (Nat.le_of_ble_eq_true rfl) (Nat.le_of_ble_eq_true rfl) ?_
  refine g_w (pc2 := 57) (fun _ _ => lv_dup ok.1 ok.2.1 dX7_init_56 rfl) ?_
  refine g_w (pc2 := 58) (fun _ _ => lv_aload_n ok.1 ok.2.1 dX7_init_57 rfl (lv_at hl 0 rfl)) ?_
  refine g_get ok hK kX7 kf_X7_22 (by decide) dX7_init_58 (rfl : 58 + 3 = 61) (by omega) ((ov_n (by omega)).trans ov_s) rfl ?_
  refine g_call (As := [.ref (h0 + 61)]) (st := [.ref (h0 + 99), .ref (h0 + 0)]) ok hK hZ hO hl.1 hk_X5 km_X7_37 (k_seek (fun a ha => ((ov_n (by omega)).trans (hG a (by omega))))) rfl (Nat.le_of_ble_eq_true rfl) dX7_init_61 (rfl : 61 + 3 = 64) ⟨Nat.le_of_ble_eq_true rfl, Nat.le_of_ble_eq_true rfl⟩ ⟨Nat.le_of_ble_eq_true rfl, Nat.le_of_ble_eq_true rfl⟩ ?_
  refine g_put (tyk := (.object "VacuumDesk$Seeker")) ok hK hin kX7 kf_X7_38 (by decide) rfl rfl dX7_init_64 (rfl : 64 + 3 = 67) (by omega) (by omega) ov_s (Nat.le_of_ble_eq_true rfl) rfl rfl rfl ov_ov ?_
  refine g_w (pc2 := 68) (fun _ _ => lv_aload_n ok.1 ok.2.1 dX7_init_67 rfl (lv_at hl 0 rfl)) ?_
  refine g_new ok hK kX4 kc_X7_42 ki_X4 kn_X4 dfX4 dX7_init_68 (rfl : 68 + 3 = 71) (rfl : 123 + 1 = 124) (Nat.le_of_ble_eq_true rfl) (Nat.le_of_ble_eq_true rfl) ?_
  refine g_w (pc2 := 72) (fun _ _ => lv_dup ok.1 ok.2.1 dX7_init_71 rfl) ?_
  refine g_call (As := []) (st := [.ref (h0 + 123), .ref (h0 + 0)]) ok hK hZ hO hl.1 hk_X4 km_X7_44 (k_path (fun a ha => ((ov_n (by omega)).trans (hG a (by omega))))) rfl (Nat.le_of_ble_eq_true rfl) dX7_init_72 (rfl : 72 + 3 = 75) ⟨Nat.le_of_ble_eq_true rfl, Nat.le_of_ble_eq_true rfl⟩ ⟨Nat.le_of_ble_eq_true rfl, Nat.le_of_ble_eq_true rfl⟩ ?_
  refine g_put (tyk := (.object "VacuumDesk$Paths")) ok hK hin kX7 kf_X7_45 (by decide) rfl rfl dX7_init_75 (rfl : 75 + 3 = 78) (by omega) (by omega) ov_s (Nat.le_of_ble_eq_true rfl) rfl rfl rfl ov_ov ?_
  refine g_w (pc2 := 79) (fun _ _ => lv_aload_n ok.1 ok.2.1 dX7_init_78 rfl (lv_at hl 0 rfl)) ?_
  refine g_new ok hK kX3 kc_X7_49 ki_X3 kn_X3 dfX3 dX7_init_79 (rfl : 79 + 3 = 82) (rfl : 127 + 1 = 128) (Nat.le_of_ble_eq_true rfl) (Nat.le_of_ble_eq_true rfl) ?_
  refine g_w (pc2 := 83) (fun _ _ => lv_dup ok.1 ok.2.1 dX7_init_82 rfl) ?_
  refine g_call (As := []) (st := [.ref (h0 + 127), .ref (h0 + 0)]) ok hK hZ hO hl.1 hk_X3 km_X7_51 (k_past (fun a ha => ((ov_n (by omega)).trans (hG a (by omega))))) rfl (Nat.le_of_ble_eq_true rfl) dX7_init_83 (rfl : 83 + 3 = 86) ⟨Nat.le_of_ble_eq_true rfl, Nat.le_of_ble_eq_true rfl⟩ ⟨Nat.le_of_ble_eq_true rfl, Nat.le_of_ble_eq_true rfl⟩ ?_
  refine g_put (tyk := (.object "VacuumDesk$Past")) ok hK hin kX7 kf_X7_52 (by decide) rfl rfl dX7_init_86 (rfl : 86 + 3 = 89) (by omega) (by omega) ov_s (Nat.le_of_ble_eq_true rfl) rfl rfl rfl ov_ov ?_
  refine g_w (pc2 := 90) (fun _ _ => lv_aload_n ok.1 ok.2.1 dX7_init_89 rfl (lv_at hl 0 rfl)) ?_
  refine g_w (pc2 := 91) (fun _ _ => lv_iconst (v := 2) ok.1 ok.2.1 dX7_init_90 (by decide)) ?_
  refine g_anew ok hK kc_X7_7 (ov_a hO.2.2) dX7_init_91 (rfl : 91 + 3 = 94) (rfl : 430 + 1 = 431) (by decide) (by decide) (by decide) (Nat.le_of_ble_eq_true rfl) (Nat.le_of_ble_eq_true rfl) ?_
  refine g_put (tyk := (.array (.object "VacuumDesk$Line"))) ok hK hin kX7 kf_X7_56 (by decide) rfl rfl dX7_init_94 (rfl : 94 + 3 = 97) (by omega) (by omega) ((ov_n (by omega)).trans ov_s) (Nat.le_of_ble_eq_true rfl) rfl rfl rfl (ov_sw (by omega)) ?_
  refine g_w (pc2 := 98) (fun _ _ => lv_iconst (v := 0) ok.1 ok.2.1 dX7_init_97 (by decide)) ?_
  refine g_ws (pc2 := 99) (lv2 := [(1, .int 0), (0, .ref (h0 + 0))]) (fun _ _ => lv_istore_n ok.1 ok.2.1 dX7_init_98 rfl hl (by decide) rfl) (fun ls hl => ?_)
  refine g_w (pc2 := 100) (fun _ _ => lv_iload_n ok.1 ok.2.1 dX7_init_99 rfl (lv_at hl 0 rfl)) ?_
  refine g_w (pc2 := 101) (fun _ _ => lv_iconst (v := 2) ok.1 ok.2.1 dX7_init_100 (by decide)) ?_
  refine g_w (pc2 := 104) (fun _ _ kk => lv_icmp_ge (tgt := 123) ok.1 ok.2.1 dX7_init_101 (by decide) (fun q => absurd q (by decide)) (fun _ => kk)) ?_
  refine g_w (pc2 := 105) (fun _ _ => lv_aload_n ok.1 ok.2.1 dX7_init_104 rfl (lv_at hl 1 rfl)) ?_
  refine g_get ok hK kX7 kf_X7_56 (by decide) dX7_init_105 (rfl : 105 + 3 = 108) (by omega) ((ov_n (by omega)).trans ov_s) rfl ?_
  refine g_w (pc2 := 109) (fun _ _ => lv_iload_n ok.1 ok.2.1 dX7_init_108 rfl (lv_at hl 0 rfl)) ?_
  refine g_new ok hK kX1 kc_X7_7 ki_X1 kn_X1 dfX1 dX7_init_109 (rfl : 109 + 3 = 112) (rfl : 431 + 1 = 432) (Nat.le_of_ble_eq_true rfl) (Nat.le_of_ble_eq_true rfl) ?_
  refine g_w (pc2 := 113) (fun _ _ => lv_dup ok.1 ok.2.1 dX7_init_112 rfl) ?_
  refine g_call (As := []) (st := [.ref (h0 + 431), .int 0, .ref (h0 + 430)]) ok hK hZ hO hl.1 hk_X1 km_X7_9 (k_line (List.mem_of_getElem? (i := 12) rfl) (fun a ha => ((ov_n (by omega)).trans ((ov_n (by omega)).trans (hG a (by omega)))))) rfl (Nat.le_of_ble_eq_true rfl) dX7_init_113 (rfl : 113 + 3 = 116) ⟨Nat.le_of_ble_eq_true rfl, Nat.le_of_ble_eq_true rfl⟩ ⟨Nat.le_of_ble_eq_true rfl, Nat.le_of_ble_eq_true rfl⟩ ?_
  refine g_aast (b := 431) (N2 := 2) (f := (fun _ => none)) ok hK dX7_init_116 (rfl : 116 + 1 = 117) (by omega) (by omega) ov_s (by omega) ((ov_n (by omega)).trans ((ov_n (by omega)).trans ((hG _ (by omega)).trans (fi_X1 (List.mem_of_getElem? (i := 12) rfl))))) (by decide) ov_ov ?_
  refine g_ws (pc2 := 120) (lv2 := [(1, .int 1), (0, .ref (h0 + 0))]) (fun _ _ => lv_iinc (v := 1) ok.1 ok.2.1 dX7_init_117 hl (k := 0) rfl (by decide) (by decide) rfl) (fun ls hl => ?_)
  refine g_w (pc2 := 99) (fun _ _ => lv_goto ok.1 ok.2.1 dX7_init_120 (by decide)) ?_
  refine g_w (pc2 := 100) (fun _ _ => lv_iload_n ok.1 ok.2.1 dX7_init_99 rfl (lv_at hl 0 rfl)) ?_
  refine g_w (pc2 := 101) (fun _ _ => lv_iconst (v := 2) ok.1 ok.2.1 dX7_init_100 (by decide)) ?_
  refine g_w (pc2 := 104) (fun _ _ kk => lv_icmp_ge (tgt := 123) ok.1 ok.2.1 dX7_init_101 (by decide) (fun q => absurd q (by decide)) (fun _ => kk)) ?_
  refine g_w (pc2 := 105) (fun _ _ => lv_aload_n ok.1 ok.2.1 dX7_init_104 rfl (lv_at hl 1 rfl)) ?_
  refine g_get ok hK kX7 kf_X7_56 (by decide) dX7_init_105 (rfl : 105 + 3 = 108) (by omega) ((ov_n (by omega)).trans ov_s) rfl ?_
  refine g_w (pc2 := 109) (fun _ _ => lv_iload_n ok.1 ok.2.1 dX7_init_108 rfl (lv_at hl 0 rfl)) ?_
  refine g_new ok hK kX1 kc_X7_7 ki_X1 kn_X1 dfX1 dX7_init_109 (rfl : 109 + 3 = 112) (rfl : 461 + 1 = 462) (Nat.le_of_ble_eq_true rfl) (Nat.le_of_ble_eq_true rfl) ?_
  refine g_w (pc2 := 113) (fun _ _ => lv_dup ok.1 ok.2.1 dX7_init_112 rfl) ?_
  refine g_call (As := []) (st := [.ref (h0 + 461), .int 1, .ref (h0 + 430)]) ok hK hZ hO hl.1 hk_X1 km_X7_9 (k_line (List.mem_of_getElem? (i := 13) rfl) (fun a ha => ((ov_n (by omega)).trans ((ov_n (by omega)).trans (hG a (by omega)))))) rfl (Nat.le_of_ble_eq_true rfl) dX7_init_113 (rfl : 113 + 3 = 116) ⟨Nat.le_of_ble_eq_true rfl, Nat.le_of_ble_eq_true rfl⟩ ⟨Nat.le_of_ble_eq_true rfl, Nat.le_of_ble_eq_true rfl⟩ ?_
  refine g_aast (b := 461) (N2 := 2) (f := (va_up (fun _ => none) (0 : Int32).toNatClampNeg (some (h0 + 431)))) ok hK dX7_init_116 (rfl : 116 + 1 = 117) (by omega) (by omega) ov_s (by omega) ((ov_n (by omega)).trans ((ov_n (by omega)).trans ((hG _ (by omega)).trans (fi_X1 (List.mem_of_getElem? (i := 13) rfl))))) (by decide) ov_ov ?_
  refine g_as (a := 430) (x := ce h0 cy M0 430) (g2 := (ov g 0 (.inr (6, [.ref (h0 + 1), .ref (h0 + 31), .ref (h0 + 61), .ref (h0 + 98), .ref (h0 + 99), .ref (h0 + 123), .ref (h0 + 127), .ref (h0 + 430), .null, .null, .int 0])))) (fun H h => ar_430 (by rw [ov_s] at h; exact h)) ((ov_n (by omega)).trans (hG _ (by omega))) (fun b _ hb => ov_n hb) ?_
  refine g_ws (pc2 := 120) (lv2 := [(1, .int 2), (0, .ref (h0 + 0))]) (fun _ _ => lv_iinc (v := 2) ok.1 ok.2.1 dX7_init_117 hl (k := 0) rfl (by decide) (by decide) rfl) (fun ls hl => ?_)
  refine g_w (pc2 := 99) (fun _ _ => lv_goto ok.1 ok.2.1 dX7_init_120 (by decide)) ?_
  refine g_w (pc2 := 100) (fun _ _ => lv_iload_n ok.1 ok.2.1 dX7_init_99 rfl (lv_at hl 0 rfl)) ?_
  refine g_w (pc2 := 101) (fun _ _ => lv_iconst (v := 2) ok.1 ok.2.1 dX7_init_100 (by decide)) ?_
  refine g_w (pc2 := 123) (fun _ _ kk => lv_icmp_ge (tgt := 123) ok.1 ok.2.1 dX7_init_101 (by decide) (fun _ => kk) (fun q => absurd (by decide) q)) ?_
  refine g_w (pc2 := 124) (fun _ _ => lv_aload_n ok.1 ok.2.1 dX7_init_123 rfl (lv_at hl 1 rfl)) ?_
  refine g_w (pc2 := 125) (fun _ _ => lv_iconst (v := 2) ok.1 ok.2.1 dX7_init_124 (by decide)) ?_
  refine g_newz ok hK ka_boolean dX7_init_125 (rfl : 125 + 2 = 127) (rfl : 491 + 1 = 492) ((ov_n (by omega)).trans ((hG _ (by omega)).trans (z_bool rfl rfl))) (by decide) (by decide) (by decide) (Nat.le_of_ble_eq_true rfl) (Nat.le_of_ble_eq_true rfl) ?_
  refine g_put (tyk := (.array .boolean)) ok hK hin kX7 kf_X7_60 (by decide) rfl rfl dX7_init_127 (rfl : 127 + 3 = 130) (by omega) (by omega) ov_s (Nat.le_of_ble_eq_true rfl) rfl rfl rfl ov_ov ?_
  refine g_w (pc2 := 131) (fun _ _ => lv_aload_n ok.1 ok.2.1 dX7_init_130 rfl (lv_at hl 1 rfl)) ?_
  refine g_w (pc2 := 132) (fun _ _ => lv_iconst (v := 4) ok.1 ok.2.1 dX7_init_131 (by decide)) ?_
  refine g_newi ok hK ka_int dX7_init_132 (rfl : 132 + 2 = 134) (rfl : 492 + 1 = 493) ((ov_n (by omega)).trans ((hG _ (by omega)).trans (z_int rfl (by decide) (by decide) rfl))) (by decide) (by decide) (by decide) (Nat.le_of_ble_eq_true rfl) (Nat.le_of_ble_eq_true rfl) ?_
  refine g_put (tyk := (.array .int)) ok hK hin kX7 kf_X7_64 (by decide) rfl rfl dX7_init_134 (rfl : 134 + 3 = 137) (by omega) (by omega) ov_s (Nat.le_of_ble_eq_true rfl) rfl rfl rfl ov_ov ?_
  refine g_w (pc2 := 138) (fun _ _ => lv_aload_n ok.1 ok.2.1 dX7_init_137 rfl (lv_at hl 1 rfl)) ?_
  refine g_w (pc2 := 139) (fun _ _ => lv_iconst (v := 0) ok.1 ok.2.1 dX7_init_138 (by decide)) ?_
  refine g_put (tyk := .int) ok hK hin kX7 kf_X7_68 (by decide) rfl rfl dX7_init_139 (rfl : 139 + 3 = 142) (by omega) (by omega) ov_s (Nat.le_of_ble_eq_true rfl) rfl rfl rfl ov_ov ?_
  refine g_eq (ov_id ((hG _ (by omega)).trans fi_X7)) ?_
  exact hret 142 ls dX7_init_142

set_option maxHeartbeats 4000000 in
set_option maxRecDepth 20000 in
set_option maxRecDepth 20000 in
theorem k_model {l : Launch} {h0 : Nat} {D : va_G} {cy : Nat → ClassId} {tt : Nat → Nat} {g : Nat → va_E} (hG : ∀ a, 493 ≤ a → g a = ce h0 cy M0 a) : Mk l yX8_init cX8_init 1 1 24 4949 12 h0 D cy tt [.ref (h0 + 493)] (ov g 493 (.inr (7, ddX8))) (494) g (518) := by
  refine mk_k (by decide +kernel) rfl (by decide) ?_
  intro p e s m args below meth c Q ls ok hK hZ hO hin hs hl hret
  replace hl : lv_has ls 1 [(0, .ref (h0 + 493))] := hl
  refine g_w (pc2 := 1) (fun _ _ => lv_aload_n ok.1 ok.2.1 dX8_init_0 rfl (lv_at hl 0 rfl)) ?_
  refine g_obj ok hl.1 km_X8_1 kO_i kO_c dX8_init_1 (rfl : 1 + 3 = 4) (Nat.le_of_ble_eq_true rfl) (Nat.le_of_ble_eq_true rfl) ?_
  refine g_w (pc2 := 5) (fun _ _ => lv_aload_n ok.1 ok.2.1 dX8_init_4 rfl (lv_at hl 0 rfl)) ?_
  refine g_w (pc2 := 7) (fun _ _ => lv_bipush (v := 6) ok.1 ok.2.1 dX8_init_5 (by decide)) ?_
  refine g_newi ok hK ka_int dX8_init_7 (rfl : 7 + 2 = 9) (rfl : 494 + 1 = 495) ((ov_n (by omega)).trans ((hG _ (by omega)).trans (z_int rfl (by decide) (by decide) rfl))) (by decide) (by decide) (by decide) (Nat.le_of_ble_eq_true rfl) (Nat.le_of_ble_eq_true rfl) ?_
  refine g_put (tyk := (.array .int)) ok hK hin kX8 kf_X8_7 (by decide) rfl rfl dX8_init_9 (rfl : 9 + 3 = 12) (by omega) (by omega) ov_s (Nat.le_of_ble_eq_true rfl) rfl rfl rfl ov_ov ?_
  refine g_w (pc2 := 13) (fun _ _ => lv_aload_n ok.1 ok.2.1 dX8_init_12 rfl (lv_at hl 0 rfl)) ?_
  refine g_w (pc2 := 16) (fun _ _ => lv_sipush (v := 331) ok.1 ok.2.1 dX8_init_13 (by decide)) ?_
  refine g_ov (x := .inl (cy 8, 331, .inl (fun _ => 0))) ?_
  refine g_newi ok hK ka_int dX8_init_16 (rfl : 16 + 2 = 18) (rfl : 495 + 1 = 496) ov_s (by decide) (by decide) (by decide) (Nat.le_of_ble_eq_true rfl) (Nat.le_of_ble_eq_true rfl) ?_
  refine g_put (tyk := (.array .int)) ok hK hin kX8 kf_X8_13 (by decide) rfl rfl dX8_init_18 (rfl : 18 + 3 = 21) (by omega) (by omega) ((ov_n (by omega)).trans ov_s) (Nat.le_of_ble_eq_true rfl) rfl rfl rfl (ov_sw (by omega)) ?_
  refine g_w (pc2 := 22) (fun _ _ => lv_aload_n ok.1 ok.2.1 dX8_init_21 rfl (lv_at hl 0 rfl)) ?_
  refine g_w (pc2 := 25) (fun _ _ => lv_sipush (v := 3310) ok.1 ok.2.1 dX8_init_22 (by decide)) ?_
  refine g_newi ok hK ka_int dX8_init_25 (rfl : 25 + 2 = 27) (rfl : 496 + 1 = 497) ((ov_n (by omega)).trans ((ov_n (by omega)).trans ((hG _ (by omega)).trans (z_int rfl (by decide) (by decide) rfl)))) (by decide) (by decide) (by decide) (Nat.le_of_ble_eq_true rfl) (Nat.le_of_ble_eq_true rfl) ?_
  refine g_put (tyk := (.array .int)) ok hK hin kX8 kf_X8_16 (by decide) rfl rfl dX8_init_27 (rfl : 27 + 3 = 30) (by omega) (by omega) ((ov_n (by omega)).trans ov_s) (Nat.le_of_ble_eq_true rfl) rfl rfl rfl (ov_sw (by omega)) ?_
  refine g_w (pc2 := 31) (fun _ _ => lv_aload_n ok.1 ok.2.1 dX8_init_30 rfl (lv_at hl 0 rfl)) ?_
  refine g_w (pc2 := 33) (fun _ _ => lv_bipush (v := 10) ok.1 ok.2.1 dX8_init_31 (by decide)) ?_
  refine g_newi ok hK ka_int dX8_init_33 (rfl : 33 + 2 = 35) (rfl : 497 + 1 = 498) ((ov_n (by omega)).trans ((ov_n (by omega)).trans ((hG _ (by omega)).trans (z_int rfl (by decide) (by decide) rfl)))) (by decide) (by decide) (by decide) (Nat.le_of_ble_eq_true rfl) (Nat.le_of_ble_eq_true rfl) ?_
  refine g_put (tyk := (.array .int)) ok hK hin kX8 kf_X8_19 (by decide) rfl rfl dX8_init_35 (rfl : 35 + 3 = 38) (by omega) (by omega) ((ov_n (by omega)).trans ov_s) (Nat.le_of_ble_eq_true rfl) rfl rfl rfl (ov_sw (by omega)) ?_
  refine g_w (pc2 := 39) (fun _ _ => lv_aload_n ok.1 ok.2.1 dX8_init_38 rfl (lv_at hl 0 rfl)) ?_
  refine g_w (pc2 := 42) (fun _ _ => lv_sipush (v := 662) ok.1 ok.2.1 dX8_init_39 (by decide)) ?_
  refine g_newi ok hK ka_int dX8_init_42 (rfl : 42 + 2 = 44) (rfl : 498 + 1 = 499) ((ov_n (by omega)).trans ((ov_n (by omega)).trans ((hG _ (by omega)).trans (z_int rfl (by decide) (by decide) rfl)))) (by decide) (by decide) (by decide) (Nat.le_of_ble_eq_true rfl) (Nat.le_of_ble_eq_true rfl) ?_
  refine g_put (tyk := (.array .int)) ok hK hin kX8 kf_X8_22 (by decide) rfl rfl dX8_init_44 (rfl : 44 + 3 = 47) (by omega) (by omega) ((ov_n (by omega)).trans ov_s) (Nat.le_of_ble_eq_true rfl) rfl rfl rfl (ov_sw (by omega)) ?_
  refine g_w (pc2 := 48) (fun _ _ => lv_aload_n ok.1 ok.2.1 dX8_init_47 rfl (lv_at hl 0 rfl)) ?_
  refine g_w (pc2 := 49) (fun _ _ => lv_iconst (v := 2) ok.1 ok.2.1 dX8_init_48 (by decide)) ?_
  refine g_newz ok hK ka_boolean dX8_init_49 (rfl : 49 + 2 = 51) (rfl : 499 + 1 = 500) ((ov_n (by omega)).trans ((ov_n (by omega)).trans ((hG _ (by omega)).trans (z_bool rfl rfl)))) (by decide) (by decide) (by decide) (Nat.le_of_ble_eq_true rfl) (Nat.le_of_ble_eq_true rfl) ?_
  refine g_put (tyk := (.array .boolean)) ok hK hin kX8 kf_X8_25 (by decide) rfl rfl dX8_init_51 (rfl : 51 + 3 = 54) (by omega) (by omega) ((ov_n (by omega)).trans ov_s) (Nat.le_of_ble_eq_true rfl) rfl rfl rfl (ov_sw (by omega)) ?_
  refine g_w (pc2 := 55) (fun _ _ => lv_aload_n ok.1 ok.2.1 dX8_init_54 rfl (lv_at hl 0 rfl)) ?_
  refine g_w (pc2 := 58) (fun _ _ => lv_sipush (v := 331) ok.1 ok.2.1 dX8_init_55 (by decide)) ?_
  refine g_newi ok hK ka_int dX8_init_58 (rfl : 58 + 2 = 60) (rfl : 500 + 1 = 501) ((ov_n (by omega)).trans ((ov_n (by omega)).trans ((hG _ (by omega)).trans (z_int rfl (by decide) (by decide) rfl)))) (by decide) (by decide) (by decide) (Nat.le_of_ble_eq_true rfl) (Nat.le_of_ble_eq_true rfl) ?_
  refine g_put (tyk := (.array .int)) ok hK hin kX8 kf_X8_29 (by decide) rfl rfl dX8_init_60 (rfl : 60 + 3 = 63) (by omega) (by omega) ((ov_n (by omega)).trans ov_s) (Nat.le_of_ble_eq_true rfl) rfl rfl rfl (ov_sw (by omega)) ?_
  refine g_w (pc2 := 64) (fun _ _ => lv_aload_n ok.1 ok.2.1 dX8_init_63 rfl (lv_at hl 0 rfl)) ?_
  refine g_w (pc2 := 65) (fun _ _ => lv_iconst (v := 5) ok.1 ok.2.1 dX8_init_64 (by decide)) ?_
  refine g_newi ok hK ka_int dX8_init_65 (rfl : 65 + 2 = 67) (rfl : 501 + 1 = 502) ((ov_n (by omega)).trans ((ov_n (by omega)).trans ((hG _ (by omega)).trans (z_int rfl (by decide) (by decide) rfl)))) (by decide) (by decide) (by decide) (Nat.le_of_ble_eq_true rfl) (Nat.le_of_ble_eq_true rfl) ?_
  refine g_put (tyk := (.array .int)) ok hK hin kX8 kf_X8_32 (by decide) rfl rfl dX8_init_67 (rfl : 67 + 3 = 70) (by omega) (by omega) ((ov_n (by omega)).trans ov_s) (Nat.le_of_ble_eq_true rfl) rfl rfl rfl (ov_sw (by omega)) ?_
  refine g_w (pc2 := 71) (fun _ _ => lv_aload_n ok.1 ok.2.1 dX8_init_70 rfl (lv_at hl 0 rfl)) ?_
  refine g_w (pc2 := 73) (fun _ _ => lv_bipush (v := 25) ok.1 ok.2.1 dX8_init_71 (by decide)) ?_
  refine g_newj ok hK ka_long dX8_init_73 (rfl : 73 + 2 = 75) (rfl : 502 + 1 = 503) ((ov_n (by omega)).trans ((ov_n (by omega)).trans ((hG _ (by omega)).trans (z_long rfl rfl)))) (by decide) (by decide) (by decide) (Nat.le_of_ble_eq_true rfl) (Nat.le_of_ble_eq_true rfl) ?_
  refine g_put (tyk := (.array .long)) ok hK hin kX8 kf_X8_35 (by decide) rfl rfl dX8_init_75 (rfl : 75 + 3 = 78) (by omega) (by omega) ((ov_n (by omega)).trans ov_s) (Nat.le_of_ble_eq_true rfl) rfl rfl rfl (ov_sw (by omega)) ?_
  refine g_w (pc2 := 79) (fun _ _ => lv_aload_n ok.1 ok.2.1 dX8_init_78 rfl (lv_at hl 0 rfl)) ?_
  refine g_w (pc2 := 81) (fun _ _ => lv_bipush (v := 25) ok.1 ok.2.1 dX8_init_79 (by decide)) ?_
  refine g_newj ok hK ka_long dX8_init_81 (rfl : 81 + 2 = 83) (rfl : 503 + 1 = 504) ((ov_n (by omega)).trans ((ov_n (by omega)).trans ((hG _ (by omega)).trans (z_long rfl rfl)))) (by decide) (by decide) (by decide) (Nat.le_of_ble_eq_true rfl) (Nat.le_of_ble_eq_true rfl) ?_
  refine g_put (tyk := (.array .long)) ok hK hin kX8 kf_X8_39 (by decide) rfl rfl dX8_init_83 (rfl : 83 + 3 = 86) (by omega) (by omega) ((ov_n (by omega)).trans ov_s) (Nat.le_of_ble_eq_true rfl) rfl rfl rfl (ov_sw (by omega)) ?_
  refine g_w (pc2 := 87) (fun _ _ => lv_aload_n ok.1 ok.2.1 dX8_init_86 rfl (lv_at hl 0 rfl)) ?_
  refine g_w (pc2 := 89) (fun _ _ => lv_bipush (v := 16) ok.1 ok.2.1 dX8_init_87 (by decide)) ?_
  refine g_newj ok hK ka_long dX8_init_89 (rfl : 89 + 2 = 91) (rfl : 504 + 1 = 505) ((ov_n (by omega)).trans ((ov_n (by omega)).trans ((hG _ (by omega)).trans (z_long rfl rfl)))) (by decide) (by decide) (by decide) (Nat.le_of_ble_eq_true rfl) (Nat.le_of_ble_eq_true rfl) ?_
  refine g_put (tyk := (.array .long)) ok hK hin kX8 kf_X8_42 (by decide) rfl rfl dX8_init_91 (rfl : 91 + 3 = 94) (by omega) (by omega) ((ov_n (by omega)).trans ov_s) (Nat.le_of_ble_eq_true rfl) rfl rfl rfl (ov_sw (by omega)) ?_
  refine g_w (pc2 := 95) (fun _ _ => lv_aload_n ok.1 ok.2.1 dX8_init_94 rfl (lv_at hl 0 rfl)) ?_
  refine g_w (pc2 := 96) (fun _ _ => lv_iconst (v := 5) ok.1 ok.2.1 dX8_init_95 (by decide)) ?_
  refine g_newi ok hK ka_int dX8_init_96 (rfl : 96 + 2 = 98) (rfl : 505 + 1 = 506) ((ov_n (by omega)).trans ((ov_n (by omega)).trans ((hG _ (by omega)).trans (z_int rfl (by decide) (by decide) rfl)))) (by decide) (by decide) (by decide) (Nat.le_of_ble_eq_true rfl) (Nat.le_of_ble_eq_true rfl) ?_
  refine g_put (tyk := (.array .int)) ok hK hin kX8 kf_X8_45 (by decide) rfl rfl dX8_init_98 (rfl : 98 + 3 = 101) (by omega) (by omega) ((ov_n (by omega)).trans ov_s) (Nat.le_of_ble_eq_true rfl) rfl rfl rfl (ov_sw (by omega)) ?_
  refine g_w (pc2 := 102) (fun _ _ => lv_aload_n ok.1 ok.2.1 dX8_init_101 rfl (lv_at hl 0 rfl)) ?_
  refine g_w (pc2 := 103) (fun _ _ => lv_iconst (v := 5) ok.1 ok.2.1 dX8_init_102 (by decide)) ?_
  refine g_newi ok hK ka_int dX8_init_103 (rfl : 103 + 2 = 105) (rfl : 506 + 1 = 507) ((ov_n (by omega)).trans ((ov_n (by omega)).trans ((hG _ (by omega)).trans (z_int rfl (by decide) (by decide) rfl)))) (by decide) (by decide) (by decide) (Nat.le_of_ble_eq_true rfl) (Nat.le_of_ble_eq_true rfl) ?_
  refine g_put (tyk := (.array .int)) ok hK hin kX8 kf_X8_48 (by decide) rfl rfl dX8_init_105 (rfl : 105 + 3 = 108) (by omega) (by omega) ((ov_n (by omega)).trans ov_s) (Nat.le_of_ble_eq_true rfl) rfl rfl rfl (ov_sw (by omega)) ?_
  refine g_w (pc2 := 109) (fun _ _ => lv_aload_n ok.1 ok.2.1 dX8_init_108 rfl (lv_at hl 0 rfl)) ?_
  refine g_w (pc2 := 110) (fun _ _ => lv_iconst (v := 5) ok.1 ok.2.1 dX8_init_109 (by decide)) ?_
  refine g_newj ok hK ka_long dX8_init_110 (rfl : 110 + 2 = 112) (rfl : 507 + 1 = 508) ((ov_n (by omega)).trans ((ov_n (by omega)).trans ((hG _ (by omega)).trans (z_long rfl rfl)))) (by decide) (by decide) (by decide) (Nat.le_of_ble_eq_true rfl) (Nat.le_of_ble_eq_true rfl) ?_
  refine g_put (tyk := (.array .long)) ok hK hin kX8 kf_X8_51 (by decide) rfl rfl dX8_init_112 (rfl : 112 + 3 = 115) (by omega) (by omega) ((ov_n (by omega)).trans ov_s) (Nat.le_of_ble_eq_true rfl) rfl rfl rfl (ov_sw (by omega)) ?_
  refine g_w (pc2 := 116) (fun _ _ => lv_aload_n ok.1 ok.2.1 dX8_init_115 rfl (lv_at hl 0 rfl)) ?_
  refine g_w (pc2 := 117) (fun _ _ => lv_iconst (v := 5) ok.1 ok.2.1 dX8_init_116 (by decide)) ?_
  refine g_newz ok hK ka_boolean dX8_init_117 (rfl : 117 + 2 = 119) (rfl : 508 + 1 = 509) ((ov_n (by omega)).trans ((ov_n (by omega)).trans ((hG _ (by omega)).trans (z_bool rfl rfl)))) (by decide) (by decide) (by decide) (Nat.le_of_ble_eq_true rfl) (Nat.le_of_ble_eq_true rfl) ?_
  refine g_put (tyk := (.array .boolean)) ok hK hin kX8 kf_X8_54 (by decide) rfl rfl dX8_init_119 (rfl : 119 + 3 = 122) (by omega) (by omega) ((ov_n (by omega)).trans ov_s) (Nat.le_of_ble_eq_true rfl) rfl rfl rfl (ov_sw (by omega)) ?_
  refine g_w (pc2 := 123) (fun _ _ => lv_aload_n ok.1 ok.2.1 dX8_init_122 rfl (lv_at hl 0 rfl)) ?_
  refine g_w (pc2 := 124) (fun _ _ => lv_iconst (v := 3) ok.1 ok.2.1 dX8_init_123 (by decide)) ?_
  refine g_newi ok hK ka_int dX8_init_124 (rfl : 124 + 2 = 126) (rfl : 509 + 1 = 510) ((ov_n (by omega)).trans ((ov_n (by omega)).trans ((hG _ (by omega)).trans (z_int rfl (by decide) (by decide) rfl)))) (by decide) (by decide) (by decide) (Nat.le_of_ble_eq_true rfl) (Nat.le_of_ble_eq_true rfl) ?_
  refine g_put (tyk := (.array .int)) ok hK hin kX8 kf_X8_57 (by decide) rfl rfl dX8_init_126 (rfl : 126 + 3 = 129) (by omega) (by omega) ((ov_n (by omega)).trans ov_s) (Nat.le_of_ble_eq_true rfl) rfl rfl rfl (ov_sw (by omega)) ?_
  refine g_w (pc2 := 130) (fun _ _ => lv_aload_n ok.1 ok.2.1 dX8_init_129 rfl (lv_at hl 0 rfl)) ?_
  refine g_w (pc2 := 131) (fun _ _ => lv_iconst (v := 3) ok.1 ok.2.1 dX8_init_130 (by decide)) ?_
  refine g_newi ok hK ka_int dX8_init_131 (rfl : 131 + 2 = 133) (rfl : 510 + 1 = 511) ((ov_n (by omega)).trans ((ov_n (by omega)).trans ((hG _ (by omega)).trans (z_int rfl (by decide) (by decide) rfl)))) (by decide) (by decide) (by decide) (Nat.le_of_ble_eq_true rfl) (Nat.le_of_ble_eq_true rfl) ?_
  refine g_put (tyk := (.array .int)) ok hK hin kX8 kf_X8_60 (by decide) rfl rfl dX8_init_133 (rfl : 133 + 3 = 136) (by omega) (by omega) ((ov_n (by omega)).trans ov_s) (Nat.le_of_ble_eq_true rfl) rfl rfl rfl (ov_sw (by omega)) ?_
  refine g_w (pc2 := 137) (fun _ _ => lv_aload_n ok.1 ok.2.1 dX8_init_136 rfl (lv_at hl 0 rfl)) ?_
  refine g_w (pc2 := 139) (fun _ _ => lv_bipush (v := 10) ok.1 ok.2.1 dX8_init_137 (by decide)) ?_
  refine g_newi ok hK ka_int dX8_init_139 (rfl : 139 + 2 = 141) (rfl : 511 + 1 = 512) ((ov_n (by omega)).trans ((ov_n (by omega)).trans ((hG _ (by omega)).trans (z_int rfl (by decide) (by decide) rfl)))) (by decide) (by decide) (by decide) (Nat.le_of_ble_eq_true rfl) (Nat.le_of_ble_eq_true rfl) ?_
  refine g_put (tyk := (.array .int)) ok hK hin kX8 kf_X8_63 (by decide) rfl rfl dX8_init_141 (rfl : 141 + 3 = 144) (by omega) (by omega) ((ov_n (by omega)).trans ov_s) (Nat.le_of_ble_eq_true rfl) rfl rfl rfl (ov_sw (by omega)) ?_
  refine g_w (pc2 := 145) (fun _ _ => lv_aload_n ok.1 ok.2.1 dX8_init_144 rfl (lv_at hl 0 rfl)) ?_
  refine g_w (pc2 := 147) (fun _ _ => lv_bipush (v := 10) ok.1 ok.2.1 dX8_init_145 (by decide)) ?_
  refine g_newi ok hK ka_int dX8_init_147 (rfl : 147 + 2 = 149) (rfl : 512 + 1 = 513) ((ov_n (by omega)).trans ((ov_n (by omega)).trans ((hG _ (by omega)).trans (z_int rfl (by decide) (by decide) rfl)))) (by decide) (by decide) (by decide) (Nat.le_of_ble_eq_true rfl) (Nat.le_of_ble_eq_true rfl) ?_
  refine g_put (tyk := (.array .int)) ok hK hin kX8 kf_X8_66 (by decide) rfl rfl dX8_init_149 (rfl : 149 + 3 = 152) (by omega) (by omega) ((ov_n (by omega)).trans ov_s) (Nat.le_of_ble_eq_true rfl) rfl rfl rfl (ov_sw (by omega)) ?_
  refine g_w (pc2 := 153) (fun _ _ => lv_aload_n ok.1 ok.2.1 dX8_init_152 rfl (lv_at hl 0 rfl)) ?_
  refine g_w (pc2 := 155) (fun _ _ => lv_bipush (v := 10) ok.1 ok.2.1 dX8_init_153 (by decide)) ?_
  refine g_newj ok hK ka_long dX8_init_155 (rfl : 155 + 2 = 157) (rfl : 513 + 1 = 514) ((ov_n (by omega)).trans ((ov_n (by omega)).trans ((hG _ (by omega)).trans (z_long rfl rfl)))) (by decide) (by decide) (by decide) (Nat.le_of_ble_eq_true rfl) (Nat.le_of_ble_eq_true rfl) ?_
  refine g_put (tyk := (.array .long)) ok hK hin kX8 kf_X8_69 (by decide) rfl rfl dX8_init_157 (rfl : 157 + 3 = 160) (by omega) (by omega) ((ov_n (by omega)).trans ov_s) (Nat.le_of_ble_eq_true rfl) rfl rfl rfl (ov_sw (by omega)) ?_
  refine g_w (pc2 := 161) (fun _ _ => lv_aload_n ok.1 ok.2.1 dX8_init_160 rfl (lv_at hl 0 rfl)) ?_
  refine g_w (pc2 := 163) (fun _ _ => lv_bipush (v := 10) ok.1 ok.2.1 dX8_init_161 (by decide)) ?_
  refine g_newj ok hK ka_long dX8_init_163 (rfl : 163 + 2 = 165) (rfl : 514 + 1 = 515) ((ov_n (by omega)).trans ((ov_n (by omega)).trans ((hG _ (by omega)).trans (z_long rfl rfl)))) (by decide) (by decide) (by decide) (Nat.le_of_ble_eq_true rfl) (Nat.le_of_ble_eq_true rfl) ?_
  refine g_put (tyk := (.array .long)) ok hK hin kX8 kf_X8_72 (by decide) rfl rfl dX8_init_165 (rfl : 165 + 3 = 168) (by omega) (by omega) ((ov_n (by omega)).trans ov_s) (Nat.le_of_ble_eq_true rfl) rfl rfl rfl (ov_sw (by omega)) ?_
  refine g_w (pc2 := 169) (fun _ _ => lv_aload_n ok.1 ok.2.1 dX8_init_168 rfl (lv_at hl 0 rfl)) ?_
  refine g_w (pc2 := 171) (fun _ _ => lv_bipush (v := 20) ok.1 ok.2.1 dX8_init_169 (by decide)) ?_
  refine g_newi ok hK ka_int dX8_init_171 (rfl : 171 + 2 = 173) (rfl : 515 + 1 = 516) ((ov_n (by omega)).trans ((ov_n (by omega)).trans ((hG _ (by omega)).trans (z_int rfl (by decide) (by decide) rfl)))) (by decide) (by decide) (by decide) (Nat.le_of_ble_eq_true rfl) (Nat.le_of_ble_eq_true rfl) ?_
  refine g_put (tyk := (.array .int)) ok hK hin kX8 kf_X8_75 (by decide) rfl rfl dX8_init_173 (rfl : 173 + 3 = 176) (by omega) (by omega) ((ov_n (by omega)).trans ov_s) (Nat.le_of_ble_eq_true rfl) rfl rfl rfl (ov_sw (by omega)) ?_
  refine g_w (pc2 := 177) (fun _ _ => lv_aload_n ok.1 ok.2.1 dX8_init_176 rfl (lv_at hl 0 rfl)) ?_
  refine g_w (pc2 := 179) (fun _ _ => lv_bipush (v := 20) ok.1 ok.2.1 dX8_init_177 (by decide)) ?_
  refine g_newi ok hK ka_int dX8_init_179 (rfl : 179 + 2 = 181) (rfl : 516 + 1 = 517) ((ov_n (by omega)).trans ((ov_n (by omega)).trans ((hG _ (by omega)).trans (z_int rfl (by decide) (by decide) rfl)))) (by decide) (by decide) (by decide) (Nat.le_of_ble_eq_true rfl) (Nat.le_of_ble_eq_true rfl) ?_
  refine g_put (tyk := (.array .int)) ok hK hin kX8 kf_X8_78 (by decide) rfl rfl dX8_init_181 (rfl : 181 + 3 = 184) (by omega) (by omega) ((ov_n (by omega)).trans ov_s) (Nat.le_of_ble_eq_true rfl) rfl rfl rfl (ov_sw (by omega)) ?_
  refine g_w (pc2 := 185) (fun _ _ => lv_aload_n ok.1 ok.2.1 dX8_init_184 rfl (lv_at hl 0 rfl)) ?_
  refine g_w (pc2 := 187) (fun _ _ => lv_bipush (v := 120) ok.1 ok.2.1 dX8_init_185 (by decide)) ?_
  refine g_newi ok hK ka_int dX8_init_187 (rfl : 187 + 2 = 189) (rfl : 517 + 1 = 518) ((ov_n (by omega)).trans ((ov_n (by omega)).trans ((hG _ (by omega)).trans (z_int rfl (by decide) (by decide) rfl)))) (by decide) (by decide) (by decide) (Nat.le_of_ble_eq_true rfl) (Nat.le_of_ble_eq_true rfl) ?_
  refine g_put (tyk := (.array .int)) ok hK hin kX8 kf_X8_81 (by decide) rfl rfl dX8_init_189 (rfl : 189 + 3 = 192) (by omega) (by omega) ((ov_n (by omega)).trans ov_s) (Nat.le_of_ble_eq_true rfl) rfl rfl rfl (ov_sw (by omega)) ?_
  refine g_w (pc2 := 193) (fun _ _ => lv_aload_n ok.1 ok.2.1 dX8_init_192 rfl (lv_at hl 0 rfl)) ?_
  refine g_get ok hK kX8 kf_X8_13 (by decide) dX8_init_193 (rfl : 193 + 3 = 196) (by omega) ((ov_n (by omega)).trans ov_s) rfl ?_
  refine g_w (pc2 := 197) (fun _ _ => lv_iconst (v := 5) ok.1 ok.2.1 dX8_init_196 (by decide)) ?_
  refine g_w (pc2 := 198) (fun _ _ => lv_iconst (v := (-1)) ok.1 ok.2.1 dX8_init_197 (by decide)) ?_
  refine g_iast (N2 := 331) (f := fun _ => 0) ok hK dX8_init_198 (rfl : 198 + 1 = 199) (by omega) (by omega) ov_s (by decide) ov_ov ?_
  refine g_eq (ov_id (((ov_n (by omega)).trans (hG _ (by omega))).trans z_495)) ?_
  refine g_eq (ov_id ((hG _ (by omega)).trans fi_X8)) ?_
  exact hret 199 ls dX8_init_199

