set_option maxHeartbeats 4000000 in
set_option maxRecDepth 20000 in
set_option maxRecDepth 20000 in
theorem k_past {l : Launch} {h0 : Nat} {D : va_G} {cy : Nat → ClassId} {tt : Nat → Nat} {g : Nat → va_E} (hG : ∀ a, 126 ≤ a → g a = ce h0 cy M0 a) : Mk l yX3_init cX3_init 2 2 302 3630 32 h0 D cy tt [.ref (h0 + 126)] (ov g 126 (.inr (2, ddX3))) (127) g (429) := by
  refine mk_k (by decide +kernel) rfl (Nat.le_of_ble_eq_true rfl) ?_
  intro p e s m args below meth c Q ls ok hK hZ hO hin hs hl hret
  replace hl : lv_has ls 2 [(0, .ref (h0 + 126))] := hl
  refine g_w (pc2 := 1) (fun _ _ => lv_aload_n ok.1 ok.2.1 dX3_init_0 rfl (lv_at hl 0 rfl)) ?_
  refine g_obj ok hl.1 km_X3_3 kO_i kO_c dX3_init_1 (rfl : 1 + 3 = 4) (Nat.le_of_ble_eq_true rfl) (Nat.le_of_ble_eq_true rfl) ?_
  refine g_w (pc2 := 5) (fun _ _ => lv_aload_n ok.1 ok.2.1 dX3_init_4 rfl (lv_at hl 0 rfl)) ?_
  refine g_w (pc2 := 7) (fun _ _ => lv_bipush (v := 10) ok.1 ok.2.1 dX3_init_5 (by decide +kernel)) ?_
  refine g_anew (N2 := 10) ok hK kc_X3_9 (ov_a hO.2.2) dX3_init_7 (rfl : 7 + 3 = 10) (rfl : 127 + 1 = 128) (by decide) (by decide) (by decide) (Nat.le_of_ble_eq_true rfl) (Nat.le_of_ble_eq_true rfl) ?_
  refine g_put (fs2 := [.ref (h0 + 127), .null, .int 0, .int 0]) (tyk := (.array (.object "VacuumDesk$Line"))) ok hK hin kX3 kf_X3_11 (by decide) rfl rfl dX3_init_10 (rfl : 10 + 3 = 13) (by omega) (by omega) ((ov_n (by omega)).trans ov_s) (Nat.le_of_ble_eq_true rfl) rfl rfl rfl (ov_sw (by omega)) ?_
  refine g_w (pc2 := 14) (fun _ _ => lv_iconst (v := 0) ok.1 ok.2.1 dX3_init_13 (by decide +kernel)) ?_
  refine g_ws (pc2 := 15) (lv2 := [(1, .int 0), (0, .ref (h0 + 126))]) (fun _ _ => lv_istore_n ok.1 ok.2.1 dX3_init_14 rfl hl (by decide) rfl) (fun ls hl => ?_)
  refine g_w (pc2 := 16) (fun _ _ => lv_iload_n ok.1 ok.2.1 dX3_init_15 rfl (lv_at hl 0 rfl)) ?_
  refine g_w (pc2 := 18) (fun _ _ => lv_bipush (v := 10) ok.1 ok.2.1 dX3_init_16 (by decide +kernel)) ?_
  refine g_w (pc2 := 21) (fun _ _ kk => lv_icmp_ge (tgt := 40) ok.1 ok.2.1 dX3_init_18 (by decide) (fun q => absurd q (by decide)) (fun _ => kk)) ?_
  refine g_w (pc2 := 22) (fun _ _ => lv_aload_n ok.1 ok.2.1 dX3_init_21 rfl (lv_at hl 1 rfl)) ?_
  refine g_get ok hK kX3 kf_X3_11 (by decide) dX3_init_22 (rfl : 22 + 3 = 25) (by omega) ((ov_n (by omega)).trans ov_s) rfl ?_
  refine g_w (pc2 := 26) (fun _ _ => lv_iload_n ok.1 ok.2.1 dX3_init_25 rfl (lv_at hl 0 rfl)) ?_
  refine g_new ok hK kX1 kc_X3_9 ki_X1 kn_X1 dfX1 dX3_init_26 (rfl : 26 + 3 = 29) (rfl : 128 + 1 = 129) (Nat.le_of_ble_eq_true rfl) (Nat.le_of_ble_eq_true rfl) ?_
  refine g_w (pc2 := 30) (fun _ _ => lv_dup ok.1 ok.2.1 dX3_init_29 rfl) ?_
  refine g_call (As := []) (st := [.ref (h0 + 128), .int 0, .ref (h0 + 127)]) ok hK hZ hO hl.1 hk_X1 km_X3_17 (k_line (List.mem_of_getElem? (i := 2) rfl) (fun a ha => ((ov_n (by omega)).trans ((ov_n (by omega)).trans (hG a (by omega)))))) rfl (Nat.le_of_ble_eq_true rfl) dX3_init_30 (rfl : 30 + 3 = 33) ⟨Nat.le_of_ble_eq_true rfl, Nat.le_of_ble_eq_true rfl⟩ ⟨Nat.le_of_ble_eq_true rfl, Nat.le_of_ble_eq_true rfl⟩ ?_
  refine g_aast (b := 128) (N2 := 10) (f := (fun _ => none)) ok hK dX3_init_33 (rfl : 33 + 1 = 34) (by omega) (by omega) ov_s (by omega) ((ov_n (by omega)).trans ((ov_n (by omega)).trans ((hG _ (by omega)).trans (fi_X1 (List.mem_of_getElem? (i := 2) rfl))))) (by unfold vp_in; decide) ov_ov ?_
  refine g_ws (pc2 := 37) (lv2 := [(1, .int 1), (0, .ref (h0 + 126))]) (fun _ _ => lv_iinc (v := 1) ok.1 ok.2.1 dX3_init_34 hl (k := 0) rfl (by decide) (by decide) rfl) (fun ls hl => ?_)
  refine g_w (pc2 := 15) (fun _ _ => lv_goto ok.1 ok.2.1 dX3_init_37 (by decide)) ?_
  refine g_w (pc2 := 16) (fun _ _ => lv_iload_n ok.1 ok.2.1 dX3_init_15 rfl (lv_at hl 0 rfl)) ?_
  refine g_w (pc2 := 18) (fun _ _ => lv_bipush (v := 10) ok.1 ok.2.1 dX3_init_16 (by decide +kernel)) ?_
  refine g_w (pc2 := 21) (fun _ _ kk => lv_icmp_ge (tgt := 40) ok.1 ok.2.1 dX3_init_18 (by decide) (fun q => absurd q (by decide)) (fun _ => kk)) ?_
  refine g_w (pc2 := 22) (fun _ _ => lv_aload_n ok.1 ok.2.1 dX3_init_21 rfl (lv_at hl 1 rfl)) ?_
  refine g_get ok hK kX3 kf_X3_11 (by decide) dX3_init_22 (rfl : 22 + 3 = 25) (by omega) ((ov_n (by omega)).trans ov_s) rfl ?_
  refine g_w (pc2 := 26) (fun _ _ => lv_iload_n ok.1 ok.2.1 dX3_init_25 rfl (lv_at hl 0 rfl)) ?_
  refine g_new ok hK kX1 kc_X3_9 ki_X1 kn_X1 dfX1 dX3_init_26 (rfl : 26 + 3 = 29) (rfl : 158 + 1 = 159) (Nat.le_of_ble_eq_true rfl) (Nat.le_of_ble_eq_true rfl) ?_
  refine g_w (pc2 := 30) (fun _ _ => lv_dup ok.1 ok.2.1 dX3_init_29 rfl) ?_
  refine g_call (As := []) (st := [.ref (h0 + 158), .int 1, .ref (h0 + 127)]) ok hK hZ hO hl.1 hk_X1 km_X3_17 (k_line (List.mem_of_getElem? (i := 3) rfl) (fun a ha => ((ov_n (by omega)).trans ((ov_n (by omega)).trans (hG a (by omega)))))) rfl (Nat.le_of_ble_eq_true rfl) dX3_init_30 (rfl : 30 + 3 = 33) ⟨Nat.le_of_ble_eq_true rfl, Nat.le_of_ble_eq_true rfl⟩ ⟨Nat.le_of_ble_eq_true rfl, Nat.le_of_ble_eq_true rfl⟩ ?_
  refine g_aast (b := 158) (N2 := 10) (f := (va_up (fun _ => none) (0 : Int32).toNatClampNeg (some (h0 + 128)))) ok hK dX3_init_33 (rfl : 33 + 1 = 34) (by omega) (by omega) ov_s (by omega) ((ov_n (by omega)).trans ((ov_n (by omega)).trans ((hG _ (by omega)).trans (fi_X1 (List.mem_of_getElem? (i := 3) rfl))))) (by unfold vp_in; decide) ov_ov ?_
  refine g_ws (pc2 := 37) (lv2 := [(1, .int 2), (0, .ref (h0 + 126))]) (fun _ _ => lv_iinc (v := 2) ok.1 ok.2.1 dX3_init_34 hl (k := 0) rfl (by decide) (by decide) rfl) (fun ls hl => ?_)
  refine g_w (pc2 := 15) (fun _ _ => lv_goto ok.1 ok.2.1 dX3_init_37 (by decide)) ?_
  refine g_w (pc2 := 16) (fun _ _ => lv_iload_n ok.1 ok.2.1 dX3_init_15 rfl (lv_at hl 0 rfl)) ?_
  refine g_w (pc2 := 18) (fun _ _ => lv_bipush (v := 10) ok.1 ok.2.1 dX3_init_16 (by decide +kernel)) ?_
  refine g_w (pc2 := 21) (fun _ _ kk => lv_icmp_ge (tgt := 40) ok.1 ok.2.1 dX3_init_18 (by decide) (fun q => absurd q (by decide)) (fun _ => kk)) ?_
  refine g_w (pc2 := 22) (fun _ _ => lv_aload_n ok.1 ok.2.1 dX3_init_21 rfl (lv_at hl 1 rfl)) ?_
  refine g_get ok hK kX3 kf_X3_11 (by decide) dX3_init_22 (rfl : 22 + 3 = 25) (by omega) ((ov_n (by omega)).trans ov_s) rfl ?_
  refine g_w (pc2 := 26) (fun _ _ => lv_iload_n ok.1 ok.2.1 dX3_init_25 rfl (lv_at hl 0 rfl)) ?_
  refine g_new ok hK kX1 kc_X3_9 ki_X1 kn_X1 dfX1 dX3_init_26 (rfl : 26 + 3 = 29) (rfl : 188 + 1 = 189) (Nat.le_of_ble_eq_true rfl) (Nat.le_of_ble_eq_true rfl) ?_
  refine g_w (pc2 := 30) (fun _ _ => lv_dup ok.1 ok.2.1 dX3_init_29 rfl) ?_
  refine g_call (As := []) (st := [.ref (h0 + 188), .int 2, .ref (h0 + 127)]) ok hK hZ hO hl.1 hk_X1 km_X3_17 (k_line (List.mem_of_getElem? (i := 4) rfl) (fun a ha => ((ov_n (by omega)).trans ((ov_n (by omega)).trans (hG a (by omega)))))) rfl (Nat.le_of_ble_eq_true rfl) dX3_init_30 (rfl : 30 + 3 = 33) ⟨Nat.le_of_ble_eq_true rfl, Nat.le_of_ble_eq_true rfl⟩ ⟨Nat.le_of_ble_eq_true rfl, Nat.le_of_ble_eq_true rfl⟩ ?_
  refine g_aast (b := 188) (N2 := 10) (f := (va_up (va_up (fun _ => none) (0 : Int32).toNatClampNeg (some (h0 + 128))) (1 : Int32).toNatClampNeg (some (h0 + 158)))) ok hK dX3_init_33 (rfl : 33 + 1 = 34) (by omega) (by omega) ov_s (by omega) ((ov_n (by omega)).trans ((ov_n (by omega)).trans ((hG _ (by omega)).trans (fi_X1 (List.mem_of_getElem? (i := 4) rfl))))) (by unfold vp_in; decide) ov_ov ?_
  refine g_ws (pc2 := 37) (lv2 := [(1, .int 3), (0, .ref (h0 + 126))]) (fun _ _ => lv_iinc (v := 3) ok.1 ok.2.1 dX3_init_34 hl (k := 0) rfl (by decide) (by decide) rfl) (fun ls hl => ?_)
  refine g_w (pc2 := 15) (fun _ _ => lv_goto ok.1 ok.2.1 dX3_init_37 (by decide)) ?_
  refine g_w (pc2 := 16) (fun _ _ => lv_iload_n ok.1 ok.2.1 dX3_init_15 rfl (lv_at hl 0 rfl)) ?_
  refine g_w (pc2 := 18) (fun _ _ => lv_bipush (v := 10) ok.1 ok.2.1 dX3_init_16 (by decide +kernel)) ?_
  refine g_w (pc2 := 21) (fun _ _ kk => lv_icmp_ge (tgt := 40) ok.1 ok.2.1 dX3_init_18 (by decide) (fun q => absurd q (by decide)) (fun _ => kk)) ?_
  refine g_w (pc2 := 22) (fun _ _ => lv_aload_n ok.1 ok.2.1 dX3_init_21 rfl (lv_at hl 1 rfl)) ?_
  refine g_get ok hK kX3 kf_X3_11 (by decide) dX3_init_22 (rfl : 22 + 3 = 25) (by omega) ((ov_n (by omega)).trans ov_s) rfl ?_
  refine g_w (pc2 := 26) (fun _ _ => lv_iload_n ok.1 ok.2.1 dX3_init_25 rfl (lv_at hl 0 rfl)) ?_
  refine g_new ok hK kX1 kc_X3_9 ki_X1 kn_X1 dfX1 dX3_init_26 (rfl : 26 + 3 = 29) (rfl : 218 + 1 = 219) (Nat.le_of_ble_eq_true rfl) (Nat.le_of_ble_eq_true rfl) ?_
  refine g_w (pc2 := 30) (fun _ _ => lv_dup ok.1 ok.2.1 dX3_init_29 rfl) ?_
  refine g_call (As := []) (st := [.ref (h0 + 218), .int 3, .ref (h0 + 127)]) ok hK hZ hO hl.1 hk_X1 km_X3_17 (k_line (List.mem_of_getElem? (i := 5) rfl) (fun a ha => ((ov_n (by omega)).trans ((ov_n (by omega)).trans (hG a (by omega)))))) rfl (Nat.le_of_ble_eq_true rfl) dX3_init_30 (rfl : 30 + 3 = 33) ⟨Nat.le_of_ble_eq_true rfl, Nat.le_of_ble_eq_true rfl⟩ ⟨Nat.le_of_ble_eq_true rfl, Nat.le_of_ble_eq_true rfl⟩ ?_
  refine g_aast (b := 218) (N2 := 10) (f := (va_up (va_up (va_up (fun _ => none) (0 : Int32).toNatClampNeg (some (h0 + 128))) (1 : Int32).toNatClampNeg (some (h0 + 158))) (2 : Int32).toNatClampNeg (some (h0 + 188)))) ok hK dX3_init_33 (rfl : 33 + 1 = 34) (by omega) (by omega) ov_s (by omega) ((ov_n (by omega)).trans ((ov_n (by omega)).trans ((hG _ (by omega)).trans (fi_X1 (List.mem_of_getElem? (i := 5) rfl))))) (by unfold vp_in; decide) ov_ov ?_
  refine g_ws (pc2 := 37) (lv2 := [(1, .int 4), (0, .ref (h0 + 126))]) (fun _ _ => lv_iinc (v := 4) ok.1 ok.2.1 dX3_init_34 hl (k := 0) rfl (by decide) (by decide) rfl) (fun ls hl => ?_)
  refine g_w (pc2 := 15) (fun _ _ => lv_goto ok.1 ok.2.1 dX3_init_37 (by decide)) ?_
  refine g_w (pc2 := 16) (fun _ _ => lv_iload_n ok.1 ok.2.1 dX3_init_15 rfl (lv_at hl 0 rfl)) ?_
  refine g_w (pc2 := 18) (fun _ _ => lv_bipush (v := 10) ok.1 ok.2.1 dX3_init_16 (by decide +kernel)) ?_
  refine g_w (pc2 := 21) (fun _ _ kk => lv_icmp_ge (tgt := 40) ok.1 ok.2.1 dX3_init_18 (by decide) (fun q => absurd q (by decide)) (fun _ => kk)) ?_
  refine g_w (pc2 := 22) (fun _ _ => lv_aload_n ok.1 ok.2.1 dX3_init_21 rfl (lv_at hl 1 rfl)) ?_
  refine g_get ok hK kX3 kf_X3_11 (by decide) dX3_init_22 (rfl : 22 + 3 = 25) (by omega) ((ov_n (by omega)).trans ov_s) rfl ?_
  refine g_w (pc2 := 26) (fun _ _ => lv_iload_n ok.1 ok.2.1 dX3_init_25 rfl (lv_at hl 0 rfl)) ?_
  refine g_new ok hK kX1 kc_X3_9 ki_X1 kn_X1 dfX1 dX3_init_26 (rfl : 26 + 3 = 29) (rfl : 248 + 1 = 249) (Nat.le_of_ble_eq_true rfl) (Nat.le_of_ble_eq_true rfl) ?_
  refine g_w (pc2 := 30) (fun _ _ => lv_dup ok.1 ok.2.1 dX3_init_29 rfl) ?_
  refine g_call (As := []) (st := [.ref (h0 + 248), .int 4, .ref (h0 + 127)]) ok hK hZ hO hl.1 hk_X1 km_X3_17 (k_line (List.mem_of_getElem? (i := 6) rfl) (fun a ha => ((ov_n (by omega)).trans ((ov_n (by omega)).trans (hG a (by omega)))))) rfl (Nat.le_of_ble_eq_true rfl) dX3_init_30 (rfl : 30 + 3 = 33) ⟨Nat.le_of_ble_eq_true rfl, Nat.le_of_ble_eq_true rfl⟩ ⟨Nat.le_of_ble_eq_true rfl, Nat.le_of_ble_eq_true rfl⟩ ?_
  refine g_aast (b := 248) (N2 := 10) (f := (va_up (va_up (va_up (va_up (fun _ => none) (0 : Int32).toNatClampNeg (some (h0 + 128))) (1 : Int32).toNatClampNeg (some (h0 + 158))) (2 : Int32).toNatClampNeg (some (h0 + 188))) (3 : Int32).toNatClampNeg (some (h0 + 218)))) ok hK dX3_init_33 (rfl : 33 + 1 = 34) (by omega) (by omega) ov_s (by omega) ((ov_n (by omega)).trans ((ov_n (by omega)).trans ((hG _ (by omega)).trans (fi_X1 (List.mem_of_getElem? (i := 6) rfl))))) (by unfold vp_in; decide) ov_ov ?_
  refine g_ws (pc2 := 37) (lv2 := [(1, .int 5), (0, .ref (h0 + 126))]) (fun _ _ => lv_iinc (v := 5) ok.1 ok.2.1 dX3_init_34 hl (k := 0) rfl (by decide) (by decide) rfl) (fun ls hl => ?_)
  refine g_w (pc2 := 15) (fun _ _ => lv_goto ok.1 ok.2.1 dX3_init_37 (by decide)) ?_
  refine g_w (pc2 := 16) (fun _ _ => lv_iload_n ok.1 ok.2.1 dX3_init_15 rfl (lv_at hl 0 rfl)) ?_
  refine g_w (pc2 := 18) (fun _ _ => lv_bipush (v := 10) ok.1 ok.2.1 dX3_init_16 (by decide +kernel)) ?_
  refine g_w (pc2 := 21) (fun _ _ kk => lv_icmp_ge (tgt := 40) ok.1 ok.2.1 dX3_init_18 (by decide) (fun q => absurd q (by decide)) (fun _ => kk)) ?_
  refine g_w (pc2 := 22) (fun _ _ => lv_aload_n ok.1 ok.2.1 dX3_init_21 rfl (lv_at hl 1 rfl)) ?_
  refine g_get ok hK kX3 kf_X3_11 (by decide) dX3_init_22 (rfl : 22 + 3 = 25) (by omega) ((ov_n (by omega)).trans ov_s) rfl ?_
  refine g_w (pc2 := 26) (fun _ _ => lv_iload_n ok.1 ok.2.1 dX3_init_25 rfl (lv_at hl 0 rfl)) ?_
  refine g_new ok hK kX1 kc_X3_9 ki_X1 kn_X1 dfX1 dX3_init_26 (rfl : 26 + 3 = 29) (rfl : 278 + 1 = 279) (Nat.le_of_ble_eq_true rfl) (Nat.le_of_ble_eq_true rfl) ?_
  refine g_w (pc2 := 30) (fun _ _ => lv_dup ok.1 ok.2.1 dX3_init_29 rfl) ?_
  refine g_call (As := []) (st := [.ref (h0 + 278), .int 5, .ref (h0 + 127)]) ok hK hZ hO hl.1 hk_X1 km_X3_17 (k_line (List.mem_of_getElem? (i := 7) rfl) (fun a ha => ((ov_n (by omega)).trans ((ov_n (by omega)).trans (hG a (by omega)))))) rfl (Nat.le_of_ble_eq_true rfl) dX3_init_30 (rfl : 30 + 3 = 33) ⟨Nat.le_of_ble_eq_true rfl, Nat.le_of_ble_eq_true rfl⟩ ⟨Nat.le_of_ble_eq_true rfl, Nat.le_of_ble_eq_true rfl⟩ ?_
  refine g_aast (b := 278) (N2 := 10) (f := (va_up (va_up (va_up (va_up (va_up (fun _ => none) (0 : Int32).toNatClampNeg (some (h0 + 128))) (1 : Int32).toNatClampNeg (some (h0 + 158))) (2 : Int32).toNatClampNeg (some (h0 + 188))) (3 : Int32).toNatClampNeg (some (h0 + 218))) (4 : Int32).toNatClampNeg (some (h0 + 248)))) ok hK dX3_init_33 (rfl : 33 + 1 = 34) (by omega) (by omega) ov_s (by omega) ((ov_n (by omega)).trans ((ov_n (by omega)).trans ((hG _ (by omega)).trans (fi_X1 (List.mem_of_getElem? (i := 7) rfl))))) (by unfold vp_in; decide) ov_ov ?_
  refine g_ws (pc2 := 37) (lv2 := [(1, .int 6), (0, .ref (h0 + 126))]) (fun _ _ => lv_iinc (v := 6) ok.1 ok.2.1 dX3_init_34 hl (k := 0) rfl (by decide) (by decide) rfl) (fun ls hl => ?_)
  refine g_w (pc2 := 15) (fun _ _ => lv_goto ok.1 ok.2.1 dX3_init_37 (by decide)) ?_
  refine g_w (pc2 := 16) (fun _ _ => lv_iload_n ok.1 ok.2.1 dX3_init_15 rfl (lv_at hl 0 rfl)) ?_
  refine g_w (pc2 := 18) (fun _ _ => lv_bipush (v := 10) ok.1 ok.2.1 dX3_init_16 (by decide +kernel)) ?_
  refine g_w (pc2 := 21) (fun _ _ kk => lv_icmp_ge (tgt := 40) ok.1 ok.2.1 dX3_init_18 (by decide) (fun q => absurd q (by decide)) (fun _ => kk)) ?_
  refine g_w (pc2 := 22) (fun _ _ => lv_aload_n ok.1 ok.2.1 dX3_init_21 rfl (lv_at hl 1 rfl)) ?_
  refine g_get ok hK kX3 kf_X3_11 (by decide) dX3_init_22 (rfl : 22 + 3 = 25) (by omega) ((ov_n (by omega)).trans ov_s) rfl ?_
  refine g_w (pc2 := 26) (fun _ _ => lv_iload_n ok.1 ok.2.1 dX3_init_25 rfl (lv_at hl 0 rfl)) ?_
  refine g_new ok hK kX1 kc_X3_9 ki_X1 kn_X1 dfX1 dX3_init_26 (rfl : 26 + 3 = 29) (rfl : 308 + 1 = 309) (Nat.le_of_ble_eq_true rfl) (Nat.le_of_ble_eq_true rfl) ?_
  refine g_w (pc2 := 30) (fun _ _ => lv_dup ok.1 ok.2.1 dX3_init_29 rfl) ?_
  refine g_call (As := []) (st := [.ref (h0 + 308), .int 6, .ref (h0 + 127)]) ok hK hZ hO hl.1 hk_X1 km_X3_17 (k_line (List.mem_of_getElem? (i := 8) rfl) (fun a ha => ((ov_n (by omega)).trans ((ov_n (by omega)).trans (hG a (by omega)))))) rfl (Nat.le_of_ble_eq_true rfl) dX3_init_30 (rfl : 30 + 3 = 33) ⟨Nat.le_of_ble_eq_true rfl, Nat.le_of_ble_eq_true rfl⟩ ⟨Nat.le_of_ble_eq_true rfl, Nat.le_of_ble_eq_true rfl⟩ ?_
  refine g_aast (b := 308) (N2 := 10) (f := (va_up (va_up (va_up (va_up (va_up (va_up (fun _ => none) (0 : Int32).toNatClampNeg (some (h0 + 128))) (1 : Int32).toNatClampNeg (some (h0 + 158))) (2 : Int32).toNatClampNeg (some (h0 + 188))) (3 : Int32).toNatClampNeg (some (h0 + 218))) (4 : Int32).toNatClampNeg (some (h0 + 248))) (5 : Int32).toNatClampNeg (some (h0 + 278)))) ok hK dX3_init_33 (rfl : 33 + 1 = 34) (by omega) (by omega) ov_s (by omega) ((ov_n (by omega)).trans ((ov_n (by omega)).trans ((hG _ (by omega)).trans (fi_X1 (List.mem_of_getElem? (i := 8) rfl))))) (by unfold vp_in; decide) ov_ov ?_
  refine g_ws (pc2 := 37) (lv2 := [(1, .int 7), (0, .ref (h0 + 126))]) (fun _ _ => lv_iinc (v := 7) ok.1 ok.2.1 dX3_init_34 hl (k := 0) rfl (by decide) (by decide) rfl) (fun ls hl => ?_)
  refine g_w (pc2 := 15) (fun _ _ => lv_goto ok.1 ok.2.1 dX3_init_37 (by decide)) ?_
  refine g_w (pc2 := 16) (fun _ _ => lv_iload_n ok.1 ok.2.1 dX3_init_15 rfl (lv_at hl 0 rfl)) ?_
  refine g_w (pc2 := 18) (fun _ _ => lv_bipush (v := 10) ok.1 ok.2.1 dX3_init_16 (by decide +kernel)) ?_
  refine g_w (pc2 := 21) (fun _ _ kk => lv_icmp_ge (tgt := 40) ok.1 ok.2.1 dX3_init_18 (by decide) (fun q => absurd q (by decide)) (fun _ => kk)) ?_
  refine g_w (pc2 := 22) (fun _ _ => lv_aload_n ok.1 ok.2.1 dX3_init_21 rfl (lv_at hl 1 rfl)) ?_
  refine g_get ok hK kX3 kf_X3_11 (by decide) dX3_init_22 (rfl : 22 + 3 = 25) (by omega) ((ov_n (by omega)).trans ov_s) rfl ?_
  refine g_w (pc2 := 26) (fun _ _ => lv_iload_n ok.1 ok.2.1 dX3_init_25 rfl (lv_at hl 0 rfl)) ?_
  refine g_new ok hK kX1 kc_X3_9 ki_X1 kn_X1 dfX1 dX3_init_26 (rfl : 26 + 3 = 29) (rfl : 338 + 1 = 339) (Nat.le_of_ble_eq_true rfl) (Nat.le_of_ble_eq_true rfl) ?_
  refine g_w (pc2 := 30) (fun _ _ => lv_dup ok.1 ok.2.1 dX3_init_29 rfl) ?_
  refine g_call (As := []) (st := [.ref (h0 + 338), .int 7, .ref (h0 + 127)]) ok hK hZ hO hl.1 hk_X1 km_X3_17 (k_line (List.mem_of_getElem? (i := 9) rfl) (fun a ha => ((ov_n (by omega)).trans ((ov_n (by omega)).trans (hG a (by omega)))))) rfl (Nat.le_of_ble_eq_true rfl) dX3_init_30 (rfl : 30 + 3 = 33) ⟨Nat.le_of_ble_eq_true rfl, Nat.le_of_ble_eq_true rfl⟩ ⟨Nat.le_of_ble_eq_true rfl, Nat.le_of_ble_eq_true rfl⟩ ?_
  refine g_aast (b := 338) (N2 := 10) (f := (va_up (va_up (va_up (va_up (va_up (va_up (va_up (fun _ => none) (0 : Int32).toNatClampNeg (some (h0 + 128))) (1 : Int32).toNatClampNeg (some (h0 + 158))) (2 : Int32).toNatClampNeg (some (h0 + 188))) (3 : Int32).toNatClampNeg (some (h0 + 218))) (4 : Int32).toNatClampNeg (some (h0 + 248))) (5 : Int32).toNatClampNeg (some (h0 + 278))) (6 : Int32).toNatClampNeg (some (h0 + 308)))) ok hK dX3_init_33 (rfl : 33 + 1 = 34) (by omega) (by omega) ov_s (by omega) ((ov_n (by omega)).trans ((ov_n (by omega)).trans ((hG _ (by omega)).trans (fi_X1 (List.mem_of_getElem? (i := 9) rfl))))) (by unfold vp_in; decide) ov_ov ?_
  refine g_ws (pc2 := 37) (lv2 := [(1, .int 8), (0, .ref (h0 + 126))]) (fun _ _ => lv_iinc (v := 8) ok.1 ok.2.1 dX3_init_34 hl (k := 0) rfl (by decide) (by decide) rfl) (fun ls hl => ?_)
  refine g_w (pc2 := 15) (fun _ _ => lv_goto ok.1 ok.2.1 dX3_init_37 (by decide)) ?_
  refine g_w (pc2 := 16) (fun _ _ => lv_iload_n ok.1 ok.2.1 dX3_init_15 rfl (lv_at hl 0 rfl)) ?_
  refine g_w (pc2 := 18) (fun _ _ => lv_bipush (v := 10) ok.1 ok.2.1 dX3_init_16 (by decide +kernel)) ?_
  refine g_w (pc2 := 21) (fun _ _ kk => lv_icmp_ge (tgt := 40) ok.1 ok.2.1 dX3_init_18 (by decide) (fun q => absurd q (by decide)) (fun _ => kk)) ?_
  refine g_w (pc2 := 22) (fun _ _ => lv_aload_n ok.1 ok.2.1 dX3_init_21 rfl (lv_at hl 1 rfl)) ?_
  refine g_get ok hK kX3 kf_X3_11 (by decide) dX3_init_22 (rfl : 22 + 3 = 25) (by omega) ((ov_n (by omega)).trans ov_s) rfl ?_
  refine g_w (pc2 := 26) (fun _ _ => lv_iload_n ok.1 ok.2.1 dX3_init_25 rfl (lv_at hl 0 rfl)) ?_
  refine g_new ok hK kX1 kc_X3_9 ki_X1 kn_X1 dfX1 dX3_init_26 (rfl : 26 + 3 = 29) (rfl : 368 + 1 = 369) (Nat.le_of_ble_eq_true rfl) (Nat.le_of_ble_eq_true rfl) ?_
  refine g_w (pc2 := 30) (fun _ _ => lv_dup ok.1 ok.2.1 dX3_init_29 rfl) ?_
  refine g_call (As := []) (st := [.ref (h0 + 368), .int 8, .ref (h0 + 127)]) ok hK hZ hO hl.1 hk_X1 km_X3_17 (k_line (List.mem_of_getElem? (i := 10) rfl) (fun a ha => ((ov_n (by omega)).trans ((ov_n (by omega)).trans (hG a (by omega)))))) rfl (Nat.le_of_ble_eq_true rfl) dX3_init_30 (rfl : 30 + 3 = 33) ⟨Nat.le_of_ble_eq_true rfl, Nat.le_of_ble_eq_true rfl⟩ ⟨Nat.le_of_ble_eq_true rfl, Nat.le_of_ble_eq_true rfl⟩ ?_
  refine g_aast (b := 368) (N2 := 10) (f := (va_up (va_up (va_up (va_up (va_up (va_up (va_up (va_up (fun _ => none) (0 : Int32).toNatClampNeg (some (h0 + 128))) (1 : Int32).toNatClampNeg (some (h0 + 158))) (2 : Int32).toNatClampNeg (some (h0 + 188))) (3 : Int32).toNatClampNeg (some (h0 + 218))) (4 : Int32).toNatClampNeg (some (h0 + 248))) (5 : Int32).toNatClampNeg (some (h0 + 278))) (6 : Int32).toNatClampNeg (some (h0 + 308))) (7 : Int32).toNatClampNeg (some (h0 + 338)))) ok hK dX3_init_33 (rfl : 33 + 1 = 34) (by omega) (by omega) ov_s (by omega) ((ov_n (by omega)).trans ((ov_n (by omega)).trans ((hG _ (by omega)).trans (fi_X1 (List.mem_of_getElem? (i := 10) rfl))))) (by unfold vp_in; decide) ov_ov ?_
  refine g_ws (pc2 := 37) (lv2 := [(1, .int 9), (0, .ref (h0 + 126))]) (fun _ _ => lv_iinc (v := 9) ok.1 ok.2.1 dX3_init_34 hl (k := 0) rfl (by decide) (by decide) rfl) (fun ls hl => ?_)
  refine g_w (pc2 := 15) (fun _ _ => lv_goto ok.1 ok.2.1 dX3_init_37 (by decide)) ?_
  refine g_w (pc2 := 16) (fun _ _ => lv_iload_n ok.1 ok.2.1 dX3_init_15 rfl (lv_at hl 0 rfl)) ?_
  refine g_w (pc2 := 18) (fun _ _ => lv_bipush (v := 10) ok.1 ok.2.1 dX3_init_16 (by decide +kernel)) ?_
  refine g_w (pc2 := 21) (fun _ _ kk => lv_icmp_ge (tgt := 40) ok.1 ok.2.1 dX3_init_18 (by decide) (fun q => absurd q (by decide)) (fun _ => kk)) ?_
  refine g_w (pc2 := 22) (fun _ _ => lv_aload_n ok.1 ok.2.1 dX3_init_21 rfl (lv_at hl 1 rfl)) ?_
  refine g_get ok hK kX3 kf_X3_11 (by decide) dX3_init_22 (rfl : 22 + 3 = 25) (by omega) ((ov_n (by omega)).trans ov_s) rfl ?_
  refine g_w (pc2 := 26) (fun _ _ => lv_iload_n ok.1 ok.2.1 dX3_init_25 rfl (lv_at hl 0 rfl)) ?_
  refine g_new ok hK kX1 kc_X3_9 ki_X1 kn_X1 dfX1 dX3_init_26 (rfl : 26 + 3 = 29) (rfl : 398 + 1 = 399) (Nat.le_of_ble_eq_true rfl) (Nat.le_of_ble_eq_true rfl) ?_
  refine g_w (pc2 := 30) (fun _ _ => lv_dup ok.1 ok.2.1 dX3_init_29 rfl) ?_
  refine g_call (As := []) (st := [.ref (h0 + 398), .int 9, .ref (h0 + 127)]) ok hK hZ hO hl.1 hk_X1 km_X3_17 (k_line (List.mem_of_getElem? (i := 11) rfl) (fun a ha => ((ov_n (by omega)).trans ((ov_n (by omega)).trans (hG a (by omega)))))) rfl (Nat.le_of_ble_eq_true rfl) dX3_init_30 (rfl : 30 + 3 = 33) ⟨Nat.le_of_ble_eq_true rfl, Nat.le_of_ble_eq_true rfl⟩ ⟨Nat.le_of_ble_eq_true rfl, Nat.le_of_ble_eq_true rfl⟩ ?_
  refine g_aast (b := 398) (N2 := 10) (f := (va_up (va_up (va_up (va_up (va_up (va_up (va_up (va_up (va_up (fun _ => none) (0 : Int32).toNatClampNeg (some (h0 + 128))) (1 : Int32).toNatClampNeg (some (h0 + 158))) (2 : Int32).toNatClampNeg (some (h0 + 188))) (3 : Int32).toNatClampNeg (some (h0 + 218))) (4 : Int32).toNatClampNeg (some (h0 + 248))) (5 : Int32).toNatClampNeg (some (h0 + 278))) (6 : Int32).toNatClampNeg (some (h0 + 308))) (7 : Int32).toNatClampNeg (some (h0 + 338))) (8 : Int32).toNatClampNeg (some (h0 + 368)))) ok hK dX3_init_33 (rfl : 33 + 1 = 34) (by omega) (by omega) ov_s (by omega) ((ov_n (by omega)).trans ((ov_n (by omega)).trans ((hG _ (by omega)).trans (fi_X1 (List.mem_of_getElem? (i := 11) rfl))))) (by unfold vp_in; decide) ov_ov ?_
  refine g_as (a := 127) (x := ce h0 cy M0 127) (g2 := (ov g 126 (.inr (2, [.ref (h0 + 127), .null, .int 0, .int 0])))) (fun H h => ar_127 (by rw [ov_s] at h; exact h)) ((ov_n (by omega)).trans (hG _ (by omega))) (fun b _ hb => ov_n hb) ?_
  refine g_ws (pc2 := 37) (lv2 := [(1, .int 10), (0, .ref (h0 + 126))]) (fun _ _ => lv_iinc (v := 10) ok.1 ok.2.1 dX3_init_34 hl (k := 0) rfl (by decide) (by decide) rfl) (fun ls hl => ?_)
  refine g_w (pc2 := 15) (fun _ _ => lv_goto ok.1 ok.2.1 dX3_init_37 (by decide)) ?_
  refine g_w (pc2 := 16) (fun _ _ => lv_iload_n ok.1 ok.2.1 dX3_init_15 rfl (lv_at hl 0 rfl)) ?_
  refine g_w (pc2 := 18) (fun _ _ => lv_bipush (v := 10) ok.1 ok.2.1 dX3_init_16 (by decide +kernel)) ?_
  refine g_w (pc2 := 40) (fun _ _ kk => lv_icmp_ge (tgt := 40) ok.1 ok.2.1 dX3_init_18 (by decide) (fun _ => kk) (fun q => absurd (by decide) q)) ?_
  refine g_w (pc2 := 41) (fun _ _ => lv_aload_n ok.1 ok.2.1 dX3_init_40 rfl (lv_at hl 1 rfl)) ?_
  refine g_w (pc2 := 43) (fun _ _ => lv_bipush (v := 10) ok.1 ok.2.1 dX3_init_41 (by decide +kernel)) ?_
  refine g_newi ok hK ka_int dX3_init_43 (rfl : 43 + 2 = 45) (rfl : 428 + 1 = 429) ((ov_n (by omega)).trans ((hG _ (by omega)).trans (z_int qk_428.1 (by decide) (by decide) qk_428.2))) (by decide +kernel) (by decide +kernel) (Nat.le_of_ble_eq_true rfl) (Nat.le_of_ble_eq_true rfl) (Nat.le_of_ble_eq_true rfl) ?_
  refine g_put (fs2 := [.ref (h0 + 127), .ref (h0 + 428), .int 0, .int 0]) (tyk := (.array .int)) ok hK hin kX3 kf_X3_18 (by decide) rfl rfl dX3_init_45 (rfl : 45 + 3 = 48) (by omega) (by omega) ov_s (Nat.le_of_ble_eq_true rfl) rfl rfl rfl ov_ov ?_
  refine g_eq (ov_id ((hG _ (by omega)).trans fi_X3)) ?_
  exact hret 48 ls dX3_init_48

