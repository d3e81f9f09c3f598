set_option maxHeartbeats 4000000 in
set_option maxRecDepth 20000 in
set_option maxRecDepth 20000 in
theorem k_desk {l : Launch} {h0 : Nat} {D : va_G} {cy : Nat → ClassId} {tt : Nat → Nat} {g : Nat → va_E} (hG : ∀ a, 0 ≤ a → g a = ce h0 cy M0 a) : Mk l yX7_init cX7_init 2 3 491 6249 53 h0 D cy tt [.ref (h0 + 0)] (ov g 0 (.inr (6, ddX7))) (1) g (492) := by
  refine mk_k (by decide +kernel) rfl (Nat.le_of_ble_eq_true rfl) ?_
  intro p e s m args below meth c Q ls ok hK hZ hO hin hs hl hret
  replace hl : lv_has ls 2 [(0, .ref (h0 + 0))] := hl
  refine g_w (pc2 := 1) (fun _ _ => lv_aload_n ok.1 ok.2.1 dX7_init_0 rfl (lv_at hl 0 rfl)) ?_
  refine g_obj ok hl.1 km_X7_1 kO_i kO_c dX7_init_1 (rfl : 1 + 3 = 4) (Nat.le_of_ble_eq_true rfl) (Nat.le_of_ble_eq_true rfl) ?_
  refine g_w (pc2 := 5) (fun _ _ => lv_aload_n ok.1 ok.2.1 dX7_init_4 rfl (lv_at hl 0 rfl)) ?_
  refine g_new ok hK kX1 kc_X7_7 ki_X1 kn_X1 dfX1 dX7_init_5 (rfl : 5 + 3 = 8) (rfl : 1 + 1 = 2) (Nat.le_of_ble_eq_true rfl) (Nat.le_of_ble_eq_true rfl) ?_
  refine g_w (pc2 := 9) (fun _ _ => lv_dup ok.1 ok.2.1 dX7_init_8 rfl) ?_
  refine g_call (As := []) (st := [.ref (h0 + 1), .ref (h0 + 0)]) ok hK hZ hO hl.1 hk_X1 km_X7_9 (k_line (List.mem_of_getElem? (i := 0) rfl) (fun a ha => ((ov_n (by omega)).trans (hG a (by omega))))) rfl (Nat.le_of_ble_eq_true rfl) dX7_init_9 (rfl : 9 + 3 = 12) ⟨Nat.le_of_ble_eq_true rfl, Nat.le_of_ble_eq_true rfl⟩ ⟨Nat.le_of_ble_eq_true rfl, Nat.le_of_ble_eq_true rfl⟩ ?_
  refine g_put (fs2 := [.ref (h0 + 1), .null, .null, .null, .null, .null, .null, .null, .null, .null, .int 0]) (tyk := (.object "VacuumDesk$Line")) ok hK hin kX7 kf_X7_10 (by decide) rfl rfl dX7_init_12 (rfl : 12 + 3 = 15) (by omega) (by omega) ov_s (Nat.le_of_ble_eq_true rfl) rfl rfl rfl ov_ov ?_
  refine g_w (pc2 := 16) (fun _ _ => lv_aload_n ok.1 ok.2.1 dX7_init_15 rfl (lv_at hl 0 rfl)) ?_
  refine g_new ok hK kX1 kc_X7_7 ki_X1 kn_X1 dfX1 dX7_init_16 (rfl : 16 + 3 = 19) (rfl : 31 + 1 = 32) (Nat.le_of_ble_eq_true rfl) (Nat.le_of_ble_eq_true rfl) ?_
  refine g_w (pc2 := 20) (fun _ _ => lv_dup ok.1 ok.2.1 dX7_init_19 rfl) ?_
  refine g_call (As := []) (st := [.ref (h0 + 31), .ref (h0 + 0)]) ok hK hZ hO hl.1 hk_X1 km_X7_9 (k_line (List.mem_of_getElem? (i := 1) rfl) (fun a ha => ((ov_n (by omega)).trans (hG a (by omega))))) rfl (Nat.le_of_ble_eq_true rfl) dX7_init_20 (rfl : 20 + 3 = 23) ⟨Nat.le_of_ble_eq_true rfl, Nat.le_of_ble_eq_true rfl⟩ ⟨Nat.le_of_ble_eq_true rfl, Nat.le_of_ble_eq_true rfl⟩ ?_
  refine g_put (fs2 := [.ref (h0 + 1), .ref (h0 + 31), .null, .null, .null, .null, .null, .null, .null, .null, .int 0]) (tyk := (.object "VacuumDesk$Line")) ok hK hin kX7 kf_X7_16 (by decide) rfl rfl dX7_init_23 (rfl : 23 + 3 = 26) (by omega) (by omega) ov_s (Nat.le_of_ble_eq_true rfl) rfl rfl rfl ov_ov ?_
  refine g_w (pc2 := 27) (fun _ _ => lv_aload_n ok.1 ok.2.1 dX7_init_26 rfl (lv_at hl 0 rfl)) ?_
  refine g_new ok hK kX0 kc_X7_19 ki_X0 kn_X0 dfX0 dX7_init_27 (rfl : 27 + 3 = 30) (rfl : 61 + 1 = 62) (Nat.le_of_ble_eq_true rfl) (Nat.le_of_ble_eq_true rfl) ?_
  refine g_w (pc2 := 31) (fun _ _ => lv_dup ok.1 ok.2.1 dX7_init_30 rfl) ?_
  refine g_call (As := []) (st := [.ref (h0 + 61), .ref (h0 + 0)]) ok hK hZ hO hl.1 hk_X0 km_X7_21 (k_bal (fun a ha => ((ov_n (by omega)).trans (hG a (by omega))))) rfl (Nat.le_of_ble_eq_true rfl) dX7_init_31 (rfl : 31 + 3 = 34) ⟨Nat.le_of_ble_eq_true rfl, Nat.le_of_ble_eq_true rfl⟩ ⟨Nat.le_of_ble_eq_true rfl, Nat.le_of_ble_eq_true rfl⟩ ?_
  refine g_put (fs2 := [.ref (h0 + 1), .ref (h0 + 31), .ref (h0 + 61), .null, .null, .null, .null, .null, .null, .null, .int 0]) (tyk := (.object "VacuumDesk$Balance")) ok hK hin kX7 kf_X7_22 (by decide) rfl rfl dX7_init_34 (rfl : 34 + 3 = 37) (by omega) (by omega) ov_s (Nat.le_of_ble_eq_true rfl) rfl rfl rfl ov_ov ?_
  refine g_w (pc2 := 38) (fun _ _ => lv_aload_n ok.1 ok.2.1 dX7_init_37 rfl (lv_at hl 0 rfl)) ?_
  refine g_new ok hK kX6 kc_X7_26 ki_X6 kn_X6 dfX6 dX7_init_38 (rfl : 38 + 3 = 41) (rfl : 97 + 1 = 98) (Nat.le_of_ble_eq_true rfl) (Nat.le_of_ble_eq_true rfl) ?_
  refine g_w (pc2 := 42) (fun _ _ => lv_dup ok.1 ok.2.1 dX7_init_41 rfl) ?_
  refine g_w (pc2 := 43) (fun _ _ => lv_aload_n ok.1 ok.2.1 dX7_init_42 rfl (lv_at hl 0 rfl)) ?_
  refine g_get ok hK kX7 kf_X7_22 (by decide) dX7_init_43 (rfl : 43 + 3 = 46) (by omega) ((ov_n (by omega)).trans ov_s) rfl ?_
  refine g_call (As := [.ref (h0 + 61)]) (st := [.ref (h0 + 97), .ref (h0 + 0)]) ok hK hZ hO hl.1 hk_X6 km_X7_28 (k_walk (fun a ha => ((ov_n (by omega)).trans (hG a (by omega))))) rfl (Nat.le_of_ble_eq_true rfl) dX7_init_46 (rfl : 46 + 3 = 49) ⟨Nat.le_of_ble_eq_true rfl, Nat.le_of_ble_eq_true rfl⟩ ⟨Nat.le_of_ble_eq_true rfl, Nat.le_of_ble_eq_true rfl⟩ ?_
  refine g_put (fs2 := [.ref (h0 + 1), .ref (h0 + 31), .ref (h0 + 61), .ref (h0 + 97), .null, .null, .null, .null, .null, .null, .int 0]) (tyk := (.object "VacuumDesk$Walker")) ok hK hin kX7 kf_X7_31 (by decide) rfl rfl dX7_init_49 (rfl : 49 + 3 = 52) (by omega) (by omega) ov_s (Nat.le_of_ble_eq_true rfl) rfl rfl rfl ov_ov ?_
  refine g_w (pc2 := 53) (fun _ _ => lv_aload_n ok.1 ok.2.1 dX7_init_52 rfl (lv_at hl 0 rfl)) ?_
  refine g_new ok hK kX5 kc_X7_35 ki_X5 kn_X5 dfX5 dX7_init_53 (rfl : 53 + 3 = 56) (rfl : 98 + 1 = 99) (Nat.le_of_ble_eq_true rfl) (Nat.le_of_ble_eq_true rfl) ?_
  refine g_w (pc2 := 57) (fun _ _ => lv_dup ok.1 ok.2.1 dX7_init_56 rfl) ?_
  refine g_w (pc2 := 58) (fun _ _ => lv_aload_n ok.1 ok.2.1 dX7_init_57 rfl (lv_at hl 0 rfl)) ?_
  refine g_get ok hK kX7 kf_X7_22 (by decide) dX7_init_58 (rfl : 58 + 3 = 61) (by omega) ((ov_n (by omega)).trans ov_s) rfl ?_
  refine g_call (As := [.ref (h0 + 61)]) (st := [.ref (h0 + 98), .ref (h0 + 0)]) ok hK hZ hO hl.1 hk_X5 km_X7_37 (k_seek (fun a ha => ((ov_n (by omega)).trans (hG a (by omega))))) rfl (Nat.le_of_ble_eq_true rfl) dX7_init_61 (rfl : 61 + 3 = 64) ⟨Nat.le_of_ble_eq_true rfl, Nat.le_of_ble_eq_true rfl⟩ ⟨Nat.le_of_ble_eq_true rfl, Nat.le_of_ble_eq_true rfl⟩ ?_
  refine g_put (fs2 := [.ref (h0 + 1), .ref (h0 + 31), .ref (h0 + 61), .ref (h0 + 97), .ref (h0 + 98), .null, .null, .null, .null, .null, .int 0]) (tyk := (.object "VacuumDesk$Seeker")) ok hK hin kX7 kf_X7_38 (by decide) rfl rfl dX7_init_64 (rfl : 64 + 3 = 67) (by omega) (by omega) ov_s (Nat.le_of_ble_eq_true rfl) rfl rfl rfl ov_ov ?_
  refine g_w (pc2 := 68) (fun _ _ => lv_aload_n ok.1 ok.2.1 dX7_init_67 rfl (lv_at hl 0 rfl)) ?_
  refine g_new ok hK kX4 kc_X7_42 ki_X4 kn_X4 dfX4 dX7_init_68 (rfl : 68 + 3 = 71) (rfl : 122 + 1 = 123) (Nat.le_of_ble_eq_true rfl) (Nat.le_of_ble_eq_true rfl) ?_
  refine g_w (pc2 := 72) (fun _ _ => lv_dup ok.1 ok.2.1 dX7_init_71 rfl) ?_
  refine g_call (As := []) (st := [.ref (h0 + 122), .ref (h0 + 0)]) ok hK hZ hO hl.1 hk_X4 km_X7_44 (k_path (fun a ha => ((ov_n (by omega)).trans (hG a (by omega))))) rfl (Nat.le_of_ble_eq_true rfl) dX7_init_72 (rfl : 72 + 3 = 75) ⟨Nat.le_of_ble_eq_true rfl, Nat.le_of_ble_eq_true rfl⟩ ⟨Nat.le_of_ble_eq_true rfl, Nat.le_of_ble_eq_true rfl⟩ ?_
  refine g_put (fs2 := [.ref (h0 + 1), .ref (h0 + 31), .ref (h0 + 61), .ref (h0 + 97), .ref (h0 + 98), .ref (h0 + 122), .null, .null, .null, .null, .int 0]) (tyk := (.object "VacuumDesk$Paths")) ok hK hin kX7 kf_X7_45 (by decide) rfl rfl dX7_init_75 (rfl : 75 + 3 = 78) (by omega) (by omega) ov_s (Nat.le_of_ble_eq_true rfl) rfl rfl rfl ov_ov ?_
  refine g_w (pc2 := 79) (fun _ _ => lv_aload_n ok.1 ok.2.1 dX7_init_78 rfl (lv_at hl 0 rfl)) ?_
  refine g_new ok hK kX3 kc_X7_49 ki_X3 kn_X3 dfX3 dX7_init_79 (rfl : 79 + 3 = 82) (rfl : 126 + 1 = 127) (Nat.le_of_ble_eq_true rfl) (Nat.le_of_ble_eq_true rfl) ?_
  refine g_w (pc2 := 83) (fun _ _ => lv_dup ok.1 ok.2.1 dX7_init_82 rfl) ?_
  refine g_call (As := []) (st := [.ref (h0 + 126), .ref (h0 + 0)]) ok hK hZ hO hl.1 hk_X3 km_X7_51 (k_past (fun a ha => ((ov_n (by omega)).trans (hG a (by omega))))) rfl (Nat.le_of_ble_eq_true rfl) dX7_init_83 (rfl : 83 + 3 = 86) ⟨Nat.le_of_ble_eq_true rfl, Nat.le_of_ble_eq_true rfl⟩ ⟨Nat.le_of_ble_eq_true rfl, Nat.le_of_ble_eq_true rfl⟩ ?_
  refine g_put (fs2 := [.ref (h0 + 1), .ref (h0 + 31), .ref (h0 + 61), .ref (h0 + 97), .ref (h0 + 98), .ref (h0 + 122), .ref (h0 + 126), .null, .null, .null, .int 0]) (tyk := (.object "VacuumDesk$Past")) ok hK hin kX7 kf_X7_52 (by decide) rfl rfl dX7_init_86 (rfl : 86 + 3 = 89) (by omega) (by omega) ov_s (Nat.le_of_ble_eq_true rfl) rfl rfl rfl ov_ov ?_
  refine g_w (pc2 := 90) (fun _ _ => lv_aload_n ok.1 ok.2.1 dX7_init_89 rfl (lv_at hl 0 rfl)) ?_
  refine g_w (pc2 := 91) (fun _ _ => lv_iconst (v := 2) ok.1 ok.2.1 dX7_init_90 (by decide +kernel)) ?_
  refine g_anew (N2 := 2) ok hK kc_X7_7 (ov_a hO.2.2) dX7_init_91 (rfl : 91 + 3 = 94) (rfl : 429 + 1 = 430) (by decide) (by decide) (by decide) (Nat.le_of_ble_eq_true rfl) (Nat.le_of_ble_eq_true rfl) ?_
  refine g_put (fs2 := [.ref (h0 + 1), .ref (h0 + 31), .ref (h0 + 61), .ref (h0 + 97), .ref (h0 + 98), .ref (h0 + 122), .ref (h0 + 126), .ref (h0 + 429), .null, .null, .int 0]) (tyk := (.array (.object "VacuumDesk$Line"))) ok hK hin kX7 kf_X7_56 (by decide) rfl rfl dX7_init_94 (rfl : 94 + 3 = 97) (by omega) (by omega) ((ov_n (by omega)).trans ov_s) (Nat.le_of_ble_eq_true rfl) rfl rfl rfl (ov_sw (by omega)) ?_
  refine g_w (pc2 := 98) (fun _ _ => lv_iconst (v := 0) ok.1 ok.2.1 dX7_init_97 (by decide +kernel)) ?_
  refine g_ws (pc2 := 99) (lv2 := [(1, .int 0), (0, .ref (h0 + 0))]) (fun _ _ => lv_istore_n ok.1 ok.2.1 dX7_init_98 rfl hl (by decide) rfl) (fun ls hl => ?_)
  refine g_w (pc2 := 100) (fun _ _ => lv_iload_n ok.1 ok.2.1 dX7_init_99 rfl (lv_at hl 0 rfl)) ?_
  refine g_w (pc2 := 101) (fun _ _ => lv_iconst (v := 2) ok.1 ok.2.1 dX7_init_100 (by decide +kernel)) ?_
  refine g_w (pc2 := 104) (fun _ _ kk => lv_icmp_ge (tgt := 123) ok.1 ok.2.1 dX7_init_101 (by decide) (fun q => absurd q (by decide)) (fun _ => kk)) ?_
  refine g_w (pc2 := 105) (fun _ _ => lv_aload_n ok.1 ok.2.1 dX7_init_104 rfl (lv_at hl 1 rfl)) ?_
  refine g_get ok hK kX7 kf_X7_56 (by decide) dX7_init_105 (rfl : 105 + 3 = 108) (by omega) ((ov_n (by omega)).trans ov_s) rfl ?_
  refine g_w (pc2 := 109) (fun _ _ => lv_iload_n ok.1 ok.2.1 dX7_init_108 rfl (lv_at hl 0 rfl)) ?_
  refine g_new ok hK kX1 kc_X7_7 ki_X1 kn_X1 dfX1 dX7_init_109 (rfl : 109 + 3 = 112) (rfl : 430 + 1 = 431) (Nat.le_of_ble_eq_true rfl) (Nat.le_of_ble_eq_true rfl) ?_
  refine g_w (pc2 := 113) (fun _ _ => lv_dup ok.1 ok.2.1 dX7_init_112 rfl) ?_
  refine g_call (As := []) (st := [.ref (h0 + 430), .int 0, .ref (h0 + 429)]) ok hK hZ hO hl.1 hk_X1 km_X7_9 (k_line (List.mem_of_getElem? (i := 12) rfl) (fun a ha => ((ov_n (by omega)).trans ((ov_n (by omega)).trans (hG a (by omega)))))) rfl (Nat.le_of_ble_eq_true rfl) dX7_init_113 (rfl : 113 + 3 = 116) ⟨Nat.le_of_ble_eq_true rfl, Nat.le_of_ble_eq_true rfl⟩ ⟨Nat.le_of_ble_eq_true rfl, Nat.le_of_ble_eq_true rfl⟩ ?_
  refine g_aast (b := 430) (N2 := 2) (f := (fun _ => none)) ok hK dX7_init_116 (rfl : 116 + 1 = 117) (by omega) (by omega) ov_s (by omega) ((ov_n (by omega)).trans ((ov_n (by omega)).trans ((hG _ (by omega)).trans (fi_X1 (List.mem_of_getElem? (i := 12) rfl))))) (by unfold vp_in; decide) ov_ov ?_
  refine g_ws (pc2 := 120) (lv2 := [(1, .int 1), (0, .ref (h0 + 0))]) (fun _ _ => lv_iinc (v := 1) ok.1 ok.2.1 dX7_init_117 hl (k := 0) rfl (by decide) (by decide) rfl) (fun ls hl => ?_)
  refine g_w (pc2 := 99) (fun _ _ => lv_goto ok.1 ok.2.1 dX7_init_120 (by decide)) ?_
  refine g_w (pc2 := 100) (fun _ _ => lv_iload_n ok.1 ok.2.1 dX7_init_99 rfl (lv_at hl 0 rfl)) ?_
  refine g_w (pc2 := 101) (fun _ _ => lv_iconst (v := 2) ok.1 ok.2.1 dX7_init_100 (by decide +kernel)) ?_
  refine g_w (pc2 := 104) (fun _ _ kk => lv_icmp_ge (tgt := 123) ok.1 ok.2.1 dX7_init_101 (by decide) (fun q => absurd q (by decide)) (fun _ => kk)) ?_
  refine g_w (pc2 := 105) (fun _ _ => lv_aload_n ok.1 ok.2.1 dX7_init_104 rfl (lv_at hl 1 rfl)) ?_
  refine g_get ok hK kX7 kf_X7_56 (by decide) dX7_init_105 (rfl : 105 + 3 = 108) (by omega) ((ov_n (by omega)).trans ov_s) rfl ?_
  refine g_w (pc2 := 109) (fun _ _ => lv_iload_n ok.1 ok.2.1 dX7_init_108 rfl (lv_at hl 0 rfl)) ?_
  refine g_new ok hK kX1 kc_X7_7 ki_X1 kn_X1 dfX1 dX7_init_109 (rfl : 109 + 3 = 112) (rfl : 460 + 1 = 461) (Nat.le_of_ble_eq_true rfl) (Nat.le_of_ble_eq_true rfl) ?_
  refine g_w (pc2 := 113) (fun _ _ => lv_dup ok.1 ok.2.1 dX7_init_112 rfl) ?_
  refine g_call (As := []) (st := [.ref (h0 + 460), .int 1, .ref (h0 + 429)]) ok hK hZ hO hl.1 hk_X1 km_X7_9 (k_line (List.mem_of_getElem? (i := 13) rfl) (fun a ha => ((ov_n (by omega)).trans ((ov_n (by omega)).trans (hG a (by omega)))))) rfl (Nat.le_of_ble_eq_true rfl) dX7_init_113 (rfl : 113 + 3 = 116) ⟨Nat.le_of_ble_eq_true rfl, Nat.le_of_ble_eq_true rfl⟩ ⟨Nat.le_of_ble_eq_true rfl, Nat.le_of_ble_eq_true rfl⟩ ?_
  refine g_aast (b := 460) (N2 := 2) (f := (va_up (fun _ => none) (0 : Int32).toNatClampNeg (some (h0 + 430)))) ok hK dX7_init_116 (rfl : 116 + 1 = 117) (by omega) (by omega) ov_s (by omega) ((ov_n (by omega)).trans ((ov_n (by omega)).trans ((hG _ (by omega)).trans (fi_X1 (List.mem_of_getElem? (i := 13) rfl))))) (by unfold vp_in; decide) ov_ov ?_
  refine g_as (a := 429) (x := ce h0 cy M0 429) (g2 := (ov g 0 (.inr (6, [.ref (h0 + 1), .ref (h0 + 31), .ref (h0 + 61), .ref (h0 + 97), .ref (h0 + 98), .ref (h0 + 122), .ref (h0 + 126), .ref (h0 + 429), .null, .null, .int 0])))) (fun H h => ar_429 (by rw [ov_s] at h; exact h)) ((ov_n (by omega)).trans (hG _ (by omega))) (fun b _ hb => ov_n hb) ?_
  refine g_ws (pc2 := 120) (lv2 := [(1, .int 2), (0, .ref (h0 + 0))]) (fun _ _ => lv_iinc (v := 2) ok.1 ok.2.1 dX7_init_117 hl (k := 0) rfl (by decide) (by decide) rfl) (fun ls hl => ?_)
  refine g_w (pc2 := 99) (fun _ _ => lv_goto ok.1 ok.2.1 dX7_init_120 (by decide)) ?_
  refine g_w (pc2 := 100) (fun _ _ => lv_iload_n ok.1 ok.2.1 dX7_init_99 rfl (lv_at hl 0 rfl)) ?_
  refine g_w (pc2 := 101) (fun _ _ => lv_iconst (v := 2) ok.1 ok.2.1 dX7_init_100 (by decide +kernel)) ?_
  refine g_w (pc2 := 123) (fun _ _ kk => lv_icmp_ge (tgt := 123) ok.1 ok.2.1 dX7_init_101 (by decide) (fun _ => kk) (fun q => absurd (by decide) q)) ?_
  refine g_w (pc2 := 124) (fun _ _ => lv_aload_n ok.1 ok.2.1 dX7_init_123 rfl (lv_at hl 1 rfl)) ?_
  refine g_w (pc2 := 125) (fun _ _ => lv_iconst (v := 2) ok.1 ok.2.1 dX7_init_124 (by decide +kernel)) ?_
  refine g_newz ok hK ka_boolean dX7_init_125 (rfl : 125 + 2 = 127) (rfl : 490 + 1 = 491) ((ov_n (by omega)).trans ((hG _ (by omega)).trans (z_bool qk_490.1 qk_490.2))) (by decide +kernel) (by decide +kernel) (Nat.le_of_ble_eq_true rfl) (Nat.le_of_ble_eq_true rfl) (Nat.le_of_ble_eq_true rfl) ?_
  refine g_put (fs2 := [.ref (h0 + 1), .ref (h0 + 31), .ref (h0 + 61), .ref (h0 + 97), .ref (h0 + 98), .ref (h0 + 122), .ref (h0 + 126), .ref (h0 + 429), .ref (h0 + 490), .null, .int 0]) (tyk := (.array .boolean)) ok hK hin kX7 kf_X7_60 (by decide) rfl rfl dX7_init_127 (rfl : 127 + 3 = 130) (by omega) (by omega) ov_s (Nat.le_of_ble_eq_true rfl) rfl rfl rfl ov_ov ?_
  refine g_w (pc2 := 131) (fun _ _ => lv_aload_n ok.1 ok.2.1 dX7_init_130 rfl (lv_at hl 1 rfl)) ?_
  refine g_w (pc2 := 132) (fun _ _ => lv_iconst (v := 4) ok.1 ok.2.1 dX7_init_131 (by decide +kernel)) ?_
  refine g_newi ok hK ka_int dX7_init_132 (rfl : 132 + 2 = 134) (rfl : 491 + 1 = 492) ((ov_n (by omega)).trans ((hG _ (by omega)).trans (z_int qk_491.1 (by decide) (by decide) qk_491.2))) (by decide +kernel) (by decide +kernel) (Nat.le_of_ble_eq_true rfl) (Nat.le_of_ble_eq_true rfl) (Nat.le_of_ble_eq_true rfl) ?_
  refine g_put (fs2 := [.ref (h0 + 1), .ref (h0 + 31), .ref (h0 + 61), .ref (h0 + 97), .ref (h0 + 98), .ref (h0 + 122), .ref (h0 + 126), .ref (h0 + 429), .ref (h0 + 490), .ref (h0 + 491), .int 0]) (tyk := (.array .int)) ok hK hin kX7 kf_X7_64 (by decide) rfl rfl dX7_init_134 (rfl : 134 + 3 = 137) (by omega) (by omega) ov_s (Nat.le_of_ble_eq_true rfl) rfl rfl rfl ov_ov ?_
  refine g_w (pc2 := 138) (fun _ _ => lv_aload_n ok.1 ok.2.1 dX7_init_137 rfl (lv_at hl 1 rfl)) ?_
  refine g_w (pc2 := 139) (fun _ _ => lv_iconst (v := 0) ok.1 ok.2.1 dX7_init_138 (by decide +kernel)) ?_
  refine g_put (fs2 := [.ref (h0 + 1), .ref (h0 + 31), .ref (h0 + 61), .ref (h0 + 97), .ref (h0 + 98), .ref (h0 + 122), .ref (h0 + 126), .ref (h0 + 429), .ref (h0 + 490), .ref (h0 + 491), .int 0]) (tyk := .int) ok hK hin kX7 kf_X7_68 (by decide) rfl rfl dX7_init_139 (rfl : 139 + 3 = 142) (by omega) (by omega) ov_s (Nat.le_of_ble_eq_true rfl) rfl rfl rfl ov_ov ?_
  refine g_eq (ov_id ((hG _ (by omega)).trans fi_X7)) ?_
  exact hret 142 ls dX7_init_142

