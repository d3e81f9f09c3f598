theorem dX7_image_0 : decode cX7_image 0 = .ok (.iload_n 1, 1) := by decide +kernel
theorem dX7_image_1 : decode cX7_image 1 = .ok (.iconst 0, 1) := by decide +kernel
theorem dX7_image_2 : decode cX7_image 2 = .ok (.iconst 1, 1) := by decide +kernel
theorem dX7_image_3 : decode cX7_image 3 = .ok (.invokestatic 75, 3) := by decide +kernel
theorem dX7_image_6 : decode cX7_image 6 = .ok (.ifCond .ne 9, 3) := by decide +kernel
theorem dX7_image_9 : decode cX7_image 9 = .ok (.aload_n 0, 1) := by decide +kernel
theorem dX7_image_10 : decode cX7_image 10 = .ok (.iconst (-1), 1) := by decide +kernel
theorem dX7_image_11 : decode cX7_image 11 = .ok (.invokevirtual 79, 3) := by decide +kernel
theorem dX7_image_14 : decode cX7_image 14 = .ok (.ireturn, 1) := by decide +kernel
theorem dX7_image_15 : decode cX7_image 15 = .ok (.aload_n 0, 1) := by decide +kernel
theorem dX7_image_16 : decode cX7_image 16 = .ok (.iconst 0, 1) := by decide +kernel
theorem dX7_image_17 : decode cX7_image 17 = .ok (.putfield 68, 3) := by decide +kernel
theorem dX7_image_20 : decode cX7_image 20 = .ok (.aload_n 0, 1) := by decide +kernel
theorem dX7_image_21 : decode cX7_image 21 = .ok (.getfield 56, 3) := by decide +kernel
theorem dX7_image_24 : decode cX7_image 24 = .ok (.iload_n 1, 1) := by decide +kernel
theorem dX7_image_25 : decode cX7_image 25 = .ok (.aaload, 1) := by decide +kernel
theorem dX7_image_26 : decode cX7_image 26 = .ok (.aload_n 0, 1) := by decide +kernel
theorem dX7_image_27 : decode cX7_image 27 = .ok (.getfield 10, 3) := by decide +kernel
theorem dX7_image_30 : decode cX7_image 30 = .ok (.invokevirtual 205, 3) := by decide +kernel
theorem dX7_image_33 : decode cX7_image 33 = .ok (.aload_n 0, 1) := by decide +kernel
theorem dX7_image_34 : decode cX7_image 34 = .ok (.getfield 60, 3) := by decide +kernel
theorem dX7_image_37 : decode cX7_image 37 = .ok (.iload_n 1, 1) := by decide +kernel
theorem dX7_image_38 : decode cX7_image 38 = .ok (.iconst 1, 1) := by decide +kernel
theorem dX7_image_39 : decode cX7_image 39 = .ok (.bastore, 1) := by decide +kernel
theorem dX7_image_40 : decode cX7_image 40 = .ok (.aload_n 0, 1) := by decide +kernel
theorem dX7_image_41 : decode cX7_image 41 = .ok (.getfield 10, 3) := by decide +kernel
theorem dX7_image_44 : decode cX7_image 44 = .ok (.getfield 184, 3) := by decide +kernel
theorem dX7_image_47 : decode cX7_image 47 = .ok (.ireturn, 1) := by decide +kernel
noncomputable def EX7_image : Sx := (sseq (sif (bnot (bz cne (csz DX7_within (ai (il 1) (ai (ik 0) (ai (ik 1) anil)))))) (sret (cvi 6 DX7_refuse (rl 0) (ai (ik (-1)) anil))) snop) (sseq (fpi 6 10 (rl 0) (ik 0)) (sseq (scv 1 DX1_copyFrom (rald 11 (fgr 6 7 (rl 0)) (il 1)) (ar (fgr 6 0 (rl 0)) anil)) (sseq (aiz (fgr 6 8 (rl 0)) (il 1) (ik 1)) (sret (fgi 1 4 (fgr 6 0 (rl 0))))))))
noncomputable def DX7_image : Fi := mfi 2 EX7_image
set_option maxRecDepth 4000 in
theorem BX7_image : Vs RX7 cX7_image 2 (rmk 3 84) 0 0 EX7_image := (v_seq (v_if (v_not (v_zne_t (v_csz IX7_within hX7_within lk392 ⟨by decide, by decide⟩ (by decide) (v_ai (v_iload_n (i := 1) dX7_image_0 rfl (rfl : 0 + 1 = 1)) (v_ai (v_iconst (v := 0) dX7_image_1 (by decide) (rfl : 1 + 1 = 2)) (v_ai (v_iconst (v := 1) dX7_image_2 (by decide) (rfl : 2 + 1 = 3)) v_anil))) dX7_image_3 (rfl : 3 + 3 = 6)) dX7_image_6 (rfl : ((6 : Nat) : Int) + 9 = ((15 : Nat) : Int)) (rfl : 6 + 3 = 9))) (v_ret (v_cvi kX7 IX7_refuse hX7_refuse lk395 ⟨by decide, by decide⟩ (by decide) (v_aload_n (i := 0) dX7_image_9 rfl (rfl : 9 + 1 = 10)) (v_ai (v_iconst (v := (-1)) dX7_image_10 (by decide) (rfl : 10 + 1 = 11)) v_anil) dX7_image_11 (rfl : 11 + 3 = 14)) dX7_image_14) v_nop) (v_seq (v_fpi kX7 lk361 (by decide) rfl rfl (by decide +kernel) (v_aload_n (i := 0) dX7_image_15 rfl (rfl : 15 + 1 = 16)) (v_iconst (v := 0) dX7_image_16 (by decide) (rfl : 16 + 1 = 17)) dX7_image_17 (rfl : 17 + 3 = 20)) (v_seq (v_scv kX1 IX1_copyFrom hX1_copyFrom lk716 ⟨by decide, by decide⟩ (v_rald (q := 11) (t0 := 3) (ty0 := .object "VacuumDesk$Line") ⟨by decide, by decide⟩ (fun _ => rfl) rfl (v_gfr kX7 lk358 (by decide) rfl (v_aload_n (i := 0) dX7_image_20 rfl (rfl : 20 + 1 = 21)) dX7_image_21 (rfl : 21 + 3 = 24)) (v_iload_n (i := 1) dX7_image_24 rfl (rfl : 24 + 1 = 25)) dX7_image_25 (rfl : 25 + 1 = 26)) (v_ar (v_gfr kX7 lk351 (by decide) rfl (v_aload_n (i := 0) dX7_image_26 rfl (rfl : 26 + 1 = 27)) dX7_image_27 (rfl : 27 + 3 = 30)) v_anil) dX7_image_30 (rfl : 30 + 3 = 33)) (v_seq (v_aiz (v_gfr kX7 lk359 (by decide) rfl (v_aload_n (i := 0) dX7_image_33 rfl (rfl : 33 + 1 = 34)) dX7_image_34 (rfl : 34 + 3 = 37)) (v_iload_n (i := 1) dX7_image_37 rfl (rfl : 37 + 1 = 38)) (v_iconst (v := 1) dX7_image_38 (by decide) (rfl : 38 + 1 = 39)) dX7_image_39 (rfl : 39 + 1 = 40)) (v_ret (v_gfi kX1 lk142 (by decide) rfl (v_gfr kX7 lk351 (by decide) rfl (v_aload_n (i := 0) dX7_image_40 rfl (rfl : 40 + 1 = 41)) dX7_image_41 (rfl : 41 + 3 = 44)) dX7_image_44 (rfl : 44 + 3 = 47)) dX7_image_47)))))
theorem IX7_image : Mi yX7_image cX7_image 2 (rmk 3 84) DX7_image := mk_i (by decide +kernel) BX7_image

theorem dX7_inSeries_0 : decode cX7_inSeries 0 = .ok (.iload_n 1, 1) := by decide +kernel
theorem dX7_inSeries_1 : decode cX7_inSeries 1 = .ok (.ifCond .ne 5, 3) := by decide +kernel
theorem dX7_inSeries_4 : decode cX7_inSeries 4 = .ok (.iload_n 0, 1) := by decide +kernel
theorem dX7_inSeries_5 : decode cX7_inSeries 5 = .ok (.ireturn, 1) := by decide +kernel
theorem dX7_inSeries_6 : decode cX7_inSeries 6 = .ok (.iload_n 2, 1) := by decide +kernel
theorem dX7_inSeries_7 : decode cX7_inSeries 7 = .ok (.ifCond .ne 17, 3) := by decide +kernel
theorem dX7_inSeries_10 : decode cX7_inSeries 10 = .ok (.iload_n 0, 1) := by decide +kernel
theorem dX7_inSeries_11 : decode cX7_inSeries 11 = .ok (.iload_n 1, 1) := by decide +kernel
theorem dX7_inSeries_12 : decode cX7_inSeries 12 = .ok (.imul, 1) := by decide +kernel
theorem dX7_inSeries_13 : decode cX7_inSeries 13 = .ok (.i2l, 1) := by decide +kernel
theorem dX7_inSeries_14 : decode cX7_inSeries 14 = .ok (.iload_n 0, 1) := by decide +kernel
theorem dX7_inSeries_15 : decode cX7_inSeries 15 = .ok (.iload_n 1, 1) := by decide +kernel
theorem dX7_inSeries_16 : decode cX7_inSeries 16 = .ok (.iadd, 1) := by decide +kernel
theorem dX7_inSeries_17 : decode cX7_inSeries 17 = .ok (.i2l, 1) := by decide +kernel
theorem dX7_inSeries_18 : decode cX7_inSeries 18 = .ok (.invokestatic 344, 3) := by decide +kernel
theorem dX7_inSeries_21 : decode cX7_inSeries 21 = .ok (.goto 22, 3) := by decide +kernel
theorem dX7_inSeries_24 : decode cX7_inSeries 24 = .ok (.iload_n 0, 1) := by decide +kernel
theorem dX7_inSeries_25 : decode cX7_inSeries 25 = .ok (.iload_n 1, 1) := by decide +kernel
theorem dX7_inSeries_26 : decode cX7_inSeries 26 = .ok (.imul, 1) := by decide +kernel
theorem dX7_inSeries_27 : decode cX7_inSeries 27 = .ok (.iload_n 2, 1) := by decide +kernel
theorem dX7_inSeries_28 : decode cX7_inSeries 28 = .ok (.imul, 1) := by decide +kernel
theorem dX7_inSeries_29 : decode cX7_inSeries 29 = .ok (.i2l, 1) := by decide +kernel
theorem dX7_inSeries_30 : decode cX7_inSeries 30 = .ok (.iload_n 0, 1) := by decide +kernel
theorem dX7_inSeries_31 : decode cX7_inSeries 31 = .ok (.iload_n 1, 1) := by decide +kernel
theorem dX7_inSeries_32 : decode cX7_inSeries 32 = .ok (.imul, 1) := by decide +kernel
theorem dX7_inSeries_33 : decode cX7_inSeries 33 = .ok (.iload_n 0, 1) := by decide +kernel
theorem dX7_inSeries_34 : decode cX7_inSeries 34 = .ok (.iload_n 1, 1) := by decide +kernel
theorem dX7_inSeries_35 : decode cX7_inSeries 35 = .ok (.iadd, 1) := by decide +kernel
theorem dX7_inSeries_36 : decode cX7_inSeries 36 = .ok (.iload_n 2, 1) := by decide +kernel
theorem dX7_inSeries_37 : decode cX7_inSeries 37 = .ok (.imul, 1) := by decide +kernel
theorem dX7_inSeries_38 : decode cX7_inSeries 38 = .ok (.iadd, 1) := by decide +kernel
theorem dX7_inSeries_39 : decode cX7_inSeries 39 = .ok (.i2l, 1) := by decide +kernel
theorem dX7_inSeries_40 : decode cX7_inSeries 40 = .ok (.invokestatic 344, 3) := by decide +kernel
theorem dX7_inSeries_43 : decode cX7_inSeries 43 = .ok (.lstore_n 3, 1) := by decide +kernel
theorem dX7_inSeries_44 : decode cX7_inSeries 44 = .ok (.lconst 1, 1) := by decide +kernel
theorem dX7_inSeries_45 : decode cX7_inSeries 45 = .ok (.lload_n 3, 1) := by decide +kernel
theorem dX7_inSeries_46 : decode cX7_inSeries 46 = .ok (.invokestatic 348, 3) := by decide +kernel
theorem dX7_inSeries_49 : decode cX7_inSeries 49 = .ok (.l2i, 1) := by decide +kernel
theorem dX7_inSeries_50 : decode cX7_inSeries 50 = .ok (.ireturn, 1) := by decide +kernel
noncomputable def EX7_inSeries : Sx := (sseq (sif (bz ceq (il 1)) (sret (il 0)) snop) (sseq (ssj 3 (jc (bz ceq (il 2)) (csj DX2_over (aj (i2l (i2 (· * ·) (il 0) (il 1))) (aj (i2l (i2 (· + ·) (il 0) (il 1))) anil))) (csj DX2_over (aj (i2l (i2 (· * ·) (i2 (· * ·) (il 0) (il 1)) (il 2))) (aj (i2l (i2 (· + ·) (i2 (· * ·) (il 0) (il 1)) (i2 (· * ·) (i2 (· + ·) (il 0) (il 1)) (il 2)))) anil))))) (sret (l2i (j2 mxj (jk 1) (jl 3))))))
noncomputable def DX7_inSeries : Fi := mfi 5 EX7_inSeries
set_option maxRecDepth 4000 in
theorem BX7_inSeries : Vs RX7 cX7_inSeries 5 (rmk 1 40) 0 0 EX7_inSeries := (v_seq (v_if (v_zeq_f (v_iload_n (i := 1) dX7_inSeries_0 rfl (rfl : 0 + 1 = 1)) dX7_inSeries_1 (rfl : ((1 : Nat) : Int) + 5 = ((6 : Nat) : Int)) (rfl : 1 + 3 = 4)) (v_ret (v_iload_n (i := 0) dX7_inSeries_4 rfl (rfl : 4 + 1 = 5)) dX7_inSeries_5) v_nop) (v_seq (v_lstore_n (i := 3) (v_jc (v_zeq_f (v_iload_n (i := 2) dX7_inSeries_6 rfl (rfl : 6 + 1 = 7)) dX7_inSeries_7 (rfl : ((7 : Nat) : Int) + 17 = ((24 : Nat) : Int)) (rfl : 7 + 3 = 10)) (vj_goto (v_csj IX2_over hX2_over lk435 ⟨by decide, by decide⟩ (by decide) (v_aj (v_i2l (v_imul (v_iload_n (i := 0) dX7_inSeries_10 rfl (rfl : 10 + 1 = 11)) (v_iload_n (i := 1) dX7_inSeries_11 rfl (rfl : 11 + 1 = 12)) dX7_inSeries_12 (rfl : 12 + 1 = 13)) dX7_inSeries_13 (rfl : 13 + 1 = 14)) (v_aj (v_i2l (v_iadd (v_iload_n (i := 0) dX7_inSeries_14 rfl (rfl : 14 + 1 = 15)) (v_iload_n (i := 1) dX7_inSeries_15 rfl (rfl : 15 + 1 = 16)) dX7_inSeries_16 (rfl : 16 + 1 = 17)) dX7_inSeries_17 (rfl : 17 + 1 = 18)) v_anil)) dX7_inSeries_18 (rfl : 18 + 3 = 21)) dX7_inSeries_21 (rfl : ((21 : Nat) : Int) + 22 = ((43 : Nat) : Int))) (v_csj IX2_over hX2_over lk435 ⟨by decide, by decide⟩ (by decide) (v_aj (v_i2l (v_imul (v_imul (v_iload_n (i := 0) dX7_inSeries_24 rfl (rfl : 24 + 1 = 25)) (v_iload_n (i := 1) dX7_inSeries_25 rfl (rfl : 25 + 1 = 26)) dX7_inSeries_26 (rfl : 26 + 1 = 27)) (v_iload_n (i := 2) dX7_inSeries_27 rfl (rfl : 27 + 1 = 28)) dX7_inSeries_28 (rfl : 28 + 1 = 29)) dX7_inSeries_29 (rfl : 29 + 1 = 30)) (v_aj (v_i2l (v_iadd (v_imul (v_iload_n (i := 0) dX7_inSeries_30 rfl (rfl : 30 + 1 = 31)) (v_iload_n (i := 1) dX7_inSeries_31 rfl (rfl : 31 + 1 = 32)) dX7_inSeries_32 (rfl : 32 + 1 = 33)) (v_imul (v_iadd (v_iload_n (i := 0) dX7_inSeries_33 rfl (rfl : 33 + 1 = 34)) (v_iload_n (i := 1) dX7_inSeries_34 rfl (rfl : 34 + 1 = 35)) dX7_inSeries_35 (rfl : 35 + 1 = 36)) (v_iload_n (i := 2) dX7_inSeries_36 rfl (rfl : 36 + 1 = 37)) dX7_inSeries_37 (rfl : 37 + 1 = 38)) dX7_inSeries_38 (rfl : 38 + 1 = 39)) dX7_inSeries_39 (rfl : 39 + 1 = 40)) v_anil)) dX7_inSeries_40 (rfl : 40 + 3 = 43))) dX7_inSeries_43 rfl (by decide) (rfl : 43 + 1 = 44)) (v_ret (v_l2i (v_mxj lk438 ma_mxj_s lkMath ma_mxj_c ⟨by decide, by decide⟩ (v_lconst (v := 1) dX7_inSeries_44 (by decide) (rfl : 44 + 1 = 45)) (v_lload_n (i := 3) dX7_inSeries_45 rfl (rfl : 45 + 1 = 46)) dX7_inSeries_46 (rfl : 46 + 3 = 49)) dX7_inSeries_49 (rfl : 49 + 1 = 50)) dX7_inSeries_50)))
theorem IX7_inSeries : Mi yX7_inSeries cX7_inSeries 5 (rmk 1 40) DX7_inSeries := mk_i (by decide +kernel) BX7_inSeries

theorem dX7_leak_0 : decode cX7_leak 0 = .ok (.iload_n 2, 1) := by decide +kernel
theorem dX7_leak_1 : decode cX7_leak 1 = .ok (.iconst 0, 1) := by decide +kernel
theorem dX7_leak_2 : decode cX7_leak 2 = .ok (.bipush 60, 2) := by decide +kernel
theorem dX7_leak_4 : decode cX7_leak 4 = .ok (.invokestatic 75, 3) := by decide +kernel
theorem dX7_leak_7 : decode cX7_leak 7 = .ok (.ifCond .ne 9, 3) := by decide +kernel
theorem dX7_leak_10 : decode cX7_leak 10 = .ok (.aload_n 0, 1) := by decide +kernel
theorem dX7_leak_11 : decode cX7_leak 11 = .ok (.iconst (-1), 1) := by decide +kernel
theorem dX7_leak_12 : decode cX7_leak 12 = .ok (.invokevirtual 79, 3) := by decide +kernel
theorem dX7_leak_15 : decode cX7_leak 15 = .ok (.ireturn, 1) := by decide +kernel
theorem dX7_leak_16 : decode cX7_leak 16 = .ok (.iload_n 2, 1) := by decide +kernel
theorem dX7_leak_17 : decode cX7_leak 17 = .ok (.ifCond .eq 21, 3) := by decide +kernel
theorem dX7_leak_20 : decode cX7_leak 20 = .ok (.aload_n 0, 1) := by decide +kernel
theorem dX7_leak_21 : decode cX7_leak 21 = .ok (.getfield 10, 3) := by decide +kernel
theorem dX7_leak_24 : decode cX7_leak 24 = .ok (.iload_n 1, 1) := by decide +kernel
theorem dX7_leak_25 : decode cX7_leak 25 = .ok (.invokevirtual 160, 3) := by decide +kernel
theorem dX7_leak_28 : decode cX7_leak 28 = .ok (.ifCond .ne 10, 3) := by decide +kernel
theorem dX7_leak_31 : decode cX7_leak 31 = .ok (.aload_n 0, 1) := by decide +kernel
theorem dX7_leak_32 : decode cX7_leak 32 = .ok (.bipush (-2), 2) := by decide +kernel
theorem dX7_leak_34 : decode cX7_leak 34 = .ok (.invokevirtual 79, 3) := by decide +kernel
theorem dX7_leak_37 : decode cX7_leak 37 = .ok (.ireturn, 1) := by decide +kernel
theorem dX7_leak_38 : decode cX7_leak 38 = .ok (.aload_n 0, 1) := by decide +kernel
theorem dX7_leak_39 : decode cX7_leak 39 = .ok (.bipush 7, 2) := by decide +kernel
theorem dX7_leak_41 : decode cX7_leak 41 = .ok (.invokevirtual 86, 3) := by decide +kernel
theorem dX7_leak_44 : decode cX7_leak 44 = .ok (.aload_n 0, 1) := by decide +kernel
theorem dX7_leak_45 : decode cX7_leak 45 = .ok (.getfield 10, 3) := by decide +kernel
theorem dX7_leak_48 : decode cX7_leak 48 = .ok (.getfield 163, 3) := by decide +kernel
theorem dX7_leak_51 : decode cX7_leak 51 = .ok (.istore_n 3, 1) := by decide +kernel
theorem dX7_leak_52 : decode cX7_leak 52 = .ok (.aload_n 0, 1) := by decide +kernel
theorem dX7_leak_53 : decode cX7_leak 53 = .ok (.getfield 10, 3) := by decide +kernel
theorem dX7_leak_56 : decode cX7_leak 56 = .ok (.iload_n 1, 1) := by decide +kernel
theorem dX7_leak_57 : decode cX7_leak 57 = .ok (.iload_n 2, 1) := by decide +kernel
theorem dX7_leak_58 : decode cX7_leak 58 = .ok (.invokevirtual 166, 3) := by decide +kernel
theorem dX7_leak_61 : decode cX7_leak 61 = .ok (.iload_n 3, 1) := by decide +kernel
theorem dX7_leak_62 : decode cX7_leak 62 = .ok (.ireturn, 1) := by decide +kernel
noncomputable def EX7_leak : Sx := (sseq (sif (bnot (bz cne (csz DX7_within (ai (il 2) (ai (ik 0) (ai (ik 60) anil)))))) (sret (cvi 6 DX7_refuse (rl 0) (ai (ik (-1)) anil))) snop) (sseq (sif (band (bz cne (il 2)) (bnot (bz cne (cvz 1 DX1_isJoint (fgr 6 0 (rl 0)) (ai (il 1) anil))))) (sret (cvi 6 DX7_refuse (rl 0) (ai (ik (-2)) anil))) snop) (sseq (scv 6 DX7_accept (rl 0) (ai (ik 7) anil)) (sseq (ssi 3 (fgi 1 6 (fgr 6 0 (rl 0)))) (sseq (scv 1 DX1_putLeak (fgr 6 0 (rl 0)) (ai (il 1) (ai (il 2) anil))) (sret (il 3)))))))
noncomputable def DX7_leak : Fi := mfi 4 EX7_leak
set_option maxRecDepth 4000 in
theorem BX7_leak : Vs RX7 cX7_leak 4 (rmk 5 128) 0 0 EX7_leak := (v_seq (v_if (v_not (v_zne_t (v_csz IX7_within hX7_within lk392 ⟨by decide, by decide⟩ (by decide) (v_ai (v_iload_n (i := 2) dX7_leak_0 rfl (rfl : 0 + 1 = 1)) (v_ai (v_iconst (v := 0) dX7_leak_1 (by decide) (rfl : 1 + 1 = 2)) (v_ai (v_bipush (v := 60) dX7_leak_2 (by decide) (rfl : 2 + 2 = 4)) v_anil))) dX7_leak_4 (rfl : 4 + 3 = 7)) dX7_leak_7 (rfl : ((7 : Nat) : Int) + 9 = ((16 : Nat) : Int)) (rfl : 7 + 3 = 10))) (v_ret (v_cvi kX7 IX7_refuse hX7_refuse lk395 ⟨by decide, by decide⟩ (by decide) (v_aload_n (i := 0) dX7_leak_10 rfl (rfl : 10 + 1 = 11)) (v_ai (v_iconst (v := (-1)) dX7_leak_11 (by decide) (rfl : 11 + 1 = 12)) v_anil) dX7_leak_12 (rfl : 12 + 3 = 15)) dX7_leak_15) v_nop) (v_seq (v_if (v_and (v_zne_f (v_iload_n (i := 2) dX7_leak_16 rfl (rfl : 16 + 1 = 17)) dX7_leak_17 (rfl : ((17 : Nat) : Int) + 21 = ((38 : Nat) : Int)) (rfl : 17 + 3 = 20)) (v_not (v_zne_t (v_cvz kX1 IX1_isJoint hX1_isJoint lk507 ⟨by decide, by decide⟩ (by decide) (v_gfr kX7 lk351 (by decide) rfl (v_aload_n (i := 0) dX7_leak_20 rfl (rfl : 20 + 1 = 21)) dX7_leak_21 (rfl : 21 + 3 = 24)) (v_ai (v_iload_n (i := 1) dX7_leak_24 rfl (rfl : 24 + 1 = 25)) v_anil) dX7_leak_25 (rfl : 25 + 3 = 28)) dX7_leak_28 (rfl : ((28 : Nat) : Int) + 10 = ((38 : Nat) : Int)) (rfl : 28 + 3 = 31)))) (v_ret (v_cvi kX7 IX7_refuse hX7_refuse lk395 ⟨by decide, by decide⟩ (by decide) (v_aload_n (i := 0) dX7_leak_31 rfl (rfl : 31 + 1 = 32)) (v_ai (v_bipush (v := (-2)) dX7_leak_32 (by decide) (rfl : 32 + 2 = 34)) v_anil) dX7_leak_34 (rfl : 34 + 3 = 37)) dX7_leak_37) v_nop) (v_seq (v_scv kX7 IX7_accept hX7_accept lk399 ⟨by decide, by decide⟩ (v_aload_n (i := 0) dX7_leak_38 rfl (rfl : 38 + 1 = 39)) (v_ai (v_bipush (v := 7) dX7_leak_39 (by decide) (rfl : 39 + 2 = 41)) v_anil) dX7_leak_41 (rfl : 41 + 3 = 44)) (v_seq (v_istore_n (i := 3) (v_gfi kX1 lk146 (by decide) rfl (v_gfr kX7 lk351 (by decide) rfl (v_aload_n (i := 0) dX7_leak_44 rfl (rfl : 44 + 1 = 45)) dX7_leak_45 (rfl : 45 + 3 = 48)) dX7_leak_48 (rfl : 48 + 3 = 51)) dX7_leak_51 rfl (by decide) (rfl : 51 + 1 = 52)) (v_seq (v_scv kX1 IX1_putLeak hX1_putLeak lk511 ⟨by decide, by decide⟩ (v_gfr kX7 lk351 (by decide) rfl (v_aload_n (i := 0) dX7_leak_52 rfl (rfl : 52 + 1 = 53)) dX7_leak_53 (rfl : 53 + 3 = 56)) (v_ai (v_iload_n (i := 1) dX7_leak_56 rfl (rfl : 56 + 1 = 57)) (v_ai (v_iload_n (i := 2) dX7_leak_57 rfl (rfl : 57 + 1 = 58)) v_anil)) dX7_leak_58 (rfl : 58 + 3 = 61)) (v_ret (v_iload_n (i := 3) dX7_leak_61 rfl (rfl : 61 + 1 = 62)) dX7_leak_62))))))
theorem IX7_leak : Mi yX7_leak cX7_leak 4 (rmk 5 128) DX7_leak := mk_i (by decide +kernel) BX7_leak

theorem dX7_log_0 : decode cX7_log 0 = .ok (.aload_n 0, 1) := by decide +kernel
theorem dX7_log_1 : decode cX7_log 1 = .ok (.iload_n 1, 1) := by decide +kernel
theorem dX7_log_2 : decode cX7_log 2 = .ok (.invokevirtual 97, 3) := by decide +kernel
theorem dX7_log_5 : decode cX7_log 5 = .ok (.ifCond .eq 20, 3) := by decide +kernel
theorem dX7_log_8 : decode cX7_log 8 = .ok (.iload_n 2, 1) := by decide +kernel
theorem dX7_log_9 : decode cX7_log 9 = .ok (.iconst 0, 1) := by decide +kernel
theorem dX7_log_10 : decode cX7_log 10 = .ok (.aload_n 0, 1) := by decide +kernel
theorem dX7_log_11 : decode cX7_log 11 = .ok (.getfield 10, 3) := by decide +kernel
theorem dX7_log_14 : decode cX7_log 14 = .ok (.invokevirtual 310, 3) := by decide +kernel
theorem dX7_log_17 : decode cX7_log 17 = .ok (.iconst 1, 1) := by decide +kernel
theorem dX7_log_18 : decode cX7_log 18 = .ok (.isub, 1) := by decide +kernel
theorem dX7_log_19 : decode cX7_log 19 = .ok (.invokestatic 75, 3) := by decide +kernel
theorem dX7_log_22 : decode cX7_log 22 = .ok (.ifCond .ne 5, 3) := by decide +kernel
theorem dX7_log_25 : decode cX7_log 25 = .ok (.iconst (-1), 1) := by decide +kernel
theorem dX7_log_26 : decode cX7_log 26 = .ok (.ireturn, 1) := by decide +kernel
theorem dX7_log_27 : decode cX7_log 27 = .ok (.aload_n 0, 1) := by decide +kernel
theorem dX7_log_28 : decode cX7_log 28 = .ok (.getfield 10, 3) := by decide +kernel
theorem dX7_log_31 : decode cX7_log 31 = .ok (.getfield 314, 3) := by decide +kernel
theorem dX7_log_34 : decode cX7_log 34 = .ok (.aload_n 0, 1) := by decide +kernel
theorem dX7_log_35 : decode cX7_log 35 = .ok (.getfield 10, 3) := by decide +kernel
theorem dX7_log_38 : decode cX7_log 38 = .ok (.getfield 184, 3) := by decide +kernel
theorem dX7_log_41 : decode cX7_log 41 = .ok (.iconst 1, 1) := by decide +kernel
theorem dX7_log_42 : decode cX7_log 42 = .ok (.isub, 1) := by decide +kernel
theorem dX7_log_43 : decode cX7_log 43 = .ok (.iload_n 2, 1) := by decide +kernel
theorem dX7_log_44 : decode cX7_log 44 = .ok (.isub, 1) := by decide +kernel
theorem dX7_log_45 : decode cX7_log 45 = .ok (.iload_n 1, 1) := by decide +kernel
theorem dX7_log_46 : decode cX7_log 46 = .ok (.invokestatic 317, 3) := by decide +kernel
theorem dX7_log_49 : decode cX7_log 49 = .ok (.iaload, 1) := by decide +kernel
theorem dX7_log_50 : decode cX7_log 50 = .ok (.ireturn, 1) := by decide +kernel
noncomputable def EX7_log : Sx := (sseq (sif (bor (bnot (bz cne (cvz 6 DX7_isChamber (rl 0) (ai (il 1) anil)))) (bnot (bz cne (csz DX7_within (ai (il 2) (ai (ik 0) (ai (i2 (· - ·) (cvi 1 DX1_logged (fgr 6 0 (rl 0)) anil) (ik 1)) anil))))))) (sret (ik (-1))) snop) (sret (iald (fgr 1 13 (fgr 6 0 (rl 0))) (csi DX1_logPlace (ai (i2 (· - ·) (i2 (· - ·) (fgi 1 4 (fgr 6 0 (rl 0))) (ik 1)) (il 2)) (ai (il 1) anil))))))
noncomputable def DX7_log : Fi := mfi 3 EX7_log
set_option maxRecDepth 4000 in
theorem BX7_log : Vs RX7 cX7_log 3 (rmk 2 60) 0 0 EX7_log := (v_seq (v_if (v_or (v_not (v_zne_f (v_cvz kX7 IX7_isChamber hX7_isChamber lk428 ⟨by decide, by decide⟩ (by decide) (v_aload_n (i := 0) dX7_log_0 rfl (rfl : 0 + 1 = 1)) (v_ai (v_iload_n (i := 1) dX7_log_1 rfl (rfl : 1 + 1 = 2)) v_anil) dX7_log_2 (rfl : 2 + 3 = 5)) dX7_log_5 (rfl : ((5 : Nat) : Int) + 20 = ((25 : Nat) : Int)) (rfl : 5 + 3 = 8))) (v_not (v_zne_t (v_csz IX7_within hX7_within lk392 ⟨by decide, by decide⟩ (by decide) (v_ai (v_iload_n (i := 2) dX7_log_8 rfl (rfl : 8 + 1 = 9)) (v_ai (v_iconst (v := 0) dX7_log_9 (by decide) (rfl : 9 + 1 = 10)) (v_ai (v_isub (v_cvi kX1 IX1_logged hX1_logged lk947 ⟨by decide, by decide⟩ (by decide) (v_gfr kX7 lk351 (by decide) rfl (v_aload_n (i := 0) dX7_log_10 rfl (rfl : 10 + 1 = 11)) dX7_log_11 (rfl : 11 + 3 = 14)) v_anil dX7_log_14 (rfl : 14 + 3 = 17)) (v_iconst (v := 1) dX7_log_17 (by decide) (rfl : 17 + 1 = 18)) dX7_log_18 (rfl : 18 + 1 = 19)) v_anil))) dX7_log_19 (rfl : 19 + 3 = 22)) dX7_log_22 (rfl : ((22 : Nat) : Int) + 5 = ((27 : Nat) : Int)) (rfl : 22 + 3 = 25)))) (v_ret (v_iconst (v := (-1)) dX7_log_25 (by decide) (rfl : 25 + 1 = 26)) dX7_log_26) v_nop) (v_ret (v_iald (v_gfr kX1 lk167 (by decide) rfl (v_gfr kX7 lk351 (by decide) rfl (v_aload_n (i := 0) dX7_log_27 rfl (rfl : 27 + 1 = 28)) dX7_log_28 (rfl : 28 + 3 = 31)) dX7_log_31 (rfl : 31 + 3 = 34)) (v_csi IX1_logPlace hX1_logPlace lk952 ⟨by decide, by decide⟩ (by decide) (v_ai (v_isub (v_isub (v_gfi kX1 lk142 (by decide) rfl (v_gfr kX7 lk351 (by decide) rfl (v_aload_n (i := 0) dX7_log_34 rfl (rfl : 34 + 1 = 35)) dX7_log_35 (rfl : 35 + 3 = 38)) dX7_log_38 (rfl : 38 + 3 = 41)) (v_iconst (v := 1) dX7_log_41 (by decide) (rfl : 41 + 1 = 42)) dX7_log_42 (rfl : 42 + 1 = 43)) (v_iload_n (i := 2) dX7_log_43 rfl (rfl : 43 + 1 = 44)) dX7_log_44 (rfl : 44 + 1 = 45)) (v_ai (v_iload_n (i := 1) dX7_log_45 rfl (rfl : 45 + 1 = 46)) v_anil)) dX7_log_46 (rfl : 46 + 3 = 49)) dX7_log_49 (rfl : 49 + 1 = 50)) dX7_log_50))
theorem IX7_log : Mi yX7_log cX7_log 3 (rmk 2 60) DX7_log := mk_i (by decide +kernel) BX7_log

theorem dX7_lookout_0 : decode cX7_lookout 0 = .ok (.aload_n 0, 1) := by decide +kernel
theorem dX7_lookout_1 : decode cX7_lookout 1 = .ok (.getfield 22, 3) := by decide +kernel
theorem dX7_lookout_4 : decode cX7_lookout 4 = .ok (.aload_n 0, 1) := by decide +kernel
theorem dX7_lookout_5 : decode cX7_lookout 5 = .ok (.getfield 10, 3) := by decide +kernel
theorem dX7_lookout_8 : decode cX7_lookout 8 = .ok (.invokevirtual 191, 3) := by decide +kernel
theorem dX7_lookout_11 : decode cX7_lookout 11 = .ok (.iconst 0, 1) := by decide +kernel
theorem dX7_lookout_12 : decode cX7_lookout 12 = .ok (.istore_n 1, 1) := by decide +kernel
theorem dX7_lookout_13 : decode cX7_lookout 13 = .ok (.iconst 0, 1) := by decide +kernel
theorem dX7_lookout_14 : decode cX7_lookout 14 = .ok (.istore_n 2, 1) := by decide +kernel
theorem dX7_lookout_15 : decode cX7_lookout 15 = .ok (.iload_n 2, 1) := by decide +kernel
theorem dX7_lookout_16 : decode cX7_lookout 16 = .ok (.aload_n 0, 1) := by decide +kernel
theorem dX7_lookout_17 : decode cX7_lookout 17 = .ok (.getfield 10, 3) := by decide +kernel
theorem dX7_lookout_20 : decode cX7_lookout 20 = .ok (.getfield 171, 3) := by decide +kernel
theorem dX7_lookout_23 : decode cX7_lookout 23 = .ok (.if_icmp .ge 30, 3) := by decide +kernel
theorem dX7_lookout_26 : decode cX7_lookout 26 = .ok (.aload_n 0, 1) := by decide +kernel
theorem dX7_lookout_27 : decode cX7_lookout 27 = .ok (.getfield 31, 3) := by decide +kernel
theorem dX7_lookout_30 : decode cX7_lookout 30 = .ok (.aload_n 0, 1) := by decide +kernel
theorem dX7_lookout_31 : decode cX7_lookout 31 = .ok (.getfield 10, 3) := by decide +kernel
theorem dX7_lookout_34 : decode cX7_lookout 34 = .ok (.iload_n 2, 1) := by decide +kernel
theorem dX7_lookout_35 : decode cX7_lookout 35 = .ok (.invokevirtual 307, 3) := by decide +kernel
theorem dX7_lookout_38 : decode cX7_lookout 38 = .ok (.ifCond .eq 9, 3) := by decide +kernel
theorem dX7_lookout_41 : decode cX7_lookout 41 = .ok (.iload_n 1, 1) := by decide +kernel
theorem dX7_lookout_42 : decode cX7_lookout 42 = .ok (.iconst 1, 1) := by decide +kernel
theorem dX7_lookout_43 : decode cX7_lookout 43 = .ok (.iload_n 2, 1) := by decide +kernel
theorem dX7_lookout_44 : decode cX7_lookout 44 = .ok (.ishl, 1) := by decide +kernel
theorem dX7_lookout_45 : decode cX7_lookout 45 = .ok (.ior, 1) := by decide +kernel
theorem dX7_lookout_46 : decode cX7_lookout 46 = .ok (.istore_n 1, 1) := by decide +kernel
theorem dX7_lookout_47 : decode cX7_lookout 47 = .ok (.iinc 2 1, 3) := by decide +kernel
theorem dX7_lookout_50 : decode cX7_lookout 50 = .ok (.goto (-35), 3) := by decide +kernel
theorem dX7_lookout_53 : decode cX7_lookout 53 = .ok (.iload_n 1, 1) := by decide +kernel
theorem dX7_lookout_54 : decode cX7_lookout 54 = .ok (.ireturn, 1) := by decide +kernel
noncomputable def qX7_lookout_1 : Bx := (bc clt (il 2) (fgi 1 3 (fgr 6 0 (rl 0))))
noncomputable def wX7_lookout_1 : Sx := (sseq (sif (bz cne (cvz 5 DX6_isSo (fgr 6 3 (rl 0)) (ar (fgr 6 0 (rl 0)) (ai (il 2) anil)))) (ssi 1 (i2 (· ||| ·) (il 1) (i2 oshl (ik 1) (il 2)))) snop) (sinc 2 1))
noncomputable def EX7_lookout : Sx := (sseq (scv 0 DX0_solve (fgr 6 2 (rl 0)) (ar (fgr 6 0 (rl 0)) anil)) (sseq (ssi 1 (ik 0)) (sseq (scut 2 (sseq (ssi 2 (ik 0)) (swh qX7_lookout_1 wX7_lookout_1))) (sret (il 1)))))
noncomputable def DX7_lookout : Fi := mfi 3 EX7_lookout
set_option maxRecDepth 4000 in
theorem BX7_lookout : Vs RX7 cX7_lookout 3 (rmk 4 106) 0 0 EX7_lookout := (v_seq (v_scv kX0 IX0_solve hX0_solve lk701 ⟨by decide, by decide⟩ (v_gfr kX7 lk353 (by decide) rfl (v_aload_n (i := 0) dX7_lookout_0 rfl (rfl : 0 + 1 = 1)) dX7_lookout_1 (rfl : 1 + 3 = 4)) (v_ar (v_gfr kX7 lk351 (by decide) rfl (v_aload_n (i := 0) dX7_lookout_4 rfl (rfl : 4 + 1 = 5)) dX7_lookout_5 (rfl : 5 + 3 = 8)) v_anil) dX7_lookout_8 (rfl : 8 + 3 = 11)) (v_seq (v_istore_n (i := 1) (v_iconst (v := 0) dX7_lookout_11 (by decide) (rfl : 11 + 1 = 12)) dX7_lookout_12 rfl (by decide) (rfl : 12 + 1 = 13)) (v_seq (v_cut (n := 2) (v_seq (v_istore_n (i := 2) (v_iconst (v := 0) dX7_lookout_13 (by decide) (rfl : 13 + 1 = 14)) dX7_lookout_14 rfl (by decide) (rfl : 14 + 1 = 15)) (v_wh (v_ilt_f (v_iload_n (i := 2) dX7_lookout_15 rfl (rfl : 15 + 1 = 16)) (v_gfi kX1 lk139 (by decide) rfl (v_gfr kX7 lk351 (by decide) rfl (v_aload_n (i := 0) dX7_lookout_16 rfl (rfl : 16 + 1 = 17)) dX7_lookout_17 (rfl : 17 + 3 = 20)) dX7_lookout_20 (rfl : 20 + 3 = 23)) dX7_lookout_23 (rfl : ((23 : Nat) : Int) + 30 = ((53 : Nat) : Int)) (rfl : 23 + 3 = 26)) (vs_goto (v_seq (v_if (v_zne_f (v_cvz kX6 IX6_isSo hX6_isSo lk930 ⟨by decide, by decide⟩ (by decide) (v_gfr kX7 lk354 (by decide) rfl (v_aload_n (i := 0) dX7_lookout_26 rfl (rfl : 26 + 1 = 27)) dX7_lookout_27 (rfl : 27 + 3 = 30)) (v_ar (v_gfr kX7 lk351 (by decide) rfl (v_aload_n (i := 0) dX7_lookout_30 rfl (rfl : 30 + 1 = 31)) dX7_lookout_31 (rfl : 31 + 3 = 34)) (v_ai (v_iload_n (i := 2) dX7_lookout_34 rfl (rfl : 34 + 1 = 35)) v_anil)) dX7_lookout_35 (rfl : 35 + 3 = 38)) dX7_lookout_38 (rfl : ((38 : Nat) : Int) + 9 = ((47 : Nat) : Int)) (rfl : 38 + 3 = 41)) (v_istore_n (i := 1) (v_ior (v_iload_n (i := 1) dX7_lookout_41 rfl (rfl : 41 + 1 = 42)) (v_ishl (v_iconst (v := 1) dX7_lookout_42 (by decide) (rfl : 42 + 1 = 43)) (v_iload_n (i := 2) dX7_lookout_43 rfl (rfl : 43 + 1 = 44)) dX7_lookout_44 (rfl : 44 + 1 = 45)) dX7_lookout_45 (rfl : 45 + 1 = 46)) dX7_lookout_46 rfl (by decide) (rfl : 46 + 1 = 47)) v_nop) (v_iinc (v := 1) dX7_lookout_47 (by decide) (by decide) (rfl : 47 + 3 = 50))) dX7_lookout_50 (rfl : ((50 : Nat) : Int) + (-35) = ((15 : Nat) : Int)))))) (v_ret (v_iload_n (i := 1) dX7_lookout_53 rfl (rfl : 53 + 1 = 54)) dX7_lookout_54))))
theorem IX7_lookout : Mi yX7_lookout cX7_lookout 3 (rmk 4 106) DX7_lookout := mk_i (by decide +kernel) BX7_lookout

theorem dX7_note_0 : decode cX7_note 0 = .ok (.iload_n 2, 1) := by decide +kernel
theorem dX7_note_1 : decode cX7_note 1 = .ok (.iconst (-1), 1) := by decide +kernel
theorem dX7_note_2 : decode cX7_note 2 = .ok (.ldc 170, 2) := by decide +kernel
theorem dX7_note_4 : decode cX7_note 4 = .ok (.invokestatic 75, 3) := by decide +kernel
theorem dX7_note_7 : decode cX7_note 7 = .ok (.ifCond .ne 9, 3) := by decide +kernel
theorem dX7_note_10 : decode cX7_note 10 = .ok (.aload_n 0, 1) := by decide +kernel
theorem dX7_note_11 : decode cX7_note 11 = .ok (.iconst (-1), 1) := by decide +kernel
theorem dX7_note_12 : decode cX7_note 12 = .ok (.invokevirtual 79, 3) := by decide +kernel
theorem dX7_note_15 : decode cX7_note 15 = .ok (.ireturn, 1) := by decide +kernel
theorem dX7_note_16 : decode cX7_note 16 = .ok (.aload_n 0, 1) := by decide +kernel
theorem dX7_note_17 : decode cX7_note 17 = .ok (.iload_n 1, 1) := by decide +kernel
theorem dX7_note_18 : decode cX7_note 18 = .ok (.invokevirtual 97, 3) := by decide +kernel
theorem dX7_note_21 : decode cX7_note 21 = .ok (.ifCond .ne 10, 3) := by decide +kernel
theorem dX7_note_24 : decode cX7_note 24 = .ok (.aload_n 0, 1) := by decide +kernel
theorem dX7_note_25 : decode cX7_note 25 = .ok (.bipush (-2), 2) := by decide +kernel
theorem dX7_note_27 : decode cX7_note 27 = .ok (.invokevirtual 79, 3) := by decide +kernel
theorem dX7_note_30 : decode cX7_note 30 = .ok (.ireturn, 1) := by decide +kernel
theorem dX7_note_31 : decode cX7_note 31 = .ok (.aload_n 0, 1) := by decide +kernel
theorem dX7_note_32 : decode cX7_note 32 = .ok (.bipush 11, 2) := by decide +kernel
theorem dX7_note_34 : decode cX7_note 34 = .ok (.invokevirtual 86, 3) := by decide +kernel
theorem dX7_note_37 : decode cX7_note 37 = .ok (.aload_n 0, 1) := by decide +kernel
theorem dX7_note_38 : decode cX7_note 38 = .ok (.getfield 10, 3) := by decide +kernel
theorem dX7_note_41 : decode cX7_note 41 = .ok (.getfield 147, 3) := by decide +kernel
theorem dX7_note_44 : decode cX7_note 44 = .ok (.iload_n 1, 1) := by decide +kernel
theorem dX7_note_45 : decode cX7_note 45 = .ok (.aaload, 1) := by decide +kernel
theorem dX7_note_46 : decode cX7_note 46 = .ok (.iconst 3, 1) := by decide +kernel
theorem dX7_note_47 : decode cX7_note 47 = .ok (.iload_n 2, 1) := by decide +kernel
theorem dX7_note_48 : decode cX7_note 48 = .ok (.invokestatic 143, 3) := by decide +kernel
theorem dX7_note_51 : decode cX7_note 51 = .ok (.ireturn, 1) := by decide +kernel
noncomputable def EX7_note : Sx := (sseq (sif (bnot (bz cne (csz DX7_within (ai (il 2) (ai (ik (-1)) (ai (ik 99999999) anil)))))) (sret (cvi 6 DX7_refuse (rl 0) (ai (ik (-1)) anil))) snop) (sseq (sif (bnot (bz cne (cvz 6 DX7_isChamber (rl 0) (ai (il 1) anil)))) (sret (cvi 6 DX7_refuse (rl 0) (ai (ik (-2)) anil))) snop) (sseq (scv 6 DX7_accept (rl 0) (ai (ik 11) anil)) (sret (csi DX7_swap (ar (rald 12 (fgr 1 9 (fgr 6 0 (rl 0))) (il 1)) (ai (ik 3) (ai (il 2) anil))))))))
noncomputable def DX7_note : Fi := mfi 3 EX7_note
set_option maxRecDepth 4000 in
theorem BX7_note : Vs RX7 cX7_note 3 (rmk 5 128) 0 0 EX7_note := (v_seq (v_if (v_not (v_zne_t (v_csz IX7_within hX7_within lk392 ⟨by decide, by decide⟩ (by decide) (v_ai (v_iload_n (i := 2) dX7_note_0 rfl (rfl : 0 + 1 = 1)) (v_ai (v_iconst (v := (-1)) dX7_note_1 (by decide) (rfl : 1 + 1 = 2)) (v_ai (v_ldc (v := 99999999) lk519 dX7_note_2 (rfl : 2 + 2 = 4)) v_anil))) dX7_note_4 (rfl : 4 + 3 = 7)) dX7_note_7 (rfl : ((7 : Nat) : Int) + 9 = ((16 : Nat) : Int)) (rfl : 7 + 3 = 10))) (v_ret (v_cvi kX7 IX7_refuse hX7_refuse lk395 ⟨by decide, by decide⟩ (by decide) (v_aload_n (i := 0) dX7_note_10 rfl (rfl : 10 + 1 = 11)) (v_ai (v_iconst (v := (-1)) dX7_note_11 (by decide) (rfl : 11 + 1 = 12)) v_anil) dX7_note_12 (rfl : 12 + 3 = 15)) dX7_note_15) v_nop) (v_seq (v_if (v_not (v_zne_t (v_cvz kX7 IX7_isChamber hX7_isChamber lk428 ⟨by decide, by decide⟩ (by decide) (v_aload_n (i := 0) dX7_note_16 rfl (rfl : 16 + 1 = 17)) (v_ai (v_iload_n (i := 1) dX7_note_17 rfl (rfl : 17 + 1 = 18)) v_anil) dX7_note_18 (rfl : 18 + 3 = 21)) dX7_note_21 (rfl : ((21 : Nat) : Int) + 10 = ((31 : Nat) : Int)) (rfl : 21 + 3 = 24))) (v_ret (v_cvi kX7 IX7_refuse hX7_refuse lk395 ⟨by decide, by decide⟩ (by decide) (v_aload_n (i := 0) dX7_note_24 rfl (rfl : 24 + 1 = 25)) (v_ai (v_bipush (v := (-2)) dX7_note_25 (by decide) (rfl : 25 + 2 = 27)) v_anil) dX7_note_27 (rfl : 27 + 3 = 30)) dX7_note_30) v_nop) (v_seq (v_scv kX7 IX7_accept hX7_accept lk399 ⟨by decide, by decide⟩ (v_aload_n (i := 0) dX7_note_31 rfl (rfl : 31 + 1 = 32)) (v_ai (v_bipush (v := 11) dX7_note_32 (by decide) (rfl : 32 + 2 = 34)) v_anil) dX7_note_34 (rfl : 34 + 3 = 37)) (v_ret (v_csi IX7_swap hX7_swap lk480 ⟨by decide, by decide⟩ (by decide) (v_ar (v_rald (q := 12) (t0 := 4) (ty0 := .array .int) ⟨by decide, by decide⟩ (fun _ => rfl) rfl (v_gfr kX1 lk153 (by decide) rfl (v_gfr kX7 lk351 (by decide) rfl (v_aload_n (i := 0) dX7_note_37 rfl (rfl : 37 + 1 = 38)) dX7_note_38 (rfl : 38 + 3 = 41)) dX7_note_41 (rfl : 41 + 3 = 44)) (v_iload_n (i := 1) dX7_note_44 rfl (rfl : 44 + 1 = 45)) dX7_note_45 (rfl : 45 + 1 = 46)) (v_ai (v_iconst (v := 3) dX7_note_46 (by decide) (rfl : 46 + 1 = 47)) (v_ai (v_iload_n (i := 2) dX7_note_47 rfl (rfl : 47 + 1 = 48)) v_anil))) dX7_note_48 (rfl : 48 + 3 = 51)) dX7_note_51))))
theorem IX7_note : Mi yX7_note cX7_note 3 (rmk 5 128) DX7_note := mk_i (by decide +kernel) BX7_note

theorem dX7_noteAll_0 : decode cX7_noteAll 0 = .ok (.aload_n 0, 1) := by decide +kernel
theorem dX7_noteAll_1 : decode cX7_noteAll 1 = .ok (.getfield 22, 3) := by decide +kernel
theorem dX7_noteAll_4 : decode cX7_noteAll 4 = .ok (.aload_n 0, 1) := by decide +kernel
theorem dX7_noteAll_5 : decode cX7_noteAll 5 = .ok (.getfield 10, 3) := by decide +kernel
theorem dX7_noteAll_8 : decode cX7_noteAll 8 = .ok (.invokevirtual 191, 3) := by decide +kernel
theorem dX7_noteAll_11 : decode cX7_noteAll 11 = .ok (.aload_n 0, 1) := by decide +kernel
theorem dX7_noteAll_12 : decode cX7_noteAll 12 = .ok (.getfield 22, 3) := by decide +kernel
theorem dX7_noteAll_15 : decode cX7_noteAll 15 = .ok (.invokevirtual 195, 3) := by decide +kernel
theorem dX7_noteAll_18 : decode cX7_noteAll 18 = .ok (.ifCond .eq 10, 3) := by decide +kernel
theorem dX7_noteAll_21 : decode cX7_noteAll 21 = .ok (.aload_n 0, 1) := by decide +kernel
theorem dX7_noteAll_22 : decode cX7_noteAll 22 = .ok (.bipush (-4), 2) := by decide +kernel
theorem dX7_noteAll_24 : decode cX7_noteAll 24 = .ok (.invokevirtual 79, 3) := by decide +kernel
theorem dX7_noteAll_27 : decode cX7_noteAll 27 = .ok (.ireturn, 1) := by decide +kernel
theorem dX7_noteAll_28 : decode cX7_noteAll 28 = .ok (.aload_n 0, 1) := by decide +kernel
theorem dX7_noteAll_29 : decode cX7_noteAll 29 = .ok (.bipush 12, 2) := by decide +kernel
theorem dX7_noteAll_31 : decode cX7_noteAll 31 = .ok (.invokevirtual 86, 3) := by decide +kernel
theorem dX7_noteAll_34 : decode cX7_noteAll 34 = .ok (.iconst 0, 1) := by decide +kernel
theorem dX7_noteAll_35 : decode cX7_noteAll 35 = .ok (.istore_n 1, 1) := by decide +kernel
theorem dX7_noteAll_36 : decode cX7_noteAll 36 = .ok (.iload_n 1, 1) := by decide +kernel
theorem dX7_noteAll_37 : decode cX7_noteAll 37 = .ok (.aload_n 0, 1) := by decide +kernel
theorem dX7_noteAll_38 : decode cX7_noteAll 38 = .ok (.getfield 10, 3) := by decide +kernel
theorem dX7_noteAll_41 : decode cX7_noteAll 41 = .ok (.getfield 83, 3) := by decide +kernel
theorem dX7_noteAll_44 : decode cX7_noteAll 44 = .ok (.if_icmp .ge 28, 3) := by decide +kernel
theorem dX7_noteAll_47 : decode cX7_noteAll 47 = .ok (.aload_n 0, 1) := by decide +kernel
theorem dX7_noteAll_48 : decode cX7_noteAll 48 = .ok (.getfield 10, 3) := by decide +kernel
theorem dX7_noteAll_51 : decode cX7_noteAll 51 = .ok (.getfield 147, 3) := by decide +kernel
theorem dX7_noteAll_54 : decode cX7_noteAll 54 = .ok (.iload_n 1, 1) := by decide +kernel
theorem dX7_noteAll_55 : decode cX7_noteAll 55 = .ok (.aaload, 1) := by decide +kernel
theorem dX7_noteAll_56 : decode cX7_noteAll 56 = .ok (.iconst 3, 1) := by decide +kernel
theorem dX7_noteAll_57 : decode cX7_noteAll 57 = .ok (.aload_n 0, 1) := by decide +kernel
theorem dX7_noteAll_58 : decode cX7_noteAll 58 = .ok (.getfield 22, 3) := by decide +kernel
theorem dX7_noteAll_61 : decode cX7_noteAll 61 = .ok (.iload_n 1, 1) := by decide +kernel
theorem dX7_noteAll_62 : decode cX7_noteAll 62 = .ok (.invokevirtual 199, 3) := by decide +kernel
theorem dX7_noteAll_65 : decode cX7_noteAll 65 = .ok (.iastore, 1) := by decide +kernel
theorem dX7_noteAll_66 : decode cX7_noteAll 66 = .ok (.iinc 1 1, 3) := by decide +kernel
theorem dX7_noteAll_69 : decode cX7_noteAll 69 = .ok (.goto (-33), 3) := by decide +kernel
theorem dX7_noteAll_72 : decode cX7_noteAll 72 = .ok (.aload_n 0, 1) := by decide +kernel
theorem dX7_noteAll_73 : decode cX7_noteAll 73 = .ok (.getfield 10, 3) := by decide +kernel
theorem dX7_noteAll_76 : decode cX7_noteAll 76 = .ok (.getfield 83, 3) := by decide +kernel
theorem dX7_noteAll_79 : decode cX7_noteAll 79 = .ok (.ireturn, 1) := by decide +kernel
noncomputable def qX7_noteAll_1 : Bx := (bc clt (il 1) (fgi 1 0 (fgr 6 0 (rl 0))))
noncomputable def wX7_noteAll_1 : Sx := (sseq (aii (rald 12 (fgr 1 9 (fgr 6 0 (rl 0))) (il 1)) (ik 3) (cvi 0 DX0_gauge (fgr 6 2 (rl 0)) (ai (il 1) anil))) (sinc 1 1))
noncomputable def EX7_noteAll : Sx := (sseq (scv 0 DX0_solve (fgr 6 2 (rl 0)) (ar (fgr 6 0 (rl 0)) anil)) (sseq (sif (bz cne (cvz 0 DX0_hunts (fgr 6 2 (rl 0)) anil)) (sret (cvi 6 DX7_refuse (rl 0) (ai (ik (-4)) anil))) snop) (sseq (scv 6 DX7_accept (rl 0) (ai (ik 12) anil)) (sseq (scut 1 (sseq (ssi 1 (ik 0)) (swh qX7_noteAll_1 wX7_noteAll_1))) (sret (fgi 1 0 (fgr 6 0 (rl 0))))))))
noncomputable def DX7_noteAll : Fi := mfi 2 EX7_noteAll
set_option maxRecDepth 4000 in
theorem BX7_noteAll : Vs RX7 cX7_noteAll 2 (rmk 5 128) 0 0 EX7_noteAll := (v_seq (v_scv kX0 IX0_solve hX0_solve lk701 ⟨by decide, by decide⟩ (v_gfr kX7 lk353 (by decide) rfl (v_aload_n (i := 0) dX7_noteAll_0 rfl (rfl : 0 + 1 = 1)) dX7_noteAll_1 (rfl : 1 + 3 = 4)) (v_ar (v_gfr kX7 lk351 (by decide) rfl (v_aload_n (i := 0) dX7_noteAll_4 rfl (rfl : 4 + 1 = 5)) dX7_noteAll_5 (rfl : 5 + 3 = 8)) v_anil) dX7_noteAll_8 (rfl : 8 + 3 = 11)) (v_seq (v_if (v_zne_f (v_cvz kX0 IX0_hunts hX0_hunts lk702 ⟨by decide, by decide⟩ (by decide) (v_gfr kX7 lk353 (by decide) rfl (v_aload_n (i := 0) dX7_noteAll_11 rfl (rfl : 11 + 1 = 12)) dX7_noteAll_12 (rfl : 12 + 3 = 15)) v_anil dX7_noteAll_15 (rfl : 15 + 3 = 18)) dX7_noteAll_18 (rfl : ((18 : Nat) : Int) + 10 = ((28 : Nat) : Int)) (rfl : 18 + 3 = 21)) (v_ret (v_cvi kX7 IX7_refuse hX7_refuse lk395 ⟨by decide, by decide⟩ (by decide) (v_aload_n (i := 0) dX7_noteAll_21 rfl (rfl : 21 + 1 = 22)) (v_ai (v_bipush (v := (-4)) dX7_noteAll_22 (by decide) (rfl : 22 + 2 = 24)) v_anil) dX7_noteAll_24 (rfl : 24 + 3 = 27)) dX7_noteAll_27) v_nop) (v_seq (v_scv kX7 IX7_accept hX7_accept lk399 ⟨by decide, by decide⟩ (v_aload_n (i := 0) dX7_noteAll_28 rfl (rfl : 28 + 1 = 29)) (v_ai (v_bipush (v := 12) dX7_noteAll_29 (by decide) (rfl : 29 + 2 = 31)) v_anil) dX7_noteAll_31 (rfl : 31 + 3 = 34)) (v_seq (v_cut (n := 1) (v_seq (v_istore_n (i := 1) (v_iconst (v := 0) dX7_noteAll_34 (by decide) (rfl : 34 + 1 = 35)) dX7_noteAll_35 rfl (by decide) (rfl : 35 + 1 = 36)) (v_wh (v_ilt_f (v_iload_n (i := 1) dX7_noteAll_36 rfl (rfl : 36 + 1 = 37)) (v_gfi kX1 lk124 (by decide) rfl (v_gfr kX7 lk351 (by decide) rfl (v_aload_n (i := 0) dX7_noteAll_37 rfl (rfl : 37 + 1 = 38)) dX7_noteAll_38 (rfl : 38 + 3 = 41)) dX7_noteAll_41 (rfl : 41 + 3 = 44)) dX7_noteAll_44 (rfl : ((44 : Nat) : Int) + 28 = ((72 : Nat) : Int)) (rfl : 44 + 3 = 47)) (vs_goto (v_seq (v_aii (v_rald (q := 12) (t0 := 4) (ty0 := .array .int) ⟨by decide, by decide⟩ (fun _ => rfl) rfl (v_gfr kX1 lk153 (by decide) rfl (v_gfr kX7 lk351 (by decide) rfl (v_aload_n (i := 0) dX7_noteAll_47 rfl (rfl : 47 + 1 = 48)) dX7_noteAll_48 (rfl : 48 + 3 = 51)) dX7_noteAll_51 (rfl : 51 + 3 = 54)) (v_iload_n (i := 1) dX7_noteAll_54 rfl (rfl : 54 + 1 = 55)) dX7_noteAll_55 (rfl : 55 + 1 = 56)) (v_iconst (v := 3) dX7_noteAll_56 (by decide) (rfl : 56 + 1 = 57)) (v_cvi kX0 IX0_gauge hX0_gauge lk703 ⟨by decide, by decide⟩ (by decide) (v_gfr kX7 lk353 (by decide) rfl (v_aload_n (i := 0) dX7_noteAll_57 rfl (rfl : 57 + 1 = 58)) dX7_noteAll_58 (rfl : 58 + 3 = 61)) (v_ai (v_iload_n (i := 1) dX7_noteAll_61 rfl (rfl : 61 + 1 = 62)) v_anil) dX7_noteAll_62 (rfl : 62 + 3 = 65)) dX7_noteAll_65 (rfl : 65 + 1 = 66)) (v_iinc (v := 1) dX7_noteAll_66 (by decide) (by decide) (rfl : 66 + 3 = 69))) dX7_noteAll_69 (rfl : ((69 : Nat) : Int) + (-33) = ((36 : Nat) : Int)))))) (v_ret (v_gfi kX1 lk124 (by decide) rfl (v_gfr kX7 lk351 (by decide) rfl (v_aload_n (i := 0) dX7_noteAll_72 rfl (rfl : 72 + 1 = 73)) dX7_noteAll_73 (rfl : 73 + 3 = 76)) dX7_noteAll_76 (rfl : 76 + 3 = 79)) dX7_noteAll_79)))))
theorem IX7_noteAll : Mi yX7_noteAll cX7_noteAll 2 (rmk 5 128) DX7_noteAll := mk_i (by decide +kernel) BX7_noteAll

theorem dX7_ofChamber_0 : decode cX7_ofChamber 0 = .ok (.aload_n 0, 1) := by decide +kernel
theorem dX7_ofChamber_1 : decode cX7_ofChamber 1 = .ok (.iload_n 1, 1) := by decide +kernel
theorem dX7_ofChamber_2 : decode cX7_ofChamber 2 = .ok (.invokevirtual 97, 3) := by decide +kernel
theorem dX7_ofChamber_5 : decode cX7_ofChamber 5 = .ok (.ifCond .ne 5, 3) := by decide +kernel
theorem dX7_ofChamber_8 : decode cX7_ofChamber 8 = .ok (.iconst (-1), 1) := by decide +kernel
theorem dX7_ofChamber_9 : decode cX7_ofChamber 9 = .ok (.ireturn, 1) := by decide +kernel
theorem dX7_ofChamber_10 : decode cX7_ofChamber 10 = .ok (.iload_n 2, 1) := by decide +kernel
theorem dX7_ofChamber_11 : decode cX7_ofChamber 11 = .ok (.tableswitch 116 0 6 #[41, 53, 65, 77, 86, 95, 107], 41) := by decide +kernel
theorem dX7_ofChamber_52 : decode cX7_ofChamber 52 = .ok (.aload_n 0, 1) := by decide +kernel
theorem dX7_ofChamber_53 : decode cX7_ofChamber 53 = .ok (.getfield 10, 3) := by decide +kernel
theorem dX7_ofChamber_56 : decode cX7_ofChamber 56 = .ok (.getfield 147, 3) := by decide +kernel
theorem dX7_ofChamber_59 : decode cX7_ofChamber 59 = .ok (.iload_n 1, 1) := by decide +kernel
theorem dX7_ofChamber_60 : decode cX7_ofChamber 60 = .ok (.aaload, 1) := by decide +kernel
theorem dX7_ofChamber_61 : decode cX7_ofChamber 61 = .ok (.iconst 0, 1) := by decide +kernel
theorem dX7_ofChamber_62 : decode cX7_ofChamber 62 = .ok (.iaload, 1) := by decide +kernel
theorem dX7_ofChamber_63 : decode cX7_ofChamber 63 = .ok (.ireturn, 1) := by decide +kernel
theorem dX7_ofChamber_64 : decode cX7_ofChamber 64 = .ok (.aload_n 0, 1) := by decide +kernel
theorem dX7_ofChamber_65 : decode cX7_ofChamber 65 = .ok (.getfield 10, 3) := by decide +kernel
theorem dX7_ofChamber_68 : decode cX7_ofChamber 68 = .ok (.getfield 147, 3) := by decide +kernel
theorem dX7_ofChamber_71 : decode cX7_ofChamber 71 = .ok (.iload_n 1, 1) := by decide +kernel
theorem dX7_ofChamber_72 : decode cX7_ofChamber 72 = .ok (.aaload, 1) := by decide +kernel
theorem dX7_ofChamber_73 : decode cX7_ofChamber 73 = .ok (.iconst 1, 1) := by decide +kernel
theorem dX7_ofChamber_74 : decode cX7_ofChamber 74 = .ok (.iaload, 1) := by decide +kernel
theorem dX7_ofChamber_75 : decode cX7_ofChamber 75 = .ok (.ireturn, 1) := by decide +kernel
theorem dX7_ofChamber_76 : decode cX7_ofChamber 76 = .ok (.aload_n 0, 1) := by decide +kernel
theorem dX7_ofChamber_77 : decode cX7_ofChamber 77 = .ok (.getfield 10, 3) := by decide +kernel
theorem dX7_ofChamber_80 : decode cX7_ofChamber 80 = .ok (.getfield 147, 3) := by decide +kernel
theorem dX7_ofChamber_83 : decode cX7_ofChamber 83 = .ok (.iload_n 1, 1) := by decide +kernel
theorem dX7_ofChamber_84 : decode cX7_ofChamber 84 = .ok (.aaload, 1) := by decide +kernel
theorem dX7_ofChamber_85 : decode cX7_ofChamber 85 = .ok (.iconst 2, 1) := by decide +kernel
theorem dX7_ofChamber_86 : decode cX7_ofChamber 86 = .ok (.iaload, 1) := by decide +kernel
theorem dX7_ofChamber_87 : decode cX7_ofChamber 87 = .ok (.ireturn, 1) := by decide +kernel
theorem dX7_ofChamber_88 : decode cX7_ofChamber 88 = .ok (.aload_n 0, 1) := by decide +kernel
theorem dX7_ofChamber_89 : decode cX7_ofChamber 89 = .ok (.getfield 10, 3) := by decide +kernel
theorem dX7_ofChamber_92 : decode cX7_ofChamber 92 = .ok (.iload_n 1, 1) := by decide +kernel
theorem dX7_ofChamber_93 : decode cX7_ofChamber 93 = .ok (.invokevirtual 320, 3) := by decide +kernel
theorem dX7_ofChamber_96 : decode cX7_ofChamber 96 = .ok (.ireturn, 1) := by decide +kernel
theorem dX7_ofChamber_97 : decode cX7_ofChamber 97 = .ok (.aload_n 0, 1) := by decide +kernel
theorem dX7_ofChamber_98 : decode cX7_ofChamber 98 = .ok (.getfield 10, 3) := by decide +kernel
theorem dX7_ofChamber_101 : decode cX7_ofChamber 101 = .ok (.iload_n 1, 1) := by decide +kernel
theorem dX7_ofChamber_102 : decode cX7_ofChamber 102 = .ok (.invokevirtual 108, 3) := by decide +kernel
theorem dX7_ofChamber_105 : decode cX7_ofChamber 105 = .ok (.ireturn, 1) := by decide +kernel
theorem dX7_ofChamber_106 : decode cX7_ofChamber 106 = .ok (.aload_n 0, 1) := by decide +kernel
theorem dX7_ofChamber_107 : decode cX7_ofChamber 107 = .ok (.getfield 10, 3) := by decide +kernel
theorem dX7_ofChamber_110 : decode cX7_ofChamber 110 = .ok (.getfield 147, 3) := by decide +kernel
theorem dX7_ofChamber_113 : decode cX7_ofChamber 113 = .ok (.iload_n 1, 1) := by decide +kernel
theorem dX7_ofChamber_114 : decode cX7_ofChamber 114 = .ok (.aaload, 1) := by decide +kernel
theorem dX7_ofChamber_115 : decode cX7_ofChamber 115 = .ok (.iconst 3, 1) := by decide +kernel
theorem dX7_ofChamber_116 : decode cX7_ofChamber 116 = .ok (.iaload, 1) := by decide +kernel
theorem dX7_ofChamber_117 : decode cX7_ofChamber 117 = .ok (.ireturn, 1) := by decide +kernel
theorem dX7_ofChamber_118 : decode cX7_ofChamber 118 = .ok (.aload_n 0, 1) := by decide +kernel
theorem dX7_ofChamber_119 : decode cX7_ofChamber 119 = .ok (.getfield 10, 3) := by decide +kernel
theorem dX7_ofChamber_122 : decode cX7_ofChamber 122 = .ok (.iload_n 1, 1) := by decide +kernel
theorem dX7_ofChamber_123 : decode cX7_ofChamber 123 = .ok (.invokevirtual 323, 3) := by decide +kernel
theorem dX7_ofChamber_126 : decode cX7_ofChamber 126 = .ok (.ireturn, 1) := by decide +kernel
theorem dX7_ofChamber_127 : decode cX7_ofChamber 127 = .ok (.iconst (-1), 1) := by decide +kernel
theorem dX7_ofChamber_128 : decode cX7_ofChamber 128 = .ok (.ireturn, 1) := by decide +kernel
noncomputable def EX7_ofChamber : Sx := (sseq (sif (bnot (bz cne (cvz 6 DX7_isChamber (rl 0) (ai (il 1) anil)))) (sret (ik (-1))) snop) (ssw (il 2) [(0, (sret (iald (rald 12 (fgr 1 9 (fgr 6 0 (rl 0))) (il 1)) (ik 0)))), (1, (sret (iald (rald 12 (fgr 1 9 (fgr 6 0 (rl 0))) (il 1)) (ik 1)))), (2, (sret (iald (rald 12 (fgr 1 9 (fgr 6 0 (rl 0))) (il 1)) (ik 2)))), (3, (sret (cvi 1 DX1_load (fgr 6 0 (rl 0)) (ai (il 1) anil)))), (4, (sret (cvi 1 DX1_weight (fgr 6 0 (rl 0)) (ai (il 1) anil)))), (5, (sret (iald (rald 12 (fgr 1 9 (fgr 6 0 (rl 0))) (il 1)) (ik 3)))), (6, (sret (cvi 1 DX1_net (fgr 6 0 (rl 0)) (ai (il 1) anil))))] (sret (ik (-1)))))
noncomputable def DX7_ofChamber : Fi := mfi 3 EX7_ofChamber
set_option maxRecDepth 4000 in
theorem BX7_ofChamber : Vs RX7 cX7_ofChamber 3 (rmk 3 84) 0 0 EX7_ofChamber := (v_seq (v_if (v_not (v_zne_t (v_cvz kX7 IX7_isChamber hX7_isChamber lk428 ⟨by decide, by decide⟩ (by decide) (v_aload_n (i := 0) dX7_ofChamber_0 rfl (rfl : 0 + 1 = 1)) (v_ai (v_iload_n (i := 1) dX7_ofChamber_1 rfl (rfl : 1 + 1 = 2)) v_anil) dX7_ofChamber_2 (rfl : 2 + 3 = 5)) dX7_ofChamber_5 (rfl : ((5 : Nat) : Int) + 5 = ((10 : Nat) : Int)) (rfl : 5 + 3 = 8))) (v_ret (v_iconst (v := (-1)) dX7_ofChamber_8 (by decide) (rfl : 8 + 1 = 9)) dX7_ofChamber_9) v_nop) (v_sw (v_iload_n (i := 2) dX7_ofChamber_10 rfl (rfl : 10 + 1 = 11)) dX7_ofChamber_11 (fun j hj => match j, hj with
  | 0, _ => ⟨41, 52, rfl, (rfl : ((11 : Nat) : Int) + 41 = ((52 : Nat) : Int)), (v_ret (v_iald (v_rald (q := 12) (t0 := 4) (ty0 := .array .int) ⟨by decide, by decide⟩ (fun _ => rfl) rfl (v_gfr kX1 lk153 (by decide) rfl (v_gfr kX7 lk351 (by decide) rfl (v_aload_n (i := 0) dX7_ofChamber_52 rfl (rfl : 52 + 1 = 53)) dX7_ofChamber_53 (rfl : 53 + 3 = 56)) dX7_ofChamber_56 (rfl : 56 + 3 = 59)) (v_iload_n (i := 1) dX7_ofChamber_59 rfl (rfl : 59 + 1 = 60)) dX7_ofChamber_60 (rfl : 60 + 1 = 61)) (v_iconst (v := 0) dX7_ofChamber_61 (by decide) (rfl : 61 + 1 = 62)) dX7_ofChamber_62 (rfl : 62 + 1 = 63)) dX7_ofChamber_63)⟩
  | 1, _ => ⟨53, 64, rfl, (rfl : ((11 : Nat) : Int) + 53 = ((64 : Nat) : Int)), (v_ret (v_iald (v_rald (q := 12) (t0 := 4) (ty0 := .array .int) ⟨by decide, by decide⟩ (fun _ => rfl) rfl (v_gfr kX1 lk153 (by decide) rfl (v_gfr kX7 lk351 (by decide) rfl (v_aload_n (i := 0) dX7_ofChamber_64 rfl (rfl : 64 + 1 = 65)) dX7_ofChamber_65 (rfl : 65 + 3 = 68)) dX7_ofChamber_68 (rfl : 68 + 3 = 71)) (v_iload_n (i := 1) dX7_ofChamber_71 rfl (rfl : 71 + 1 = 72)) dX7_ofChamber_72 (rfl : 72 + 1 = 73)) (v_iconst (v := 1) dX7_ofChamber_73 (by decide) (rfl : 73 + 1 = 74)) dX7_ofChamber_74 (rfl : 74 + 1 = 75)) dX7_ofChamber_75)⟩
  | 2, _ => ⟨65, 76, rfl, (rfl : ((11 : Nat) : Int) + 65 = ((76 : Nat) : Int)), (v_ret (v_iald (v_rald (q := 12) (t0 := 4) (ty0 := .array .int) ⟨by decide, by decide⟩ (fun _ => rfl) rfl (v_gfr kX1 lk153 (by decide) rfl (v_gfr kX7 lk351 (by decide) rfl (v_aload_n (i := 0) dX7_ofChamber_76 rfl (rfl : 76 + 1 = 77)) dX7_ofChamber_77 (rfl : 77 + 3 = 80)) dX7_ofChamber_80 (rfl : 80 + 3 = 83)) (v_iload_n (i := 1) dX7_ofChamber_83 rfl (rfl : 83 + 1 = 84)) dX7_ofChamber_84 (rfl : 84 + 1 = 85)) (v_iconst (v := 2) dX7_ofChamber_85 (by decide) (rfl : 85 + 1 = 86)) dX7_ofChamber_86 (rfl : 86 + 1 = 87)) dX7_ofChamber_87)⟩
  | 3, _ => ⟨77, 88, rfl, (rfl : ((11 : Nat) : Int) + 77 = ((88 : Nat) : Int)), (v_ret (v_cvi kX1 IX1_load hX1_load lk957 ⟨by decide, by decide⟩ (by decide) (v_gfr kX7 lk351 (by decide) rfl (v_aload_n (i := 0) dX7_ofChamber_88 rfl (rfl : 88 + 1 = 89)) dX7_ofChamber_89 (rfl : 89 + 3 = 92)) (v_ai (v_iload_n (i := 1) dX7_ofChamber_92 rfl (rfl : 92 + 1 = 93)) v_anil) dX7_ofChamber_93 (rfl : 93 + 3 = 96)) dX7_ofChamber_96)⟩
  | 4, _ => ⟨86, 97, rfl, (rfl : ((11 : Nat) : Int) + 86 = ((97 : Nat) : Int)), (v_ret (v_cvi kX1 IX1_weight hX1_weight lk441 ⟨by decide, by decide⟩ (by decide) (v_gfr kX7 lk351 (by decide) rfl (v_aload_n (i := 0) dX7_ofChamber_97 rfl (rfl : 97 + 1 = 98)) dX7_ofChamber_98 (rfl : 98 + 3 = 101)) (v_ai (v_iload_n (i := 1) dX7_ofChamber_101 rfl (rfl : 101 + 1 = 102)) v_anil) dX7_ofChamber_102 (rfl : 102 + 3 = 105)) dX7_ofChamber_105)⟩
  | 5, _ => ⟨95, 106, rfl, (rfl : ((11 : Nat) : Int) + 95 = ((106 : Nat) : Int)), (v_ret (v_iald (v_rald (q := 12) (t0 := 4) (ty0 := .array .int) ⟨by decide, by decide⟩ (fun _ => rfl) rfl (v_gfr kX1 lk153 (by decide) rfl (v_gfr kX7 lk351 (by decide) rfl (v_aload_n (i := 0) dX7_ofChamber_106 rfl (rfl : 106 + 1 = 107)) dX7_ofChamber_107 (rfl : 107 + 3 = 110)) dX7_ofChamber_110 (rfl : 110 + 3 = 113)) (v_iload_n (i := 1) dX7_ofChamber_113 rfl (rfl : 113 + 1 = 114)) dX7_ofChamber_114 (rfl : 114 + 1 = 115)) (v_iconst (v := 3) dX7_ofChamber_115 (by decide) (rfl : 115 + 1 = 116)) dX7_ofChamber_116 (rfl : 116 + 1 = 117)) dX7_ofChamber_117)⟩
  | 6, _ => ⟨107, 118, rfl, (rfl : ((11 : Nat) : Int) + 107 = ((118 : Nat) : Int)), (v_ret (v_cvi kX1 IX1_net hX1_net lk958 ⟨by decide, by decide⟩ (by decide) (v_gfr kX7 lk351 (by decide) rfl (v_aload_n (i := 0) dX7_ofChamber_118 rfl (rfl : 118 + 1 = 119)) dX7_ofChamber_119 (rfl : 119 + 3 = 122)) (v_ai (v_iload_n (i := 1) dX7_ofChamber_122 rfl (rfl : 122 + 1 = 123)) v_anil) dX7_ofChamber_123 (rfl : 123 + 3 = 126)) dX7_ofChamber_126)⟩
  | j + 7, hj => absurd hj (by omega)) ⟨127, (rfl : ((11 : Nat) : Int) + 116 = ((127 : Nat) : Int)), fun x hx => by
    have e0 : sel [(0, (sret (iald (rald 12 (fgr 1 9 (fgr 6 0 (rl 0))) (il 1)) (ik 0)))), (1, (sret (iald (rald 12 (fgr 1 9 (fgr 6 0 (rl 0))) (il 1)) (ik 1)))), (2, (sret (iald (rald 12 (fgr 1 9 (fgr 6 0 (rl 0))) (il 1)) (ik 2)))), (3, (sret (cvi 1 DX1_load (fgr 6 0 (rl 0)) (ai (il 1) anil)))), (4, (sret (cvi 1 DX1_weight (fgr 6 0 (rl 0)) (ai (il 1) anil)))), (5, (sret (iald (rald 12 (fgr 1 9 (fgr 6 0 (rl 0))) (il 1)) (ik 3)))), (6, (sret (cvi 1 DX1_net (fgr 6 0 (rl 0)) (ai (il 1) anil))))] (sret (ik (-1))) x = (sret (ik (-1))) := by simp only [sel]; rw [if_neg (by omega)]; rw [if_neg (by omega)]; rw [if_neg (by omega)]; rw [if_neg (by omega)]; rw [if_neg (by omega)]; rw [if_neg (by omega)]; rw [if_neg (by omega)]
    rw [e0]; exact (v_ret (v_iconst (v := (-1)) dX7_ofChamber_127 (by decide) (rfl : 127 + 1 = 128)) dX7_ofChamber_128)⟩))
theorem IX7_ofChamber : Mi yX7_ofChamber cX7_ofChamber 3 (rmk 3 84) DX7_ofChamber := mk_i (by decide +kernel) BX7_ofChamber

theorem dX7_ofPump_0 : decode cX7_ofPump 0 = .ok (.aload_n 0, 1) := by decide +kernel
theorem dX7_ofPump_1 : decode cX7_ofPump 1 = .ok (.iload_n 1, 1) := by decide +kernel
theorem dX7_ofPump_2 : decode cX7_ofPump 2 = .ok (.invokevirtual 124, 3) := by decide +kernel
theorem dX7_ofPump_5 : decode cX7_ofPump 5 = .ok (.ifCond .eq 27, 3) := by decide +kernel
theorem dX7_ofPump_8 : decode cX7_ofPump 8 = .ok (.iload_n 2, 1) := by decide +kernel
theorem dX7_ofPump_9 : decode cX7_ofPump 9 = .ok (.iconst 0, 1) := by decide +kernel
theorem dX7_ofPump_10 : decode cX7_ofPump 10 = .ok (.bipush 8, 2) := by decide +kernel
theorem dX7_ofPump_12 : decode cX7_ofPump 12 = .ok (.invokestatic 75, 3) := by decide +kernel
theorem dX7_ofPump_15 : decode cX7_ofPump 15 = .ok (.ifCond .eq 17, 3) := by decide +kernel
theorem dX7_ofPump_18 : decode cX7_ofPump 18 = .ok (.aload_n 0, 1) := by decide +kernel
theorem dX7_ofPump_19 : decode cX7_ofPump 19 = .ok (.getfield 10, 3) := by decide +kernel
theorem dX7_ofPump_22 : decode cX7_ofPump 22 = .ok (.getfield 127, 3) := by decide +kernel
theorem dX7_ofPump_25 : decode cX7_ofPump 25 = .ok (.iload_n 1, 1) := by decide +kernel
theorem dX7_ofPump_26 : decode cX7_ofPump 26 = .ok (.aaload, 1) := by decide +kernel
theorem dX7_ofPump_27 : decode cX7_ofPump 27 = .ok (.iload_n 2, 1) := by decide +kernel
theorem dX7_ofPump_28 : decode cX7_ofPump 28 = .ok (.iaload, 1) := by decide +kernel
theorem dX7_ofPump_29 : decode cX7_ofPump 29 = .ok (.goto 4, 3) := by decide +kernel
theorem dX7_ofPump_32 : decode cX7_ofPump 32 = .ok (.iconst (-1), 1) := by decide +kernel
theorem dX7_ofPump_33 : decode cX7_ofPump 33 = .ok (.ireturn, 1) := by decide +kernel
noncomputable def EX7_ofPump : Sx := (sret (ic (band (bz cne (cvz 6 DX7_isPump (rl 0) (ai (il 1) anil))) (bz cne (csz DX7_within (ai (il 2) (ai (ik 0) (ai (ik 8) anil)))))) (iald (rald 12 (fgr 1 11 (fgr 6 0 (rl 0))) (il 1)) (il 2)) (ik (-1))))
noncomputable def DX7_ofPump : Fi := mfi 3 EX7_ofPump
set_option maxRecDepth 4000 in
theorem BX7_ofPump : Vs RX7 cX7_ofPump 3 (rmk 2 43) 0 0 EX7_ofPump := (v_ret (v_ic (v_and (v_zne_f (v_cvz kX7 IX7_isPump hX7_isPump lk471 ⟨by decide, by decide⟩ (by decide) (v_aload_n (i := 0) dX7_ofPump_0 rfl (rfl : 0 + 1 = 1)) (v_ai (v_iload_n (i := 1) dX7_ofPump_1 rfl (rfl : 1 + 1 = 2)) v_anil) dX7_ofPump_2 (rfl : 2 + 3 = 5)) dX7_ofPump_5 (rfl : ((5 : Nat) : Int) + 27 = ((32 : Nat) : Int)) (rfl : 5 + 3 = 8)) (v_zne_f (v_csz IX7_within hX7_within lk392 ⟨by decide, by decide⟩ (by decide) (v_ai (v_iload_n (i := 2) dX7_ofPump_8 rfl (rfl : 8 + 1 = 9)) (v_ai (v_iconst (v := 0) dX7_ofPump_9 (by decide) (rfl : 9 + 1 = 10)) (v_ai (v_bipush (v := 8) dX7_ofPump_10 (by decide) (rfl : 10 + 2 = 12)) v_anil))) dX7_ofPump_12 (rfl : 12 + 3 = 15)) dX7_ofPump_15 (rfl : ((15 : Nat) : Int) + 17 = ((32 : Nat) : Int)) (rfl : 15 + 3 = 18))) (vi_goto (v_iald (v_rald (q := 12) (t0 := 4) (ty0 := .array .int) ⟨by decide, by decide⟩ (fun _ => rfl) rfl (v_gfr kX1 lk159 (by decide) rfl (v_gfr kX7 lk351 (by decide) rfl (v_aload_n (i := 0) dX7_ofPump_18 rfl (rfl : 18 + 1 = 19)) dX7_ofPump_19 (rfl : 19 + 3 = 22)) dX7_ofPump_22 (rfl : 22 + 3 = 25)) (v_iload_n (i := 1) dX7_ofPump_25 rfl (rfl : 25 + 1 = 26)) dX7_ofPump_26 (rfl : 26 + 1 = 27)) (v_iload_n (i := 2) dX7_ofPump_27 rfl (rfl : 27 + 1 = 28)) dX7_ofPump_28 (rfl : 28 + 1 = 29)) dX7_ofPump_29 (rfl : ((29 : Nat) : Int) + 4 = ((33 : Nat) : Int))) (v_iconst (v := (-1)) dX7_ofPump_32 (by decide) (rfl : 32 + 1 = 33))) dX7_ofPump_33)
theorem IX7_ofPump : Mi yX7_ofPump cX7_ofPump 3 (rmk 2 43) DX7_ofPump := mk_i (by decide +kernel) BX7_ofPump

theorem dX7_ofTube_0 : decode cX7_ofTube 0 = .ok (.aload_n 0, 1) := by decide +kernel
theorem dX7_ofTube_1 : decode cX7_ofTube 1 = .ok (.iload_n 1, 1) := by decide +kernel
theorem dX7_ofTube_2 : decode cX7_ofTube 2 = .ok (.invokevirtual 150, 3) := by decide +kernel
theorem dX7_ofTube_5 : decode cX7_ofTube 5 = .ok (.ifCond .eq 26, 3) := by decide +kernel
theorem dX7_ofTube_8 : decode cX7_ofTube 8 = .ok (.iload_n 2, 1) := by decide +kernel
theorem dX7_ofTube_9 : decode cX7_ofTube 9 = .ok (.iconst 0, 1) := by decide +kernel
theorem dX7_ofTube_10 : decode cX7_ofTube 10 = .ok (.iconst 3, 1) := by decide +kernel
theorem dX7_ofTube_11 : decode cX7_ofTube 11 = .ok (.invokestatic 75, 3) := by decide +kernel
theorem dX7_ofTube_14 : decode cX7_ofTube 14 = .ok (.ifCond .eq 17, 3) := by decide +kernel
theorem dX7_ofTube_17 : decode cX7_ofTube 17 = .ok (.aload_n 0, 1) := by decide +kernel
theorem dX7_ofTube_18 : decode cX7_ofTube 18 = .ok (.getfield 10, 3) := by decide +kernel
theorem dX7_ofTube_21 : decode cX7_ofTube 21 = .ok (.getfield 153, 3) := by decide +kernel
theorem dX7_ofTube_24 : decode cX7_ofTube 24 = .ok (.iload_n 1, 1) := by decide +kernel
theorem dX7_ofTube_25 : decode cX7_ofTube 25 = .ok (.aaload, 1) := by decide +kernel
theorem dX7_ofTube_26 : decode cX7_ofTube 26 = .ok (.iload_n 2, 1) := by decide +kernel
theorem dX7_ofTube_27 : decode cX7_ofTube 27 = .ok (.iaload, 1) := by decide +kernel
theorem dX7_ofTube_28 : decode cX7_ofTube 28 = .ok (.goto 4, 3) := by decide +kernel
theorem dX7_ofTube_31 : decode cX7_ofTube 31 = .ok (.iconst (-1), 1) := by decide +kernel
theorem dX7_ofTube_32 : decode cX7_ofTube 32 = .ok (.ireturn, 1) := by decide +kernel
noncomputable def EX7_ofTube : Sx := (sret (ic (band (bz cne (cvz 6 DX7_isTube (rl 0) (ai (il 1) anil))) (bz cne (csz DX7_within (ai (il 2) (ai (ik 0) (ai (ik 3) anil)))))) (iald (rald 12 (fgr 1 10 (fgr 6 0 (rl 0))) (il 1)) (il 2)) (ik (-1))))
noncomputable def DX7_ofTube : Fi := mfi 3 EX7_ofTube
set_option maxRecDepth 4000 in
theorem BX7_ofTube : Vs RX7 cX7_ofTube 3 (rmk 2 43) 0 0 EX7_ofTube := (v_ret (v_ic (v_and (v_zne_f (v_cvz kX7 IX7_isTube hX7_isTube lk491 ⟨by decide, by decide⟩ (by decide) (v_aload_n (i := 0) dX7_ofTube_0 rfl (rfl : 0 + 1 = 1)) (v_ai (v_iload_n (i := 1) dX7_ofTube_1 rfl (rfl : 1 + 1 = 2)) v_anil) dX7_ofTube_2 (rfl : 2 + 3 = 5)) dX7_ofTube_5 (rfl : ((5 : Nat) : Int) + 26 = ((31 : Nat) : Int)) (rfl : 5 + 3 = 8)) (v_zne_f (v_csz IX7_within hX7_within lk392 ⟨by decide, by decide⟩ (by decide) (v_ai (v_iload_n (i := 2) dX7_ofTube_8 rfl (rfl : 8 + 1 = 9)) (v_ai (v_iconst (v := 0) dX7_ofTube_9 (by decide) (rfl : 9 + 1 = 10)) (v_ai (v_iconst (v := 3) dX7_ofTube_10 (by decide) (rfl : 10 + 1 = 11)) v_anil))) dX7_ofTube_11 (rfl : 11 + 3 = 14)) dX7_ofTube_14 (rfl : ((14 : Nat) : Int) + 17 = ((31 : Nat) : Int)) (rfl : 14 + 3 = 17))) (vi_goto (v_iald (v_rald (q := 12) (t0 := 4) (ty0 := .array .int) ⟨by decide, by decide⟩ (fun _ => rfl) rfl (v_gfr kX1 lk156 (by decide) rfl (v_gfr kX7 lk351 (by decide) rfl (v_aload_n (i := 0) dX7_ofTube_17 rfl (rfl : 17 + 1 = 18)) dX7_ofTube_18 (rfl : 18 + 3 = 21)) dX7_ofTube_21 (rfl : 21 + 3 = 24)) (v_iload_n (i := 1) dX7_ofTube_24 rfl (rfl : 24 + 1 = 25)) dX7_ofTube_25 (rfl : 25 + 1 = 26)) (v_iload_n (i := 2) dX7_ofTube_26 rfl (rfl : 26 + 1 = 27)) dX7_ofTube_27 (rfl : 27 + 1 = 28)) dX7_ofTube_28 (rfl : ((28 : Nat) : Int) + 4 = ((32 : Nat) : Int))) (v_iconst (v := (-1)) dX7_ofTube_31 (by decide) (rfl : 31 + 1 = 32))) dX7_ofTube_32)
theorem IX7_ofTube : Mi yX7_ofTube cX7_ofTube 3 (rmk 2 43) DX7_ofTube := mk_i (by decide +kernel) BX7_ofTube

theorem dX7_ofWatch_0 : decode cX7_ofWatch 0 = .ok (.aload_n 0, 1) := by decide +kernel
theorem dX7_ofWatch_1 : decode cX7_ofWatch 1 = .ok (.iload_n 1, 1) := by decide +kernel
theorem dX7_ofWatch_2 : decode cX7_ofWatch 2 = .ok (.invokevirtual 178, 3) := by decide +kernel
theorem dX7_ofWatch_5 : decode cX7_ofWatch 5 = .ok (.ifCond .eq 26, 3) := by decide +kernel
theorem dX7_ofWatch_8 : decode cX7_ofWatch 8 = .ok (.iload_n 2, 1) := by decide +kernel
theorem dX7_ofWatch_9 : decode cX7_ofWatch 9 = .ok (.iconst 0, 1) := by decide +kernel
theorem dX7_ofWatch_10 : decode cX7_ofWatch 10 = .ok (.iconst 5, 1) := by decide +kernel
theorem dX7_ofWatch_11 : decode cX7_ofWatch 11 = .ok (.invokestatic 75, 3) := by decide +kernel
theorem dX7_ofWatch_14 : decode cX7_ofWatch 14 = .ok (.ifCond .eq 17, 3) := by decide +kernel
theorem dX7_ofWatch_17 : decode cX7_ofWatch 17 = .ok (.aload_n 0, 1) := by decide +kernel
theorem dX7_ofWatch_18 : decode cX7_ofWatch 18 = .ok (.getfield 10, 3) := by decide +kernel
theorem dX7_ofWatch_21 : decode cX7_ofWatch 21 = .ok (.getfield 326, 3) := by decide +kernel
theorem dX7_ofWatch_24 : decode cX7_ofWatch 24 = .ok (.iload_n 1, 1) := by decide +kernel
theorem dX7_ofWatch_25 : decode cX7_ofWatch 25 = .ok (.aaload, 1) := by decide +kernel
theorem dX7_ofWatch_26 : decode cX7_ofWatch 26 = .ok (.iload_n 2, 1) := by decide +kernel
theorem dX7_ofWatch_27 : decode cX7_ofWatch 27 = .ok (.iaload, 1) := by decide +kernel
theorem dX7_ofWatch_28 : decode cX7_ofWatch 28 = .ok (.goto 4, 3) := by decide +kernel
theorem dX7_ofWatch_31 : decode cX7_ofWatch 31 = .ok (.iconst (-1), 1) := by decide +kernel
theorem dX7_ofWatch_32 : decode cX7_ofWatch 32 = .ok (.ireturn, 1) := by decide +kernel
noncomputable def EX7_ofWatch : Sx := (sret (ic (band (bz cne (cvz 6 DX7_isWatch (rl 0) (ai (il 1) anil))) (bz cne (csz DX7_within (ai (il 2) (ai (ik 0) (ai (ik 5) anil)))))) (iald (rald 12 (fgr 1 12 (fgr 6 0 (rl 0))) (il 1)) (il 2)) (ik (-1))))
noncomputable def DX7_ofWatch : Fi := mfi 3 EX7_ofWatch
set_option maxRecDepth 4000 in
theorem BX7_ofWatch : Vs RX7 cX7_ofWatch 3 (rmk 2 43) 0 0 EX7_ofWatch := (v_ret (v_ic (v_and (v_zne_f (v_cvz kX7 IX7_isWatch hX7_isWatch lk528 ⟨by decide, by decide⟩ (by decide) (v_aload_n (i := 0) dX7_ofWatch_0 rfl (rfl : 0 + 1 = 1)) (v_ai (v_iload_n (i := 1) dX7_ofWatch_1 rfl (rfl : 1 + 1 = 2)) v_anil) dX7_ofWatch_2 (rfl : 2 + 3 = 5)) dX7_ofWatch_5 (rfl : ((5 : Nat) : Int) + 26 = ((31 : Nat) : Int)) (rfl : 5 + 3 = 8)) (v_zne_f (v_csz IX7_within hX7_within lk392 ⟨by decide, by decide⟩ (by decide) (v_ai (v_iload_n (i := 2) dX7_ofWatch_8 rfl (rfl : 8 + 1 = 9)) (v_ai (v_iconst (v := 0) dX7_ofWatch_9 (by decide) (rfl : 9 + 1 = 10)) (v_ai (v_iconst (v := 5) dX7_ofWatch_10 (by decide) (rfl : 10 + 1 = 11)) v_anil))) dX7_ofWatch_11 (rfl : 11 + 3 = 14)) dX7_ofWatch_14 (rfl : ((14 : Nat) : Int) + 17 = ((31 : Nat) : Int)) (rfl : 14 + 3 = 17))) (vi_goto (v_iald (v_rald (q := 12) (t0 := 4) (ty0 := .array .int) ⟨by decide, by decide⟩ (fun _ => rfl) rfl (v_gfr kX1 lk164 (by decide) rfl (v_gfr kX7 lk351 (by decide) rfl (v_aload_n (i := 0) dX7_ofWatch_17 rfl (rfl : 17 + 1 = 18)) dX7_ofWatch_18 (rfl : 18 + 3 = 21)) dX7_ofWatch_21 (rfl : 21 + 3 = 24)) (v_iload_n (i := 1) dX7_ofWatch_24 rfl (rfl : 24 + 1 = 25)) dX7_ofWatch_25 (rfl : 25 + 1 = 26)) (v_iload_n (i := 2) dX7_ofWatch_26 rfl (rfl : 26 + 1 = 27)) dX7_ofWatch_27 (rfl : 27 + 1 = 28)) dX7_ofWatch_28 (rfl : ((28 : Nat) : Int) + 4 = ((32 : Nat) : Int))) (v_iconst (v := (-1)) dX7_ofWatch_31 (by decide) (rfl : 31 + 1 = 32))) dX7_ofWatch_32)
theorem IX7_ofWatch : Mi yX7_ofWatch cX7_ofWatch 3 (rmk 2 43) DX7_ofWatch := mk_i (by decide +kernel) BX7_ofWatch

theorem dX7_parts_0 : decode cX7_parts 0 = .ok (.aload_n 0, 1) := by decide +kernel
theorem dX7_parts_1 : decode cX7_parts 1 = .ok (.iload_n 1, 1) := by decide +kernel
theorem dX7_parts_2 : decode cX7_parts 2 = .ok (.iload_n 2, 1) := by decide +kernel
theorem dX7_parts_3 : decode cX7_parts 3 = .ok (.invokevirtual 239, 3) := by decide +kernel
theorem dX7_parts_6 : decode cX7_parts 6 = .ok (.ifCond .eq 24, 3) := by decide +kernel
theorem dX7_parts_9 : decode cX7_parts 9 = .ok (.iload_n 3, 1) := by decide +kernel
theorem dX7_parts_10 : decode cX7_parts 10 = .ok (.iconst 0, 1) := by decide +kernel
theorem dX7_parts_11 : decode cX7_parts 11 = .ok (.iconst 1, 1) := by decide +kernel
theorem dX7_parts_12 : decode cX7_parts 12 = .ok (.invokestatic 75, 3) := by decide +kernel
theorem dX7_parts_15 : decode cX7_parts 15 = .ok (.ifCond .eq 15, 3) := by decide +kernel
theorem dX7_parts_18 : decode cX7_parts 18 = .ok (.aload_n 0, 1) := by decide +kernel
theorem dX7_parts_19 : decode cX7_parts 19 = .ok (.getfield 10, 3) := by decide +kernel
theorem dX7_parts_22 : decode cX7_parts 22 = .ok (.iload_n 1, 1) := by decide +kernel
theorem dX7_parts_23 : decode cX7_parts 23 = .ok (.iload_n 2, 1) := by decide +kernel
theorem dX7_parts_24 : decode cX7_parts 24 = .ok (.invokevirtual 242, 3) := by decide +kernel
theorem dX7_parts_27 : decode cX7_parts 27 = .ok (.ifCond .ne 5, 3) := by decide +kernel
theorem dX7_parts_30 : decode cX7_parts 30 = .ok (.iconst (-1), 1) := by decide +kernel
theorem dX7_parts_31 : decode cX7_parts 31 = .ok (.ireturn, 1) := by decide +kernel
theorem dX7_parts_32 : decode cX7_parts 32 = .ok (.aload_n 0, 1) := by decide +kernel
theorem dX7_parts_33 : decode cX7_parts 33 = .ok (.getfield 45, 3) := by decide +kernel
theorem dX7_parts_36 : decode cX7_parts 36 = .ok (.aload_n 0, 1) := by decide +kernel
theorem dX7_parts_37 : decode cX7_parts 37 = .ok (.getfield 10, 3) := by decide +kernel
theorem dX7_parts_40 : decode cX7_parts 40 = .ok (.iload_n 1, 1) := by decide +kernel
theorem dX7_parts_41 : decode cX7_parts 41 = .ok (.iload_n 2, 1) := by decide +kernel
theorem dX7_parts_42 : decode cX7_parts 42 = .ok (.invokevirtual 261, 3) := by decide +kernel
theorem dX7_parts_45 : decode cX7_parts 45 = .ok (.istore 4, 2) := by decide +kernel
theorem dX7_parts_47 : decode cX7_parts 47 = .ok (.iload_n 3, 1) := by decide +kernel
theorem dX7_parts_48 : decode cX7_parts 48 = .ok (.ifCond .ne 11, 3) := by decide +kernel
theorem dX7_parts_51 : decode cX7_parts 51 = .ok (.iload 4, 2) := by decide +kernel
theorem dX7_parts_53 : decode cX7_parts 53 = .ok (.invokestatic 265, 3) := by decide +kernel
theorem dX7_parts_56 : decode cX7_parts 56 = .ok (.goto 5, 3) := by decide +kernel
theorem dX7_parts_59 : decode cX7_parts 59 = .ok (.iload 4, 2) := by decide +kernel
theorem dX7_parts_61 : decode cX7_parts 61 = .ok (.ireturn, 1) := by decide +kernel
noncomputable def EX7_parts : Sx := (sseq (sif (bor (bor (bnot (bz cne (cvz 6 DX7_areTwoChambers (rl 0) (ai (il 1) (ai (il 2) anil))))) (bnot (bz cne (csz DX7_within (ai (il 3) (ai (ik 0) (ai (ik 1) anil))))))) (bnot (bz cne (cvz 1 DX1_hang (fgr 6 0 (rl 0)) (ai (il 1) (ai (il 2) anil)))))) (sret (ik (-1))) snop) (sseq (ssi 4 (cvi 3 DX4_fewest (fgr 6 5 (rl 0)) (ar (fgr 6 0 (rl 0)) (ai (il 1) (ai (il 2) anil))))) (sret (ic (bz ceq (il 3)) (csi DJ6_bitCount_0f7a4 (ai (il 4) anil)) (il 4)))))
noncomputable def DX7_parts : Fi := mfi 5 EX7_parts
set_option maxRecDepth 4000 in
theorem BX7_parts : Vs RX7 cX7_parts 5 (rmk 3 69) 0 0 EX7_parts := (v_seq (v_if (v_or (v_or (v_not (v_zne_f (v_cvz kX7 IX7_areTwoChambers hX7_areTwoChambers lk768 ⟨by decide, by decide⟩ (by decide) (v_aload_n (i := 0) dX7_parts_0 rfl (rfl : 0 + 1 = 1)) (v_ai (v_iload_n (i := 1) dX7_parts_1 rfl (rfl : 1 + 1 = 2)) (v_ai (v_iload_n (i := 2) dX7_parts_2 rfl (rfl : 2 + 1 = 3)) v_anil)) dX7_parts_3 (rfl : 3 + 3 = 6)) dX7_parts_6 (rfl : ((6 : Nat) : Int) + 24 = ((30 : Nat) : Int)) (rfl : 6 + 3 = 9))) (v_not (v_zne_f (v_csz IX7_within hX7_within lk392 ⟨by decide, by decide⟩ (by decide) (v_ai (v_iload_n (i := 3) dX7_parts_9 rfl (rfl : 9 + 1 = 10)) (v_ai (v_iconst (v := 0) dX7_parts_10 (by decide) (rfl : 10 + 1 = 11)) (v_ai (v_iconst (v := 1) dX7_parts_11 (by decide) (rfl : 11 + 1 = 12)) v_anil))) dX7_parts_12 (rfl : 12 + 3 = 15)) dX7_parts_15 (rfl : ((15 : Nat) : Int) + 15 = ((30 : Nat) : Int)) (rfl : 15 + 3 = 18)))) (v_not (v_zne_t (v_cvz kX1 IX1_hang hX1_hang lk772 ⟨by decide, by decide⟩ (by decide) (v_gfr kX7 lk351 (by decide) rfl (v_aload_n (i := 0) dX7_parts_18 rfl (rfl : 18 + 1 = 19)) dX7_parts_19 (rfl : 19 + 3 = 22)) (v_ai (v_iload_n (i := 1) dX7_parts_22 rfl (rfl : 22 + 1 = 23)) (v_ai (v_iload_n (i := 2) dX7_parts_23 rfl (rfl : 23 + 1 = 24)) v_anil)) dX7_parts_24 (rfl : 24 + 3 = 27)) dX7_parts_27 (rfl : ((27 : Nat) : Int) + 5 = ((32 : Nat) : Int)) (rfl : 27 + 3 = 30)))) (v_ret (v_iconst (v := (-1)) dX7_parts_30 (by decide) (rfl : 30 + 1 = 31)) dX7_parts_31) v_nop) (v_seq (v_istore (i := 4) (v_cvi kX4 IX4_fewest hX4_fewest lk822 ⟨by decide, by decide⟩ (by decide) (v_gfr kX7 lk356 (by decide) rfl (v_aload_n (i := 0) dX7_parts_32 rfl (rfl : 32 + 1 = 33)) dX7_parts_33 (rfl : 33 + 3 = 36)) (v_ar (v_gfr kX7 lk351 (by decide) rfl (v_aload_n (i := 0) dX7_parts_36 rfl (rfl : 36 + 1 = 37)) dX7_parts_37 (rfl : 37 + 3 = 40)) (v_ai (v_iload_n (i := 1) dX7_parts_40 rfl (rfl : 40 + 1 = 41)) (v_ai (v_iload_n (i := 2) dX7_parts_41 rfl (rfl : 41 + 1 = 42)) v_anil))) dX7_parts_42 (rfl : 42 + 3 = 45)) dX7_parts_45 (by decide) (rfl : 45 + 2 = 47)) (v_ret (v_ic (v_zeq_f (v_iload_n (i := 3) dX7_parts_47 rfl (rfl : 47 + 1 = 48)) dX7_parts_48 (rfl : ((48 : Nat) : Int) + 11 = ((59 : Nat) : Int)) (rfl : 48 + 3 = 51)) (vi_goto (v_csi IJ6_bitCount_0f7a4 hJ6_bitCount_0f7a4 lk833 ⟨by decide, by decide⟩ (by decide) (v_ai (v_iload (i := 4) dX7_parts_51 (rfl : 51 + 2 = 53)) v_anil) dX7_parts_53 (rfl : 53 + 3 = 56)) dX7_parts_56 (rfl : ((56 : Nat) : Int) + 5 = ((61 : Nat) : Int))) (v_iload (i := 4) dX7_parts_59 (rfl : 59 + 2 = 61))) dX7_parts_61)))
theorem IX7_parts : Mi yX7_parts cX7_parts 5 (rmk 3 69) DX7_parts := mk_i (by decide +kernel) BX7_parts

theorem dX7_place_0 : decode cX7_place 0 = .ok (.iload_n 1, 1) := by decide +kernel
theorem dX7_place_1 : decode cX7_place 1 = .ok (.iconst 1, 1) := by decide +kernel
theorem dX7_place_2 : decode cX7_place 2 = .ok (.bipush 40, 2) := by decide +kernel
theorem dX7_place_4 : decode cX7_place 4 = .ok (.invokestatic 75, 3) := by decide +kernel
theorem dX7_place_7 : decode cX7_place 7 = .ok (.ifCond .ne 5, 3) := by decide +kernel
theorem dX7_place_10 : decode cX7_place 10 = .ok (.iconst (-1), 1) := by decide +kernel
theorem dX7_place_11 : decode cX7_place 11 = .ok (.ireturn, 1) := by decide +kernel
theorem dX7_place_12 : decode cX7_place 12 = .ok (.aload_n 0, 1) := by decide +kernel
theorem dX7_place_13 : decode cX7_place 13 = .ok (.getfield 16, 3) := by decide +kernel
theorem dX7_place_16 : decode cX7_place 16 = .ok (.aload_n 0, 1) := by decide +kernel
theorem dX7_place_17 : decode cX7_place 17 = .ok (.getfield 10, 3) := by decide +kernel
theorem dX7_place_20 : decode cX7_place 20 = .ok (.invokevirtual 205, 3) := by decide +kernel
theorem dX7_place_23 : decode cX7_place 23 = .ok (.iconst (-1), 1) := by decide +kernel
theorem dX7_place_24 : decode cX7_place 24 = .ok (.istore_n 2, 1) := by decide +kernel
theorem dX7_place_25 : decode cX7_place 25 = .ok (.iconst (-1), 1) := by decide +kernel
theorem dX7_place_26 : decode cX7_place 26 = .ok (.istore_n 3, 1) := by decide +kernel
theorem dX7_place_27 : decode cX7_place 27 = .ok (.iconst 0, 1) := by decide +kernel
theorem dX7_place_28 : decode cX7_place 28 = .ok (.istore 4, 2) := by decide +kernel
theorem dX7_place_30 : decode cX7_place 30 = .ok (.iload 4, 2) := by decide +kernel
theorem dX7_place_32 : decode cX7_place 32 = .ok (.aload_n 0, 1) := by decide +kernel
theorem dX7_place_33 : decode cX7_place 33 = .ok (.getfield 10, 3) := by decide +kernel
theorem dX7_place_36 : decode cX7_place 36 = .ok (.getfield 83, 3) := by decide +kernel
theorem dX7_place_39 : decode cX7_place 39 = .ok (.if_icmp .ge 73, 3) := by decide +kernel
theorem dX7_place_42 : decode cX7_place 42 = .ok (.aload_n 0, 1) := by decide +kernel
theorem dX7_place_43 : decode cX7_place 43 = .ok (.getfield 10, 3) := by decide +kernel
theorem dX7_place_46 : decode cX7_place 46 = .ok (.iload 4, 2) := by decide +kernel
theorem dX7_place_48 : decode cX7_place 48 = .ok (.invokevirtual 108, 3) := by decide +kernel
theorem dX7_place_51 : decode cX7_place 51 = .ok (.iload_n 1, 1) := by decide +kernel
theorem dX7_place_52 : decode cX7_place 52 = .ok (.iadd, 1) := by decide +kernel
theorem dX7_place_53 : decode cX7_place 53 = .ok (.sipush 160, 3) := by decide +kernel
theorem dX7_place_56 : decode cX7_place 56 = .ok (.if_icmp .gt 50, 3) := by decide +kernel
theorem dX7_place_59 : decode cX7_place 59 = .ok (.aload_n 0, 1) := by decide +kernel
theorem dX7_place_60 : decode cX7_place 60 = .ok (.getfield 16, 3) := by decide +kernel
theorem dX7_place_63 : decode cX7_place 63 = .ok (.iload 4, 2) := by decide +kernel
theorem dX7_place_65 : decode cX7_place 65 = .ok (.iload_n 1, 1) := by decide +kernel
theorem dX7_place_66 : decode cX7_place 66 = .ok (.invokevirtual 291, 3) := by decide +kernel
theorem dX7_place_69 : decode cX7_place 69 = .ok (.aload_n 0, 1) := by decide +kernel
theorem dX7_place_70 : decode cX7_place 70 = .ok (.getfield 22, 3) := by decide +kernel
theorem dX7_place_73 : decode cX7_place 73 = .ok (.aload_n 0, 1) := by decide +kernel
theorem dX7_place_74 : decode cX7_place 74 = .ok (.getfield 16, 3) := by decide +kernel
theorem dX7_place_77 : decode cX7_place 77 = .ok (.invokevirtual 294, 3) := by decide +kernel
theorem dX7_place_80 : decode cX7_place 80 = .ok (.istore 5, 2) := by decide +kernel
theorem dX7_place_82 : decode cX7_place 82 = .ok (.iload 5, 2) := by decide +kernel
theorem dX7_place_84 : decode cX7_place 84 = .ok (.bipush (-3), 2) := by decide +kernel
theorem dX7_place_86 : decode cX7_place 86 = .ok (.if_icmp .eq 20, 3) := by decide +kernel
theorem dX7_place_89 : decode cX7_place 89 = .ok (.iload_n 2, 1) := by decide +kernel
theorem dX7_place_90 : decode cX7_place 90 = .ok (.iconst (-1), 1) := by decide +kernel
theorem dX7_place_91 : decode cX7_place 91 = .ok (.if_icmp .eq 9, 3) := by decide +kernel
theorem dX7_place_94 : decode cX7_place 94 = .ok (.iload 5, 2) := by decide +kernel
theorem dX7_place_96 : decode cX7_place 96 = .ok (.iload_n 3, 1) := by decide +kernel
theorem dX7_place_97 : decode cX7_place 97 = .ok (.if_icmp .ge 9, 3) := by decide +kernel
theorem dX7_place_100 : decode cX7_place 100 = .ok (.iload 4, 2) := by decide +kernel
theorem dX7_place_102 : decode cX7_place 102 = .ok (.istore_n 2, 1) := by decide +kernel
theorem dX7_place_103 : decode cX7_place 103 = .ok (.iload 5, 2) := by decide +kernel
theorem dX7_place_105 : decode cX7_place 105 = .ok (.istore_n 3, 1) := by decide +kernel
theorem dX7_place_106 : decode cX7_place 106 = .ok (.iinc 4 1, 3) := by decide +kernel
theorem dX7_place_109 : decode cX7_place 109 = .ok (.goto (-79), 3) := by decide +kernel
theorem dX7_place_112 : decode cX7_place 112 = .ok (.iload_n 2, 1) := by decide +kernel
theorem dX7_place_113 : decode cX7_place 113 = .ok (.ireturn, 1) := by decide +kernel
noncomputable def qX7_place_1 : Bx := (bc clt (il 4) (fgi 1 0 (fgr 6 0 (rl 0))))
noncomputable def wX7_place_1 : Sx := (sseq (sif (bc cle (i2 (· + ·) (cvi 1 DX1_weight (fgr 6 0 (rl 0)) (ai (il 4) anil)) (il 1)) (ik 160)) (scut 5 (sseq (scv 1 DX1_putHelper (fgr 6 1 (rl 0)) (ai (il 4) (ai (il 1) anil))) (sseq (ssi 5 (cvi 0 DX0_greatest (fgr 6 2 (rl 0)) (ar (fgr 6 1 (rl 0)) anil))) (sif (band (bc cne (il 5) (ik (-3))) (bor (bc ceq (il 2) (ik (-1))) (bc clt (il 5) (il 3)))) (sseq (ssi 2 (il 4)) (ssi 3 (il 5))) snop)))) snop) (sinc 4 1))
noncomputable def EX7_place : Sx := (sseq (sif (bnot (bz cne (csz DX7_within (ai (il 1) (ai (ik 1) (ai (ik 40) anil)))))) (sret (ik (-1))) snop) (sseq (scv 1 DX1_copyFrom (fgr 6 1 (rl 0)) (ar (fgr 6 0 (rl 0)) anil)) (sseq (ssi 2 (ik (-1))) (sseq (ssi 3 (ik (-1))) (sseq (scut 4 (sseq (ssi 4 (ik 0)) (swh qX7_place_1 wX7_place_1))) (sret (il 2)))))))
noncomputable def DX7_place : Fi := mfi 6 EX7_place
set_option maxRecDepth 4000 in
theorem BX7_place : Vs RX7 cX7_place 6 (rmk 5 129) 0 0 EX7_place := (v_seq (v_if (v_not (v_zne_t (v_csz IX7_within hX7_within lk392 ⟨by decide, by decide⟩ (by decide) (v_ai (v_iload_n (i := 1) dX7_place_0 rfl (rfl : 0 + 1 = 1)) (v_ai (v_iconst (v := 1) dX7_place_1 (by decide) (rfl : 1 + 1 = 2)) (v_ai (v_bipush (v := 40) dX7_place_2 (by decide) (rfl : 2 + 2 = 4)) v_anil))) dX7_place_4 (rfl : 4 + 3 = 7)) dX7_place_7 (rfl : ((7 : Nat) : Int) + 5 = ((12 : Nat) : Int)) (rfl : 7 + 3 = 10))) (v_ret (v_iconst (v := (-1)) dX7_place_10 (by decide) (rfl : 10 + 1 = 11)) dX7_place_11) v_nop) (v_seq (v_scv kX1 IX1_copyFrom hX1_copyFrom lk716 ⟨by decide, by decide⟩ (v_gfr kX7 lk352 (by decide) rfl (v_aload_n (i := 0) dX7_place_12 rfl (rfl : 12 + 1 = 13)) dX7_place_13 (rfl : 13 + 3 = 16)) (v_ar (v_gfr kX7 lk351 (by decide) rfl (v_aload_n (i := 0) dX7_place_16 rfl (rfl : 16 + 1 = 17)) dX7_place_17 (rfl : 17 + 3 = 20)) v_anil) dX7_place_20 (rfl : 20 + 3 = 23)) (v_seq (v_istore_n (i := 2) (v_iconst (v := (-1)) dX7_place_23 (by decide) (rfl : 23 + 1 = 24)) dX7_place_24 rfl (by decide) (rfl : 24 + 1 = 25)) (v_seq (v_istore_n (i := 3) (v_iconst (v := (-1)) dX7_place_25 (by decide) (rfl : 25 + 1 = 26)) dX7_place_26 rfl (by decide) (rfl : 26 + 1 = 27)) (v_seq (v_cut (n := 4) (v_seq (v_istore (i := 4) (v_iconst (v := 0) dX7_place_27 (by decide) (rfl : 27 + 1 = 28)) dX7_place_28 (by decide) (rfl : 28 + 2 = 30)) (v_wh (v_ilt_f (v_iload (i := 4) dX7_place_30 (rfl : 30 + 2 = 32)) (v_gfi kX1 lk124 (by decide) rfl (v_gfr kX7 lk351 (by decide) rfl (v_aload_n (i := 0) dX7_place_32 rfl (rfl : 32 + 1 = 33)) dX7_place_33 (rfl : 33 + 3 = 36)) dX7_place_36 (rfl : 36 + 3 = 39)) dX7_place_39 (rfl : ((39 : Nat) : Int) + 73 = ((112 : Nat) : Int)) (rfl : 39 + 3 = 42)) (vs_goto (v_seq (v_if (v_ile_f (v_iadd (v_cvi kX1 IX1_weight hX1_weight lk441 ⟨by decide, by decide⟩ (by decide) (v_gfr kX7 lk351 (by decide) rfl (v_aload_n (i := 0) dX7_place_42 rfl (rfl : 42 + 1 = 43)) dX7_place_43 (rfl : 43 + 3 = 46)) (v_ai (v_iload (i := 4) dX7_place_46 (rfl : 46 + 2 = 48)) v_anil) dX7_place_48 (rfl : 48 + 3 = 51)) (v_iload_n (i := 1) dX7_place_51 rfl (rfl : 51 + 1 = 52)) dX7_place_52 (rfl : 52 + 1 = 53)) (v_sipush (v := 160) dX7_place_53 (by decide) (rfl : 53 + 3 = 56)) dX7_place_56 (rfl : ((56 : Nat) : Int) + 50 = ((106 : Nat) : Int)) (rfl : 56 + 3 = 59)) (v_cut (n := 5) (v_seq (v_scv kX1 IX1_putHelper hX1_putHelper lk886 ⟨by decide, by decide⟩ (v_gfr kX7 lk352 (by decide) rfl (v_aload_n (i := 0) dX7_place_59 rfl (rfl : 59 + 1 = 60)) dX7_place_60 (rfl : 60 + 3 = 63)) (v_ai (v_iload (i := 4) dX7_place_63 (rfl : 63 + 2 = 65)) (v_ai (v_iload_n (i := 1) dX7_place_65 rfl (rfl : 65 + 1 = 66)) v_anil)) dX7_place_66 (rfl : 66 + 3 = 69)) (v_seq (v_istore (i := 5) (v_cvi kX0 IX0_greatest hX0_greatest lk890 ⟨by decide, by decide⟩ (by decide) (v_gfr kX7 lk353 (by decide) rfl (v_aload_n (i := 0) dX7_place_69 rfl (rfl : 69 + 1 = 70)) dX7_place_70 (rfl : 70 + 3 = 73)) (v_ar (v_gfr kX7 lk352 (by decide) rfl (v_aload_n (i := 0) dX7_place_73 rfl (rfl : 73 + 1 = 74)) dX7_place_74 (rfl : 74 + 3 = 77)) v_anil) dX7_place_77 (rfl : 77 + 3 = 80)) dX7_place_80 (by decide) (rfl : 80 + 2 = 82)) (v_if (v_and (v_ine_f (v_iload (i := 5) dX7_place_82 (rfl : 82 + 2 = 84)) (v_bipush (v := (-3)) dX7_place_84 (by decide) (rfl : 84 + 2 = 86)) dX7_place_86 (rfl : ((86 : Nat) : Int) + 20 = ((106 : Nat) : Int)) (rfl : 86 + 3 = 89)) (v_or (v_ieq_t (v_iload_n (i := 2) dX7_place_89 rfl (rfl : 89 + 1 = 90)) (v_iconst (v := (-1)) dX7_place_90 (by decide) (rfl : 90 + 1 = 91)) dX7_place_91 (rfl : ((91 : Nat) : Int) + 9 = ((100 : Nat) : Int)) (rfl : 91 + 3 = 94)) (v_ilt_f (v_iload (i := 5) dX7_place_94 (rfl : 94 + 2 = 96)) (v_iload_n (i := 3) dX7_place_96 rfl (rfl : 96 + 1 = 97)) dX7_place_97 (rfl : ((97 : Nat) : Int) + 9 = ((106 : Nat) : Int)) (rfl : 97 + 3 = 100)))) (v_seq (v_istore_n (i := 2) (v_iload (i := 4) dX7_place_100 (rfl : 100 + 2 = 102)) dX7_place_102 rfl (by decide) (rfl : 102 + 1 = 103)) (v_istore_n (i := 3) (v_iload (i := 5) dX7_place_103 (rfl : 103 + 2 = 105)) dX7_place_105 rfl (by decide) (rfl : 105 + 1 = 106))) v_nop)))) v_nop) (v_iinc (v := 1) dX7_place_106 (by decide) (by decide) (rfl : 106 + 3 = 109))) dX7_place_109 (rfl : ((109 : Nat) : Int) + (-79) = ((30 : Nat) : Int)))))) (v_ret (v_iload_n (i := 2) dX7_place_112 rfl (rfl : 112 + 1 = 113)) dX7_place_113))))))
theorem IX7_place : Mi yX7_place cX7_place 6 (rmk 5 129) DX7_place := mk_i (by decide +kernel) BX7_place

theorem dX7_pressure_0 : decode cX7_pressure 0 = .ok (.aload_n 0, 1) := by decide +kernel
theorem dX7_pressure_1 : decode cX7_pressure 1 = .ok (.iload_n 1, 1) := by decide +kernel
theorem dX7_pressure_2 : decode cX7_pressure 2 = .ok (.invokevirtual 97, 3) := by decide +kernel
theorem dX7_pressure_5 : decode cX7_pressure 5 = .ok (.ifCond .eq 12, 3) := by decide +kernel
theorem dX7_pressure_8 : decode cX7_pressure 8 = .ok (.iload_n 2, 1) := by decide +kernel
theorem dX7_pressure_9 : decode cX7_pressure 9 = .ok (.iconst 0, 1) := by decide +kernel
theorem dX7_pressure_10 : decode cX7_pressure 10 = .ok (.iconst 1, 1) := by decide +kernel
theorem dX7_pressure_11 : decode cX7_pressure 11 = .ok (.invokestatic 75, 3) := by decide +kernel
theorem dX7_pressure_14 : decode cX7_pressure 14 = .ok (.ifCond .ne 7, 3) := by decide +kernel
theorem dX7_pressure_17 : decode cX7_pressure 17 = .ok (.ldc2_w 211, 3) := by decide +kernel
theorem dX7_pressure_20 : decode cX7_pressure 20 = .ok (.lreturn, 1) := by decide +kernel
theorem dX7_pressure_21 : decode cX7_pressure 21 = .ok (.aload_n 0, 1) := by decide +kernel
theorem dX7_pressure_22 : decode cX7_pressure 22 = .ok (.getfield 22, 3) := by decide +kernel
theorem dX7_pressure_25 : decode cX7_pressure 25 = .ok (.aload_n 0, 1) := by decide +kernel
theorem dX7_pressure_26 : decode cX7_pressure 26 = .ok (.getfield 10, 3) := by decide +kernel
theorem dX7_pressure_29 : decode cX7_pressure 29 = .ok (.invokevirtual 191, 3) := by decide +kernel
theorem dX7_pressure_32 : decode cX7_pressure 32 = .ok (.aload_n 0, 1) := by decide +kernel
theorem dX7_pressure_33 : decode cX7_pressure 33 = .ok (.getfield 22, 3) := by decide +kernel
theorem dX7_pressure_36 : decode cX7_pressure 36 = .ok (.invokevirtual 195, 3) := by decide +kernel
theorem dX7_pressure_39 : decode cX7_pressure 39 = .ok (.ifCond .eq 7, 3) := by decide +kernel
theorem dX7_pressure_42 : decode cX7_pressure 42 = .ok (.ldc2_w 213, 3) := by decide +kernel
theorem dX7_pressure_45 : decode cX7_pressure 45 = .ok (.lreturn, 1) := by decide +kernel
theorem dX7_pressure_46 : decode cX7_pressure 46 = .ok (.aload_n 0, 1) := by decide +kernel
theorem dX7_pressure_47 : decode cX7_pressure 47 = .ok (.getfield 22, 3) := by decide +kernel
theorem dX7_pressure_50 : decode cX7_pressure 50 = .ok (.iload_n 1, 1) := by decide +kernel
theorem dX7_pressure_51 : decode cX7_pressure 51 = .ok (.invokevirtual 215, 3) := by decide +kernel
theorem dX7_pressure_54 : decode cX7_pressure 54 = .ok (.ifCond .eq 7, 3) := by decide +kernel
theorem dX7_pressure_57 : decode cX7_pressure 57 = .ok (.ldc2_w 218, 3) := by decide +kernel
theorem dX7_pressure_60 : decode cX7_pressure 60 = .ok (.lreturn, 1) := by decide +kernel
theorem dX7_pressure_61 : decode cX7_pressure 61 = .ok (.aload_n 0, 1) := by decide +kernel
theorem dX7_pressure_62 : decode cX7_pressure 62 = .ok (.getfield 22, 3) := by decide +kernel
theorem dX7_pressure_65 : decode cX7_pressure 65 = .ok (.getfield 220, 3) := by decide +kernel
theorem dX7_pressure_68 : decode cX7_pressure 68 = .ok (.iload_n 1, 1) := by decide +kernel
theorem dX7_pressure_69 : decode cX7_pressure 69 = .ok (.laload, 1) := by decide +kernel
theorem dX7_pressure_70 : decode cX7_pressure 70 = .ok (.aload_n 0, 1) := by decide +kernel
theorem dX7_pressure_71 : decode cX7_pressure 71 = .ok (.getfield 22, 3) := by decide +kernel
theorem dX7_pressure_74 : decode cX7_pressure 74 = .ok (.getfield 224, 3) := by decide +kernel
theorem dX7_pressure_77 : decode cX7_pressure 77 = .ok (.iload_n 2, 1) := by decide +kernel
theorem dX7_pressure_78 : decode cX7_pressure 78 = .ok (.invokestatic 228, 3) := by decide +kernel
theorem dX7_pressure_81 : decode cX7_pressure 81 = .ok (.lreturn, 1) := by decide +kernel
noncomputable def EX7_pressure : Sx := (sseq (sif (bor (bnot (bz cne (cvz 6 DX7_isChamber (rl 0) (ai (il 1) anil)))) (bnot (bz cne (csz DX7_within (ai (il 2) (ai (ik 0) (ai (ik 1) anil))))))) (sretj (jk (-1))) snop) (sseq (scv 0 DX0_solve (fgr 6 2 (rl 0)) (ar (fgr 6 0 (rl 0)) anil)) (sseq (sif (bz cne (cvz 0 DX0_hunts (fgr 6 2 (rl 0)) anil)) (sretj (jk (-3))) snop) (sseq (sif (bz cne (cvz 0 DX0_isEndless (fgr 6 2 (rl 0)) (ai (il 1) anil))) (sretj (jk (-2))) snop) (sretj (csj DX2_term (aj (jald (fgr 0 10 (fgr 6 2 (rl 0))) (il 1)) (aj (fgj 0 11 (fgr 6 2 (rl 0))) (ai (il 2) anil)))))))))
noncomputable def DX7_pressure : Fj := mfj 3 EX7_pressure
set_option maxRecDepth 4000 in
theorem BX7_pressure : Vs RX7 cX7_pressure 3 (rmk 4 106) 0 0 EX7_pressure := (v_seq (v_if (v_or (v_not (v_zne_f (v_cvz kX7 IX7_isChamber hX7_isChamber lk428 ⟨by decide, by decide⟩ (by decide) (v_aload_n (i := 0) dX7_pressure_0 rfl (rfl : 0 + 1 = 1)) (v_ai (v_iload_n (i := 1) dX7_pressure_1 rfl (rfl : 1 + 1 = 2)) v_anil) dX7_pressure_2 (rfl : 2 + 3 = 5)) dX7_pressure_5 (rfl : ((5 : Nat) : Int) + 12 = ((17 : Nat) : Int)) (rfl : 5 + 3 = 8))) (v_not (v_zne_t (v_csz IX7_within hX7_within lk392 ⟨by decide, by decide⟩ (by decide) (v_ai (v_iload_n (i := 2) dX7_pressure_8 rfl (rfl : 8 + 1 = 9)) (v_ai (v_iconst (v := 0) dX7_pressure_9 (by decide) (rfl : 9 + 1 = 10)) (v_ai (v_iconst (v := 1) dX7_pressure_10 (by decide) (rfl : 10 + 1 = 11)) v_anil))) dX7_pressure_11 (rfl : 11 + 3 = 14)) dX7_pressure_14 (rfl : ((14 : Nat) : Int) + 7 = ((21 : Nat) : Int)) (rfl : 14 + 3 = 17)))) (v_retj (v_ldc2 (v := (-1)) lk729 dX7_pressure_17 (rfl : 17 + 3 = 20)) dX7_pressure_20) v_nop) (v_seq (v_scv kX0 IX0_solve hX0_solve lk701 ⟨by decide, by decide⟩ (v_gfr kX7 lk353 (by decide) rfl (v_aload_n (i := 0) dX7_pressure_21 rfl (rfl : 21 + 1 = 22)) dX7_pressure_22 (rfl : 22 + 3 = 25)) (v_ar (v_gfr kX7 lk351 (by decide) rfl (v_aload_n (i := 0) dX7_pressure_25 rfl (rfl : 25 + 1 = 26)) dX7_pressure_26 (rfl : 26 + 3 = 29)) v_anil) dX7_pressure_29 (rfl : 29 + 3 = 32)) (v_seq (v_if (v_zne_f (v_cvz kX0 IX0_hunts hX0_hunts lk702 ⟨by decide, by decide⟩ (by decide) (v_gfr kX7 lk353 (by decide) rfl (v_aload_n (i := 0) dX7_pressure_32 rfl (rfl : 32 + 1 = 33)) dX7_pressure_33 (rfl : 33 + 3 = 36)) v_anil dX7_pressure_36 (rfl : 36 + 3 = 39)) dX7_pressure_39 (rfl : ((39 : Nat) : Int) + 7 = ((46 : Nat) : Int)) (rfl : 39 + 3 = 42)) (v_retj (v_ldc2 (v := (-3)) lk730 dX7_pressure_42 (rfl : 42 + 3 = 45)) dX7_pressure_45) v_nop) (v_seq (v_if (v_zne_f (v_cvz kX0 IX0_isEndless hX0_isEndless lk731 ⟨by decide, by decide⟩ (by decide) (v_gfr kX7 lk353 (by decide) rfl (v_aload_n (i := 0) dX7_pressure_46 rfl (rfl : 46 + 1 = 47)) dX7_pressure_47 (rfl : 47 + 3 = 50)) (v_ai (v_iload_n (i := 1) dX7_pressure_50 rfl (rfl : 50 + 1 = 51)) v_anil) dX7_pressure_51 (rfl : 51 + 3 = 54)) dX7_pressure_54 (rfl : ((54 : Nat) : Int) + 7 = ((61 : Nat) : Int)) (rfl : 54 + 3 = 57)) (v_retj (v_ldc2 (v := (-2)) lk732 dX7_pressure_57 (rfl : 57 + 3 = 60)) dX7_pressure_60) v_nop) (v_retj (v_csj IX2_term hX2_term lk733 ⟨by decide, by decide⟩ (by decide) (v_aj (v_jald (v_gfr kX0 lk217 (by decide) rfl (v_gfr kX7 lk353 (by decide) rfl (v_aload_n (i := 0) dX7_pressure_61 rfl (rfl : 61 + 1 = 62)) dX7_pressure_62 (rfl : 62 + 3 = 65)) dX7_pressure_65 (rfl : 65 + 3 = 68)) (v_iload_n (i := 1) dX7_pressure_68 rfl (rfl : 68 + 1 = 69)) dX7_pressure_69 (rfl : 69 + 1 = 70)) (v_aj (v_gfj kX0 lk219 (by decide) rfl (v_gfr kX7 lk353 (by decide) rfl (v_aload_n (i := 0) dX7_pressure_70 rfl (rfl : 70 + 1 = 71)) dX7_pressure_71 (rfl : 71 + 3 = 74)) dX7_pressure_74 (rfl : 74 + 3 = 77)) (v_ai (v_iload_n (i := 2) dX7_pressure_77 rfl (rfl : 77 + 1 = 78)) v_anil))) dX7_pressure_78 (rfl : 78 + 3 = 81)) dX7_pressure_81)))))
theorem IX7_pressure : Mj yX7_pressure cX7_pressure 3 (rmk 4 106) DX7_pressure := mk_j (by decide +kernel) BX7_pressure

theorem dX7_probe_0 : decode cX7_probe 0 = .ok (.iload_n 1, 1) := by decide +kernel
theorem dX7_probe_1 : decode cX7_probe 1 = .ok (.iconst 0, 1) := by decide +kernel
theorem dX7_probe_2 : decode cX7_probe 2 = .ok (.iconst 1, 1) := by decide +kernel
theorem dX7_probe_3 : decode cX7_probe 3 = .ok (.invokestatic 75, 3) := by decide +kernel
theorem dX7_probe_6 : decode cX7_probe 6 = .ok (.ifCond .ne 5, 3) := by decide +kernel
theorem dX7_probe_9 : decode cX7_probe 9 = .ok (.iconst (-1), 1) := by decide +kernel
theorem dX7_probe_10 : decode cX7_probe 10 = .ok (.ireturn, 1) := by decide +kernel
theorem dX7_probe_11 : decode cX7_probe 11 = .ok (.aload_n 0, 1) := by decide +kernel
theorem dX7_probe_12 : decode cX7_probe 12 = .ok (.getfield 16, 3) := by decide +kernel
theorem dX7_probe_15 : decode cX7_probe 15 = .ok (.aload_n 0, 1) := by decide +kernel
theorem dX7_probe_16 : decode cX7_probe 16 = .ok (.getfield 10, 3) := by decide +kernel
theorem dX7_probe_19 : decode cX7_probe 19 = .ok (.invokevirtual 205, 3) := by decide +kernel
theorem dX7_probe_22 : decode cX7_probe 22 = .ok (.aload_n 0, 1) := by decide +kernel
theorem dX7_probe_23 : decode cX7_probe 23 = .ok (.getfield 38, 3) := by decide +kernel
theorem dX7_probe_26 : decode cX7_probe 26 = .ok (.aload_n 0, 1) := by decide +kernel
theorem dX7_probe_27 : decode cX7_probe 27 = .ok (.getfield 16, 3) := by decide +kernel
theorem dX7_probe_30 : decode cX7_probe 30 = .ok (.invokevirtual 270, 3) := by decide +kernel
theorem dX7_probe_33 : decode cX7_probe 33 = .ok (.aload_n 0, 1) := by decide +kernel
theorem dX7_probe_34 : decode cX7_probe 34 = .ok (.getfield 38, 3) := by decide +kernel
theorem dX7_probe_37 : decode cX7_probe 37 = .ok (.getfield 273, 3) := by decide +kernel
theorem dX7_probe_40 : decode cX7_probe 40 = .ok (.ifCond .ne 5, 3) := by decide +kernel
theorem dX7_probe_43 : decode cX7_probe 43 = .ok (.iconst (-1), 1) := by decide +kernel
theorem dX7_probe_44 : decode cX7_probe 44 = .ok (.ireturn, 1) := by decide +kernel
theorem dX7_probe_45 : decode cX7_probe 45 = .ok (.iconst (-1), 1) := by decide +kernel
theorem dX7_probe_46 : decode cX7_probe 46 = .ok (.istore_n 2, 1) := by decide +kernel
theorem dX7_probe_47 : decode cX7_probe 47 = .ok (.iconst (-1), 1) := by decide +kernel
theorem dX7_probe_48 : decode cX7_probe 48 = .ok (.istore_n 3, 1) := by decide +kernel
theorem dX7_probe_49 : decode cX7_probe 49 = .ok (.iconst 0, 1) := by decide +kernel
theorem dX7_probe_50 : decode cX7_probe 50 = .ok (.istore 4, 2) := by decide +kernel
theorem dX7_probe_52 : decode cX7_probe 52 = .ok (.iload 4, 2) := by decide +kernel
theorem dX7_probe_54 : decode cX7_probe 54 = .ok (.aload_n 0, 1) := by decide +kernel
theorem dX7_probe_55 : decode cX7_probe 55 = .ok (.getfield 10, 3) := by decide +kernel
theorem dX7_probe_58 : decode cX7_probe 58 = .ok (.getfield 105, 3) := by decide +kernel
theorem dX7_probe_61 : decode cX7_probe 61 = .ok (.if_icmp .ge 77, 3) := by decide +kernel
theorem dX7_probe_64 : decode cX7_probe 64 = .ok (.aload_n 0, 1) := by decide +kernel
theorem dX7_probe_65 : decode cX7_probe 65 = .ok (.getfield 16, 3) := by decide +kernel
theorem dX7_probe_68 : decode cX7_probe 68 = .ok (.aload_n 0, 1) := by decide +kernel
theorem dX7_probe_69 : decode cX7_probe 69 = .ok (.getfield 16, 3) := by decide +kernel
theorem dX7_probe_72 : decode cX7_probe 72 = .ok (.getfield 153, 3) := by decide +kernel
theorem dX7_probe_75 : decode cX7_probe 75 = .ok (.iload 4, 2) := by decide +kernel
theorem dX7_probe_77 : decode cX7_probe 77 = .ok (.aaload, 1) := by decide +kernel
theorem dX7_probe_78 : decode cX7_probe 78 = .ok (.iconst 3, 1) := by decide +kernel
theorem dX7_probe_79 : decode cX7_probe 79 = .ok (.invokevirtual 156, 3) := by decide +kernel
theorem dX7_probe_82 : decode cX7_probe 82 = .ok (.pop, 1) := by decide +kernel
theorem dX7_probe_83 : decode cX7_probe 83 = .ok (.aload_n 0, 1) := by decide +kernel
theorem dX7_probe_84 : decode cX7_probe 84 = .ok (.getfield 38, 3) := by decide +kernel
theorem dX7_probe_87 : decode cX7_probe 87 = .ok (.aload_n 0, 1) := by decide +kernel
theorem dX7_probe_88 : decode cX7_probe 88 = .ok (.getfield 16, 3) := by decide +kernel
theorem dX7_probe_91 : decode cX7_probe 91 = .ok (.invokevirtual 288, 3) := by decide +kernel
theorem dX7_probe_94 : decode cX7_probe 94 = .ok (.istore 5, 2) := by decide +kernel
theorem dX7_probe_96 : decode cX7_probe 96 = .ok (.aload_n 0, 1) := by decide +kernel
theorem dX7_probe_97 : decode cX7_probe 97 = .ok (.getfield 16, 3) := by decide +kernel
theorem dX7_probe_100 : decode cX7_probe 100 = .ok (.aload_n 0, 1) := by decide +kernel
theorem dX7_probe_101 : decode cX7_probe 101 = .ok (.getfield 16, 3) := by decide +kernel
theorem dX7_probe_104 : decode cX7_probe 104 = .ok (.getfield 153, 3) := by decide +kernel
theorem dX7_probe_107 : decode cX7_probe 107 = .ok (.iload 4, 2) := by decide +kernel
theorem dX7_probe_109 : decode cX7_probe 109 = .ok (.aaload, 1) := by decide +kernel
theorem dX7_probe_110 : decode cX7_probe 110 = .ok (.iconst 3, 1) := by decide +kernel
theorem dX7_probe_111 : decode cX7_probe 111 = .ok (.invokevirtual 156, 3) := by decide +kernel
theorem dX7_probe_114 : decode cX7_probe 114 = .ok (.pop, 1) := by decide +kernel
theorem dX7_probe_115 : decode cX7_probe 115 = .ok (.iload_n 2, 1) := by decide +kernel
theorem dX7_probe_116 : decode cX7_probe 116 = .ok (.iconst (-1), 1) := by decide +kernel
theorem dX7_probe_117 : decode cX7_probe 117 = .ok (.if_icmp .eq 9, 3) := by decide +kernel
theorem dX7_probe_120 : decode cX7_probe 120 = .ok (.iload 5, 2) := by decide +kernel
theorem dX7_probe_122 : decode cX7_probe 122 = .ok (.iload_n 3, 1) := by decide +kernel
theorem dX7_probe_123 : decode cX7_probe 123 = .ok (.if_icmp .ge 9, 3) := by decide +kernel
theorem dX7_probe_126 : decode cX7_probe 126 = .ok (.iload 4, 2) := by decide +kernel
theorem dX7_probe_128 : decode cX7_probe 128 = .ok (.istore_n 2, 1) := by decide +kernel
theorem dX7_probe_129 : decode cX7_probe 129 = .ok (.iload 5, 2) := by decide +kernel
theorem dX7_probe_131 : decode cX7_probe 131 = .ok (.istore_n 3, 1) := by decide +kernel
theorem dX7_probe_132 : decode cX7_probe 132 = .ok (.iinc 4 1, 3) := by decide +kernel
theorem dX7_probe_135 : decode cX7_probe 135 = .ok (.goto (-83), 3) := by decide +kernel
theorem dX7_probe_138 : decode cX7_probe 138 = .ok (.iload_n 1, 1) := by decide +kernel
theorem dX7_probe_139 : decode cX7_probe 139 = .ok (.ifCond .ne 7, 3) := by decide +kernel
theorem dX7_probe_142 : decode cX7_probe 142 = .ok (.iload_n 2, 1) := by decide +kernel
theorem dX7_probe_143 : decode cX7_probe 143 = .ok (.goto 4, 3) := by decide +kernel
theorem dX7_probe_146 : decode cX7_probe 146 = .ok (.iload_n 3, 1) := by decide +kernel
theorem dX7_probe_147 : decode cX7_probe 147 = .ok (.ireturn, 1) := by decide +kernel
noncomputable def qX7_probe_1 : Bx := (bc clt (il 4) (fgi 1 1 (fgr 6 0 (rl 0))))
noncomputable def wX7_probe_1 : Sx := (sseq (scut 5 (sseq (spop (cvi 1 DX1_flip (fgr 6 1 (rl 0)) (ar (rald 12 (fgr 1 10 (fgr 6 1 (rl 0))) (il 4)) (ai (ik 3) anil)))) (sseq (ssi 5 (cvi 4 DX5_leaves (fgr 6 4 (rl 0)) (ar (fgr 6 1 (rl 0)) anil))) (sseq (spop (cvi 1 DX1_flip (fgr 6 1 (rl 0)) (ar (rald 12 (fgr 1 10 (fgr 6 1 (rl 0))) (il 4)) (ai (ik 3) anil)))) (sif (bor (bc ceq (il 2) (ik (-1))) (bc clt (il 5) (il 3))) (sseq (ssi 2 (il 4)) (ssi 3 (il 5))) snop))))) (sinc 4 1))
noncomputable def EX7_probe : Sx := (sseq (sif (bnot (bz cne (csz DX7_within (ai (il 1) (ai (ik 0) (ai (ik 1) anil)))))) (sret (ik (-1))) snop) (sseq (scv 1 DX1_copyFrom (fgr 6 1 (rl 0)) (ar (fgr 6 0 (rl 0)) anil)) (sseq (scv 4 DX5_seek (fgr 6 4 (rl 0)) (ar (fgr 6 1 (rl 0)) anil)) (sseq (sif (bz ceq (fgi 4 4 (fgr 6 4 (rl 0)))) (sret (ik (-1))) snop) (sseq (ssi 2 (ik (-1))) (sseq (ssi 3 (ik (-1))) (sseq (scut 4 (sseq (ssi 4 (ik 0)) (swh qX7_probe_1 wX7_probe_1))) (sret (ic (bz ceq (il 1)) (il 2) (il 3))))))))))
noncomputable def DX7_probe : Fi := mfi 6 EX7_probe
set_option maxRecDepth 4000 in
theorem BX7_probe : Vs RX7 cX7_probe 6 (rmk 6 155) 0 0 EX7_probe := (v_seq (v_if (v_not (v_zne_t (v_csz IX7_within hX7_within lk392 ⟨by decide, by decide⟩ (by decide) (v_ai (v_iload_n (i := 1) dX7_probe_0 rfl (rfl : 0 + 1 = 1)) (v_ai (v_iconst (v := 0) dX7_probe_1 (by decide) (rfl : 1 + 1 = 2)) (v_ai (v_iconst (v := 1) dX7_probe_2 (by decide) (rfl : 2 + 1 = 3)) v_anil))) dX7_probe_3 (rfl : 3 + 3 = 6)) dX7_probe_6 (rfl : ((6 : Nat) : Int) + 5 = ((11 : Nat) : Int)) (rfl : 6 + 3 = 9))) (v_ret (v_iconst (v := (-1)) dX7_probe_9 (by decide) (rfl : 9 + 1 = 10)) dX7_probe_10) v_nop) (v_seq (v_scv kX1 IX1_copyFrom hX1_copyFrom lk716 ⟨by decide, by decide⟩ (v_gfr kX7 lk352 (by decide) rfl (v_aload_n (i := 0) dX7_probe_11 rfl (rfl : 11 + 1 = 12)) dX7_probe_12 (rfl : 12 + 3 = 15)) (v_ar (v_gfr kX7 lk351 (by decide) rfl (v_aload_n (i := 0) dX7_probe_15 rfl (rfl : 15 + 1 = 16)) dX7_probe_16 (rfl : 16 + 3 = 19)) v_anil) dX7_probe_19 (rfl : 19 + 3 = 22)) (v_seq (v_scv kX5 IX5_seek hX5_seek lk838 ⟨by decide, by decide⟩ (v_gfr kX7 lk355 (by decide) rfl (v_aload_n (i := 0) dX7_probe_22 rfl (rfl : 22 + 1 = 23)) dX7_probe_23 (rfl : 23 + 3 = 26)) (v_ar (v_gfr kX7 lk352 (by decide) rfl (v_aload_n (i := 0) dX7_probe_26 rfl (rfl : 26 + 1 = 27)) dX7_probe_27 (rfl : 27 + 3 = 30)) v_anil) dX7_probe_30 (rfl : 30 + 3 = 33)) (v_seq (v_if (v_zeq_f (v_gfi kX5 lk272 (by decide) rfl (v_gfr kX7 lk355 (by decide) rfl (v_aload_n (i := 0) dX7_probe_33 rfl (rfl : 33 + 1 = 34)) dX7_probe_34 (rfl : 34 + 3 = 37)) dX7_probe_37 (rfl : 37 + 3 = 40)) dX7_probe_40 (rfl : ((40 : Nat) : Int) + 5 = ((45 : Nat) : Int)) (rfl : 40 + 3 = 43)) (v_ret (v_iconst (v := (-1)) dX7_probe_43 (by decide) (rfl : 43 + 1 = 44)) dX7_probe_44) v_nop) (v_seq (v_istore_n (i := 2) (v_iconst (v := (-1)) dX7_probe_45 (by decide) (rfl : 45 + 1 = 46)) dX7_probe_46 rfl (by decide) (rfl : 46 + 1 = 47)) (v_seq (v_istore_n (i := 3) (v_iconst (v := (-1)) dX7_probe_47 (by decide) (rfl : 47 + 1 = 48)) dX7_probe_48 rfl (by decide) (rfl : 48 + 1 = 49)) (v_seq (v_cut (n := 4) (v_seq (v_istore (i := 4) (v_iconst (v := 0) dX7_probe_49 (by decide) (rfl : 49 + 1 = 50)) dX7_probe_50 (by decide) (rfl : 50 + 2 = 52)) (v_wh (v_ilt_f (v_iload (i := 4) dX7_probe_52 (rfl : 52 + 2 = 54)) (v_gfi kX1 lk131 (by decide) rfl (v_gfr kX7 lk351 (by decide) rfl (v_aload_n (i := 0) dX7_probe_54 rfl (rfl : 54 + 1 = 55)) dX7_probe_55 (rfl : 55 + 3 = 58)) dX7_probe_58 (rfl : 58 + 3 = 61)) dX7_probe_61 (rfl : ((61 : Nat) : Int) + 77 = ((138 : Nat) : Int)) (rfl : 61 + 3 = 64)) (vs_goto (v_seq (v_cut (n := 5) (v_seq (v_pop (v_cvi kX1 IX1_flip hX1_flip lk495 ⟨by decide, by decide⟩ (by decide) (v_gfr kX7 lk352 (by decide) rfl (v_aload_n (i := 0) dX7_probe_64 rfl (rfl : 64 + 1 = 65)) dX7_probe_65 (rfl : 65 + 3 = 68)) (v_ar (v_rald (q := 12) (t0 := 4) (ty0 := .array .int) ⟨by decide, by decide⟩ (fun _ => rfl) rfl (v_gfr kX1 lk156 (by decide) rfl (v_gfr kX7 lk352 (by decide) rfl (v_aload_n (i := 0) dX7_probe_68 rfl (rfl : 68 + 1 = 69)) dX7_probe_69 (rfl : 69 + 3 = 72)) dX7_probe_72 (rfl : 72 + 3 = 75)) (v_iload (i := 4) dX7_probe_75 (rfl : 75 + 2 = 77)) dX7_probe_77 (rfl : 77 + 1 = 78)) (v_ai (v_iconst (v := 3) dX7_probe_78 (by decide) (rfl : 78 + 1 = 79)) v_anil)) dX7_probe_79 (rfl : 79 + 3 = 82)) dX7_probe_82 (rfl : 82 + 1 = 83)) (v_seq (v_istore (i := 5) (v_cvi kX5 IX5_leaves hX5_leaves lk868 ⟨by decide, by decide⟩ (by decide) (v_gfr kX7 lk355 (by decide) rfl (v_aload_n (i := 0) dX7_probe_83 rfl (rfl : 83 + 1 = 84)) dX7_probe_84 (rfl : 84 + 3 = 87)) (v_ar (v_gfr kX7 lk352 (by decide) rfl (v_aload_n (i := 0) dX7_probe_87 rfl (rfl : 87 + 1 = 88)) dX7_probe_88 (rfl : 88 + 3 = 91)) v_anil) dX7_probe_91 (rfl : 91 + 3 = 94)) dX7_probe_94 (by decide) (rfl : 94 + 2 = 96)) (v_seq (v_pop (v_cvi kX1 IX1_flip hX1_flip lk495 ⟨by decide, by decide⟩ (by decide) (v_gfr kX7 lk352 (by decide) rfl (v_aload_n (i := 0) dX7_probe_96 rfl (rfl : 96 + 1 = 97)) dX7_probe_97 (rfl : 97 + 3 = 100)) (v_ar (v_rald (q := 12) (t0 := 4) (ty0 := .array .int) ⟨by decide, by decide⟩ (fun _ => rfl) rfl (v_gfr kX1 lk156 (by decide) rfl (v_gfr kX7 lk352 (by decide) rfl (v_aload_n (i := 0) dX7_probe_100 rfl (rfl : 100 + 1 = 101)) dX7_probe_101 (rfl : 101 + 3 = 104)) dX7_probe_104 (rfl : 104 + 3 = 107)) (v_iload (i := 4) dX7_probe_107 (rfl : 107 + 2 = 109)) dX7_probe_109 (rfl : 109 + 1 = 110)) (v_ai (v_iconst (v := 3) dX7_probe_110 (by decide) (rfl : 110 + 1 = 111)) v_anil)) dX7_probe_111 (rfl : 111 + 3 = 114)) dX7_probe_114 (rfl : 114 + 1 = 115)) (v_if (v_or (v_ieq_t (v_iload_n (i := 2) dX7_probe_115 rfl (rfl : 115 + 1 = 116)) (v_iconst (v := (-1)) dX7_probe_116 (by decide) (rfl : 116 + 1 = 117)) dX7_probe_117 (rfl : ((117 : Nat) : Int) + 9 = ((126 : Nat) : Int)) (rfl : 117 + 3 = 120)) (v_ilt_f (v_iload (i := 5) dX7_probe_120 (rfl : 120 + 2 = 122)) (v_iload_n (i := 3) dX7_probe_122 rfl (rfl : 122 + 1 = 123)) dX7_probe_123 (rfl : ((123 : Nat) : Int) + 9 = ((132 : Nat) : Int)) (rfl : 123 + 3 = 126))) (v_seq (v_istore_n (i := 2) (v_iload (i := 4) dX7_probe_126 (rfl : 126 + 2 = 128)) dX7_probe_128 rfl (by decide) (rfl : 128 + 1 = 129)) (v_istore_n (i := 3) (v_iload (i := 5) dX7_probe_129 (rfl : 129 + 2 = 131)) dX7_probe_131 rfl (by decide) (rfl : 131 + 1 = 132))) v_nop))))) (v_iinc (v := 1) dX7_probe_132 (by decide) (by decide) (rfl : 132 + 3 = 135))) dX7_probe_135 (rfl : ((135 : Nat) : Int) + (-83) = ((52 : Nat) : Int)))))) (v_ret (v_ic (v_zeq_f (v_iload_n (i := 1) dX7_probe_138 rfl (rfl : 138 + 1 = 139)) dX7_probe_139 (rfl : ((139 : Nat) : Int) + 7 = ((146 : Nat) : Int)) (rfl : 139 + 3 = 142)) (vi_goto (v_iload_n (i := 2) dX7_probe_142 rfl (rfl : 142 + 1 = 143)) dX7_probe_143 (rfl : ((143 : Nat) : Int) + 4 = ((147 : Nat) : Int))) (v_iload_n (i := 3) dX7_probe_146 rfl (rfl : 146 + 1 = 147))) dX7_probe_147))))))))
theorem IX7_probe : Mi yX7_probe cX7_probe 6 (rmk 6 155) DX7_probe := mk_i (by decide +kernel) BX7_probe

theorem dX7_pump_0 : decode cX7_pump 0 = .ok (.iload_n 2, 1) := by decide +kernel
theorem dX7_pump_1 : decode cX7_pump 1 = .ok (.iconst 1, 1) := by decide +kernel
theorem dX7_pump_2 : decode cX7_pump 2 = .ok (.bipush 40, 2) := by decide +kernel
theorem dX7_pump_4 : decode cX7_pump 4 = .ok (.invokestatic 75, 3) := by decide +kernel
theorem dX7_pump_7 : decode cX7_pump 7 = .ok (.ifCond .ne 9, 3) := by decide +kernel
theorem dX7_pump_10 : decode cX7_pump 10 = .ok (.aload_n 0, 1) := by decide +kernel
theorem dX7_pump_11 : decode cX7_pump 11 = .ok (.iconst (-1), 1) := by decide +kernel
theorem dX7_pump_12 : decode cX7_pump 12 = .ok (.invokevirtual 79, 3) := by decide +kernel
theorem dX7_pump_15 : decode cX7_pump 15 = .ok (.ireturn, 1) := by decide +kernel
theorem dX7_pump_16 : decode cX7_pump 16 = .ok (.aload_n 0, 1) := by decide +kernel
theorem dX7_pump_17 : decode cX7_pump 17 = .ok (.iload_n 1, 1) := by decide +kernel
theorem dX7_pump_18 : decode cX7_pump 18 = .ok (.invokevirtual 97, 3) := by decide +kernel
theorem dX7_pump_21 : decode cX7_pump 21 = .ok (.ifCond .ne 10, 3) := by decide +kernel
theorem dX7_pump_24 : decode cX7_pump 24 = .ok (.aload_n 0, 1) := by decide +kernel
theorem dX7_pump_25 : decode cX7_pump 25 = .ok (.bipush (-2), 2) := by decide +kernel
theorem dX7_pump_27 : decode cX7_pump 27 = .ok (.invokevirtual 79, 3) := by decide +kernel
theorem dX7_pump_30 : decode cX7_pump 30 = .ok (.ireturn, 1) := by decide +kernel
theorem dX7_pump_31 : decode cX7_pump 31 = .ok (.aload_n 0, 1) := by decide +kernel
theorem dX7_pump_32 : decode cX7_pump 32 = .ok (.getfield 10, 3) := by decide +kernel
theorem dX7_pump_35 : decode cX7_pump 35 = .ok (.getfield 114, 3) := by decide +kernel
theorem dX7_pump_38 : decode cX7_pump 38 = .ok (.iconst 3, 1) := by decide +kernel
theorem dX7_pump_39 : decode cX7_pump 39 = .ok (.if_icmp .ge 18, 3) := by decide +kernel
theorem dX7_pump_42 : decode cX7_pump 42 = .ok (.aload_n 0, 1) := by decide +kernel
theorem dX7_pump_43 : decode cX7_pump 43 = .ok (.getfield 10, 3) := by decide +kernel
theorem dX7_pump_46 : decode cX7_pump 46 = .ok (.iload_n 1, 1) := by decide +kernel
theorem dX7_pump_47 : decode cX7_pump 47 = .ok (.invokevirtual 108, 3) := by decide +kernel
theorem dX7_pump_50 : decode cX7_pump 50 = .ok (.iload_n 2, 1) := by decide +kernel
theorem dX7_pump_51 : decode cX7_pump 51 = .ok (.iadd, 1) := by decide +kernel
theorem dX7_pump_52 : decode cX7_pump 52 = .ok (.bipush 120, 2) := by decide +kernel
theorem dX7_pump_54 : decode cX7_pump 54 = .ok (.if_icmp .le 10, 3) := by decide +kernel
theorem dX7_pump_57 : decode cX7_pump 57 = .ok (.aload_n 0, 1) := by decide +kernel
theorem dX7_pump_58 : decode cX7_pump 58 = .ok (.bipush (-5), 2) := by decide +kernel
theorem dX7_pump_60 : decode cX7_pump 60 = .ok (.invokevirtual 79, 3) := by decide +kernel
theorem dX7_pump_63 : decode cX7_pump 63 = .ok (.ireturn, 1) := by decide +kernel
theorem dX7_pump_64 : decode cX7_pump 64 = .ok (.aload_n 0, 1) := by decide +kernel
theorem dX7_pump_65 : decode cX7_pump 65 = .ok (.iconst 2, 1) := by decide +kernel
theorem dX7_pump_66 : decode cX7_pump 66 = .ok (.invokevirtual 86, 3) := by decide +kernel
theorem dX7_pump_69 : decode cX7_pump 69 = .ok (.aload_n 0, 1) := by decide +kernel
theorem dX7_pump_70 : decode cX7_pump 70 = .ok (.getfield 10, 3) := by decide +kernel
theorem dX7_pump_73 : decode cX7_pump 73 = .ok (.iload_n 1, 1) := by decide +kernel
theorem dX7_pump_74 : decode cX7_pump 74 = .ok (.iload_n 2, 1) := by decide +kernel
theorem dX7_pump_75 : decode cX7_pump 75 = .ok (.invokevirtual 117, 3) := by decide +kernel
theorem dX7_pump_78 : decode cX7_pump 78 = .ok (.ireturn, 1) := by decide +kernel
noncomputable def EX7_pump : Sx := (sseq (sif (bnot (bz cne (csz DX7_within (ai (il 2) (ai (ik 1) (ai (ik 40) anil)))))) (sret (cvi 6 DX7_refuse (rl 0) (ai (ik (-1)) anil))) snop) (sseq (sif (bnot (bz cne (cvz 6 DX7_isChamber (rl 0) (ai (il 1) anil)))) (sret (cvi 6 DX7_refuse (rl 0) (ai (ik (-2)) anil))) snop) (sseq (sif (bor (bc cge (fgi 1 2 (fgr 6 0 (rl 0))) (ik 3)) (bc cgt (i2 (· + ·) (cvi 1 DX1_weight (fgr 6 0 (rl 0)) (ai (il 1) anil)) (il 2)) (ik 120))) (sret (cvi 6 DX7_refuse (rl 0) (ai (ik (-5)) anil))) snop) (sseq (scv 6 DX7_accept (rl 0) (ai (ik 2) anil)) (sret (cvi 1 DX1_addPump (fgr 6 0 (rl 0)) (ai (il 1) (ai (il 2) anil))))))))
noncomputable def DX7_pump : Fi := mfi 3 EX7_pump
set_option maxRecDepth 4000 in
theorem BX7_pump : Vs RX7 cX7_pump 3 (rmk 5 128) 0 0 EX7_pump := (v_seq (v_if (v_not (v_zne_t (v_csz IX7_within hX7_within lk392 ⟨by decide, by decide⟩ (by decide) (v_ai (v_iload_n (i := 2) dX7_pump_0 rfl (rfl : 0 + 1 = 1)) (v_ai (v_iconst (v := 1) dX7_pump_1 (by decide) (rfl : 1 + 1 = 2)) (v_ai (v_bipush (v := 40) dX7_pump_2 (by decide) (rfl : 2 + 2 = 4)) v_anil))) dX7_pump_4 (rfl : 4 + 3 = 7)) dX7_pump_7 (rfl : ((7 : Nat) : Int) + 9 = ((16 : Nat) : Int)) (rfl : 7 + 3 = 10))) (v_ret (v_cvi kX7 IX7_refuse hX7_refuse lk395 ⟨by decide, by decide⟩ (by decide) (v_aload_n (i := 0) dX7_pump_10 rfl (rfl : 10 + 1 = 11)) (v_ai (v_iconst (v := (-1)) dX7_pump_11 (by decide) (rfl : 11 + 1 = 12)) v_anil) dX7_pump_12 (rfl : 12 + 3 = 15)) dX7_pump_15) v_nop) (v_seq (v_if (v_not (v_zne_t (v_cvz kX7 IX7_isChamber hX7_isChamber lk428 ⟨by decide, by decide⟩ (by decide) (v_aload_n (i := 0) dX7_pump_16 rfl (rfl : 16 + 1 = 17)) (v_ai (v_iload_n (i := 1) dX7_pump_17 rfl (rfl : 17 + 1 = 18)) v_anil) dX7_pump_18 (rfl : 18 + 3 = 21)) dX7_pump_21 (rfl : ((21 : Nat) : Int) + 10 = ((31 : Nat) : Int)) (rfl : 21 + 3 = 24))) (v_ret (v_cvi kX7 IX7_refuse hX7_refuse lk395 ⟨by decide, by decide⟩ (by decide) (v_aload_n (i := 0) dX7_pump_24 rfl (rfl : 24 + 1 = 25)) (v_ai (v_bipush (v := (-2)) dX7_pump_25 (by decide) (rfl : 25 + 2 = 27)) v_anil) dX7_pump_27 (rfl : 27 + 3 = 30)) dX7_pump_30) v_nop) (v_seq (v_if (v_or (v_ige_t (v_gfi kX1 lk134 (by decide) rfl (v_gfr kX7 lk351 (by decide) rfl (v_aload_n (i := 0) dX7_pump_31 rfl (rfl : 31 + 1 = 32)) dX7_pump_32 (rfl : 32 + 3 = 35)) dX7_pump_35 (rfl : 35 + 3 = 38)) (v_iconst (v := 3) dX7_pump_38 (by decide) (rfl : 38 + 1 = 39)) dX7_pump_39 (rfl : ((39 : Nat) : Int) + 18 = ((57 : Nat) : Int)) (rfl : 39 + 3 = 42)) (v_igt_f (v_iadd (v_cvi kX1 IX1_weight hX1_weight lk441 ⟨by decide, by decide⟩ (by decide) (v_gfr kX7 lk351 (by decide) rfl (v_aload_n (i := 0) dX7_pump_42 rfl (rfl : 42 + 1 = 43)) dX7_pump_43 (rfl : 43 + 3 = 46)) (v_ai (v_iload_n (i := 1) dX7_pump_46 rfl (rfl : 46 + 1 = 47)) v_anil) dX7_pump_47 (rfl : 47 + 3 = 50)) (v_iload_n (i := 2) dX7_pump_50 rfl (rfl : 50 + 1 = 51)) dX7_pump_51 (rfl : 51 + 1 = 52)) (v_bipush (v := 120) dX7_pump_52 (by decide) (rfl : 52 + 2 = 54)) dX7_pump_54 (rfl : ((54 : Nat) : Int) + 10 = ((64 : Nat) : Int)) (rfl : 54 + 3 = 57))) (v_ret (v_cvi kX7 IX7_refuse hX7_refuse lk395 ⟨by decide, by decide⟩ (by decide) (v_aload_n (i := 0) dX7_pump_57 rfl (rfl : 57 + 1 = 58)) (v_ai (v_bipush (v := (-5)) dX7_pump_58 (by decide) (rfl : 58 + 2 = 60)) v_anil) dX7_pump_60 (rfl : 60 + 3 = 63)) dX7_pump_63) v_nop) (v_seq (v_scv kX7 IX7_accept hX7_accept lk399 ⟨by decide, by decide⟩ (v_aload_n (i := 0) dX7_pump_64 rfl (rfl : 64 + 1 = 65)) (v_ai (v_iconst (v := 2) dX7_pump_65 (by decide) (rfl : 65 + 1 = 66)) v_anil) dX7_pump_66 (rfl : 66 + 3 = 69)) (v_ret (v_cvi kX1 IX1_addPump hX1_addPump lk460 ⟨by decide, by decide⟩ (by decide) (v_gfr kX7 lk351 (by decide) rfl (v_aload_n (i := 0) dX7_pump_69 rfl (rfl : 69 + 1 = 70)) dX7_pump_70 (rfl : 70 + 3 = 73)) (v_ai (v_iload_n (i := 1) dX7_pump_73 rfl (rfl : 73 + 1 = 74)) (v_ai (v_iload_n (i := 2) dX7_pump_74 rfl (rfl : 74 + 1 = 75)) v_anil)) dX7_pump_75 (rfl : 75 + 3 = 78)) dX7_pump_78)))))
theorem IX7_pump : Mi yX7_pump cX7_pump 3 (rmk 5 128) DX7_pump := mk_i (by decide +kernel) BX7_pump

theorem dX7_reading_0 : decode cX7_reading 0 = .ok (.aload_n 0, 1) := by decide +kernel
theorem dX7_reading_1 : decode cX7_reading 1 = .ok (.iload_n 1, 1) := by decide +kernel
theorem dX7_reading_2 : decode cX7_reading 2 = .ok (.invokevirtual 97, 3) := by decide +kernel
theorem dX7_reading_5 : decode cX7_reading 5 = .ok (.ifCond .ne 5, 3) := by decide +kernel
theorem dX7_reading_8 : decode cX7_reading 8 = .ok (.iconst (-1), 1) := by decide +kernel
theorem dX7_reading_9 : decode cX7_reading 9 = .ok (.ireturn, 1) := by decide +kernel
theorem dX7_reading_10 : decode cX7_reading 10 = .ok (.aload_n 0, 1) := by decide +kernel
theorem dX7_reading_11 : decode cX7_reading 11 = .ok (.getfield 22, 3) := by decide +kernel
theorem dX7_reading_14 : decode cX7_reading 14 = .ok (.aload_n 0, 1) := by decide +kernel
theorem dX7_reading_15 : decode cX7_reading 15 = .ok (.getfield 10, 3) := by decide +kernel
theorem dX7_reading_18 : decode cX7_reading 18 = .ok (.invokevirtual 191, 3) := by decide +kernel
theorem dX7_reading_21 : decode cX7_reading 21 = .ok (.aload_n 0, 1) := by decide +kernel
theorem dX7_reading_22 : decode cX7_reading 22 = .ok (.getfield 22, 3) := by decide +kernel
theorem dX7_reading_25 : decode cX7_reading 25 = .ok (.iload_n 1, 1) := by decide +kernel
theorem dX7_reading_26 : decode cX7_reading 26 = .ok (.invokevirtual 199, 3) := by decide +kernel
theorem dX7_reading_29 : decode cX7_reading 29 = .ok (.ireturn, 1) := by decide +kernel
noncomputable def EX7_reading : Sx := (sseq (sif (bnot (bz cne (cvz 6 DX7_isChamber (rl 0) (ai (il 1) anil)))) (sret (ik (-1))) snop) (sseq (scv 0 DX0_solve (fgr 6 2 (rl 0)) (ar (fgr 6 0 (rl 0)) anil)) (sret (cvi 0 DX0_gauge (fgr 6 2 (rl 0)) (ai (il 1) anil)))))
noncomputable def DX7_reading : Fi := mfi 2 EX7_reading
set_option maxRecDepth 4000 in
theorem BX7_reading : Vs RX7 cX7_reading 2 (rmk 4 106) 0 0 EX7_reading := (v_seq (v_if (v_not (v_zne_t (v_cvz kX7 IX7_isChamber hX7_isChamber lk428 ⟨by decide, by decide⟩ (by decide) (v_aload_n (i := 0) dX7_reading_0 rfl (rfl : 0 + 1 = 1)) (v_ai (v_iload_n (i := 1) dX7_reading_1 rfl (rfl : 1 + 1 = 2)) v_anil) dX7_reading_2 (rfl : 2 + 3 = 5)) dX7_reading_5 (rfl : ((5 : Nat) : Int) + 5 = ((10 : Nat) : Int)) (rfl : 5 + 3 = 8))) (v_ret (v_iconst (v := (-1)) dX7_reading_8 (by decide) (rfl : 8 + 1 = 9)) dX7_reading_9) v_nop) (v_seq (v_scv kX0 IX0_solve hX0_solve lk701 ⟨by decide, by decide⟩ (v_gfr kX7 lk353 (by decide) rfl (v_aload_n (i := 0) dX7_reading_10 rfl (rfl : 10 + 1 = 11)) dX7_reading_11 (rfl : 11 + 3 = 14)) (v_ar (v_gfr kX7 lk351 (by decide) rfl (v_aload_n (i := 0) dX7_reading_14 rfl (rfl : 14 + 1 = 15)) dX7_reading_15 (rfl : 15 + 3 = 18)) v_anil) dX7_reading_18 (rfl : 18 + 3 = 21)) (v_ret (v_cvi kX0 IX0_gauge hX0_gauge lk703 ⟨by decide, by decide⟩ (by decide) (v_gfr kX7 lk353 (by decide) rfl (v_aload_n (i := 0) dX7_reading_21 rfl (rfl : 21 + 1 = 22)) dX7_reading_22 (rfl : 22 + 3 = 25)) (v_ai (v_iload_n (i := 1) dX7_reading_25 rfl (rfl : 25 + 1 = 26)) v_anil) dX7_reading_26 (rfl : 26 + 3 = 29)) dX7_reading_29)))
theorem IX7_reading : Mi yX7_reading cX7_reading 2 (rmk 4 106) DX7_reading := mk_i (by decide +kernel) BX7_reading

theorem dX7_reduced_0 : decode cX7_reduced 0 = .ok (.aload_n 0, 1) := by decide +kernel
theorem dX7_reduced_1 : decode cX7_reduced 1 = .ok (.iload_n 1, 1) := by decide +kernel
theorem dX7_reduced_2 : decode cX7_reduced 2 = .ok (.iload_n 2, 1) := by decide +kernel
theorem dX7_reduced_3 : decode cX7_reduced 3 = .ok (.invokevirtual 239, 3) := by decide +kernel
theorem dX7_reduced_6 : decode cX7_reduced 6 = .ok (.ifCond .eq 12, 3) := by decide +kernel
theorem dX7_reduced_9 : decode cX7_reduced 9 = .ok (.iload_n 3, 1) := by decide +kernel
theorem dX7_reduced_10 : decode cX7_reduced 10 = .ok (.iconst 0, 1) := by decide +kernel
theorem dX7_reduced_11 : decode cX7_reduced 11 = .ok (.iconst 2, 1) := by decide +kernel
theorem dX7_reduced_12 : decode cX7_reduced 12 = .ok (.invokestatic 75, 3) := by decide +kernel
theorem dX7_reduced_15 : decode cX7_reduced 15 = .ok (.ifCond .ne 7, 3) := by decide +kernel
theorem dX7_reduced_18 : decode cX7_reduced 18 = .ok (.ldc2_w 211, 3) := by decide +kernel
theorem dX7_reduced_21 : decode cX7_reduced 21 = .ok (.lreturn, 1) := by decide +kernel
theorem dX7_reduced_22 : decode cX7_reduced 22 = .ok (.aload_n 0, 1) := by decide +kernel
theorem dX7_reduced_23 : decode cX7_reduced 23 = .ok (.getfield 45, 3) := by decide +kernel
theorem dX7_reduced_26 : decode cX7_reduced 26 = .ok (.aload_n 0, 1) := by decide +kernel
theorem dX7_reduced_27 : decode cX7_reduced 27 = .ok (.getfield 10, 3) := by decide +kernel
theorem dX7_reduced_30 : decode cX7_reduced 30 = .ok (.iload_n 1, 1) := by decide +kernel
theorem dX7_reduced_31 : decode cX7_reduced 31 = .ok (.iload_n 2, 1) := by decide +kernel
theorem dX7_reduced_32 : decode cX7_reduced 32 = .ok (.invokevirtual 255, 3) := by decide +kernel
theorem dX7_reduced_35 : decode cX7_reduced 35 = .ok (.iload_n 3, 1) := by decide +kernel
theorem dX7_reduced_36 : decode cX7_reduced 36 = .ok (.ifCond .ne 12, 3) := by decide +kernel
theorem dX7_reduced_39 : decode cX7_reduced 39 = .ok (.aload_n 0, 1) := by decide +kernel
theorem dX7_reduced_40 : decode cX7_reduced 40 = .ok (.getfield 45, 3) := by decide +kernel
theorem dX7_reduced_43 : decode cX7_reduced 43 = .ok (.getfield 258, 3) := by decide +kernel
theorem dX7_reduced_46 : decode cX7_reduced 46 = .ok (.i2l, 1) := by decide +kernel
theorem dX7_reduced_47 : decode cX7_reduced 47 = .ok (.lreturn, 1) := by decide +kernel
theorem dX7_reduced_48 : decode cX7_reduced 48 = .ok (.aload_n 0, 1) := by decide +kernel
theorem dX7_reduced_49 : decode cX7_reduced 49 = .ok (.getfield 45, 3) := by decide +kernel
theorem dX7_reduced_52 : decode cX7_reduced 52 = .ok (.getfield 252, 3) := by decide +kernel
theorem dX7_reduced_55 : decode cX7_reduced 55 = .ok (.lconst 0, 1) := by decide +kernel
theorem dX7_reduced_56 : decode cX7_reduced 56 = .ok (.lcmp, 1) := by decide +kernel
theorem dX7_reduced_57 : decode cX7_reduced 57 = .ok (.ifCond .ne 7, 3) := by decide +kernel
theorem dX7_reduced_60 : decode cX7_reduced 60 = .ok (.lconst 0, 1) := by decide +kernel
theorem dX7_reduced_61 : decode cX7_reduced 61 = .ok (.goto 23, 3) := by decide +kernel
theorem dX7_reduced_64 : decode cX7_reduced 64 = .ok (.aload_n 0, 1) := by decide +kernel
theorem dX7_reduced_65 : decode cX7_reduced 65 = .ok (.getfield 45, 3) := by decide +kernel
theorem dX7_reduced_68 : decode cX7_reduced 68 = .ok (.getfield 249, 3) := by decide +kernel
theorem dX7_reduced_71 : decode cX7_reduced 71 = .ok (.aload_n 0, 1) := by decide +kernel
theorem dX7_reduced_72 : decode cX7_reduced 72 = .ok (.getfield 45, 3) := by decide +kernel
theorem dX7_reduced_75 : decode cX7_reduced 75 = .ok (.getfield 252, 3) := by decide +kernel
theorem dX7_reduced_78 : decode cX7_reduced 78 = .ok (.iload_n 3, 1) := by decide +kernel
theorem dX7_reduced_79 : decode cX7_reduced 79 = .ok (.iconst 1, 1) := by decide +kernel
theorem dX7_reduced_80 : decode cX7_reduced 80 = .ok (.isub, 1) := by decide +kernel
theorem dX7_reduced_81 : decode cX7_reduced 81 = .ok (.invokestatic 228, 3) := by decide +kernel
theorem dX7_reduced_84 : decode cX7_reduced 84 = .ok (.lreturn, 1) := by decide +kernel
noncomputable def EX7_reduced : Sx := (sseq (sif (bor (bnot (bz cne (cvz 6 DX7_areTwoChambers (rl 0) (ai (il 1) (ai (il 2) anil))))) (bnot (bz cne (csz DX7_within (ai (il 3) (ai (ik 0) (ai (ik 2) anil))))))) (sretj (jk (-1))) snop) (sseq (scv 3 DX4_reduce (fgr 6 5 (rl 0)) (ar (fgr 6 0 (rl 0)) (ai (il 1) (ai (il 2) anil)))) (sseq (sif (bz ceq (il 3)) (sretj (i2l (fgi 3 5 (fgr 6 5 (rl 0))))) snop) (sretj (jc (bj qeq (fgj 3 4 (fgr 6 5 (rl 0))) (jk 0)) (jk 0) (csj DX2_term (aj (fgj 3 3 (fgr 6 5 (rl 0))) (aj (fgj 3 4 (fgr 6 5 (rl 0))) (ai (i2 (· - ·) (il 3) (ik 1)) anil)))))))))
noncomputable def DX7_reduced : Fj := mfj 4 EX7_reduced
set_option maxRecDepth 4000 in
theorem BX7_reduced : Vs RX7 cX7_reduced 4 (rmk 6 183) 0 0 EX7_reduced := (v_seq (v_if (v_or (v_not (v_zne_f (v_cvz kX7 IX7_areTwoChambers hX7_areTwoChambers lk768 ⟨by decide, by decide⟩ (by decide) (v_aload_n (i := 0) dX7_reduced_0 rfl (rfl : 0 + 1 = 1)) (v_ai (v_iload_n (i := 1) dX7_reduced_1 rfl (rfl : 1 + 1 = 2)) (v_ai (v_iload_n (i := 2) dX7_reduced_2 rfl (rfl : 2 + 1 = 3)) v_anil)) dX7_reduced_3 (rfl : 3 + 3 = 6)) dX7_reduced_6 (rfl : ((6 : Nat) : Int) + 12 = ((18 : Nat) : Int)) (rfl : 6 + 3 = 9))) (v_not (v_zne_t (v_csz IX7_within hX7_within lk392 ⟨by decide, by decide⟩ (by decide) (v_ai (v_iload_n (i := 3) dX7_reduced_9 rfl (rfl : 9 + 1 = 10)) (v_ai (v_iconst (v := 0) dX7_reduced_10 (by decide) (rfl : 10 + 1 = 11)) (v_ai (v_iconst (v := 2) dX7_reduced_11 (by decide) (rfl : 11 + 1 = 12)) v_anil))) dX7_reduced_12 (rfl : 12 + 3 = 15)) dX7_reduced_15 (rfl : ((15 : Nat) : Int) + 7 = ((22 : Nat) : Int)) (rfl : 15 + 3 = 18)))) (v_retj (v_ldc2 (v := (-1)) lk729 dX7_reduced_18 (rfl : 18 + 3 = 21)) dX7_reduced_21) v_nop) (v_seq (v_scv kX4 IX4_reduce hX4_reduce lk797 ⟨by decide, by decide⟩ (v_gfr kX7 lk356 (by decide) rfl (v_aload_n (i := 0) dX7_reduced_22 rfl (rfl : 22 + 1 = 23)) dX7_reduced_23 (rfl : 23 + 3 = 26)) (v_ar (v_gfr kX7 lk351 (by decide) rfl (v_aload_n (i := 0) dX7_reduced_26 rfl (rfl : 26 + 1 = 27)) dX7_reduced_27 (rfl : 27 + 3 = 30)) (v_ai (v_iload_n (i := 1) dX7_reduced_30 rfl (rfl : 30 + 1 = 31)) (v_ai (v_iload_n (i := 2) dX7_reduced_31 rfl (rfl : 31 + 1 = 32)) v_anil))) dX7_reduced_32 (rfl : 32 + 3 = 35)) (v_seq (v_if (v_zeq_f (v_iload_n (i := 3) dX7_reduced_35 rfl (rfl : 35 + 1 = 36)) dX7_reduced_36 (rfl : ((36 : Nat) : Int) + 12 = ((48 : Nat) : Int)) (rfl : 36 + 3 = 39)) (v_retj (v_i2l (v_gfi kX4 lk314 (by decide) rfl (v_gfr kX7 lk356 (by decide) rfl (v_aload_n (i := 0) dX7_reduced_39 rfl (rfl : 39 + 1 = 40)) dX7_reduced_40 (rfl : 40 + 3 = 43)) dX7_reduced_43 (rfl : 43 + 3 = 46)) dX7_reduced_46 (rfl : 46 + 1 = 47)) dX7_reduced_47) v_nop) (v_retj (v_jc (v_jeq_f (v_gfj kX4 lk312 (by decide) rfl (v_gfr kX7 lk356 (by decide) rfl (v_aload_n (i := 0) dX7_reduced_48 rfl (rfl : 48 + 1 = 49)) dX7_reduced_49 (rfl : 49 + 3 = 52)) dX7_reduced_52 (rfl : 52 + 3 = 55)) (v_lconst (v := 0) dX7_reduced_55 (by decide) (rfl : 55 + 1 = 56)) dX7_reduced_56 dX7_reduced_57 (rfl : ((57 : Nat) : Int) + 7 = ((64 : Nat) : Int)) (rfl : 57 + 3 = 60)) (vj_goto (v_lconst (v := 0) dX7_reduced_60 (by decide) (rfl : 60 + 1 = 61)) dX7_reduced_61 (rfl : ((61 : Nat) : Int) + 23 = ((84 : Nat) : Int))) (v_csj IX2_term hX2_term lk733 ⟨by decide, by decide⟩ (by decide) (v_aj (v_gfj kX4 lk310 (by decide) rfl (v_gfr kX7 lk356 (by decide) rfl (v_aload_n (i := 0) dX7_reduced_64 rfl (rfl : 64 + 1 = 65)) dX7_reduced_65 (rfl : 65 + 3 = 68)) dX7_reduced_68 (rfl : 68 + 3 = 71)) (v_aj (v_gfj kX4 lk312 (by decide) rfl (v_gfr kX7 lk356 (by decide) rfl (v_aload_n (i := 0) dX7_reduced_71 rfl (rfl : 71 + 1 = 72)) dX7_reduced_72 (rfl : 72 + 3 = 75)) dX7_reduced_75 (rfl : 75 + 3 = 78)) (v_ai (v_isub (v_iload_n (i := 3) dX7_reduced_78 rfl (rfl : 78 + 1 = 79)) (v_iconst (v := 1) dX7_reduced_79 (by decide) (rfl : 79 + 1 = 80)) dX7_reduced_80 (rfl : 80 + 1 = 81)) v_anil))) dX7_reduced_81 (rfl : 81 + 3 = 84))) dX7_reduced_84))))
theorem IX7_reduced : Mj yX7_reduced cX7_reduced 4 (rmk 6 183) DX7_reduced := mk_j (by decide +kernel) BX7_reduced

theorem dX7_run_0 : decode cX7_run 0 = .ok (.aload_n 0, 1) := by decide +kernel
theorem dX7_run_1 : decode cX7_run 1 = .ok (.iload_n 1, 1) := by decide +kernel
theorem dX7_run_2 : decode cX7_run 2 = .ok (.invokevirtual 124, 3) := by decide +kernel
theorem dX7_run_5 : decode cX7_run 5 = .ok (.ifCond .ne 10, 3) := by decide +kernel
theorem dX7_run_8 : decode cX7_run 8 = .ok (.aload_n 0, 1) := by decide +kernel
theorem dX7_run_9 : decode cX7_run 9 = .ok (.bipush (-2), 2) := by decide +kernel
theorem dX7_run_11 : decode cX7_run 11 = .ok (.invokevirtual 79, 3) := by decide +kernel
theorem dX7_run_14 : decode cX7_run 14 = .ok (.ireturn, 1) := by decide +kernel
theorem dX7_run_15 : decode cX7_run 15 = .ok (.aload_n 0, 1) := by decide +kernel
theorem dX7_run_16 : decode cX7_run 16 = .ok (.bipush 6, 2) := by decide +kernel
theorem dX7_run_18 : decode cX7_run 18 = .ok (.invokevirtual 86, 3) := by decide +kernel
theorem dX7_run_21 : decode cX7_run 21 = .ok (.aload_n 0, 1) := by decide +kernel
theorem dX7_run_22 : decode cX7_run 22 = .ok (.getfield 10, 3) := by decide +kernel
theorem dX7_run_25 : decode cX7_run 25 = .ok (.aload_n 0, 1) := by decide +kernel
theorem dX7_run_26 : decode cX7_run 26 = .ok (.getfield 10, 3) := by decide +kernel
theorem dX7_run_29 : decode cX7_run 29 = .ok (.getfield 127, 3) := by decide +kernel
theorem dX7_run_32 : decode cX7_run 32 = .ok (.iload_n 1, 1) := by decide +kernel
theorem dX7_run_33 : decode cX7_run 33 = .ok (.aaload, 1) := by decide +kernel
theorem dX7_run_34 : decode cX7_run 34 = .ok (.iconst 1, 1) := by decide +kernel
theorem dX7_run_35 : decode cX7_run 35 = .ok (.invokevirtual 156, 3) := by decide +kernel
theorem dX7_run_38 : decode cX7_run 38 = .ok (.ireturn, 1) := by decide +kernel
noncomputable def EX7_run : Sx := (sseq (sif (bnot (bz cne (cvz 6 DX7_isPump (rl 0) (ai (il 1) anil)))) (sret (cvi 6 DX7_refuse (rl 0) (ai (ik (-2)) anil))) snop) (sseq (scv 6 DX7_accept (rl 0) (ai (ik 6) anil)) (sret (cvi 1 DX1_flip (fgr 6 0 (rl 0)) (ar (rald 12 (fgr 1 11 (fgr 6 0 (rl 0))) (il 1)) (ai (ik 1) anil))))))
noncomputable def DX7_run : Fi := mfi 2 EX7_run
set_option maxRecDepth 4000 in
theorem BX7_run : Vs RX7 cX7_run 2 (rmk 5 128) 0 0 EX7_run := (v_seq (v_if (v_not (v_zne_t (v_cvz kX7 IX7_isPump hX7_isPump lk471 ⟨by decide, by decide⟩ (by decide) (v_aload_n (i := 0) dX7_run_0 rfl (rfl : 0 + 1 = 1)) (v_ai (v_iload_n (i := 1) dX7_run_1 rfl (rfl : 1 + 1 = 2)) v_anil) dX7_run_2 (rfl : 2 + 3 = 5)) dX7_run_5 (rfl : ((5 : Nat) : Int) + 10 = ((15 : Nat) : Int)) (rfl : 5 + 3 = 8))) (v_ret (v_cvi kX7 IX7_refuse hX7_refuse lk395 ⟨by decide, by decide⟩ (by decide) (v_aload_n (i := 0) dX7_run_8 rfl (rfl : 8 + 1 = 9)) (v_ai (v_bipush (v := (-2)) dX7_run_9 (by decide) (rfl : 9 + 2 = 11)) v_anil) dX7_run_11 (rfl : 11 + 3 = 14)) dX7_run_14) v_nop) (v_seq (v_scv kX7 IX7_accept hX7_accept lk399 ⟨by decide, by decide⟩ (v_aload_n (i := 0) dX7_run_15 rfl (rfl : 15 + 1 = 16)) (v_ai (v_bipush (v := 6) dX7_run_16 (by decide) (rfl : 16 + 2 = 18)) v_anil) dX7_run_18 (rfl : 18 + 3 = 21)) (v_ret (v_cvi kX1 IX1_flip hX1_flip lk495 ⟨by decide, by decide⟩ (by decide) (v_gfr kX7 lk351 (by decide) rfl (v_aload_n (i := 0) dX7_run_21 rfl (rfl : 21 + 1 = 22)) dX7_run_22 (rfl : 22 + 3 = 25)) (v_ar (v_rald (q := 12) (t0 := 4) (ty0 := .array .int) ⟨by decide, by decide⟩ (fun _ => rfl) rfl (v_gfr kX1 lk159 (by decide) rfl (v_gfr kX7 lk351 (by decide) rfl (v_aload_n (i := 0) dX7_run_25 rfl (rfl : 25 + 1 = 26)) dX7_run_26 (rfl : 26 + 3 = 29)) dX7_run_29 (rfl : 29 + 3 = 32)) (v_iload_n (i := 1) dX7_run_32 rfl (rfl : 32 + 1 = 33)) dX7_run_33 (rfl : 33 + 1 = 34)) (v_ai (v_iconst (v := 1) dX7_run_34 (by decide) (rfl : 34 + 1 = 35)) v_anil)) dX7_run_35 (rfl : 35 + 3 = 38)) dX7_run_38)))
theorem IX7_run : Mi yX7_run cX7_run 2 (rmk 5 128) DX7_run := mk_i (by decide +kernel) BX7_run

theorem dX7_set_0 : decode cX7_set 0 = .ok (.iload_n 2, 1) := by decide +kernel
theorem dX7_set_1 : decode cX7_set 1 = .ok (.iconst 0, 1) := by decide +kernel
theorem dX7_set_2 : decode cX7_set 2 = .ok (.iconst 2, 1) := by decide +kernel
theorem dX7_set_3 : decode cX7_set 3 = .ok (.invokestatic 75, 3) := by decide +kernel
theorem dX7_set_6 : decode cX7_set 6 = .ok (.ifCond .eq 16, 3) := by decide +kernel
theorem dX7_set_9 : decode cX7_set 9 = .ok (.iload_n 3, 1) := by decide +kernel
theorem dX7_set_10 : decode cX7_set 10 = .ok (.iconst 0, 1) := by decide +kernel
theorem dX7_set_11 : decode cX7_set 11 = .ok (.getstatic 72, 3) := by decide +kernel
theorem dX7_set_14 : decode cX7_set 14 = .ok (.iload_n 2, 1) := by decide +kernel
theorem dX7_set_15 : decode cX7_set 15 = .ok (.iaload, 1) := by decide +kernel
theorem dX7_set_16 : decode cX7_set 16 = .ok (.invokestatic 75, 3) := by decide +kernel
theorem dX7_set_19 : decode cX7_set 19 = .ok (.ifCond .ne 9, 3) := by decide +kernel
theorem dX7_set_22 : decode cX7_set 22 = .ok (.aload_n 0, 1) := by decide +kernel
theorem dX7_set_23 : decode cX7_set 23 = .ok (.iconst (-1), 1) := by decide +kernel
theorem dX7_set_24 : decode cX7_set 24 = .ok (.invokevirtual 79, 3) := by decide +kernel
theorem dX7_set_27 : decode cX7_set 27 = .ok (.ireturn, 1) := by decide +kernel
theorem dX7_set_28 : decode cX7_set 28 = .ok (.aload_n 0, 1) := by decide +kernel
theorem dX7_set_29 : decode cX7_set 29 = .ok (.iload_n 1, 1) := by decide +kernel
theorem dX7_set_30 : decode cX7_set 30 = .ok (.invokevirtual 97, 3) := by decide +kernel
theorem dX7_set_33 : decode cX7_set 33 = .ok (.ifCond .ne 10, 3) := by decide +kernel
theorem dX7_set_36 : decode cX7_set 36 = .ok (.aload_n 0, 1) := by decide +kernel
theorem dX7_set_37 : decode cX7_set 37 = .ok (.bipush (-2), 2) := by decide +kernel
theorem dX7_set_39 : decode cX7_set 39 = .ok (.invokevirtual 79, 3) := by decide +kernel
theorem dX7_set_42 : decode cX7_set 42 = .ok (.ireturn, 1) := by decide +kernel
theorem dX7_set_43 : decode cX7_set 43 = .ok (.aload_n 0, 1) := by decide +kernel
theorem dX7_set_44 : decode cX7_set 44 = .ok (.iconst 4, 1) := by decide +kernel
theorem dX7_set_45 : decode cX7_set 45 = .ok (.invokevirtual 86, 3) := by decide +kernel
theorem dX7_set_48 : decode cX7_set 48 = .ok (.aload_n 0, 1) := by decide +kernel
theorem dX7_set_49 : decode cX7_set 49 = .ok (.getfield 10, 3) := by decide +kernel
theorem dX7_set_52 : decode cX7_set 52 = .ok (.getfield 147, 3) := by decide +kernel
theorem dX7_set_55 : decode cX7_set 55 = .ok (.iload_n 1, 1) := by decide +kernel
theorem dX7_set_56 : decode cX7_set 56 = .ok (.aaload, 1) := by decide +kernel
theorem dX7_set_57 : decode cX7_set 57 = .ok (.iload_n 2, 1) := by decide +kernel
theorem dX7_set_58 : decode cX7_set 58 = .ok (.iload_n 3, 1) := by decide +kernel
theorem dX7_set_59 : decode cX7_set 59 = .ok (.invokestatic 143, 3) := by decide +kernel
theorem dX7_set_62 : decode cX7_set 62 = .ok (.ireturn, 1) := by decide +kernel
noncomputable def EX7_set : Sx := (sseq (sif (bor (bnot (bz cne (csz DX7_within (ai (il 2) (ai (ik 0) (ai (ik 2) anil)))))) (bnot (bz cne (csz DX7_within (ai (il 3) (ai (ik 0) (ai (sald 0 (il 2)) anil))))))) (sret (cvi 6 DX7_refuse (rl 0) (ai (ik (-1)) anil))) snop) (sseq (sif (bnot (bz cne (cvz 6 DX7_isChamber (rl 0) (ai (il 1) anil)))) (sret (cvi 6 DX7_refuse (rl 0) (ai (ik (-2)) anil))) snop) (sseq (scv 6 DX7_accept (rl 0) (ai (ik 4) anil)) (sret (csi DX7_swap (ar (rald 12 (fgr 1 9 (fgr 6 0 (rl 0))) (il 1)) (ai (il 2) (ai (il 3) anil))))))))
noncomputable def DX7_set : Fi := mfi 4 EX7_set
set_option maxRecDepth 4000 in
theorem BX7_set : Vs RX7 cX7_set 4 (rmk 5 128) 0 0 EX7_set := (v_seq (v_if (v_or (v_not (v_zne_f (v_csz IX7_within hX7_within lk392 ⟨by decide, by decide⟩ (by decide) (v_ai (v_iload_n (i := 2) dX7_set_0 rfl (rfl : 0 + 1 = 1)) (v_ai (v_iconst (v := 0) dX7_set_1 (by decide) (rfl : 1 + 1 = 2)) (v_ai (v_iconst (v := 2) dX7_set_2 (by decide) (rfl : 2 + 1 = 3)) v_anil))) dX7_set_3 (rfl : 3 + 3 = 6)) dX7_set_6 (rfl : ((6 : Nat) : Int) + 16 = ((22 : Nat) : Int)) (rfl : 6 + 3 = 9))) (v_not (v_zne_t (v_csz IX7_within hX7_within lk392 ⟨by decide, by decide⟩ (by decide) (v_ai (v_iload_n (i := 3) dX7_set_9 rfl (rfl : 9 + 1 = 10)) (v_ai (v_iconst (v := 0) dX7_set_10 (by decide) (rfl : 10 + 1 = 11)) (v_ai (v_sald0 lk390 dX7_set_11 (rfl : 11 + 3 = 14) (v_iload_n (i := 2) dX7_set_14 rfl (rfl : 14 + 1 = 15)) dX7_set_15 (rfl : 15 + 1 = 16)) v_anil))) dX7_set_16 (rfl : 16 + 3 = 19)) dX7_set_19 (rfl : ((19 : Nat) : Int) + 9 = ((28 : Nat) : Int)) (rfl : 19 + 3 = 22)))) (v_ret (v_cvi kX7 IX7_refuse hX7_refuse lk395 ⟨by decide, by decide⟩ (by decide) (v_aload_n (i := 0) dX7_set_22 rfl (rfl : 22 + 1 = 23)) (v_ai (v_iconst (v := (-1)) dX7_set_23 (by decide) (rfl : 23 + 1 = 24)) v_anil) dX7_set_24 (rfl : 24 + 3 = 27)) dX7_set_27) v_nop) (v_seq (v_if (v_not (v_zne_t (v_cvz kX7 IX7_isChamber hX7_isChamber lk428 ⟨by decide, by decide⟩ (by decide) (v_aload_n (i := 0) dX7_set_28 rfl (rfl : 28 + 1 = 29)) (v_ai (v_iload_n (i := 1) dX7_set_29 rfl (rfl : 29 + 1 = 30)) v_anil) dX7_set_30 (rfl : 30 + 3 = 33)) dX7_set_33 (rfl : ((33 : Nat) : Int) + 10 = ((43 : Nat) : Int)) (rfl : 33 + 3 = 36))) (v_ret (v_cvi kX7 IX7_refuse hX7_refuse lk395 ⟨by decide, by decide⟩ (by decide) (v_aload_n (i := 0) dX7_set_36 rfl (rfl : 36 + 1 = 37)) (v_ai (v_bipush (v := (-2)) dX7_set_37 (by decide) (rfl : 37 + 2 = 39)) v_anil) dX7_set_39 (rfl : 39 + 3 = 42)) dX7_set_42) v_nop) (v_seq (v_scv kX7 IX7_accept hX7_accept lk399 ⟨by decide, by decide⟩ (v_aload_n (i := 0) dX7_set_43 rfl (rfl : 43 + 1 = 44)) (v_ai (v_iconst (v := 4) dX7_set_44 (by decide) (rfl : 44 + 1 = 45)) v_anil) dX7_set_45 (rfl : 45 + 3 = 48)) (v_ret (v_csi IX7_swap hX7_swap lk480 ⟨by decide, by decide⟩ (by decide) (v_ar (v_rald (q := 12) (t0 := 4) (ty0 := .array .int) ⟨by decide, by decide⟩ (fun _ => rfl) rfl (v_gfr kX1 lk153 (by decide) rfl (v_gfr kX7 lk351 (by decide) rfl (v_aload_n (i := 0) dX7_set_48 rfl (rfl : 48 + 1 = 49)) dX7_set_49 (rfl : 49 + 3 = 52)) dX7_set_52 (rfl : 52 + 3 = 55)) (v_iload_n (i := 1) dX7_set_55 rfl (rfl : 55 + 1 = 56)) dX7_set_56 (rfl : 56 + 1 = 57)) (v_ai (v_iload_n (i := 2) dX7_set_57 rfl (rfl : 57 + 1 = 58)) (v_ai (v_iload_n (i := 3) dX7_set_58 rfl (rfl : 58 + 1 = 59)) v_anil))) dX7_set_59 (rfl : 59 + 3 = 62)) dX7_set_62))))
theorem IX7_set : Mi yX7_set cX7_set 4 (rmk 5 128) DX7_set := mk_i (by decide +kernel) BX7_set

theorem dX7_stage_0 : decode cX7_stage 0 = .ok (.aload_n 0, 1) := by decide +kernel
theorem dX7_stage_1 : decode cX7_stage 1 = .ok (.iload_n 1, 1) := by decide +kernel
theorem dX7_stage_2 : decode cX7_stage 2 = .ok (.invokevirtual 124, 3) := by decide +kernel
theorem dX7_stage_5 : decode cX7_stage 5 = .ok (.ifCond .ne 5, 3) := by decide +kernel
theorem dX7_stage_8 : decode cX7_stage 8 = .ok (.iconst (-1), 1) := by decide +kernel
theorem dX7_stage_9 : decode cX7_stage 9 = .ok (.ireturn, 1) := by decide +kernel
theorem dX7_stage_10 : decode cX7_stage 10 = .ok (.aload_n 0, 1) := by decide +kernel
theorem dX7_stage_11 : decode cX7_stage 11 = .ok (.getfield 22, 3) := by decide +kernel
theorem dX7_stage_14 : decode cX7_stage 14 = .ok (.aload_n 0, 1) := by decide +kernel
theorem dX7_stage_15 : decode cX7_stage 15 = .ok (.getfield 10, 3) := by decide +kernel
theorem dX7_stage_18 : decode cX7_stage 18 = .ok (.invokevirtual 191, 3) := by decide +kernel
theorem dX7_stage_21 : decode cX7_stage 21 = .ok (.aload_n 0, 1) := by decide +kernel
theorem dX7_stage_22 : decode cX7_stage 22 = .ok (.getfield 22, 3) := by decide +kernel
theorem dX7_stage_25 : decode cX7_stage 25 = .ok (.invokevirtual 195, 3) := by decide +kernel
theorem dX7_stage_28 : decode cX7_stage 28 = .ok (.ifCond .eq 8, 3) := by decide +kernel
theorem dX7_stage_31 : decode cX7_stage 31 = .ok (.bipush (-3), 2) := by decide +kernel
theorem dX7_stage_33 : decode cX7_stage 33 = .ok (.goto 11, 3) := by decide +kernel
theorem dX7_stage_36 : decode cX7_stage 36 = .ok (.aload_n 0, 1) := by decide +kernel
theorem dX7_stage_37 : decode cX7_stage 37 = .ok (.getfield 22, 3) := by decide +kernel
theorem dX7_stage_40 : decode cX7_stage 40 = .ok (.iload_n 1, 1) := by decide +kernel
theorem dX7_stage_41 : decode cX7_stage 41 = .ok (.invokevirtual 236, 3) := by decide +kernel
theorem dX7_stage_44 : decode cX7_stage 44 = .ok (.ireturn, 1) := by decide +kernel
noncomputable def EX7_stage : Sx := (sseq (sif (bnot (bz cne (cvz 6 DX7_isPump (rl 0) (ai (il 1) anil)))) (sret (ik (-1))) snop) (sseq (scv 0 DX0_solve (fgr 6 2 (rl 0)) (ar (fgr 6 0 (rl 0)) anil)) (sret (ic (bz cne (cvz 0 DX0_hunts (fgr 6 2 (rl 0)) anil)) (ik (-3)) (cvi 0 DX0_stageNow (fgr 6 2 (rl 0)) (ai (il 1) anil))))))
noncomputable def DX7_stage : Fi := mfi 2 EX7_stage
set_option maxRecDepth 4000 in
theorem BX7_stage : Vs RX7 cX7_stage 2 (rmk 4 106) 0 0 EX7_stage := (v_seq (v_if (v_not (v_zne_t (v_cvz kX7 IX7_isPump hX7_isPump lk471 ⟨by decide, by decide⟩ (by decide) (v_aload_n (i := 0) dX7_stage_0 rfl (rfl : 0 + 1 = 1)) (v_ai (v_iload_n (i := 1) dX7_stage_1 rfl (rfl : 1 + 1 = 2)) v_anil) dX7_stage_2 (rfl : 2 + 3 = 5)) dX7_stage_5 (rfl : ((5 : Nat) : Int) + 5 = ((10 : Nat) : Int)) (rfl : 5 + 3 = 8))) (v_ret (v_iconst (v := (-1)) dX7_stage_8 (by decide) (rfl : 8 + 1 = 9)) dX7_stage_9) v_nop) (v_seq (v_scv kX0 IX0_solve hX0_solve lk701 ⟨by decide, by decide⟩ (v_gfr kX7 lk353 (by decide) rfl (v_aload_n (i := 0) dX7_stage_10 rfl (rfl : 10 + 1 = 11)) dX7_stage_11 (rfl : 11 + 3 = 14)) (v_ar (v_gfr kX7 lk351 (by decide) rfl (v_aload_n (i := 0) dX7_stage_14 rfl (rfl : 14 + 1 = 15)) dX7_stage_15 (rfl : 15 + 3 = 18)) v_anil) dX7_stage_18 (rfl : 18 + 3 = 21)) (v_ret (v_ic (v_zne_f (v_cvz kX0 IX0_hunts hX0_hunts lk702 ⟨by decide, by decide⟩ (by decide) (v_gfr kX7 lk353 (by decide) rfl (v_aload_n (i := 0) dX7_stage_21 rfl (rfl : 21 + 1 = 22)) dX7_stage_22 (rfl : 22 + 3 = 25)) v_anil dX7_stage_25 (rfl : 25 + 3 = 28)) dX7_stage_28 (rfl : ((28 : Nat) : Int) + 8 = ((36 : Nat) : Int)) (rfl : 28 + 3 = 31)) (vi_goto (v_bipush (v := (-3)) dX7_stage_31 (by decide) (rfl : 31 + 2 = 33)) dX7_stage_33 (rfl : ((33 : Nat) : Int) + 11 = ((44 : Nat) : Int))) (v_cvi kX0 IX0_stageNow hX0_stageNow lk756 ⟨by decide, by decide⟩ (by decide) (v_gfr kX7 lk353 (by decide) rfl (v_aload_n (i := 0) dX7_stage_36 rfl (rfl : 36 + 1 = 37)) dX7_stage_37 (rfl : 37 + 3 = 40)) (v_ai (v_iload_n (i := 1) dX7_stage_40 rfl (rfl : 40 + 1 = 41)) v_anil) dX7_stage_41 (rfl : 41 + 3 = 44))) dX7_stage_44)))
theorem IX7_stage : Mi yX7_stage cX7_stage 2 (rmk 4 106) DX7_stage := mk_i (by decide +kernel) BX7_stage

theorem dX7_status_0 : decode cX7_status 0 = .ok (.aload_n 0, 1) := by decide +kernel
theorem dX7_status_1 : decode cX7_status 1 = .ok (.getfield 68, 3) := by decide +kernel
theorem dX7_status_4 : decode cX7_status 4 = .ok (.ireturn, 1) := by decide +kernel
noncomputable def EX7_status : Sx := (sret (fgi 6 10 (rl 0)))
noncomputable def DX7_status : Fi := mfi 1 EX7_status
set_option maxRecDepth 4000 in
theorem BX7_status : Vs RX7 cX7_status 1 (rmk 0 0) 0 0 EX7_status := (v_ret (v_gfi kX7 lk361 (by decide) rfl (v_aload_n (i := 0) dX7_status_0 rfl (rfl : 0 + 1 = 1)) dX7_status_1 (rfl : 1 + 3 = 4)) dX7_status_4)
theorem IX7_status : Mi yX7_status cX7_status 1 (rmk 0 0) DX7_status := mk_i (by decide +kernel) BX7_status

theorem dX7_steps_0 : decode cX7_steps 0 = .ok (.iload_n 1, 1) := by decide +kernel
theorem dX7_steps_1 : decode cX7_steps 1 = .ok (.iconst 1, 1) := by decide +kernel
theorem dX7_steps_2 : decode cX7_steps 2 = .ok (.bipush 40, 2) := by decide +kernel
theorem dX7_steps_4 : decode cX7_steps 4 = .ok (.invokestatic 75, 3) := by decide +kernel
theorem dX7_steps_7 : decode cX7_steps 7 = .ok (.ifCond .ne 9, 3) := by decide +kernel
theorem dX7_steps_10 : decode cX7_steps 10 = .ok (.aload_n 0, 1) := by decide +kernel
theorem dX7_steps_11 : decode cX7_steps 11 = .ok (.iconst (-1), 1) := by decide +kernel
theorem dX7_steps_12 : decode cX7_steps 12 = .ok (.invokevirtual 79, 3) := by decide +kernel
theorem dX7_steps_15 : decode cX7_steps 15 = .ok (.ireturn, 1) := by decide +kernel
theorem dX7_steps_16 : decode cX7_steps 16 = .ok (.aload_n 0, 1) := by decide +kernel
theorem dX7_steps_17 : decode cX7_steps 17 = .ok (.getfield 10, 3) := by decide +kernel
theorem dX7_steps_20 : decode cX7_steps 20 = .ok (.getfield 184, 3) := by decide +kernel
theorem dX7_steps_23 : decode cX7_steps 23 = .ok (.iload_n 1, 1) := by decide +kernel
theorem dX7_steps_24 : decode cX7_steps 24 = .ok (.iadd, 1) := by decide +kernel
theorem dX7_steps_25 : decode cX7_steps 25 = .ok (.sipush 9999, 3) := by decide +kernel
theorem dX7_steps_28 : decode cX7_steps 28 = .ok (.if_icmp .le 10, 3) := by decide +kernel
theorem dX7_steps_31 : decode cX7_steps 31 = .ok (.aload_n 0, 1) := by decide +kernel
theorem dX7_steps_32 : decode cX7_steps 32 = .ok (.bipush (-4), 2) := by decide +kernel
theorem dX7_steps_34 : decode cX7_steps 34 = .ok (.invokevirtual 79, 3) := by decide +kernel
theorem dX7_steps_37 : decode cX7_steps 37 = .ok (.ireturn, 1) := by decide +kernel
theorem dX7_steps_38 : decode cX7_steps 38 = .ok (.aload_n 0, 1) := by decide +kernel
theorem dX7_steps_39 : decode cX7_steps 39 = .ok (.bipush 10, 2) := by decide +kernel
theorem dX7_steps_41 : decode cX7_steps 41 = .ok (.invokevirtual 86, 3) := by decide +kernel
theorem dX7_steps_44 : decode cX7_steps 44 = .ok (.iconst 0, 1) := by decide +kernel
theorem dX7_steps_45 : decode cX7_steps 45 = .ok (.istore_n 2, 1) := by decide +kernel
theorem dX7_steps_46 : decode cX7_steps 46 = .ok (.iconst 0, 1) := by decide +kernel
theorem dX7_steps_47 : decode cX7_steps 47 = .ok (.istore_n 3, 1) := by decide +kernel
theorem dX7_steps_48 : decode cX7_steps 48 = .ok (.iload_n 3, 1) := by decide +kernel
theorem dX7_steps_49 : decode cX7_steps 49 = .ok (.iload_n 1, 1) := by decide +kernel
theorem dX7_steps_50 : decode cX7_steps 50 = .ok (.if_icmp .ge 23, 3) := by decide +kernel
theorem dX7_steps_53 : decode cX7_steps 53 = .ok (.iload_n 2, 1) := by decide +kernel
theorem dX7_steps_54 : decode cX7_steps 54 = .ok (.aload_n 0, 1) := by decide +kernel
theorem dX7_steps_55 : decode cX7_steps 55 = .ok (.getfield 31, 3) := by decide +kernel
theorem dX7_steps_58 : decode cX7_steps 58 = .ok (.aload_n 0, 1) := by decide +kernel
theorem dX7_steps_59 : decode cX7_steps 59 = .ok (.getfield 10, 3) := by decide +kernel
theorem dX7_steps_62 : decode cX7_steps 62 = .ok (.invokevirtual 187, 3) := by decide +kernel
theorem dX7_steps_65 : decode cX7_steps 65 = .ok (.iadd, 1) := by decide +kernel
theorem dX7_steps_66 : decode cX7_steps 66 = .ok (.istore_n 2, 1) := by decide +kernel
theorem dX7_steps_67 : decode cX7_steps 67 = .ok (.iinc 3 1, 3) := by decide +kernel
theorem dX7_steps_70 : decode cX7_steps 70 = .ok (.goto (-22), 3) := by decide +kernel
theorem dX7_steps_73 : decode cX7_steps 73 = .ok (.iload_n 2, 1) := by decide +kernel
theorem dX7_steps_74 : decode cX7_steps 74 = .ok (.ireturn, 1) := by decide +kernel
noncomputable def qX7_steps_1 : Bx := (bc clt (il 3) (il 1))
noncomputable def wX7_steps_1 : Sx := (sseq (ssi 2 (i2 (· + ·) (il 2) (cvi 5 DX6_step (fgr 6 3 (rl 0)) (ar (fgr 6 0 (rl 0)) anil)))) (sinc 3 1))
noncomputable def EX7_steps : Sx := (sseq (sif (bnot (bz cne (csz DX7_within (ai (il 1) (ai (ik 1) (ai (ik 40) anil)))))) (sret (cvi 6 DX7_refuse (rl 0) (ai (ik (-1)) anil))) snop) (sseq (sif (bc cgt (i2 (· + ·) (fgi 1 4 (fgr 6 0 (rl 0))) (il 1)) (ik 9999)) (sret (cvi 6 DX7_refuse (rl 0) (ai (ik (-4)) anil))) snop) (sseq (scv 6 DX7_accept (rl 0) (ai (ik 10) anil)) (sseq (ssi 2 (ik 0)) (sseq (scut 3 (sseq (ssi 3 (ik 0)) (swh qX7_steps_1 wX7_steps_1))) (sret (il 2)))))))
noncomputable def DX7_steps : Fi := mfi 4 EX7_steps
set_option maxRecDepth 4000 in
theorem BX7_steps : Vs RX7 cX7_steps 4 (rmk 6 152) 0 0 EX7_steps := (v_seq (v_if (v_not (v_zne_t (v_csz IX7_within hX7_within lk392 ⟨by decide, by decide⟩ (by decide) (v_ai (v_iload_n (i := 1) dX7_steps_0 rfl (rfl : 0 + 1 = 1)) (v_ai (v_iconst (v := 1) dX7_steps_1 (by decide) (rfl : 1 + 1 = 2)) (v_ai (v_bipush (v := 40) dX7_steps_2 (by decide) (rfl : 2 + 2 = 4)) v_anil))) dX7_steps_4 (rfl : 4 + 3 = 7)) dX7_steps_7 (rfl : ((7 : Nat) : Int) + 9 = ((16 : Nat) : Int)) (rfl : 7 + 3 = 10))) (v_ret (v_cvi kX7 IX7_refuse hX7_refuse lk395 ⟨by decide, by decide⟩ (by decide) (v_aload_n (i := 0) dX7_steps_10 rfl (rfl : 10 + 1 = 11)) (v_ai (v_iconst (v := (-1)) dX7_steps_11 (by decide) (rfl : 11 + 1 = 12)) v_anil) dX7_steps_12 (rfl : 12 + 3 = 15)) dX7_steps_15) v_nop) (v_seq (v_if (v_igt_f (v_iadd (v_gfi kX1 lk142 (by decide) rfl (v_gfr kX7 lk351 (by decide) rfl (v_aload_n (i := 0) dX7_steps_16 rfl (rfl : 16 + 1 = 17)) dX7_steps_17 (rfl : 17 + 3 = 20)) dX7_steps_20 (rfl : 20 + 3 = 23)) (v_iload_n (i := 1) dX7_steps_23 rfl (rfl : 23 + 1 = 24)) dX7_steps_24 (rfl : 24 + 1 = 25)) (v_sipush (v := 9999) dX7_steps_25 (by decide) (rfl : 25 + 3 = 28)) dX7_steps_28 (rfl : ((28 : Nat) : Int) + 10 = ((38 : Nat) : Int)) (rfl : 28 + 3 = 31)) (v_ret (v_cvi kX7 IX7_refuse hX7_refuse lk395 ⟨by decide, by decide⟩ (by decide) (v_aload_n (i := 0) dX7_steps_31 rfl (rfl : 31 + 1 = 32)) (v_ai (v_bipush (v := (-4)) dX7_steps_32 (by decide) (rfl : 32 + 2 = 34)) v_anil) dX7_steps_34 (rfl : 34 + 3 = 37)) dX7_steps_37) v_nop) (v_seq (v_scv kX7 IX7_accept hX7_accept lk399 ⟨by decide, by decide⟩ (v_aload_n (i := 0) dX7_steps_38 rfl (rfl : 38 + 1 = 39)) (v_ai (v_bipush (v := 10) dX7_steps_39 (by decide) (rfl : 39 + 2 = 41)) v_anil) dX7_steps_41 (rfl : 41 + 3 = 44)) (v_seq (v_istore_n (i := 2) (v_iconst (v := 0) dX7_steps_44 (by decide) (rfl : 44 + 1 = 45)) dX7_steps_45 rfl (by decide) (rfl : 45 + 1 = 46)) (v_seq (v_cut (n := 3) (v_seq (v_istore_n (i := 3) (v_iconst (v := 0) dX7_steps_46 (by decide) (rfl : 46 + 1 = 47)) dX7_steps_47 rfl (by decide) (rfl : 47 + 1 = 48)) (v_wh (v_ilt_f (v_iload_n (i := 3) dX7_steps_48 rfl (rfl : 48 + 1 = 49)) (v_iload_n (i := 1) dX7_steps_49 rfl (rfl : 49 + 1 = 50)) dX7_steps_50 (rfl : ((50 : Nat) : Int) + 23 = ((73 : Nat) : Int)) (rfl : 50 + 3 = 53)) (vs_goto (v_seq (v_istore_n (i := 2) (v_iadd (v_iload_n (i := 2) dX7_steps_53 rfl (rfl : 53 + 1 = 54)) (v_cvi kX6 IX6_step hX6_step lk540 ⟨by decide, by decide⟩ (by decide) (v_gfr kX7 lk354 (by decide) rfl (v_aload_n (i := 0) dX7_steps_54 rfl (rfl : 54 + 1 = 55)) dX7_steps_55 (rfl : 55 + 3 = 58)) (v_ar (v_gfr kX7 lk351 (by decide) rfl (v_aload_n (i := 0) dX7_steps_58 rfl (rfl : 58 + 1 = 59)) dX7_steps_59 (rfl : 59 + 3 = 62)) v_anil) dX7_steps_62 (rfl : 62 + 3 = 65)) dX7_steps_65 (rfl : 65 + 1 = 66)) dX7_steps_66 rfl (by decide) (rfl : 66 + 1 = 67)) (v_iinc (v := 1) dX7_steps_67 (by decide) (by decide) (rfl : 67 + 3 = 70))) dX7_steps_70 (rfl : ((70 : Nat) : Int) + (-22) = ((48 : Nat) : Int)))))) (v_ret (v_iload_n (i := 2) dX7_steps_73 rfl (rfl : 73 + 1 = 74)) dX7_steps_74))))))
theorem IX7_steps : Mi yX7_steps cX7_steps 4 (rmk 6 152) DX7_steps := mk_i (by decide +kernel) BX7_steps

theorem dX7_suspects_0 : decode cX7_suspects 0 = .ok (.iload_n 1, 1) := by decide +kernel
theorem dX7_suspects_1 : decode cX7_suspects 1 = .ok (.iconst 0, 1) := by decide +kernel
theorem dX7_suspects_2 : decode cX7_suspects 2 = .ok (.iconst 4, 1) := by decide +kernel
theorem dX7_suspects_3 : decode cX7_suspects 3 = .ok (.invokestatic 75, 3) := by decide +kernel
theorem dX7_suspects_6 : decode cX7_suspects 6 = .ok (.ifCond .ne 5, 3) := by decide +kernel
theorem dX7_suspects_9 : decode cX7_suspects 9 = .ok (.iconst (-1), 1) := by decide +kernel
theorem dX7_suspects_10 : decode cX7_suspects 10 = .ok (.ireturn, 1) := by decide +kernel
theorem dX7_suspects_11 : decode cX7_suspects 11 = .ok (.aload_n 0, 1) := by decide +kernel
theorem dX7_suspects_12 : decode cX7_suspects 12 = .ok (.getfield 16, 3) := by decide +kernel
theorem dX7_suspects_15 : decode cX7_suspects 15 = .ok (.aload_n 0, 1) := by decide +kernel
theorem dX7_suspects_16 : decode cX7_suspects 16 = .ok (.getfield 10, 3) := by decide +kernel
theorem dX7_suspects_19 : decode cX7_suspects 19 = .ok (.invokevirtual 205, 3) := by decide +kernel
theorem dX7_suspects_22 : decode cX7_suspects 22 = .ok (.aload_n 0, 1) := by decide +kernel
theorem dX7_suspects_23 : decode cX7_suspects 23 = .ok (.getfield 38, 3) := by decide +kernel
theorem dX7_suspects_26 : decode cX7_suspects 26 = .ok (.aload_n 0, 1) := by decide +kernel
theorem dX7_suspects_27 : decode cX7_suspects 27 = .ok (.getfield 16, 3) := by decide +kernel
theorem dX7_suspects_30 : decode cX7_suspects 30 = .ok (.invokevirtual 270, 3) := by decide +kernel
theorem dX7_suspects_33 : decode cX7_suspects 33 = .ok (.iload_n 1, 1) := by decide +kernel
theorem dX7_suspects_34 : decode cX7_suspects 34 = .ok (.tableswitch 62 0 3 #[30, 38, 46, 54], 30) := by decide +kernel
theorem dX7_suspects_64 : decode cX7_suspects 64 = .ok (.aload_n 0, 1) := by decide +kernel
theorem dX7_suspects_65 : decode cX7_suspects 65 = .ok (.getfield 38, 3) := by decide +kernel
theorem dX7_suspects_68 : decode cX7_suspects 68 = .ok (.getfield 273, 3) := by decide +kernel
theorem dX7_suspects_71 : decode cX7_suspects 71 = .ok (.ireturn, 1) := by decide +kernel
theorem dX7_suspects_72 : decode cX7_suspects 72 = .ok (.aload_n 0, 1) := by decide +kernel
theorem dX7_suspects_73 : decode cX7_suspects 73 = .ok (.getfield 38, 3) := by decide +kernel
theorem dX7_suspects_76 : decode cX7_suspects 76 = .ok (.getfield 276, 3) := by decide +kernel
theorem dX7_suspects_79 : decode cX7_suspects 79 = .ok (.ireturn, 1) := by decide +kernel
theorem dX7_suspects_80 : decode cX7_suspects 80 = .ok (.aload_n 0, 1) := by decide +kernel
theorem dX7_suspects_81 : decode cX7_suspects 81 = .ok (.getfield 38, 3) := by decide +kernel
theorem dX7_suspects_84 : decode cX7_suspects 84 = .ok (.getfield 279, 3) := by decide +kernel
theorem dX7_suspects_87 : decode cX7_suspects 87 = .ok (.ireturn, 1) := by decide +kernel
theorem dX7_suspects_88 : decode cX7_suspects 88 = .ok (.aload_n 0, 1) := by decide +kernel
theorem dX7_suspects_89 : decode cX7_suspects 89 = .ok (.getfield 38, 3) := by decide +kernel
theorem dX7_suspects_92 : decode cX7_suspects 92 = .ok (.getfield 282, 3) := by decide +kernel
theorem dX7_suspects_95 : decode cX7_suspects 95 = .ok (.ireturn, 1) := by decide +kernel
theorem dX7_suspects_96 : decode cX7_suspects 96 = .ok (.aload_n 0, 1) := by decide +kernel
theorem dX7_suspects_97 : decode cX7_suspects 97 = .ok (.getfield 38, 3) := by decide +kernel
theorem dX7_suspects_100 : decode cX7_suspects 100 = .ok (.getfield 285, 3) := by decide +kernel
theorem dX7_suspects_103 : decode cX7_suspects 103 = .ok (.ireturn, 1) := by decide +kernel
noncomputable def EX7_suspects : Sx := (sseq (sif (bnot (bz cne (csz DX7_within (ai (il 1) (ai (ik 0) (ai (ik 4) anil)))))) (sret (ik (-1))) snop) (sseq (scv 1 DX1_copyFrom (fgr 6 1 (rl 0)) (ar (fgr 6 0 (rl 0)) anil)) (sseq (scv 4 DX5_seek (fgr 6 4 (rl 0)) (ar (fgr 6 1 (rl 0)) anil)) (ssw (il 1) [(0, (sret (fgi 4 4 (fgr 6 4 (rl 0))))), (1, (sret (fgi 4 5 (fgr 6 4 (rl 0))))), (2, (sret (fgi 4 6 (fgr 6 4 (rl 0))))), (3, (sret (fgi 4 7 (fgr 6 4 (rl 0)))))] (sret (fgi 4 8 (fgr 6 4 (rl 0))))))))
noncomputable def DX7_suspects : Fi := mfi 2 EX7_suspects
set_option maxRecDepth 4000 in
theorem BX7_suspects : Vs RX7 cX7_suspects 2 (rmk 6 155) 0 0 EX7_suspects := (v_seq (v_if (v_not (v_zne_t (v_csz IX7_within hX7_within lk392 ⟨by decide, by decide⟩ (by decide) (v_ai (v_iload_n (i := 1) dX7_suspects_0 rfl (rfl : 0 + 1 = 1)) (v_ai (v_iconst (v := 0) dX7_suspects_1 (by decide) (rfl : 1 + 1 = 2)) (v_ai (v_iconst (v := 4) dX7_suspects_2 (by decide) (rfl : 2 + 1 = 3)) v_anil))) dX7_suspects_3 (rfl : 3 + 3 = 6)) dX7_suspects_6 (rfl : ((6 : Nat) : Int) + 5 = ((11 : Nat) : Int)) (rfl : 6 + 3 = 9))) (v_ret (v_iconst (v := (-1)) dX7_suspects_9 (by decide) (rfl : 9 + 1 = 10)) dX7_suspects_10) v_nop) (v_seq (v_scv kX1 IX1_copyFrom hX1_copyFrom lk716 ⟨by decide, by decide⟩ (v_gfr kX7 lk352 (by decide) rfl (v_aload_n (i := 0) dX7_suspects_11 rfl (rfl : 11 + 1 = 12)) dX7_suspects_12 (rfl : 12 + 3 = 15)) (v_ar (v_gfr kX7 lk351 (by decide) rfl (v_aload_n (i := 0) dX7_suspects_15 rfl (rfl : 15 + 1 = 16)) dX7_suspects_16 (rfl : 16 + 3 = 19)) v_anil) dX7_suspects_19 (rfl : 19 + 3 = 22)) (v_seq (v_scv kX5 IX5_seek hX5_seek lk838 ⟨by decide, by decide⟩ (v_gfr kX7 lk355 (by decide) rfl (v_aload_n (i := 0) dX7_suspects_22 rfl (rfl : 22 + 1 = 23)) dX7_suspects_23 (rfl : 23 + 3 = 26)) (v_ar (v_gfr kX7 lk352 (by decide) rfl (v_aload_n (i := 0) dX7_suspects_26 rfl (rfl : 26 + 1 = 27)) dX7_suspects_27 (rfl : 27 + 3 = 30)) v_anil) dX7_suspects_30 (rfl : 30 + 3 = 33)) (v_sw (v_iload_n (i := 1) dX7_suspects_33 rfl (rfl : 33 + 1 = 34)) dX7_suspects_34 (fun j hj => match j, hj with
  | 0, _ => ⟨30, 64, rfl, (rfl : ((34 : Nat) : Int) + 30 = ((64 : Nat) : Int)), (v_ret (v_gfi kX5 lk272 (by decide) rfl (v_gfr kX7 lk355 (by decide) rfl (v_aload_n (i := 0) dX7_suspects_64 rfl (rfl : 64 + 1 = 65)) dX7_suspects_65 (rfl : 65 + 3 = 68)) dX7_suspects_68 (rfl : 68 + 3 = 71)) dX7_suspects_71)⟩
  | 1, _ => ⟨38, 72, rfl, (rfl : ((34 : Nat) : Int) + 38 = ((72 : Nat) : Int)), (v_ret (v_gfi kX5 lk274 (by decide) rfl (v_gfr kX7 lk355 (by decide) rfl (v_aload_n (i := 0) dX7_suspects_72 rfl (rfl : 72 + 1 = 73)) dX7_suspects_73 (rfl : 73 + 3 = 76)) dX7_suspects_76 (rfl : 76 + 3 = 79)) dX7_suspects_79)⟩
  | 2, _ => ⟨46, 80, rfl, (rfl : ((34 : Nat) : Int) + 46 = ((80 : Nat) : Int)), (v_ret (v_gfi kX5 lk276 (by decide) rfl (v_gfr kX7 lk355 (by decide) rfl (v_aload_n (i := 0) dX7_suspects_80 rfl (rfl : 80 + 1 = 81)) dX7_suspects_81 (rfl : 81 + 3 = 84)) dX7_suspects_84 (rfl : 84 + 3 = 87)) dX7_suspects_87)⟩
  | 3, _ => ⟨54, 88, rfl, (rfl : ((34 : Nat) : Int) + 54 = ((88 : Nat) : Int)), (v_ret (v_gfi kX5 lk278 (by decide) rfl (v_gfr kX7 lk355 (by decide) rfl (v_aload_n (i := 0) dX7_suspects_88 rfl (rfl : 88 + 1 = 89)) dX7_suspects_89 (rfl : 89 + 3 = 92)) dX7_suspects_92 (rfl : 92 + 3 = 95)) dX7_suspects_95)⟩
  | j + 4, hj => absurd hj (by omega)) ⟨96, (rfl : ((34 : Nat) : Int) + 62 = ((96 : Nat) : Int)), fun x hx => by
    have e0 : sel [(0, (sret (fgi 4 4 (fgr 6 4 (rl 0))))), (1, (sret (fgi 4 5 (fgr 6 4 (rl 0))))), (2, (sret (fgi 4 6 (fgr 6 4 (rl 0))))), (3, (sret (fgi 4 7 (fgr 6 4 (rl 0)))))] (sret (fgi 4 8 (fgr 6 4 (rl 0)))) x = (sret (fgi 4 8 (fgr 6 4 (rl 0)))) := by simp only [sel]; rw [if_neg (by omega)]; rw [if_neg (by omega)]; rw [if_neg (by omega)]; rw [if_neg (by omega)]
    rw [e0]; exact (v_ret (v_gfi kX5 lk280 (by decide) rfl (v_gfr kX7 lk355 (by decide) rfl (v_aload_n (i := 0) dX7_suspects_96 rfl (rfl : 96 + 1 = 97)) dX7_suspects_97 (rfl : 97 + 3 = 100)) dX7_suspects_100 (rfl : 100 + 3 = 103)) dX7_suspects_103)⟩))))
theorem IX7_suspects : Mi yX7_suspects cX7_suspects 2 (rmk 6 155) DX7_suspects := mk_i (by decide +kernel) BX7_suspects

theorem dX7_tried_0 : decode cX7_tried 0 = .ok (.aload_n 0, 1) := by decide +kernel
theorem dX7_tried_1 : decode cX7_tried 1 = .ok (.getfield 10, 3) := by decide +kernel
theorem dX7_tried_4 : decode cX7_tried 4 = .ok (.iload_n 1, 1) := by decide +kernel
theorem dX7_tried_5 : decode cX7_tried 5 = .ok (.invokevirtual 160, 3) := by decide +kernel
theorem dX7_tried_8 : decode cX7_tried 8 = .ok (.ifCond .eq 21, 3) := by decide +kernel
theorem dX7_tried_11 : decode cX7_tried 11 = .ok (.iload_n 2, 1) := by decide +kernel
theorem dX7_tried_12 : decode cX7_tried 12 = .ok (.iconst 0, 1) := by decide +kernel
theorem dX7_tried_13 : decode cX7_tried 13 = .ok (.bipush 60, 2) := by decide +kernel
theorem dX7_tried_15 : decode cX7_tried 15 = .ok (.invokestatic 75, 3) := by decide +kernel
theorem dX7_tried_18 : decode cX7_tried 18 = .ok (.ifCond .eq 11, 3) := by decide +kernel
theorem dX7_tried_21 : decode cX7_tried 21 = .ok (.aload_n 0, 1) := by decide +kernel
theorem dX7_tried_22 : decode cX7_tried 22 = .ok (.iload_n 3, 1) := by decide +kernel
theorem dX7_tried_23 : decode cX7_tried 23 = .ok (.invokevirtual 97, 3) := by decide +kernel
theorem dX7_tried_26 : decode cX7_tried 26 = .ok (.ifCond .ne 5, 3) := by decide +kernel
theorem dX7_tried_29 : decode cX7_tried 29 = .ok (.iconst (-1), 1) := by decide +kernel
theorem dX7_tried_30 : decode cX7_tried 30 = .ok (.ireturn, 1) := by decide +kernel
theorem dX7_tried_31 : decode cX7_tried 31 = .ok (.aload_n 0, 1) := by decide +kernel
theorem dX7_tried_32 : decode cX7_tried 32 = .ok (.getfield 16, 3) := by decide +kernel
theorem dX7_tried_35 : decode cX7_tried 35 = .ok (.aload_n 0, 1) := by decide +kernel
theorem dX7_tried_36 : decode cX7_tried 36 = .ok (.getfield 10, 3) := by decide +kernel
theorem dX7_tried_39 : decode cX7_tried 39 = .ok (.invokevirtual 205, 3) := by decide +kernel
theorem dX7_tried_42 : decode cX7_tried 42 = .ok (.aload_n 0, 1) := by decide +kernel
theorem dX7_tried_43 : decode cX7_tried 43 = .ok (.getfield 16, 3) := by decide +kernel
theorem dX7_tried_46 : decode cX7_tried 46 = .ok (.iload_n 1, 1) := by decide +kernel
theorem dX7_tried_47 : decode cX7_tried 47 = .ok (.iload_n 2, 1) := by decide +kernel
theorem dX7_tried_48 : decode cX7_tried 48 = .ok (.invokevirtual 166, 3) := by decide +kernel
theorem dX7_tried_51 : decode cX7_tried 51 = .ok (.aload_n 0, 1) := by decide +kernel
theorem dX7_tried_52 : decode cX7_tried 52 = .ok (.getfield 22, 3) := by decide +kernel
theorem dX7_tried_55 : decode cX7_tried 55 = .ok (.aload_n 0, 1) := by decide +kernel
theorem dX7_tried_56 : decode cX7_tried 56 = .ok (.getfield 16, 3) := by decide +kernel
theorem dX7_tried_59 : decode cX7_tried 59 = .ok (.invokevirtual 191, 3) := by decide +kernel
theorem dX7_tried_62 : decode cX7_tried 62 = .ok (.aload_n 0, 1) := by decide +kernel
theorem dX7_tried_63 : decode cX7_tried 63 = .ok (.getfield 22, 3) := by decide +kernel
theorem dX7_tried_66 : decode cX7_tried 66 = .ok (.iload_n 3, 1) := by decide +kernel
theorem dX7_tried_67 : decode cX7_tried 67 = .ok (.invokevirtual 199, 3) := by decide +kernel
theorem dX7_tried_70 : decode cX7_tried 70 = .ok (.ireturn, 1) := by decide +kernel
noncomputable def EX7_tried : Sx := (sseq (sif (bor (bor (bnot (bz cne (cvz 1 DX1_isJoint (fgr 6 0 (rl 0)) (ai (il 1) anil)))) (bnot (bz cne (csz DX7_within (ai (il 2) (ai (ik 0) (ai (ik 60) anil))))))) (bnot (bz cne (cvz 6 DX7_isChamber (rl 0) (ai (il 3) anil))))) (sret (ik (-1))) snop) (sseq (scv 1 DX1_copyFrom (fgr 6 1 (rl 0)) (ar (fgr 6 0 (rl 0)) anil)) (sseq (scv 1 DX1_putLeak (fgr 6 1 (rl 0)) (ai (il 1) (ai (il 2) anil))) (sseq (scv 0 DX0_solve (fgr 6 2 (rl 0)) (ar (fgr 6 1 (rl 0)) anil)) (sret (cvi 0 DX0_gauge (fgr 6 2 (rl 0)) (ai (il 3) anil)))))))
noncomputable def DX7_tried : Fi := mfi 4 EX7_tried
set_option maxRecDepth 4000 in
theorem BX7_tried : Vs RX7 cX7_tried 4 (rmk 4 106) 0 0 EX7_tried := (v_seq (v_if (v_or (v_or (v_not (v_zne_f (v_cvz kX1 IX1_isJoint hX1_isJoint lk507 ⟨by decide, by decide⟩ (by decide) (v_gfr kX7 lk351 (by decide) rfl (v_aload_n (i := 0) dX7_tried_0 rfl (rfl : 0 + 1 = 1)) dX7_tried_1 (rfl : 1 + 3 = 4)) (v_ai (v_iload_n (i := 1) dX7_tried_4 rfl (rfl : 4 + 1 = 5)) v_anil) dX7_tried_5 (rfl : 5 + 3 = 8)) dX7_tried_8 (rfl : ((8 : Nat) : Int) + 21 = ((29 : Nat) : Int)) (rfl : 8 + 3 = 11))) (v_not (v_zne_f (v_csz IX7_within hX7_within lk392 ⟨by decide, by decide⟩ (by decide) (v_ai (v_iload_n (i := 2) dX7_tried_11 rfl (rfl : 11 + 1 = 12)) (v_ai (v_iconst (v := 0) dX7_tried_12 (by decide) (rfl : 12 + 1 = 13)) (v_ai (v_bipush (v := 60) dX7_tried_13 (by decide) (rfl : 13 + 2 = 15)) v_anil))) dX7_tried_15 (rfl : 15 + 3 = 18)) dX7_tried_18 (rfl : ((18 : Nat) : Int) + 11 = ((29 : Nat) : Int)) (rfl : 18 + 3 = 21)))) (v_not (v_zne_t (v_cvz kX7 IX7_isChamber hX7_isChamber lk428 ⟨by decide, by decide⟩ (by decide) (v_aload_n (i := 0) dX7_tried_21 rfl (rfl : 21 + 1 = 22)) (v_ai (v_iload_n (i := 3) dX7_tried_22 rfl (rfl : 22 + 1 = 23)) v_anil) dX7_tried_23 (rfl : 23 + 3 = 26)) dX7_tried_26 (rfl : ((26 : Nat) : Int) + 5 = ((31 : Nat) : Int)) (rfl : 26 + 3 = 29)))) (v_ret (v_iconst (v := (-1)) dX7_tried_29 (by decide) (rfl : 29 + 1 = 30)) dX7_tried_30) v_nop) (v_seq (v_scv kX1 IX1_copyFrom hX1_copyFrom lk716 ⟨by decide, by decide⟩ (v_gfr kX7 lk352 (by decide) rfl (v_aload_n (i := 0) dX7_tried_31 rfl (rfl : 31 + 1 = 32)) dX7_tried_32 (rfl : 32 + 3 = 35)) (v_ar (v_gfr kX7 lk351 (by decide) rfl (v_aload_n (i := 0) dX7_tried_35 rfl (rfl : 35 + 1 = 36)) dX7_tried_36 (rfl : 36 + 3 = 39)) v_anil) dX7_tried_39 (rfl : 39 + 3 = 42)) (v_seq (v_scv kX1 IX1_putLeak hX1_putLeak lk511 ⟨by decide, by decide⟩ (v_gfr kX7 lk352 (by decide) rfl (v_aload_n (i := 0) dX7_tried_42 rfl (rfl : 42 + 1 = 43)) dX7_tried_43 (rfl : 43 + 3 = 46)) (v_ai (v_iload_n (i := 1) dX7_tried_46 rfl (rfl : 46 + 1 = 47)) (v_ai (v_iload_n (i := 2) dX7_tried_47 rfl (rfl : 47 + 1 = 48)) v_anil)) dX7_tried_48 (rfl : 48 + 3 = 51)) (v_seq (v_scv kX0 IX0_solve hX0_solve lk701 ⟨by decide, by decide⟩ (v_gfr kX7 lk353 (by decide) rfl (v_aload_n (i := 0) dX7_tried_51 rfl (rfl : 51 + 1 = 52)) dX7_tried_52 (rfl : 52 + 3 = 55)) (v_ar (v_gfr kX7 lk352 (by decide) rfl (v_aload_n (i := 0) dX7_tried_55 rfl (rfl : 55 + 1 = 56)) dX7_tried_56 (rfl : 56 + 3 = 59)) v_anil) dX7_tried_59 (rfl : 59 + 3 = 62)) (v_ret (v_cvi kX0 IX0_gauge hX0_gauge lk703 ⟨by decide, by decide⟩ (by decide) (v_gfr kX7 lk353 (by decide) rfl (v_aload_n (i := 0) dX7_tried_62 rfl (rfl : 62 + 1 = 63)) dX7_tried_63 (rfl : 63 + 3 = 66)) (v_ai (v_iload_n (i := 3) dX7_tried_66 rfl (rfl : 66 + 1 = 67)) v_anil) dX7_tried_67 (rfl : 67 + 3 = 70)) dX7_tried_70)))))
theorem IX7_tried : Mi yX7_tried cX7_tried 4 (rmk 4 106) DX7_tried := mk_i (by decide +kernel) BX7_tried

theorem dX7_trip_0 : decode cX7_trip 0 = .ok (.iload_n 1, 1) := by decide +kernel
theorem dX7_trip_1 : decode cX7_trip 1 = .ok (.iconst 0, 1) := by decide +kernel
theorem dX7_trip_2 : decode cX7_trip 2 = .ok (.iconst 1, 1) := by decide +kernel
theorem dX7_trip_3 : decode cX7_trip 3 = .ok (.invokestatic 75, 3) := by decide +kernel
theorem dX7_trip_6 : decode cX7_trip 6 = .ok (.ifCond .ne 5, 3) := by decide +kernel
theorem dX7_trip_9 : decode cX7_trip 9 = .ok (.iconst (-1), 1) := by decide +kernel
theorem dX7_trip_10 : decode cX7_trip 10 = .ok (.ireturn, 1) := by decide +kernel
theorem dX7_trip_11 : decode cX7_trip 11 = .ok (.aload_n 0, 1) := by decide +kernel
theorem dX7_trip_12 : decode cX7_trip 12 = .ok (.getfield 16, 3) := by decide +kernel
theorem dX7_trip_15 : decode cX7_trip 15 = .ok (.aload_n 0, 1) := by decide +kernel
theorem dX7_trip_16 : decode cX7_trip 16 = .ok (.getfield 10, 3) := by decide +kernel
theorem dX7_trip_19 : decode cX7_trip 19 = .ok (.invokevirtual 205, 3) := by decide +kernel
theorem dX7_trip_22 : decode cX7_trip 22 = .ok (.iconst 1, 1) := by decide +kernel
theorem dX7_trip_23 : decode cX7_trip 23 = .ok (.istore_n 2, 1) := by decide +kernel
theorem dX7_trip_24 : decode cX7_trip 24 = .ok (.iload_n 2, 1) := by decide +kernel
theorem dX7_trip_25 : decode cX7_trip 25 = .ok (.sipush 200, 3) := by decide +kernel
theorem dX7_trip_28 : decode cX7_trip 28 = .ok (.if_icmp .gt 63, 3) := by decide +kernel
theorem dX7_trip_31 : decode cX7_trip 31 = .ok (.aload_n 0, 1) := by decide +kernel
theorem dX7_trip_32 : decode cX7_trip 32 = .ok (.getfield 16, 3) := by decide +kernel
theorem dX7_trip_35 : decode cX7_trip 35 = .ok (.getfield 184, 3) := by decide +kernel
theorem dX7_trip_38 : decode cX7_trip 38 = .ok (.sipush 9999, 3) := by decide +kernel
theorem dX7_trip_41 : decode cX7_trip 41 = .ok (.if_icmp .ge 50, 3) := by decide +kernel
theorem dX7_trip_44 : decode cX7_trip 44 = .ok (.aload_n 0, 1) := by decide +kernel
theorem dX7_trip_45 : decode cX7_trip 45 = .ok (.getfield 31, 3) := by decide +kernel
theorem dX7_trip_48 : decode cX7_trip 48 = .ok (.aload_n 0, 1) := by decide +kernel
theorem dX7_trip_49 : decode cX7_trip 49 = .ok (.getfield 16, 3) := by decide +kernel
theorem dX7_trip_52 : decode cX7_trip 52 = .ok (.invokevirtual 187, 3) := by decide +kernel
theorem dX7_trip_55 : decode cX7_trip 55 = .ok (.pop, 1) := by decide +kernel
theorem dX7_trip_56 : decode cX7_trip 56 = .ok (.aload_n 0, 1) := by decide +kernel
theorem dX7_trip_57 : decode cX7_trip 57 = .ok (.getfield 31, 3) := by decide +kernel
theorem dX7_trip_60 : decode cX7_trip 60 = .ok (.getfield 301, 3) := by decide +kernel
theorem dX7_trip_63 : decode cX7_trip 63 = .ok (.ifCond .eq 22, 3) := by decide +kernel
theorem dX7_trip_66 : decode cX7_trip 66 = .ok (.iload_n 1, 1) := by decide +kernel
theorem dX7_trip_67 : decode cX7_trip 67 = .ok (.ifCond .ne 16, 3) := by decide +kernel
theorem dX7_trip_70 : decode cX7_trip 70 = .ok (.aload_n 0, 1) := by decide +kernel
theorem dX7_trip_71 : decode cX7_trip 71 = .ok (.getfield 31, 3) := by decide +kernel
theorem dX7_trip_74 : decode cX7_trip 74 = .ok (.getfield 301, 3) := by decide +kernel
theorem dX7_trip_77 : decode cX7_trip 77 = .ok (.invokestatic 304, 3) := by decide +kernel
theorem dX7_trip_80 : decode cX7_trip 80 = .ok (.goto 4, 3) := by decide +kernel
theorem dX7_trip_83 : decode cX7_trip 83 = .ok (.iload_n 2, 1) := by decide +kernel
theorem dX7_trip_84 : decode cX7_trip 84 = .ok (.ireturn, 1) := by decide +kernel
theorem dX7_trip_85 : decode cX7_trip 85 = .ok (.iinc 2 1, 3) := by decide +kernel
theorem dX7_trip_88 : decode cX7_trip 88 = .ok (.goto (-64), 3) := by decide +kernel
theorem dX7_trip_91 : decode cX7_trip 91 = .ok (.iconst (-1), 1) := by decide +kernel
theorem dX7_trip_92 : decode cX7_trip 92 = .ok (.ireturn, 1) := by decide +kernel
noncomputable def qX7_trip_1 : Bx := (band (bc cle (il 2) (ik 200)) (bc clt (fgi 1 4 (fgr 6 1 (rl 0))) (ik 9999)))
noncomputable def wX7_trip_1 : Sx := (sseq (sseq (spop (cvi 5 DX6_step (fgr 6 3 (rl 0)) (ar (fgr 6 1 (rl 0)) anil))) (sif (bz cne (fgi 5 1 (fgr 6 3 (rl 0)))) (sret (ic (bz ceq (il 1)) (csi DJ6_numberOfTrailingZeros_0f7a4 (ai (fgi 5 1 (fgr 6 3 (rl 0))) anil)) (il 2))) snop)) (sinc 2 1))
noncomputable def EX7_trip : Sx := (sseq (sif (bnot (bz cne (csz DX7_within (ai (il 1) (ai (ik 0) (ai (ik 1) anil)))))) (sret (ik (-1))) snop) (sseq (scv 1 DX1_copyFrom (fgr 6 1 (rl 0)) (ar (fgr 6 0 (rl 0)) anil)) (sseq (scut 2 (sseq (ssi 2 (ik 1)) (swh qX7_trip_1 wX7_trip_1))) (sret (ik (-1))))))
noncomputable def DX7_trip : Fi := mfi 3 EX7_trip
set_option maxRecDepth 4000 in
theorem BX7_trip : Vs RX7 cX7_trip 3 (rmk 6 152) 0 0 EX7_trip := (v_seq (v_if (v_not (v_zne_t (v_csz IX7_within hX7_within lk392 ⟨by decide, by decide⟩ (by decide) (v_ai (v_iload_n (i := 1) dX7_trip_0 rfl (rfl : 0 + 1 = 1)) (v_ai (v_iconst (v := 0) dX7_trip_1 (by decide) (rfl : 1 + 1 = 2)) (v_ai (v_iconst (v := 1) dX7_trip_2 (by decide) (rfl : 2 + 1 = 3)) v_anil))) dX7_trip_3 (rfl : 3 + 3 = 6)) dX7_trip_6 (rfl : ((6 : Nat) : Int) + 5 = ((11 : Nat) : Int)) (rfl : 6 + 3 = 9))) (v_ret (v_iconst (v := (-1)) dX7_trip_9 (by decide) (rfl : 9 + 1 = 10)) dX7_trip_10) v_nop) (v_seq (v_scv kX1 IX1_copyFrom hX1_copyFrom lk716 ⟨by decide, by decide⟩ (v_gfr kX7 lk352 (by decide) rfl (v_aload_n (i := 0) dX7_trip_11 rfl (rfl : 11 + 1 = 12)) dX7_trip_12 (rfl : 12 + 3 = 15)) (v_ar (v_gfr kX7 lk351 (by decide) rfl (v_aload_n (i := 0) dX7_trip_15 rfl (rfl : 15 + 1 = 16)) dX7_trip_16 (rfl : 16 + 3 = 19)) v_anil) dX7_trip_19 (rfl : 19 + 3 = 22)) (v_seq (v_cut (n := 2) (v_seq (v_istore_n (i := 2) (v_iconst (v := 1) dX7_trip_22 (by decide) (rfl : 22 + 1 = 23)) dX7_trip_23 rfl (by decide) (rfl : 23 + 1 = 24)) (v_wh (v_and (v_ile_f (v_iload_n (i := 2) dX7_trip_24 rfl (rfl : 24 + 1 = 25)) (v_sipush (v := 200) dX7_trip_25 (by decide) (rfl : 25 + 3 = 28)) dX7_trip_28 (rfl : ((28 : Nat) : Int) + 63 = ((91 : Nat) : Int)) (rfl : 28 + 3 = 31)) (v_ilt_f (v_gfi kX1 lk142 (by decide) rfl (v_gfr kX7 lk352 (by decide) rfl (v_aload_n (i := 0) dX7_trip_31 rfl (rfl : 31 + 1 = 32)) dX7_trip_32 (rfl : 32 + 3 = 35)) dX7_trip_35 (rfl : 35 + 3 = 38)) (v_sipush (v := 9999) dX7_trip_38 (by decide) (rfl : 38 + 3 = 41)) dX7_trip_41 (rfl : ((41 : Nat) : Int) + 50 = ((91 : Nat) : Int)) (rfl : 41 + 3 = 44))) (vs_goto (v_seq (v_seq (v_pop (v_cvi kX6 IX6_step hX6_step lk540 ⟨by decide, by decide⟩ (by decide) (v_gfr kX7 lk354 (by decide) rfl (v_aload_n (i := 0) dX7_trip_44 rfl (rfl : 44 + 1 = 45)) dX7_trip_45 (rfl : 45 + 3 = 48)) (v_ar (v_gfr kX7 lk352 (by decide) rfl (v_aload_n (i := 0) dX7_trip_48 rfl (rfl : 48 + 1 = 49)) dX7_trip_49 (rfl : 49 + 3 = 52)) v_anil) dX7_trip_52 (rfl : 52 + 3 = 55)) dX7_trip_55 (rfl : 55 + 1 = 56)) (v_if (v_zne_f (v_gfi kX6 lk254 (by decide) rfl (v_gfr kX7 lk354 (by decide) rfl (v_aload_n (i := 0) dX7_trip_56 rfl (rfl : 56 + 1 = 57)) dX7_trip_57 (rfl : 57 + 3 = 60)) dX7_trip_60 (rfl : 60 + 3 = 63)) dX7_trip_63 (rfl : ((63 : Nat) : Int) + 22 = ((85 : Nat) : Int)) (rfl : 63 + 3 = 66)) (v_ret (v_ic (v_zeq_f (v_iload_n (i := 1) dX7_trip_66 rfl (rfl : 66 + 1 = 67)) dX7_trip_67 (rfl : ((67 : Nat) : Int) + 16 = ((83 : Nat) : Int)) (rfl : 67 + 3 = 70)) (vi_goto (v_csi IJ6_numberOfTrailingZeros_0f7a4 hJ6_numberOfTrailingZeros_0f7a4 lk922 ⟨by decide, by decide⟩ (by decide) (v_ai (v_gfi kX6 lk254 (by decide) rfl (v_gfr kX7 lk354 (by decide) rfl (v_aload_n (i := 0) dX7_trip_70 rfl (rfl : 70 + 1 = 71)) dX7_trip_71 (rfl : 71 + 3 = 74)) dX7_trip_74 (rfl : 74 + 3 = 77)) v_anil) dX7_trip_77 (rfl : 77 + 3 = 80)) dX7_trip_80 (rfl : ((80 : Nat) : Int) + 4 = ((84 : Nat) : Int))) (v_iload_n (i := 2) dX7_trip_83 rfl (rfl : 83 + 1 = 84))) dX7_trip_84) v_nop)) (v_iinc (v := 1) dX7_trip_85 (by decide) (by decide) (rfl : 85 + 3 = 88))) dX7_trip_88 (rfl : ((88 : Nat) : Int) + (-64) = ((24 : Nat) : Int)))))) (v_ret (v_iconst (v := (-1)) dX7_trip_91 (by decide) (rfl : 91 + 1 = 92)) dX7_trip_92))))
theorem IX7_trip : Mi yX7_trip cX7_trip 3 (rmk 6 152) DX7_trip := mk_i (by decide +kernel) BX7_trip

theorem dX7_tube_0 : decode cX7_tube 0 = .ok (.iload_n 3, 1) := by decide +kernel
theorem dX7_tube_1 : decode cX7_tube 1 = .ok (.iload 4, 2) := by decide +kernel
theorem dX7_tube_3 : decode cX7_tube 3 = .ok (.iload 5, 2) := by decide +kernel
theorem dX7_tube_5 : decode cX7_tube 5 = .ok (.invokestatic 94, 3) := by decide +kernel
theorem dX7_tube_8 : decode cX7_tube 8 = .ok (.ifCond .ne 9, 3) := by decide +kernel
theorem dX7_tube_11 : decode cX7_tube 11 = .ok (.aload_n 0, 1) := by decide +kernel
theorem dX7_tube_12 : decode cX7_tube 12 = .ok (.iconst (-1), 1) := by decide +kernel
theorem dX7_tube_13 : decode cX7_tube 13 = .ok (.invokevirtual 79, 3) := by decide +kernel
theorem dX7_tube_16 : decode cX7_tube 16 = .ok (.ireturn, 1) := by decide +kernel
theorem dX7_tube_17 : decode cX7_tube 17 = .ok (.aload_n 0, 1) := by decide +kernel
theorem dX7_tube_18 : decode cX7_tube 18 = .ok (.iload_n 1, 1) := by decide +kernel
theorem dX7_tube_19 : decode cX7_tube 19 = .ok (.invokevirtual 97, 3) := by decide +kernel
theorem dX7_tube_22 : decode cX7_tube 22 = .ok (.ifCond .eq 11, 3) := by decide +kernel
theorem dX7_tube_25 : decode cX7_tube 25 = .ok (.aload_n 0, 1) := by decide +kernel
theorem dX7_tube_26 : decode cX7_tube 26 = .ok (.iload_n 2, 1) := by decide +kernel
theorem dX7_tube_27 : decode cX7_tube 27 = .ok (.invokevirtual 97, 3) := by decide +kernel
theorem dX7_tube_30 : decode cX7_tube 30 = .ok (.ifCond .ne 10, 3) := by decide +kernel
theorem dX7_tube_33 : decode cX7_tube 33 = .ok (.aload_n 0, 1) := by decide +kernel
theorem dX7_tube_34 : decode cX7_tube 34 = .ok (.bipush (-2), 2) := by decide +kernel
theorem dX7_tube_36 : decode cX7_tube 36 = .ok (.invokevirtual 79, 3) := by decide +kernel
theorem dX7_tube_39 : decode cX7_tube 39 = .ok (.ireturn, 1) := by decide +kernel
theorem dX7_tube_40 : decode cX7_tube 40 = .ok (.iload_n 1, 1) := by decide +kernel
theorem dX7_tube_41 : decode cX7_tube 41 = .ok (.iload_n 2, 1) := by decide +kernel
theorem dX7_tube_42 : decode cX7_tube 42 = .ok (.if_icmp .ne 10, 3) := by decide +kernel
theorem dX7_tube_45 : decode cX7_tube 45 = .ok (.aload_n 0, 1) := by decide +kernel
theorem dX7_tube_46 : decode cX7_tube 46 = .ok (.bipush (-4), 2) := by decide +kernel
theorem dX7_tube_48 : decode cX7_tube 48 = .ok (.invokevirtual 79, 3) := by decide +kernel
theorem dX7_tube_51 : decode cX7_tube 51 = .ok (.ireturn, 1) := by decide +kernel
theorem dX7_tube_52 : decode cX7_tube 52 = .ok (.iload_n 3, 1) := by decide +kernel
theorem dX7_tube_53 : decode cX7_tube 53 = .ok (.iload 4, 2) := by decide +kernel
theorem dX7_tube_55 : decode cX7_tube 55 = .ok (.iload 5, 2) := by decide +kernel
theorem dX7_tube_57 : decode cX7_tube 57 = .ok (.invokestatic 101, 3) := by decide +kernel
theorem dX7_tube_60 : decode cX7_tube 60 = .ok (.istore 6, 2) := by decide +kernel
theorem dX7_tube_62 : decode cX7_tube 62 = .ok (.aload_n 0, 1) := by decide +kernel
theorem dX7_tube_63 : decode cX7_tube 63 = .ok (.getfield 10, 3) := by decide +kernel
theorem dX7_tube_66 : decode cX7_tube 66 = .ok (.getfield 105, 3) := by decide +kernel
theorem dX7_tube_69 : decode cX7_tube 69 = .ok (.bipush 10, 2) := by decide +kernel
theorem dX7_tube_71 : decode cX7_tube 71 = .ok (.if_icmp .ge 35, 3) := by decide +kernel
theorem dX7_tube_74 : decode cX7_tube 74 = .ok (.aload_n 0, 1) := by decide +kernel
theorem dX7_tube_75 : decode cX7_tube 75 = .ok (.getfield 10, 3) := by decide +kernel
theorem dX7_tube_78 : decode cX7_tube 78 = .ok (.iload_n 1, 1) := by decide +kernel
theorem dX7_tube_79 : decode cX7_tube 79 = .ok (.invokevirtual 108, 3) := by decide +kernel
theorem dX7_tube_82 : decode cX7_tube 82 = .ok (.iload 6, 2) := by decide +kernel
theorem dX7_tube_84 : decode cX7_tube 84 = .ok (.iadd, 1) := by decide +kernel
theorem dX7_tube_85 : decode cX7_tube 85 = .ok (.bipush 120, 2) := by decide +kernel
theorem dX7_tube_87 : decode cX7_tube 87 = .ok (.if_icmp .gt 19, 3) := by decide +kernel
theorem dX7_tube_90 : decode cX7_tube 90 = .ok (.aload_n 0, 1) := by decide +kernel
theorem dX7_tube_91 : decode cX7_tube 91 = .ok (.getfield 10, 3) := by decide +kernel
theorem dX7_tube_94 : decode cX7_tube 94 = .ok (.iload_n 2, 1) := by decide +kernel
theorem dX7_tube_95 : decode cX7_tube 95 = .ok (.invokevirtual 108, 3) := by decide +kernel
theorem dX7_tube_98 : decode cX7_tube 98 = .ok (.iload 6, 2) := by decide +kernel
theorem dX7_tube_100 : decode cX7_tube 100 = .ok (.iadd, 1) := by decide +kernel
theorem dX7_tube_101 : decode cX7_tube 101 = .ok (.bipush 120, 2) := by decide +kernel
theorem dX7_tube_103 : decode cX7_tube 103 = .ok (.if_icmp .le 10, 3) := by decide +kernel
theorem dX7_tube_106 : decode cX7_tube 106 = .ok (.aload_n 0, 1) := by decide +kernel
theorem dX7_tube_107 : decode cX7_tube 107 = .ok (.bipush (-5), 2) := by decide +kernel
theorem dX7_tube_109 : decode cX7_tube 109 = .ok (.invokevirtual 79, 3) := by decide +kernel
theorem dX7_tube_112 : decode cX7_tube 112 = .ok (.ireturn, 1) := by decide +kernel
theorem dX7_tube_113 : decode cX7_tube 113 = .ok (.aload_n 0, 1) := by decide +kernel
theorem dX7_tube_114 : decode cX7_tube 114 = .ok (.iconst 1, 1) := by decide +kernel
theorem dX7_tube_115 : decode cX7_tube 115 = .ok (.invokevirtual 86, 3) := by decide +kernel
theorem dX7_tube_118 : decode cX7_tube 118 = .ok (.aload_n 0, 1) := by decide +kernel
theorem dX7_tube_119 : decode cX7_tube 119 = .ok (.getfield 10, 3) := by decide +kernel
theorem dX7_tube_122 : decode cX7_tube 122 = .ok (.iload_n 1, 1) := by decide +kernel
theorem dX7_tube_123 : decode cX7_tube 123 = .ok (.iload_n 2, 1) := by decide +kernel
theorem dX7_tube_124 : decode cX7_tube 124 = .ok (.iload 6, 2) := by decide +kernel
theorem dX7_tube_126 : decode cX7_tube 126 = .ok (.invokevirtual 111, 3) := by decide +kernel
theorem dX7_tube_129 : decode cX7_tube 129 = .ok (.ireturn, 1) := by decide +kernel
noncomputable def EX7_tube : Sx := (sseq (sif (bnot (bz cne (csz DX7_arePieces (ai (il 3) (ai (il 4) (ai (il 5) anil)))))) (sret (cvi 6 DX7_refuse (rl 0) (ai (ik (-1)) anil))) snop) (sseq (sif (bor (bnot (bz cne (cvz 6 DX7_isChamber (rl 0) (ai (il 1) anil)))) (bnot (bz cne (cvz 6 DX7_isChamber (rl 0) (ai (il 2) anil))))) (sret (cvi 6 DX7_refuse (rl 0) (ai (ik (-2)) anil))) snop) (sseq (sif (bc ceq (il 1) (il 2)) (sret (cvi 6 DX7_refuse (rl 0) (ai (ik (-4)) anil))) snop) (sseq (ssi 6 (csi DX7_inSeries (ai (il 3) (ai (il 4) (ai (il 5) anil))))) (sseq (sif (bor (bor (bc cge (fgi 1 1 (fgr 6 0 (rl 0))) (ik 10)) (bc cgt (i2 (· + ·) (cvi 1 DX1_weight (fgr 6 0 (rl 0)) (ai (il 1) anil)) (il 6)) (ik 120))) (bc cgt (i2 (· + ·) (cvi 1 DX1_weight (fgr 6 0 (rl 0)) (ai (il 2) anil)) (il 6)) (ik 120))) (sret (cvi 6 DX7_refuse (rl 0) (ai (ik (-5)) anil))) snop) (sseq (scv 6 DX7_accept (rl 0) (ai (ik 1) anil)) (sret (cvi 1 DX1_addTube (fgr 6 0 (rl 0)) (ai (il 1) (ai (il 2) (ai (il 6) anil)))))))))))
noncomputable def DX7_tube : Fi := mfi 7 EX7_tube
set_option maxRecDepth 4000 in
theorem BX7_tube : Vs RX7 cX7_tube 7 (rmk 5 128) 0 0 EX7_tube := (v_seq (v_if (v_not (v_zne_t (v_csz IX7_arePieces hX7_arePieces lk425 ⟨by decide, by decide⟩ (by decide) (v_ai (v_iload_n (i := 3) dX7_tube_0 rfl (rfl : 0 + 1 = 1)) (v_ai (v_iload (i := 4) dX7_tube_1 (rfl : 1 + 2 = 3)) (v_ai (v_iload (i := 5) dX7_tube_3 (rfl : 3 + 2 = 5)) v_anil))) dX7_tube_5 (rfl : 5 + 3 = 8)) dX7_tube_8 (rfl : ((8 : Nat) : Int) + 9 = ((17 : Nat) : Int)) (rfl : 8 + 3 = 11))) (v_ret (v_cvi kX7 IX7_refuse hX7_refuse lk395 ⟨by decide, by decide⟩ (by decide) (v_aload_n (i := 0) dX7_tube_11 rfl (rfl : 11 + 1 = 12)) (v_ai (v_iconst (v := (-1)) dX7_tube_12 (by decide) (rfl : 12 + 1 = 13)) v_anil) dX7_tube_13 (rfl : 13 + 3 = 16)) dX7_tube_16) v_nop) (v_seq (v_if (v_or (v_not (v_zne_f (v_cvz kX7 IX7_isChamber hX7_isChamber lk428 ⟨by decide, by decide⟩ (by decide) (v_aload_n (i := 0) dX7_tube_17 rfl (rfl : 17 + 1 = 18)) (v_ai (v_iload_n (i := 1) dX7_tube_18 rfl (rfl : 18 + 1 = 19)) v_anil) dX7_tube_19 (rfl : 19 + 3 = 22)) dX7_tube_22 (rfl : ((22 : Nat) : Int) + 11 = ((33 : Nat) : Int)) (rfl : 22 + 3 = 25))) (v_not (v_zne_t (v_cvz kX7 IX7_isChamber hX7_isChamber lk428 ⟨by decide, by decide⟩ (by decide) (v_aload_n (i := 0) dX7_tube_25 rfl (rfl : 25 + 1 = 26)) (v_ai (v_iload_n (i := 2) dX7_tube_26 rfl (rfl : 26 + 1 = 27)) v_anil) dX7_tube_27 (rfl : 27 + 3 = 30)) dX7_tube_30 (rfl : ((30 : Nat) : Int) + 10 = ((40 : Nat) : Int)) (rfl : 30 + 3 = 33)))) (v_ret (v_cvi kX7 IX7_refuse hX7_refuse lk395 ⟨by decide, by decide⟩ (by decide) (v_aload_n (i := 0) dX7_tube_33 rfl (rfl : 33 + 1 = 34)) (v_ai (v_bipush (v := (-2)) dX7_tube_34 (by decide) (rfl : 34 + 2 = 36)) v_anil) dX7_tube_36 (rfl : 36 + 3 = 39)) dX7_tube_39) v_nop) (v_seq (v_if (v_ieq_f (v_iload_n (i := 1) dX7_tube_40 rfl (rfl : 40 + 1 = 41)) (v_iload_n (i := 2) dX7_tube_41 rfl (rfl : 41 + 1 = 42)) dX7_tube_42 (rfl : ((42 : Nat) : Int) + 10 = ((52 : Nat) : Int)) (rfl : 42 + 3 = 45)) (v_ret (v_cvi kX7 IX7_refuse hX7_refuse lk395 ⟨by decide, by decide⟩ (by decide) (v_aload_n (i := 0) dX7_tube_45 rfl (rfl : 45 + 1 = 46)) (v_ai (v_bipush (v := (-4)) dX7_tube_46 (by decide) (rfl : 46 + 2 = 48)) v_anil) dX7_tube_48 (rfl : 48 + 3 = 51)) dX7_tube_51) v_nop) (v_seq (v_istore (i := 6) (v_csi IX7_inSeries hX7_inSeries lk432 ⟨by decide, by decide⟩ (by decide) (v_ai (v_iload_n (i := 3) dX7_tube_52 rfl (rfl : 52 + 1 = 53)) (v_ai (v_iload (i := 4) dX7_tube_53 (rfl : 53 + 2 = 55)) (v_ai (v_iload (i := 5) dX7_tube_55 (rfl : 55 + 2 = 57)) v_anil))) dX7_tube_57 (rfl : 57 + 3 = 60)) dX7_tube_60 (by decide) (rfl : 60 + 2 = 62)) (v_seq (v_if (v_or (v_or (v_ige_t (v_gfi kX1 lk131 (by decide) rfl (v_gfr kX7 lk351 (by decide) rfl (v_aload_n (i := 0) dX7_tube_62 rfl (rfl : 62 + 1 = 63)) dX7_tube_63 (rfl : 63 + 3 = 66)) dX7_tube_66 (rfl : 66 + 3 = 69)) (v_bipush (v := 10) dX7_tube_69 (by decide) (rfl : 69 + 2 = 71)) dX7_tube_71 (rfl : ((71 : Nat) : Int) + 35 = ((106 : Nat) : Int)) (rfl : 71 + 3 = 74)) (v_igt_t (v_iadd (v_cvi kX1 IX1_weight hX1_weight lk441 ⟨by decide, by decide⟩ (by decide) (v_gfr kX7 lk351 (by decide) rfl (v_aload_n (i := 0) dX7_tube_74 rfl (rfl : 74 + 1 = 75)) dX7_tube_75 (rfl : 75 + 3 = 78)) (v_ai (v_iload_n (i := 1) dX7_tube_78 rfl (rfl : 78 + 1 = 79)) v_anil) dX7_tube_79 (rfl : 79 + 3 = 82)) (v_iload (i := 6) dX7_tube_82 (rfl : 82 + 2 = 84)) dX7_tube_84 (rfl : 84 + 1 = 85)) (v_bipush (v := 120) dX7_tube_85 (by decide) (rfl : 85 + 2 = 87)) dX7_tube_87 (rfl : ((87 : Nat) : Int) + 19 = ((106 : Nat) : Int)) (rfl : 87 + 3 = 90))) (v_igt_f (v_iadd (v_cvi kX1 IX1_weight hX1_weight lk441 ⟨by decide, by decide⟩ (by decide) (v_gfr kX7 lk351 (by decide) rfl (v_aload_n (i := 0) dX7_tube_90 rfl (rfl : 90 + 1 = 91)) dX7_tube_91 (rfl : 91 + 3 = 94)) (v_ai (v_iload_n (i := 2) dX7_tube_94 rfl (rfl : 94 + 1 = 95)) v_anil) dX7_tube_95 (rfl : 95 + 3 = 98)) (v_iload (i := 6) dX7_tube_98 (rfl : 98 + 2 = 100)) dX7_tube_100 (rfl : 100 + 1 = 101)) (v_bipush (v := 120) dX7_tube_101 (by decide) (rfl : 101 + 2 = 103)) dX7_tube_103 (rfl : ((103 : Nat) : Int) + 10 = ((113 : Nat) : Int)) (rfl : 103 + 3 = 106))) (v_ret (v_cvi kX7 IX7_refuse hX7_refuse lk395 ⟨by decide, by decide⟩ (by decide) (v_aload_n (i := 0) dX7_tube_106 rfl (rfl : 106 + 1 = 107)) (v_ai (v_bipush (v := (-5)) dX7_tube_107 (by decide) (rfl : 107 + 2 = 109)) v_anil) dX7_tube_109 (rfl : 109 + 3 = 112)) dX7_tube_112) v_nop) (v_seq (v_scv kX7 IX7_accept hX7_accept lk399 ⟨by decide, by decide⟩ (v_aload_n (i := 0) dX7_tube_113 rfl (rfl : 113 + 1 = 114)) (v_ai (v_iconst (v := 1) dX7_tube_114 (by decide) (rfl : 114 + 1 = 115)) v_anil) dX7_tube_115 (rfl : 115 + 3 = 118)) (v_ret (v_cvi kX1 IX1_addTube hX1_addTube lk452 ⟨by decide, by decide⟩ (by decide) (v_gfr kX7 lk351 (by decide) rfl (v_aload_n (i := 0) dX7_tube_118 rfl (rfl : 118 + 1 = 119)) dX7_tube_119 (rfl : 119 + 3 = 122)) (v_ai (v_iload_n (i := 1) dX7_tube_122 rfl (rfl : 122 + 1 = 123)) (v_ai (v_iload_n (i := 2) dX7_tube_123 rfl (rfl : 123 + 1 = 124)) (v_ai (v_iload (i := 6) dX7_tube_124 (rfl : 124 + 2 = 126)) v_anil))) dX7_tube_126 (rfl : 126 + 3 = 129)) dX7_tube_129)))))))
theorem IX7_tube : Mi yX7_tube cX7_tube 7 (rmk 5 128) DX7_tube := mk_i (by decide +kernel) BX7_tube

theorem dX7_turn_0 : decode cX7_turn 0 = .ok (.aload_n 0, 1) := by decide +kernel
theorem dX7_turn_1 : decode cX7_turn 1 = .ok (.iload_n 1, 1) := by decide +kernel
theorem dX7_turn_2 : decode cX7_turn 2 = .ok (.invokevirtual 150, 3) := by decide +kernel
theorem dX7_turn_5 : decode cX7_turn 5 = .ok (.ifCond .ne 10, 3) := by decide +kernel
theorem dX7_turn_8 : decode cX7_turn 8 = .ok (.aload_n 0, 1) := by decide +kernel
theorem dX7_turn_9 : decode cX7_turn 9 = .ok (.bipush (-2), 2) := by decide +kernel
theorem dX7_turn_11 : decode cX7_turn 11 = .ok (.invokevirtual 79, 3) := by decide +kernel
theorem dX7_turn_14 : decode cX7_turn 14 = .ok (.ireturn, 1) := by decide +kernel
theorem dX7_turn_15 : decode cX7_turn 15 = .ok (.aload_n 0, 1) := by decide +kernel
theorem dX7_turn_16 : decode cX7_turn 16 = .ok (.iconst 5, 1) := by decide +kernel
theorem dX7_turn_17 : decode cX7_turn 17 = .ok (.invokevirtual 86, 3) := by decide +kernel
theorem dX7_turn_20 : decode cX7_turn 20 = .ok (.aload_n 0, 1) := by decide +kernel
theorem dX7_turn_21 : decode cX7_turn 21 = .ok (.getfield 10, 3) := by decide +kernel
theorem dX7_turn_24 : decode cX7_turn 24 = .ok (.aload_n 0, 1) := by decide +kernel
theorem dX7_turn_25 : decode cX7_turn 25 = .ok (.getfield 10, 3) := by decide +kernel
theorem dX7_turn_28 : decode cX7_turn 28 = .ok (.getfield 153, 3) := by decide +kernel
theorem dX7_turn_31 : decode cX7_turn 31 = .ok (.iload_n 1, 1) := by decide +kernel
theorem dX7_turn_32 : decode cX7_turn 32 = .ok (.aaload, 1) := by decide +kernel
theorem dX7_turn_33 : decode cX7_turn 33 = .ok (.iconst 3, 1) := by decide +kernel
theorem dX7_turn_34 : decode cX7_turn 34 = .ok (.invokevirtual 156, 3) := by decide +kernel
theorem dX7_turn_37 : decode cX7_turn 37 = .ok (.ireturn, 1) := by decide +kernel
noncomputable def EX7_turn : Sx := (sseq (sif (bnot (bz cne (cvz 6 DX7_isTube (rl 0) (ai (il 1) anil)))) (sret (cvi 6 DX7_refuse (rl 0) (ai (ik (-2)) anil))) snop) (sseq (scv 6 DX7_accept (rl 0) (ai (ik 5) anil)) (sret (cvi 1 DX1_flip (fgr 6 0 (rl 0)) (ar (rald 12 (fgr 1 10 (fgr 6 0 (rl 0))) (il 1)) (ai (ik 3) anil))))))
noncomputable def DX7_turn : Fi := mfi 2 EX7_turn
set_option maxRecDepth 4000 in
theorem BX7_turn : Vs RX7 cX7_turn 2 (rmk 5 128) 0 0 EX7_turn := (v_seq (v_if (v_not (v_zne_t (v_cvz kX7 IX7_isTube hX7_isTube lk491 ⟨by decide, by decide⟩ (by decide) (v_aload_n (i := 0) dX7_turn_0 rfl (rfl : 0 + 1 = 1)) (v_ai (v_iload_n (i := 1) dX7_turn_1 rfl (rfl : 1 + 1 = 2)) v_anil) dX7_turn_2 (rfl : 2 + 3 = 5)) dX7_turn_5 (rfl : ((5 : Nat) : Int) + 10 = ((15 : Nat) : Int)) (rfl : 5 + 3 = 8))) (v_ret (v_cvi kX7 IX7_refuse hX7_refuse lk395 ⟨by decide, by decide⟩ (by decide) (v_aload_n (i := 0) dX7_turn_8 rfl (rfl : 8 + 1 = 9)) (v_ai (v_bipush (v := (-2)) dX7_turn_9 (by decide) (rfl : 9 + 2 = 11)) v_anil) dX7_turn_11 (rfl : 11 + 3 = 14)) dX7_turn_14) v_nop) (v_seq (v_scv kX7 IX7_accept hX7_accept lk399 ⟨by decide, by decide⟩ (v_aload_n (i := 0) dX7_turn_15 rfl (rfl : 15 + 1 = 16)) (v_ai (v_iconst (v := 5) dX7_turn_16 (by decide) (rfl : 16 + 1 = 17)) v_anil) dX7_turn_17 (rfl : 17 + 3 = 20)) (v_ret (v_cvi kX1 IX1_flip hX1_flip lk495 ⟨by decide, by decide⟩ (by decide) (v_gfr kX7 lk351 (by decide) rfl (v_aload_n (i := 0) dX7_turn_20 rfl (rfl : 20 + 1 = 21)) dX7_turn_21 (rfl : 21 + 3 = 24)) (v_ar (v_rald (q := 12) (t0 := 4) (ty0 := .array .int) ⟨by decide, by decide⟩ (fun _ => rfl) rfl (v_gfr kX1 lk156 (by decide) rfl (v_gfr kX7 lk351 (by decide) rfl (v_aload_n (i := 0) dX7_turn_24 rfl (rfl : 24 + 1 = 25)) dX7_turn_25 (rfl : 25 + 3 = 28)) dX7_turn_28 (rfl : 28 + 3 = 31)) (v_iload_n (i := 1) dX7_turn_31 rfl (rfl : 31 + 1 = 32)) dX7_turn_32 (rfl : 32 + 1 = 33)) (v_ai (v_iconst (v := 3) dX7_turn_33 (by decide) (rfl : 33 + 1 = 34)) v_anil)) dX7_turn_34 (rfl : 34 + 3 = 37)) dX7_turn_37)))
theorem IX7_turn : Mi yX7_turn cX7_turn 2 (rmk 5 128) DX7_turn := mk_i (by decide +kernel) BX7_turn

theorem dX7_undo_0 : decode cX7_undo 0 = .ok (.aload_n 0, 1) := by decide +kernel
theorem dX7_undo_1 : decode cX7_undo 1 = .ok (.getfield 52, 3) := by decide +kernel
theorem dX7_undo_4 : decode cX7_undo 4 = .ok (.aload_n 0, 1) := by decide +kernel
theorem dX7_undo_5 : decode cX7_undo 5 = .ok (.getfield 10, 3) := by decide +kernel
theorem dX7_undo_8 : decode cX7_undo 8 = .ok (.invokevirtual 202, 3) := by decide +kernel
theorem dX7_undo_11 : decode cX7_undo 11 = .ok (.istore_n 1, 1) := by decide +kernel
theorem dX7_undo_12 : decode cX7_undo 12 = .ok (.iload_n 1, 1) := by decide +kernel
theorem dX7_undo_13 : decode cX7_undo 13 = .ok (.iconst (-1), 1) := by decide +kernel
theorem dX7_undo_14 : decode cX7_undo 14 = .ok (.if_icmp .ne 10, 3) := by decide +kernel
theorem dX7_undo_17 : decode cX7_undo 17 = .ok (.aload_n 0, 1) := by decide +kernel
theorem dX7_undo_18 : decode cX7_undo 18 = .ok (.bipush (-4), 2) := by decide +kernel
theorem dX7_undo_20 : decode cX7_undo 20 = .ok (.invokevirtual 79, 3) := by decide +kernel
theorem dX7_undo_23 : decode cX7_undo 23 = .ok (.ireturn, 1) := by decide +kernel
theorem dX7_undo_24 : decode cX7_undo 24 = .ok (.aload_n 0, 1) := by decide +kernel
theorem dX7_undo_25 : decode cX7_undo 25 = .ok (.iconst 0, 1) := by decide +kernel
theorem dX7_undo_26 : decode cX7_undo 26 = .ok (.putfield 68, 3) := by decide +kernel
theorem dX7_undo_29 : decode cX7_undo 29 = .ok (.iload_n 1, 1) := by decide +kernel
theorem dX7_undo_30 : decode cX7_undo 30 = .ok (.ireturn, 1) := by decide +kernel
noncomputable def EX7_undo : Sx := (sseq (ssi 1 (cvi 2 DX3_takeBack (fgr 6 6 (rl 0)) (ar (fgr 6 0 (rl 0)) anil))) (sseq (sif (bc ceq (il 1) (ik (-1))) (sret (cvi 6 DX7_refuse (rl 0) (ai (ik (-4)) anil))) snop) (sseq (fpi 6 10 (rl 0) (ik 0)) (sret (il 1)))))
noncomputable def DX7_undo : Fi := mfi 2 EX7_undo
set_option maxRecDepth 4000 in
theorem BX7_undo : Vs RX7 cX7_undo 2 (rmk 4 106) 0 0 EX7_undo := (v_seq (v_istore_n (i := 1) (v_cvi kX3 IX3_takeBack hX3_takeBack lk708 ⟨by decide, by decide⟩ (by decide) (v_gfr kX7 lk357 (by decide) rfl (v_aload_n (i := 0) dX7_undo_0 rfl (rfl : 0 + 1 = 1)) dX7_undo_1 (rfl : 1 + 3 = 4)) (v_ar (v_gfr kX7 lk351 (by decide) rfl (v_aload_n (i := 0) dX7_undo_4 rfl (rfl : 4 + 1 = 5)) dX7_undo_5 (rfl : 5 + 3 = 8)) v_anil) dX7_undo_8 (rfl : 8 + 3 = 11)) dX7_undo_11 rfl (by decide) (rfl : 11 + 1 = 12)) (v_seq (v_if (v_ieq_f (v_iload_n (i := 1) dX7_undo_12 rfl (rfl : 12 + 1 = 13)) (v_iconst (v := (-1)) dX7_undo_13 (by decide) (rfl : 13 + 1 = 14)) dX7_undo_14 (rfl : ((14 : Nat) : Int) + 10 = ((24 : Nat) : Int)) (rfl : 14 + 3 = 17)) (v_ret (v_cvi kX7 IX7_refuse hX7_refuse lk395 ⟨by decide, by decide⟩ (by decide) (v_aload_n (i := 0) dX7_undo_17 rfl (rfl : 17 + 1 = 18)) (v_ai (v_bipush (v := (-4)) dX7_undo_18 (by decide) (rfl : 18 + 2 = 20)) v_anil) dX7_undo_20 (rfl : 20 + 3 = 23)) dX7_undo_23) v_nop) (v_seq (v_fpi kX7 lk361 (by decide) rfl rfl (by decide +kernel) (v_aload_n (i := 0) dX7_undo_24 rfl (rfl : 24 + 1 = 25)) (v_iconst (v := 0) dX7_undo_25 (by decide) (rfl : 25 + 1 = 26)) dX7_undo_26 (rfl : 26 + 3 = 29)) (v_ret (v_iload_n (i := 1) dX7_undo_29 rfl (rfl : 29 + 1 = 30)) dX7_undo_30))))
theorem IX7_undo : Mi yX7_undo cX7_undo 2 (rmk 4 106) DX7_undo := mk_i (by decide +kernel) BX7_undo

theorem dX7_until_0 : decode cX7_until 0 = .ok (.iload_n 1, 1) := by decide +kernel
theorem dX7_until_1 : decode cX7_until 1 = .ok (.ifCond .ge 5, 3) := by decide +kernel
theorem dX7_until_4 : decode cX7_until 4 = .ok (.iconst (-1), 1) := by decide +kernel
theorem dX7_until_5 : decode cX7_until 5 = .ok (.ireturn, 1) := by decide +kernel
theorem dX7_until_6 : decode cX7_until 6 = .ok (.aload_n 0, 1) := by decide +kernel
theorem dX7_until_7 : decode cX7_until 7 = .ok (.getfield 16, 3) := by decide +kernel
theorem dX7_until_10 : decode cX7_until 10 = .ok (.aload_n 0, 1) := by decide +kernel
theorem dX7_until_11 : decode cX7_until 11 = .ok (.getfield 10, 3) := by decide +kernel
theorem dX7_until_14 : decode cX7_until 14 = .ok (.invokevirtual 205, 3) := by decide +kernel
theorem dX7_until_17 : decode cX7_until 17 = .ok (.iconst 0, 1) := by decide +kernel
theorem dX7_until_18 : decode cX7_until 18 = .ok (.istore_n 2, 1) := by decide +kernel
theorem dX7_until_19 : decode cX7_until 19 = .ok (.iload_n 2, 1) := by decide +kernel
theorem dX7_until_20 : decode cX7_until 20 = .ok (.sipush 200, 3) := by decide +kernel
theorem dX7_until_23 : decode cX7_until 23 = .ok (.if_icmp .gt 53, 3) := by decide +kernel
theorem dX7_until_26 : decode cX7_until 26 = .ok (.aload_n 0, 1) := by decide +kernel
theorem dX7_until_27 : decode cX7_until 27 = .ok (.getfield 22, 3) := by decide +kernel
theorem dX7_until_30 : decode cX7_until 30 = .ok (.aload_n 0, 1) := by decide +kernel
theorem dX7_until_31 : decode cX7_until 31 = .ok (.getfield 16, 3) := by decide +kernel
theorem dX7_until_34 : decode cX7_until 34 = .ok (.iload_n 1, 1) := by decide +kernel
theorem dX7_until_35 : decode cX7_until 35 = .ok (.invokevirtual 297, 3) := by decide +kernel
theorem dX7_until_38 : decode cX7_until 38 = .ok (.ifCond .eq 5, 3) := by decide +kernel
theorem dX7_until_41 : decode cX7_until 41 = .ok (.iload_n 2, 1) := by decide +kernel
theorem dX7_until_42 : decode cX7_until 42 = .ok (.ireturn, 1) := by decide +kernel
theorem dX7_until_43 : decode cX7_until 43 = .ok (.aload_n 0, 1) := by decide +kernel
theorem dX7_until_44 : decode cX7_until 44 = .ok (.getfield 16, 3) := by decide +kernel
theorem dX7_until_47 : decode cX7_until 47 = .ok (.getfield 184, 3) := by decide +kernel
theorem dX7_until_50 : decode cX7_until 50 = .ok (.sipush 9999, 3) := by decide +kernel
theorem dX7_until_53 : decode cX7_until 53 = .ok (.if_icmp .lt 5, 3) := by decide +kernel
theorem dX7_until_56 : decode cX7_until 56 = .ok (.iconst (-1), 1) := by decide +kernel
theorem dX7_until_57 : decode cX7_until 57 = .ok (.ireturn, 1) := by decide +kernel
theorem dX7_until_58 : decode cX7_until 58 = .ok (.aload_n 0, 1) := by decide +kernel
theorem dX7_until_59 : decode cX7_until 59 = .ok (.getfield 31, 3) := by decide +kernel
theorem dX7_until_62 : decode cX7_until 62 = .ok (.aload_n 0, 1) := by decide +kernel
theorem dX7_until_63 : decode cX7_until 63 = .ok (.getfield 16, 3) := by decide +kernel
theorem dX7_until_66 : decode cX7_until 66 = .ok (.invokevirtual 187, 3) := by decide +kernel
theorem dX7_until_69 : decode cX7_until 69 = .ok (.pop, 1) := by decide +kernel
theorem dX7_until_70 : decode cX7_until 70 = .ok (.iinc 2 1, 3) := by decide +kernel
theorem dX7_until_73 : decode cX7_until 73 = .ok (.goto (-54), 3) := by decide +kernel
theorem dX7_until_76 : decode cX7_until 76 = .ok (.iconst (-1), 1) := by decide +kernel
theorem dX7_until_77 : decode cX7_until 77 = .ok (.ireturn, 1) := by decide +kernel
noncomputable def qX7_until_1 : Bx := (bc cle (il 2) (ik 200))
noncomputable def wX7_until_1 : Sx := (sseq (sseq (sif (bz cne (cvz 0 DX0_isUnder (fgr 6 2 (rl 0)) (ar (fgr 6 1 (rl 0)) (ai (il 1) anil)))) (sret (il 2)) snop) (sseq (sif (bc cge (fgi 1 4 (fgr 6 1 (rl 0))) (ik 9999)) (sret (ik (-1))) snop) (spop (cvi 5 DX6_step (fgr 6 3 (rl 0)) (ar (fgr 6 1 (rl 0)) anil))))) (sinc 2 1))
noncomputable def EX7_until : Sx := (sseq (sif (bz clt (il 1)) (sret (ik (-1))) snop) (sseq (scv 1 DX1_copyFrom (fgr 6 1 (rl 0)) (ar (fgr 6 0 (rl 0)) anil)) (sseq (scut 2 (sseq (ssi 2 (ik 0)) (swh qX7_until_1 wX7_until_1))) (sret (ik (-1))))))
noncomputable def DX7_until : Fi := mfi 3 EX7_until
set_option maxRecDepth 4000 in
theorem BX7_until : Vs RX7 cX7_until 3 (rmk 6 152) 0 0 EX7_until := (v_seq (v_if (v_zlt_f (v_iload_n (i := 1) dX7_until_0 rfl (rfl : 0 + 1 = 1)) dX7_until_1 (rfl : ((1 : Nat) : Int) + 5 = ((6 : Nat) : Int)) (rfl : 1 + 3 = 4)) (v_ret (v_iconst (v := (-1)) dX7_until_4 (by decide) (rfl : 4 + 1 = 5)) dX7_until_5) v_nop) (v_seq (v_scv kX1 IX1_copyFrom hX1_copyFrom lk716 ⟨by decide, by decide⟩ (v_gfr kX7 lk352 (by decide) rfl (v_aload_n (i := 0) dX7_until_6 rfl (rfl : 6 + 1 = 7)) dX7_until_7 (rfl : 7 + 3 = 10)) (v_ar (v_gfr kX7 lk351 (by decide) rfl (v_aload_n (i := 0) dX7_until_10 rfl (rfl : 10 + 1 = 11)) dX7_until_11 (rfl : 11 + 3 = 14)) v_anil) dX7_until_14 (rfl : 14 + 3 = 17)) (v_seq (v_cut (n := 2) (v_seq (v_istore_n (i := 2) (v_iconst (v := 0) dX7_until_17 (by decide) (rfl : 17 + 1 = 18)) dX7_until_18 rfl (by decide) (rfl : 18 + 1 = 19)) (v_wh (v_ile_f (v_iload_n (i := 2) dX7_until_19 rfl (rfl : 19 + 1 = 20)) (v_sipush (v := 200) dX7_until_20 (by decide) (rfl : 20 + 3 = 23)) dX7_until_23 (rfl : ((23 : Nat) : Int) + 53 = ((76 : Nat) : Int)) (rfl : 23 + 3 = 26)) (vs_goto (v_seq (v_seq (v_if (v_zne_f (v_cvz kX0 IX0_isUnder hX0_isUnder lk901 ⟨by decide, by decide⟩ (by decide) (v_gfr kX7 lk353 (by decide) rfl (v_aload_n (i := 0) dX7_until_26 rfl (rfl : 26 + 1 = 27)) dX7_until_27 (rfl : 27 + 3 = 30)) (v_ar (v_gfr kX7 lk352 (by decide) rfl (v_aload_n (i := 0) dX7_until_30 rfl (rfl : 30 + 1 = 31)) dX7_until_31 (rfl : 31 + 3 = 34)) (v_ai (v_iload_n (i := 1) dX7_until_34 rfl (rfl : 34 + 1 = 35)) v_anil)) dX7_until_35 (rfl : 35 + 3 = 38)) dX7_until_38 (rfl : ((38 : Nat) : Int) + 5 = ((43 : Nat) : Int)) (rfl : 38 + 3 = 41)) (v_ret (v_iload_n (i := 2) dX7_until_41 rfl (rfl : 41 + 1 = 42)) dX7_until_42) v_nop) (v_seq (v_if (v_ige_f (v_gfi kX1 lk142 (by decide) rfl (v_gfr kX7 lk352 (by decide) rfl (v_aload_n (i := 0) dX7_until_43 rfl (rfl : 43 + 1 = 44)) dX7_until_44 (rfl : 44 + 3 = 47)) dX7_until_47 (rfl : 47 + 3 = 50)) (v_sipush (v := 9999) dX7_until_50 (by decide) (rfl : 50 + 3 = 53)) dX7_until_53 (rfl : ((53 : Nat) : Int) + 5 = ((58 : Nat) : Int)) (rfl : 53 + 3 = 56)) (v_ret (v_iconst (v := (-1)) dX7_until_56 (by decide) (rfl : 56 + 1 = 57)) dX7_until_57) v_nop) (v_pop (v_cvi kX6 IX6_step hX6_step lk540 ⟨by decide, by decide⟩ (by decide) (v_gfr kX7 lk354 (by decide) rfl (v_aload_n (i := 0) dX7_until_58 rfl (rfl : 58 + 1 = 59)) dX7_until_59 (rfl : 59 + 3 = 62)) (v_ar (v_gfr kX7 lk352 (by decide) rfl (v_aload_n (i := 0) dX7_until_62 rfl (rfl : 62 + 1 = 63)) dX7_until_63 (rfl : 63 + 3 = 66)) v_anil) dX7_until_66 (rfl : 66 + 3 = 69)) dX7_until_69 (rfl : 69 + 1 = 70)))) (v_iinc (v := 1) dX7_until_70 (by decide) (by decide) (rfl : 70 + 3 = 73))) dX7_until_73 (rfl : ((73 : Nat) : Int) + (-54) = ((19 : Nat) : Int)))))) (v_ret (v_iconst (v := (-1)) dX7_until_76 (by decide) (rfl : 76 + 1 = 77)) dX7_until_77))))
theorem IX7_until : Mi yX7_until cX7_until 3 (rmk 6 152) DX7_until := mk_i (by decide +kernel) BX7_until

theorem dX7_valve_0 : decode cX7_valve 0 = .ok (.iload_n 1, 1) := by decide +kernel
theorem dX7_valve_1 : decode cX7_valve 1 = .ok (.iconst 0, 1) := by decide +kernel
theorem dX7_valve_2 : decode cX7_valve 2 = .ok (.iconst 1, 1) := by decide +kernel
theorem dX7_valve_3 : decode cX7_valve 3 = .ok (.invokestatic 75, 3) := by decide +kernel
theorem dX7_valve_6 : decode cX7_valve 6 = .ok (.ifCond .ne 5, 3) := by decide +kernel
theorem dX7_valve_9 : decode cX7_valve 9 = .ok (.iconst (-1), 1) := by decide +kernel
theorem dX7_valve_10 : decode cX7_valve 10 = .ok (.ireturn, 1) := by decide +kernel
theorem dX7_valve_11 : decode cX7_valve 11 = .ok (.aload_n 0, 1) := by decide +kernel
theorem dX7_valve_12 : decode cX7_valve 12 = .ok (.getfield 16, 3) := by decide +kernel
theorem dX7_valve_15 : decode cX7_valve 15 = .ok (.aload_n 0, 1) := by decide +kernel
theorem dX7_valve_16 : decode cX7_valve 16 = .ok (.getfield 10, 3) := by decide +kernel
theorem dX7_valve_19 : decode cX7_valve 19 = .ok (.invokevirtual 205, 3) := by decide +kernel
theorem dX7_valve_22 : decode cX7_valve 22 = .ok (.iconst (-1), 1) := by decide +kernel
theorem dX7_valve_23 : decode cX7_valve 23 = .ok (.istore_n 2, 1) := by decide +kernel
theorem dX7_valve_24 : decode cX7_valve 24 = .ok (.iconst (-1), 1) := by decide +kernel
theorem dX7_valve_25 : decode cX7_valve 25 = .ok (.istore_n 3, 1) := by decide +kernel
theorem dX7_valve_26 : decode cX7_valve 26 = .ok (.iconst 0, 1) := by decide +kernel
theorem dX7_valve_27 : decode cX7_valve 27 = .ok (.istore 4, 2) := by decide +kernel
theorem dX7_valve_29 : decode cX7_valve 29 = .ok (.iload 4, 2) := by decide +kernel
theorem dX7_valve_31 : decode cX7_valve 31 = .ok (.aload_n 0, 1) := by decide +kernel
theorem dX7_valve_32 : decode cX7_valve 32 = .ok (.getfield 10, 3) := by decide +kernel
theorem dX7_valve_35 : decode cX7_valve 35 = .ok (.getfield 105, 3) := by decide +kernel
theorem dX7_valve_38 : decode cX7_valve 38 = .ok (.if_icmp .ge 84, 3) := by decide +kernel
theorem dX7_valve_41 : decode cX7_valve 41 = .ok (.aload_n 0, 1) := by decide +kernel
theorem dX7_valve_42 : decode cX7_valve 42 = .ok (.getfield 16, 3) := by decide +kernel
theorem dX7_valve_45 : decode cX7_valve 45 = .ok (.aload_n 0, 1) := by decide +kernel
theorem dX7_valve_46 : decode cX7_valve 46 = .ok (.getfield 16, 3) := by decide +kernel
theorem dX7_valve_49 : decode cX7_valve 49 = .ok (.getfield 153, 3) := by decide +kernel
theorem dX7_valve_52 : decode cX7_valve 52 = .ok (.iload 4, 2) := by decide +kernel
theorem dX7_valve_54 : decode cX7_valve 54 = .ok (.aaload, 1) := by decide +kernel
theorem dX7_valve_55 : decode cX7_valve 55 = .ok (.iconst 3, 1) := by decide +kernel
theorem dX7_valve_56 : decode cX7_valve 56 = .ok (.invokevirtual 156, 3) := by decide +kernel
theorem dX7_valve_59 : decode cX7_valve 59 = .ok (.pop, 1) := by decide +kernel
theorem dX7_valve_60 : decode cX7_valve 60 = .ok (.aload_n 0, 1) := by decide +kernel
theorem dX7_valve_61 : decode cX7_valve 61 = .ok (.getfield 22, 3) := by decide +kernel
theorem dX7_valve_64 : decode cX7_valve 64 = .ok (.aload_n 0, 1) := by decide +kernel
theorem dX7_valve_65 : decode cX7_valve 65 = .ok (.getfield 16, 3) := by decide +kernel
theorem dX7_valve_68 : decode cX7_valve 68 = .ok (.invokevirtual 294, 3) := by decide +kernel
theorem dX7_valve_71 : decode cX7_valve 71 = .ok (.istore 5, 2) := by decide +kernel
theorem dX7_valve_73 : decode cX7_valve 73 = .ok (.aload_n 0, 1) := by decide +kernel
theorem dX7_valve_74 : decode cX7_valve 74 = .ok (.getfield 16, 3) := by decide +kernel
theorem dX7_valve_77 : decode cX7_valve 77 = .ok (.aload_n 0, 1) := by decide +kernel
theorem dX7_valve_78 : decode cX7_valve 78 = .ok (.getfield 16, 3) := by decide +kernel
theorem dX7_valve_81 : decode cX7_valve 81 = .ok (.getfield 153, 3) := by decide +kernel
theorem dX7_valve_84 : decode cX7_valve 84 = .ok (.iload 4, 2) := by decide +kernel
theorem dX7_valve_86 : decode cX7_valve 86 = .ok (.aaload, 1) := by decide +kernel
theorem dX7_valve_87 : decode cX7_valve 87 = .ok (.iconst 3, 1) := by decide +kernel
theorem dX7_valve_88 : decode cX7_valve 88 = .ok (.invokevirtual 156, 3) := by decide +kernel
theorem dX7_valve_91 : decode cX7_valve 91 = .ok (.pop, 1) := by decide +kernel
theorem dX7_valve_92 : decode cX7_valve 92 = .ok (.iload 5, 2) := by decide +kernel
theorem dX7_valve_94 : decode cX7_valve 94 = .ok (.bipush (-3), 2) := by decide +kernel
theorem dX7_valve_96 : decode cX7_valve 96 = .ok (.if_icmp .eq 20, 3) := by decide +kernel
theorem dX7_valve_99 : decode cX7_valve 99 = .ok (.iload_n 2, 1) := by decide +kernel
theorem dX7_valve_100 : decode cX7_valve 100 = .ok (.iconst (-1), 1) := by decide +kernel
theorem dX7_valve_101 : decode cX7_valve 101 = .ok (.if_icmp .eq 9, 3) := by decide +kernel
theorem dX7_valve_104 : decode cX7_valve 104 = .ok (.iload 5, 2) := by decide +kernel
theorem dX7_valve_106 : decode cX7_valve 106 = .ok (.iload_n 3, 1) := by decide +kernel
theorem dX7_valve_107 : decode cX7_valve 107 = .ok (.if_icmp .ge 9, 3) := by decide +kernel
theorem dX7_valve_110 : decode cX7_valve 110 = .ok (.iload 4, 2) := by decide +kernel
theorem dX7_valve_112 : decode cX7_valve 112 = .ok (.istore_n 2, 1) := by decide +kernel
theorem dX7_valve_113 : decode cX7_valve 113 = .ok (.iload 5, 2) := by decide +kernel
theorem dX7_valve_115 : decode cX7_valve 115 = .ok (.istore_n 3, 1) := by decide +kernel
theorem dX7_valve_116 : decode cX7_valve 116 = .ok (.iinc 4 1, 3) := by decide +kernel
theorem dX7_valve_119 : decode cX7_valve 119 = .ok (.goto (-90), 3) := by decide +kernel
theorem dX7_valve_122 : decode cX7_valve 122 = .ok (.iload_n 1, 1) := by decide +kernel
theorem dX7_valve_123 : decode cX7_valve 123 = .ok (.ifCond .ne 7, 3) := by decide +kernel
theorem dX7_valve_126 : decode cX7_valve 126 = .ok (.iload_n 2, 1) := by decide +kernel
theorem dX7_valve_127 : decode cX7_valve 127 = .ok (.goto 4, 3) := by decide +kernel
theorem dX7_valve_130 : decode cX7_valve 130 = .ok (.iload_n 3, 1) := by decide +kernel
theorem dX7_valve_131 : decode cX7_valve 131 = .ok (.ireturn, 1) := by decide +kernel
noncomputable def qX7_valve_1 : Bx := (bc clt (il 4) (fgi 1 1 (fgr 6 0 (rl 0))))
noncomputable def wX7_valve_1 : Sx := (sseq (scut 5 (sseq (spop (cvi 1 DX1_flip (fgr 6 1 (rl 0)) (ar (rald 12 (fgr 1 10 (fgr 6 1 (rl 0))) (il 4)) (ai (ik 3) anil)))) (sseq (ssi 5 (cvi 0 DX0_greatest (fgr 6 2 (rl 0)) (ar (fgr 6 1 (rl 0)) anil))) (sseq (spop (cvi 1 DX1_flip (fgr 6 1 (rl 0)) (ar (rald 12 (fgr 1 10 (fgr 6 1 (rl 0))) (il 4)) (ai (ik 3) anil)))) (sif (band (bc cne (il 5) (ik (-3))) (bor (bc ceq (il 2) (ik (-1))) (bc clt (il 5) (il 3)))) (sseq (ssi 2 (il 4)) (ssi 3 (il 5))) snop))))) (sinc 4 1))
noncomputable def EX7_valve : Sx := (sseq (sif (bnot (bz cne (csz DX7_within (ai (il 1) (ai (ik 0) (ai (ik 1) anil)))))) (sret (ik (-1))) snop) (sseq (scv 1 DX1_copyFrom (fgr 6 1 (rl 0)) (ar (fgr 6 0 (rl 0)) anil)) (sseq (ssi 2 (ik (-1))) (sseq (ssi 3 (ik (-1))) (sseq (scut 4 (sseq (ssi 4 (ik 0)) (swh qX7_valve_1 wX7_valve_1))) (sret (ic (bz ceq (il 1)) (il 2) (il 3))))))))
noncomputable def DX7_valve : Fi := mfi 6 EX7_valve
set_option maxRecDepth 4000 in
theorem BX7_valve : Vs RX7 cX7_valve 6 (rmk 5 129) 0 0 EX7_valve := (v_seq (v_if (v_not (v_zne_t (v_csz IX7_within hX7_within lk392 ⟨by decide, by decide⟩ (by decide) (v_ai (v_iload_n (i := 1) dX7_valve_0 rfl (rfl : 0 + 1 = 1)) (v_ai (v_iconst (v := 0) dX7_valve_1 (by decide) (rfl : 1 + 1 = 2)) (v_ai (v_iconst (v := 1) dX7_valve_2 (by decide) (rfl : 2 + 1 = 3)) v_anil))) dX7_valve_3 (rfl : 3 + 3 = 6)) dX7_valve_6 (rfl : ((6 : Nat) : Int) + 5 = ((11 : Nat) : Int)) (rfl : 6 + 3 = 9))) (v_ret (v_iconst (v := (-1)) dX7_valve_9 (by decide) (rfl : 9 + 1 = 10)) dX7_valve_10) v_nop) (v_seq (v_scv kX1 IX1_copyFrom hX1_copyFrom lk716 ⟨by decide, by decide⟩ (v_gfr kX7 lk352 (by decide) rfl (v_aload_n (i := 0) dX7_valve_11 rfl (rfl : 11 + 1 = 12)) dX7_valve_12 (rfl : 12 + 3 = 15)) (v_ar (v_gfr kX7 lk351 (by decide) rfl (v_aload_n (i := 0) dX7_valve_15 rfl (rfl : 15 + 1 = 16)) dX7_valve_16 (rfl : 16 + 3 = 19)) v_anil) dX7_valve_19 (rfl : 19 + 3 = 22)) (v_seq (v_istore_n (i := 2) (v_iconst (v := (-1)) dX7_valve_22 (by decide) (rfl : 22 + 1 = 23)) dX7_valve_23 rfl (by decide) (rfl : 23 + 1 = 24)) (v_seq (v_istore_n (i := 3) (v_iconst (v := (-1)) dX7_valve_24 (by decide) (rfl : 24 + 1 = 25)) dX7_valve_25 rfl (by decide) (rfl : 25 + 1 = 26)) (v_seq (v_cut (n := 4) (v_seq (v_istore (i := 4) (v_iconst (v := 0) dX7_valve_26 (by decide) (rfl : 26 + 1 = 27)) dX7_valve_27 (by decide) (rfl : 27 + 2 = 29)) (v_wh (v_ilt_f (v_iload (i := 4) dX7_valve_29 (rfl : 29 + 2 = 31)) (v_gfi kX1 lk131 (by decide) rfl (v_gfr kX7 lk351 (by decide) rfl (v_aload_n (i := 0) dX7_valve_31 rfl (rfl : 31 + 1 = 32)) dX7_valve_32 (rfl : 32 + 3 = 35)) dX7_valve_35 (rfl : 35 + 3 = 38)) dX7_valve_38 (rfl : ((38 : Nat) : Int) + 84 = ((122 : Nat) : Int)) (rfl : 38 + 3 = 41)) (vs_goto (v_seq (v_cut (n := 5) (v_seq (v_pop (v_cvi kX1 IX1_flip hX1_flip lk495 ⟨by decide, by decide⟩ (by decide) (v_gfr kX7 lk352 (by decide) rfl (v_aload_n (i := 0) dX7_valve_41 rfl (rfl : 41 + 1 = 42)) dX7_valve_42 (rfl : 42 + 3 = 45)) (v_ar (v_rald (q := 12) (t0 := 4) (ty0 := .array .int) ⟨by decide, by decide⟩ (fun _ => rfl) rfl (v_gfr kX1 lk156 (by decide) rfl (v_gfr kX7 lk352 (by decide) rfl (v_aload_n (i := 0) dX7_valve_45 rfl (rfl : 45 + 1 = 46)) dX7_valve_46 (rfl : 46 + 3 = 49)) dX7_valve_49 (rfl : 49 + 3 = 52)) (v_iload (i := 4) dX7_valve_52 (rfl : 52 + 2 = 54)) dX7_valve_54 (rfl : 54 + 1 = 55)) (v_ai (v_iconst (v := 3) dX7_valve_55 (by decide) (rfl : 55 + 1 = 56)) v_anil)) dX7_valve_56 (rfl : 56 + 3 = 59)) dX7_valve_59 (rfl : 59 + 1 = 60)) (v_seq (v_istore (i := 5) (v_cvi kX0 IX0_greatest hX0_greatest lk890 ⟨by decide, by decide⟩ (by decide) (v_gfr kX7 lk353 (by decide) rfl (v_aload_n (i := 0) dX7_valve_60 rfl (rfl : 60 + 1 = 61)) dX7_valve_61 (rfl : 61 + 3 = 64)) (v_ar (v_gfr kX7 lk352 (by decide) rfl (v_aload_n (i := 0) dX7_valve_64 rfl (rfl : 64 + 1 = 65)) dX7_valve_65 (rfl : 65 + 3 = 68)) v_anil) dX7_valve_68 (rfl : 68 + 3 = 71)) dX7_valve_71 (by decide) (rfl : 71 + 2 = 73)) (v_seq (v_pop (v_cvi kX1 IX1_flip hX1_flip lk495 ⟨by decide, by decide⟩ (by decide) (v_gfr kX7 lk352 (by decide) rfl (v_aload_n (i := 0) dX7_valve_73 rfl (rfl : 73 + 1 = 74)) dX7_valve_74 (rfl : 74 + 3 = 77)) (v_ar (v_rald (q := 12) (t0 := 4) (ty0 := .array .int) ⟨by decide, by decide⟩ (fun _ => rfl) rfl (v_gfr kX1 lk156 (by decide) rfl (v_gfr kX7 lk352 (by decide) rfl (v_aload_n (i := 0) dX7_valve_77 rfl (rfl : 77 + 1 = 78)) dX7_valve_78 (rfl : 78 + 3 = 81)) dX7_valve_81 (rfl : 81 + 3 = 84)) (v_iload (i := 4) dX7_valve_84 (rfl : 84 + 2 = 86)) dX7_valve_86 (rfl : 86 + 1 = 87)) (v_ai (v_iconst (v := 3) dX7_valve_87 (by decide) (rfl : 87 + 1 = 88)) v_anil)) dX7_valve_88 (rfl : 88 + 3 = 91)) dX7_valve_91 (rfl : 91 + 1 = 92)) (v_if (v_and (v_ine_f (v_iload (i := 5) dX7_valve_92 (rfl : 92 + 2 = 94)) (v_bipush (v := (-3)) dX7_valve_94 (by decide) (rfl : 94 + 2 = 96)) dX7_valve_96 (rfl : ((96 : Nat) : Int) + 20 = ((116 : Nat) : Int)) (rfl : 96 + 3 = 99)) (v_or (v_ieq_t (v_iload_n (i := 2) dX7_valve_99 rfl (rfl : 99 + 1 = 100)) (v_iconst (v := (-1)) dX7_valve_100 (by decide) (rfl : 100 + 1 = 101)) dX7_valve_101 (rfl : ((101 : Nat) : Int) + 9 = ((110 : Nat) : Int)) (rfl : 101 + 3 = 104)) (v_ilt_f (v_iload (i := 5) dX7_valve_104 (rfl : 104 + 2 = 106)) (v_iload_n (i := 3) dX7_valve_106 rfl (rfl : 106 + 1 = 107)) dX7_valve_107 (rfl : ((107 : Nat) : Int) + 9 = ((116 : Nat) : Int)) (rfl : 107 + 3 = 110)))) (v_seq (v_istore_n (i := 2) (v_iload (i := 4) dX7_valve_110 (rfl : 110 + 2 = 112)) dX7_valve_112 rfl (by decide) (rfl : 112 + 1 = 113)) (v_istore_n (i := 3) (v_iload (i := 5) dX7_valve_113 (rfl : 113 + 2 = 115)) dX7_valve_115 rfl (by decide) (rfl : 115 + 1 = 116))) v_nop))))) (v_iinc (v := 1) dX7_valve_116 (by decide) (by decide) (rfl : 116 + 3 = 119))) dX7_valve_119 (rfl : ((119 : Nat) : Int) + (-90) = ((29 : Nat) : Int)))))) (v_ret (v_ic (v_zeq_f (v_iload_n (i := 1) dX7_valve_122 rfl (rfl : 122 + 1 = 123)) dX7_valve_123 (rfl : ((123 : Nat) : Int) + 7 = ((130 : Nat) : Int)) (rfl : 123 + 3 = 126)) (vi_goto (v_iload_n (i := 2) dX7_valve_126 rfl (rfl : 126 + 1 = 127)) dX7_valve_127 (rfl : ((127 : Nat) : Int) + 4 = ((131 : Nat) : Int))) (v_iload_n (i := 3) dX7_valve_130 rfl (rfl : 130 + 1 = 131))) dX7_valve_131))))))
theorem IX7_valve : Mi yX7_valve cX7_valve 6 (rmk 5 129) DX7_valve := mk_i (by decide +kernel) BX7_valve

theorem dX7_watch_0 : decode cX7_watch 0 = .ok (.iload_n 1, 1) := by decide +kernel
theorem dX7_watch_1 : decode cX7_watch 1 = .ok (.iconst 0, 1) := by decide +kernel
theorem dX7_watch_2 : decode cX7_watch 2 = .ok (.iconst 2, 1) := by decide +kernel
theorem dX7_watch_3 : decode cX7_watch 3 = .ok (.invokestatic 75, 3) := by decide +kernel
theorem dX7_watch_6 : decode cX7_watch 6 = .ok (.ifCond .eq 44, 3) := by decide +kernel
theorem dX7_watch_9 : decode cX7_watch 9 = .ok (.iload_n 3, 1) := by decide +kernel
theorem dX7_watch_10 : decode cX7_watch 10 = .ok (.iconst 0, 1) := by decide +kernel
theorem dX7_watch_11 : decode cX7_watch 11 = .ok (.ldc 170, 2) := by decide +kernel
theorem dX7_watch_13 : decode cX7_watch 13 = .ok (.invokestatic 75, 3) := by decide +kernel
theorem dX7_watch_16 : decode cX7_watch 16 = .ok (.ifCond .eq 34, 3) := by decide +kernel
theorem dX7_watch_19 : decode cX7_watch 19 = .ok (.iload 4, 2) := by decide +kernel
theorem dX7_watch_21 : decode cX7_watch 21 = .ok (.iconst 0, 1) := by decide +kernel
theorem dX7_watch_22 : decode cX7_watch 22 = .ok (.iconst 4, 1) := by decide +kernel
theorem dX7_watch_23 : decode cX7_watch 23 = .ok (.invokestatic 75, 3) := by decide +kernel
theorem dX7_watch_26 : decode cX7_watch 26 = .ok (.ifCond .eq 24, 3) := by decide +kernel
theorem dX7_watch_29 : decode cX7_watch 29 = .ok (.iload_n 2, 1) := by decide +kernel
theorem dX7_watch_30 : decode cX7_watch 30 = .ok (.iconst 0, 1) := by decide +kernel
theorem dX7_watch_31 : decode cX7_watch 31 = .ok (.bipush 9, 2) := by decide +kernel
theorem dX7_watch_33 : decode cX7_watch 33 = .ok (.invokestatic 75, 3) := by decide +kernel
theorem dX7_watch_36 : decode cX7_watch 36 = .ok (.ifCond .eq 14, 3) := by decide +kernel
theorem dX7_watch_39 : decode cX7_watch 39 = .ok (.iload 5, 2) := by decide +kernel
theorem dX7_watch_41 : decode cX7_watch 41 = .ok (.iconst 0, 1) := by decide +kernel
theorem dX7_watch_42 : decode cX7_watch 42 = .ok (.bipush 9, 2) := by decide +kernel
theorem dX7_watch_44 : decode cX7_watch 44 = .ok (.invokestatic 75, 3) := by decide +kernel
theorem dX7_watch_47 : decode cX7_watch 47 = .ok (.ifCond .ne 9, 3) := by decide +kernel
theorem dX7_watch_50 : decode cX7_watch 50 = .ok (.aload_n 0, 1) := by decide +kernel
theorem dX7_watch_51 : decode cX7_watch 51 = .ok (.iconst (-1), 1) := by decide +kernel
theorem dX7_watch_52 : decode cX7_watch 52 = .ok (.invokevirtual 79, 3) := by decide +kernel
theorem dX7_watch_55 : decode cX7_watch 55 = .ok (.ireturn, 1) := by decide +kernel
theorem dX7_watch_56 : decode cX7_watch 56 = .ok (.aload_n 0, 1) := by decide +kernel
theorem dX7_watch_57 : decode cX7_watch 57 = .ok (.getfield 10, 3) := by decide +kernel
theorem dX7_watch_60 : decode cX7_watch 60 = .ok (.getfield 171, 3) := by decide +kernel
theorem dX7_watch_63 : decode cX7_watch 63 = .ok (.bipush 6, 2) := by decide +kernel
theorem dX7_watch_65 : decode cX7_watch 65 = .ok (.if_icmp .lt 10, 3) := by decide +kernel
theorem dX7_watch_68 : decode cX7_watch 68 = .ok (.aload_n 0, 1) := by decide +kernel
theorem dX7_watch_69 : decode cX7_watch 69 = .ok (.bipush (-5), 2) := by decide +kernel
theorem dX7_watch_71 : decode cX7_watch 71 = .ok (.invokevirtual 79, 3) := by decide +kernel
theorem dX7_watch_74 : decode cX7_watch 74 = .ok (.ireturn, 1) := by decide +kernel
theorem dX7_watch_75 : decode cX7_watch 75 = .ok (.aload_n 0, 1) := by decide +kernel
theorem dX7_watch_76 : decode cX7_watch 76 = .ok (.bipush 8, 2) := by decide +kernel
theorem dX7_watch_78 : decode cX7_watch 78 = .ok (.invokevirtual 86, 3) := by decide +kernel
theorem dX7_watch_81 : decode cX7_watch 81 = .ok (.aload_n 0, 1) := by decide +kernel
theorem dX7_watch_82 : decode cX7_watch 82 = .ok (.getfield 10, 3) := by decide +kernel
theorem dX7_watch_85 : decode cX7_watch 85 = .ok (.iload_n 1, 1) := by decide +kernel
theorem dX7_watch_86 : decode cX7_watch 86 = .ok (.iload_n 2, 1) := by decide +kernel
theorem dX7_watch_87 : decode cX7_watch 87 = .ok (.iload_n 3, 1) := by decide +kernel
theorem dX7_watch_88 : decode cX7_watch 88 = .ok (.iload 4, 2) := by decide +kernel
theorem dX7_watch_90 : decode cX7_watch 90 = .ok (.iload 5, 2) := by decide +kernel
theorem dX7_watch_92 : decode cX7_watch 92 = .ok (.invokevirtual 174, 3) := by decide +kernel
theorem dX7_watch_95 : decode cX7_watch 95 = .ok (.ireturn, 1) := by decide +kernel
noncomputable def EX7_watch : Sx := (sseq (sif (bor (bor (bor (bor (bnot (bz cne (csz DX7_within (ai (il 1) (ai (ik 0) (ai (ik 2) anil)))))) (bnot (bz cne (csz DX7_within (ai (il 3) (ai (ik 0) (ai (ik 99999999) anil))))))) (bnot (bz cne (csz DX7_within (ai (il 4) (ai (ik 0) (ai (ik 4) anil))))))) (bnot (bz cne (csz DX7_within (ai (il 2) (ai (ik 0) (ai (ik 9) anil))))))) (bnot (bz cne (csz DX7_within (ai (il 5) (ai (ik 0) (ai (ik 9) anil))))))) (sret (cvi 6 DX7_refuse (rl 0) (ai (ik (-1)) anil))) snop) (sseq (sif (bc cge (fgi 1 3 (fgr 6 0 (rl 0))) (ik 6)) (sret (cvi 6 DX7_refuse (rl 0) (ai (ik (-5)) anil))) snop) (sseq (scv 6 DX7_accept (rl 0) (ai (ik 8) anil)) (sret (cvi 1 DX1_addWatch (fgr 6 0 (rl 0)) (ai (il 1) (ai (il 2) (ai (il 3) (ai (il 4) (ai (il 5) anil))))))))))
noncomputable def DX7_watch : Fi := mfi 6 EX7_watch
set_option maxRecDepth 4000 in
theorem BX7_watch : Vs RX7 cX7_watch 6 (rmk 5 128) 0 0 EX7_watch := (v_seq (v_if (v_or (v_or (v_or (v_or (v_not (v_zne_f (v_csz IX7_within hX7_within lk392 ⟨by decide, by decide⟩ (by decide) (v_ai (v_iload_n (i := 1) dX7_watch_0 rfl (rfl : 0 + 1 = 1)) (v_ai (v_iconst (v := 0) dX7_watch_1 (by decide) (rfl : 1 + 1 = 2)) (v_ai (v_iconst (v := 2) dX7_watch_2 (by decide) (rfl : 2 + 1 = 3)) v_anil))) dX7_watch_3 (rfl : 3 + 3 = 6)) dX7_watch_6 (rfl : ((6 : Nat) : Int) + 44 = ((50 : Nat) : Int)) (rfl : 6 + 3 = 9))) (v_not (v_zne_f (v_csz IX7_within hX7_within lk392 ⟨by decide, by decide⟩ (by decide) (v_ai (v_iload_n (i := 3) dX7_watch_9 rfl (rfl : 9 + 1 = 10)) (v_ai (v_iconst (v := 0) dX7_watch_10 (by decide) (rfl : 10 + 1 = 11)) (v_ai (v_ldc (v := 99999999) lk519 dX7_watch_11 (rfl : 11 + 2 = 13)) v_anil))) dX7_watch_13 (rfl : 13 + 3 = 16)) dX7_watch_16 (rfl : ((16 : Nat) : Int) + 34 = ((50 : Nat) : Int)) (rfl : 16 + 3 = 19)))) (v_not (v_zne_f (v_csz IX7_within hX7_within lk392 ⟨by decide, by decide⟩ (by decide) (v_ai (v_iload (i := 4) dX7_watch_19 (rfl : 19 + 2 = 21)) (v_ai (v_iconst (v := 0) dX7_watch_21 (by decide) (rfl : 21 + 1 = 22)) (v_ai (v_iconst (v := 4) dX7_watch_22 (by decide) (rfl : 22 + 1 = 23)) v_anil))) dX7_watch_23 (rfl : 23 + 3 = 26)) dX7_watch_26 (rfl : ((26 : Nat) : Int) + 24 = ((50 : Nat) : Int)) (rfl : 26 + 3 = 29)))) (v_not (v_zne_f (v_csz IX7_within hX7_within lk392 ⟨by decide, by decide⟩ (by decide) (v_ai (v_iload_n (i := 2) dX7_watch_29 rfl (rfl : 29 + 1 = 30)) (v_ai (v_iconst (v := 0) dX7_watch_30 (by decide) (rfl : 30 + 1 = 31)) (v_ai (v_bipush (v := 9) dX7_watch_31 (by decide) (rfl : 31 + 2 = 33)) v_anil))) dX7_watch_33 (rfl : 33 + 3 = 36)) dX7_watch_36 (rfl : ((36 : Nat) : Int) + 14 = ((50 : Nat) : Int)) (rfl : 36 + 3 = 39)))) (v_not (v_zne_t (v_csz IX7_within hX7_within lk392 ⟨by decide, by decide⟩ (by decide) (v_ai (v_iload (i := 5) dX7_watch_39 (rfl : 39 + 2 = 41)) (v_ai (v_iconst (v := 0) dX7_watch_41 (by decide) (rfl : 41 + 1 = 42)) (v_ai (v_bipush (v := 9) dX7_watch_42 (by decide) (rfl : 42 + 2 = 44)) v_anil))) dX7_watch_44 (rfl : 44 + 3 = 47)) dX7_watch_47 (rfl : ((47 : Nat) : Int) + 9 = ((56 : Nat) : Int)) (rfl : 47 + 3 = 50)))) (v_ret (v_cvi kX7 IX7_refuse hX7_refuse lk395 ⟨by decide, by decide⟩ (by decide) (v_aload_n (i := 0) dX7_watch_50 rfl (rfl : 50 + 1 = 51)) (v_ai (v_iconst (v := (-1)) dX7_watch_51 (by decide) (rfl : 51 + 1 = 52)) v_anil) dX7_watch_52 (rfl : 52 + 3 = 55)) dX7_watch_55) v_nop) (v_seq (v_if (v_ige_f (v_gfi kX1 lk139 (by decide) rfl (v_gfr kX7 lk351 (by decide) rfl (v_aload_n (i := 0) dX7_watch_56 rfl (rfl : 56 + 1 = 57)) dX7_watch_57 (rfl : 57 + 3 = 60)) dX7_watch_60 (rfl : 60 + 3 = 63)) (v_bipush (v := 6) dX7_watch_63 (by decide) (rfl : 63 + 2 = 65)) dX7_watch_65 (rfl : ((65 : Nat) : Int) + 10 = ((75 : Nat) : Int)) (rfl : 65 + 3 = 68)) (v_ret (v_cvi kX7 IX7_refuse hX7_refuse lk395 ⟨by decide, by decide⟩ (by decide) (v_aload_n (i := 0) dX7_watch_68 rfl (rfl : 68 + 1 = 69)) (v_ai (v_bipush (v := (-5)) dX7_watch_69 (by decide) (rfl : 69 + 2 = 71)) v_anil) dX7_watch_71 (rfl : 71 + 3 = 74)) dX7_watch_74) v_nop) (v_seq (v_scv kX7 IX7_accept hX7_accept lk399 ⟨by decide, by decide⟩ (v_aload_n (i := 0) dX7_watch_75 rfl (rfl : 75 + 1 = 76)) (v_ai (v_bipush (v := 8) dX7_watch_76 (by decide) (rfl : 76 + 2 = 78)) v_anil) dX7_watch_78 (rfl : 78 + 3 = 81)) (v_ret (v_cvi kX1 IX1_addWatch hX1_addWatch lk520 ⟨by decide, by decide⟩ (by decide) (v_gfr kX7 lk351 (by decide) rfl (v_aload_n (i := 0) dX7_watch_81 rfl (rfl : 81 + 1 = 82)) dX7_watch_82 (rfl : 82 + 3 = 85)) (v_ai (v_iload_n (i := 1) dX7_watch_85 rfl (rfl : 85 + 1 = 86)) (v_ai (v_iload_n (i := 2) dX7_watch_86 rfl (rfl : 86 + 1 = 87)) (v_ai (v_iload_n (i := 3) dX7_watch_87 rfl (rfl : 87 + 1 = 88)) (v_ai (v_iload (i := 4) dX7_watch_88 (rfl : 88 + 2 = 90)) (v_ai (v_iload (i := 5) dX7_watch_90 (rfl : 90 + 2 = 92)) v_anil))))) dX7_watch_92 (rfl : 92 + 3 = 95)) dX7_watch_95))))
theorem IX7_watch : Mi yX7_watch cX7_watch 6 (rmk 5 128) DX7_watch := mk_i (by decide +kernel) BX7_watch

theorem dX8_becomes_0 : decode cX8_becomes 0 = .ok (.aload_n 0, 1) := by decide +kernel
theorem dX8_becomes_1 : decode cX8_becomes 1 = .ok (.getfield 13, 3) := by decide +kernel
theorem dX8_becomes_4 : decode cX8_becomes 4 = .ok (.iload_n 1, 1) := by decide +kernel
theorem dX8_becomes_5 : decode cX8_becomes 5 = .ok (.iaload, 1) := by decide +kernel
theorem dX8_becomes_6 : decode cX8_becomes 6 = .ok (.iload_n 2, 1) := by decide +kernel
theorem dX8_becomes_7 : decode cX8_becomes 7 = .ok (.if_icmp .eq 7, 3) := by decide +kernel
theorem dX8_becomes_10 : decode cX8_becomes 10 = .ok (.iconst 1, 1) := by decide +kernel
theorem dX8_becomes_11 : decode cX8_becomes 11 = .ok (.goto 4, 3) := by decide +kernel
theorem dX8_becomes_14 : decode cX8_becomes 14 = .ok (.iconst 0, 1) := by decide +kernel
theorem dX8_becomes_15 : decode cX8_becomes 15 = .ok (.istore_n 3, 1) := by decide +kernel
theorem dX8_becomes_16 : decode cX8_becomes 16 = .ok (.aload_n 0, 1) := by decide +kernel
theorem dX8_becomes_17 : decode cX8_becomes 17 = .ok (.getfield 13, 3) := by decide +kernel
theorem dX8_becomes_20 : decode cX8_becomes 20 = .ok (.iload_n 1, 1) := by decide +kernel
theorem dX8_becomes_21 : decode cX8_becomes 21 = .ok (.iload_n 2, 1) := by decide +kernel
theorem dX8_becomes_22 : decode cX8_becomes 22 = .ok (.iastore, 1) := by decide +kernel
theorem dX8_becomes_23 : decode cX8_becomes 23 = .ok (.iload_n 3, 1) := by decide +kernel
theorem dX8_becomes_24 : decode cX8_becomes 24 = .ok (.ireturn, 1) := by decide +kernel
noncomputable def EX8_becomes : Sx := (sseq (ssi 3 (ic (bc cne (iald (fgr 7 3 (rl 0)) (il 1)) (il 2)) (ik 1) (ik 0))) (sseq (aii (fgr 7 3 (rl 0)) (il 1) (il 2)) (sret (il 3))))
noncomputable def DX8_becomes : Fz := mfz 4 EX8_becomes
set_option maxRecDepth 4000 in
theorem BX8_becomes : Vs RX8 cX8_becomes 4 (rmk 0 0) 0 0 EX8_becomes := (v_seq (v_istore_n (i := 3) (v_ic (v_ine_f (v_iald (v_gfr kX8 lk998 (by decide) rfl (v_aload_n (i := 0) dX8_becomes_0 rfl (rfl : 0 + 1 = 1)) dX8_becomes_1 (rfl : 1 + 3 = 4)) (v_iload_n (i := 1) dX8_becomes_4 rfl (rfl : 4 + 1 = 5)) dX8_becomes_5 (rfl : 5 + 1 = 6)) (v_iload_n (i := 2) dX8_becomes_6 rfl (rfl : 6 + 1 = 7)) dX8_becomes_7 (rfl : ((7 : Nat) : Int) + 7 = ((14 : Nat) : Int)) (rfl : 7 + 3 = 10)) (vi_goto (v_iconst (v := 1) dX8_becomes_10 (by decide) (rfl : 10 + 1 = 11)) dX8_becomes_11 (rfl : ((11 : Nat) : Int) + 4 = ((15 : Nat) : Int))) (v_iconst (v := 0) dX8_becomes_14 (by decide) (rfl : 14 + 1 = 15))) dX8_becomes_15 rfl (by decide) (rfl : 15 + 1 = 16)) (v_seq (v_aii (v_gfr kX8 lk998 (by decide) rfl (v_aload_n (i := 0) dX8_becomes_16 rfl (rfl : 16 + 1 = 17)) dX8_becomes_17 (rfl : 17 + 3 = 20)) (v_iload_n (i := 1) dX8_becomes_20 rfl (rfl : 20 + 1 = 21)) (v_iload_n (i := 2) dX8_becomes_21 rfl (rfl : 21 + 1 = 22)) dX8_becomes_22 (rfl : 22 + 1 = 23)) (v_ret (v_iload_n (i := 3) dX8_becomes_23 rfl (rfl : 23 + 1 = 24)) dX8_becomes_24)))
theorem IX8_becomes : Mz yX8_becomes cX8_becomes 4 (rmk 0 0) DX8_becomes := mk_z (by decide +kernel) BX8_becomes

theorem dX8_chamberAt_0 : decode cX8_chamberAt 0 = .ok (.bipush 8, 2) := by decide +kernel
theorem dX8_chamberAt_2 : decode cX8_chamberAt 2 = .ok (.iconst 4, 1) := by decide +kernel
theorem dX8_chamberAt_3 : decode cX8_chamberAt 3 = .ok (.iload_n 0, 1) := by decide +kernel
theorem dX8_chamberAt_4 : decode cX8_chamberAt 4 = .ok (.imul, 1) := by decide +kernel
theorem dX8_chamberAt_5 : decode cX8_chamberAt 5 = .ok (.iadd, 1) := by decide +kernel
theorem dX8_chamberAt_6 : decode cX8_chamberAt 6 = .ok (.ireturn, 1) := by decide +kernel
noncomputable def EX8_chamberAt : Sx := (sret (i2 (· + ·) (ik 8) (i2 (· * ·) (ik 4) (il 0))))
noncomputable def DX8_chamberAt : Fi := mfi 1 EX8_chamberAt
set_option maxRecDepth 4000 in
theorem BX8_chamberAt : Vs RX8 cX8_chamberAt 1 (rmk 0 0) 0 0 EX8_chamberAt := (v_ret (v_iadd (v_bipush (v := 8) dX8_chamberAt_0 (by decide) (rfl : 0 + 2 = 2)) (v_imul (v_iconst (v := 4) dX8_chamberAt_2 (by decide) (rfl : 2 + 1 = 3)) (v_iload_n (i := 0) dX8_chamberAt_3 rfl (rfl : 3 + 1 = 4)) dX8_chamberAt_4 (rfl : 4 + 1 = 5)) dX8_chamberAt_5 (rfl : 5 + 1 = 6)) dX8_chamberAt_6)
theorem IX8_chamberAt : Mi yX8_chamberAt cX8_chamberAt 1 (rmk 0 0) DX8_chamberAt := mk_i (by decide +kernel) BX8_chamberAt

theorem dX8_in_0 : decode cX8_in 0 = .ok (.lload_n 0, 1) := by decide +kernel
theorem dX8_in_1 : decode cX8_in 1 = .ok (.lload_n 2, 1) := by decide +kernel
theorem dX8_in_2 : decode cX8_in 2 = .ok (.lcmp, 1) := by decide +kernel
theorem dX8_in_3 : decode cX8_in 3 = .ok (.ifCond .lt 14, 3) := by decide +kernel
theorem dX8_in_6 : decode cX8_in 6 = .ok (.lload_n 0, 1) := by decide +kernel
theorem dX8_in_7 : decode cX8_in 7 = .ok (.lload 4, 2) := by decide +kernel
theorem dX8_in_9 : decode cX8_in 9 = .ok (.lcmp, 1) := by decide +kernel
theorem dX8_in_10 : decode cX8_in 10 = .ok (.ifCond .gt 7, 3) := by decide +kernel
theorem dX8_in_13 : decode cX8_in 13 = .ok (.iconst 1, 1) := by decide +kernel
theorem dX8_in_14 : decode cX8_in 14 = .ok (.goto 4, 3) := by decide +kernel
theorem dX8_in_17 : decode cX8_in 17 = .ok (.iconst 0, 1) := by decide +kernel
theorem dX8_in_18 : decode cX8_in 18 = .ok (.ireturn, 1) := by decide +kernel
noncomputable def EX8_in : Sx := (sret (ic (band (bj qge (jl 0) (jl 2)) (bj qle (jl 0) (jl 4))) (ik 1) (ik 0)))
noncomputable def DX8_in : Fz := mfz 6 EX8_in
set_option maxRecDepth 4000 in
theorem BX8_in : Vs RX8 cX8_in 6 (rmk 0 0) 0 0 EX8_in := (v_ret (v_ic (v_and (v_jge_f (v_lload_n (i := 0) dX8_in_0 rfl (rfl : 0 + 1 = 1)) (v_lload_n (i := 2) dX8_in_1 rfl (rfl : 1 + 1 = 2)) dX8_in_2 dX8_in_3 (rfl : ((3 : Nat) : Int) + 14 = ((17 : Nat) : Int)) (rfl : 3 + 3 = 6)) (v_jle_f (v_lload_n (i := 0) dX8_in_6 rfl (rfl : 6 + 1 = 7)) (v_lload (i := 4) dX8_in_7 (rfl : 7 + 2 = 9)) dX8_in_9 dX8_in_10 (rfl : ((10 : Nat) : Int) + 7 = ((17 : Nat) : Int)) (rfl : 10 + 3 = 13))) (vi_goto (v_iconst (v := 1) dX8_in_13 (by decide) (rfl : 13 + 1 = 14)) dX8_in_14 (rfl : ((14 : Nat) : Int) + 4 = ((18 : Nat) : Int))) (v_iconst (v := 0) dX8_in_17 (by decide) (rfl : 17 + 1 = 18))) dX8_in_18)
theorem IX8_in : Mz yX8_in cX8_in 6 (rmk 0 0) DX8_in := mk_z (by decide +kernel) BX8_in

theorem dX8_isChamber_0 : decode cX8_isChamber 0 = .ok (.iload_n 1, 1) := by decide +kernel
theorem dX8_isChamber_1 : decode cX8_isChamber 1 = .ok (.i2l, 1) := by decide +kernel
theorem dX8_isChamber_2 : decode cX8_isChamber 2 = .ok (.lconst 0, 1) := by decide +kernel
theorem dX8_isChamber_3 : decode cX8_isChamber 3 = .ok (.aload_n 0, 1) := by decide +kernel
theorem dX8_isChamber_4 : decode cX8_isChamber 4 = .ok (.getfield 13, 3) := by decide +kernel
theorem dX8_isChamber_7 : decode cX8_isChamber 7 = .ok (.iconst 0, 1) := by decide +kernel
theorem dX8_isChamber_8 : decode cX8_isChamber 8 = .ok (.iaload, 1) := by decide +kernel
theorem dX8_isChamber_9 : decode cX8_isChamber 9 = .ok (.i2l, 1) := by decide +kernel
theorem dX8_isChamber_10 : decode cX8_isChamber 10 = .ok (.lconst 1, 1) := by decide +kernel
theorem dX8_isChamber_11 : decode cX8_isChamber 11 = .ok (.lsub, 1) := by decide +kernel
theorem dX8_isChamber_12 : decode cX8_isChamber 12 = .ok (.invokestatic 105, 3) := by decide +kernel
theorem dX8_isChamber_15 : decode cX8_isChamber 15 = .ok (.ireturn, 1) := by decide +kernel
noncomputable def EX8_isChamber : Sx := (sret (csz DX8_in (aj (i2l (il 1)) (aj (jk 0) (aj (j2 (· - ·) (i2l (iald (fgr 7 3 (rl 0)) (ik 0))) (jk 1)) anil)))))
noncomputable def DX8_isChamber : Fz := mfz 2 EX8_isChamber
set_option maxRecDepth 4000 in
theorem BX8_isChamber : Vs RX8 cX8_isChamber 2 (rmk 1 25) 0 0 EX8_isChamber := (v_ret (v_csz IX8_in hX8_in lk1120 ⟨by decide, by decide⟩ (by decide) (v_aj (v_i2l (v_iload_n (i := 1) dX8_isChamber_0 rfl (rfl : 0 + 1 = 1)) dX8_isChamber_1 (rfl : 1 + 1 = 2)) (v_aj (v_lconst (v := 0) dX8_isChamber_2 (by decide) (rfl : 2 + 1 = 3)) (v_aj (v_lsub (v_i2l (v_iald (v_gfr kX8 lk998 (by decide) rfl (v_aload_n (i := 0) dX8_isChamber_3 rfl (rfl : 3 + 1 = 4)) dX8_isChamber_4 (rfl : 4 + 3 = 7)) (v_iconst (v := 0) dX8_isChamber_7 (by decide) (rfl : 7 + 1 = 8)) dX8_isChamber_8 (rfl : 8 + 1 = 9)) dX8_isChamber_9 (rfl : 9 + 1 = 10)) (v_lconst (v := 1) dX8_isChamber_10 (by decide) (rfl : 10 + 1 = 11)) dX8_isChamber_11 (rfl : 11 + 1 = 12)) v_anil))) dX8_isChamber_12 (rfl : 12 + 3 = 15)) dX8_isChamber_15)
theorem IX8_isChamber : Mz yX8_isChamber cX8_isChamber 2 (rmk 1 25) DX8_isChamber := mk_z (by decide +kernel) BX8_isChamber

theorem dX8_isPump_0 : decode cX8_isPump 0 = .ok (.iload_n 1, 1) := by decide +kernel
theorem dX8_isPump_1 : decode cX8_isPump 1 = .ok (.i2l, 1) := by decide +kernel
theorem dX8_isPump_2 : decode cX8_isPump 2 = .ok (.lconst 0, 1) := by decide +kernel
theorem dX8_isPump_3 : decode cX8_isPump 3 = .ok (.aload_n 0, 1) := by decide +kernel
theorem dX8_isPump_4 : decode cX8_isPump 4 = .ok (.getfield 13, 3) := by decide +kernel
theorem dX8_isPump_7 : decode cX8_isPump 7 = .ok (.iconst 2, 1) := by decide +kernel
theorem dX8_isPump_8 : decode cX8_isPump 8 = .ok (.iaload, 1) := by decide +kernel
theorem dX8_isPump_9 : decode cX8_isPump 9 = .ok (.i2l, 1) := by decide +kernel
theorem dX8_isPump_10 : decode cX8_isPump 10 = .ok (.lconst 1, 1) := by decide +kernel
theorem dX8_isPump_11 : decode cX8_isPump 11 = .ok (.lsub, 1) := by decide +kernel
theorem dX8_isPump_12 : decode cX8_isPump 12 = .ok (.invokestatic 105, 3) := by decide +kernel
theorem dX8_isPump_15 : decode cX8_isPump 15 = .ok (.ireturn, 1) := by decide +kernel
noncomputable def EX8_isPump : Sx := (sret (csz DX8_in (aj (i2l (il 1)) (aj (jk 0) (aj (j2 (· - ·) (i2l (iald (fgr 7 3 (rl 0)) (ik 2))) (jk 1)) anil)))))
noncomputable def DX8_isPump : Fz := mfz 2 EX8_isPump
set_option maxRecDepth 4000 in
theorem BX8_isPump : Vs RX8 cX8_isPump 2 (rmk 1 25) 0 0 EX8_isPump := (v_ret (v_csz IX8_in hX8_in lk1120 ⟨by decide, by decide⟩ (by decide) (v_aj (v_i2l (v_iload_n (i := 1) dX8_isPump_0 rfl (rfl : 0 + 1 = 1)) dX8_isPump_1 (rfl : 1 + 1 = 2)) (v_aj (v_lconst (v := 0) dX8_isPump_2 (by decide) (rfl : 2 + 1 = 3)) (v_aj (v_lsub (v_i2l (v_iald (v_gfr kX8 lk998 (by decide) rfl (v_aload_n (i := 0) dX8_isPump_3 rfl (rfl : 3 + 1 = 4)) dX8_isPump_4 (rfl : 4 + 3 = 7)) (v_iconst (v := 2) dX8_isPump_7 (by decide) (rfl : 7 + 1 = 8)) dX8_isPump_8 (rfl : 8 + 1 = 9)) dX8_isPump_9 (rfl : 9 + 1 = 10)) (v_lconst (v := 1) dX8_isPump_10 (by decide) (rfl : 10 + 1 = 11)) dX8_isPump_11 (rfl : 11 + 1 = 12)) v_anil))) dX8_isPump_12 (rfl : 12 + 3 = 15)) dX8_isPump_15)
theorem IX8_isPump : Mz yX8_isPump cX8_isPump 2 (rmk 1 25) DX8_isPump := mk_z (by decide +kernel) BX8_isPump

theorem dX8_isTube_0 : decode cX8_isTube 0 = .ok (.iload_n 1, 1) := by decide +kernel
theorem dX8_isTube_1 : decode cX8_isTube 1 = .ok (.i2l, 1) := by decide +kernel
theorem dX8_isTube_2 : decode cX8_isTube 2 = .ok (.lconst 0, 1) := by decide +kernel
theorem dX8_isTube_3 : decode cX8_isTube 3 = .ok (.aload_n 0, 1) := by decide +kernel
theorem dX8_isTube_4 : decode cX8_isTube 4 = .ok (.getfield 13, 3) := by decide +kernel
theorem dX8_isTube_7 : decode cX8_isTube 7 = .ok (.iconst 1, 1) := by decide +kernel
theorem dX8_isTube_8 : decode cX8_isTube 8 = .ok (.iaload, 1) := by decide +kernel
theorem dX8_isTube_9 : decode cX8_isTube 9 = .ok (.i2l, 1) := by decide +kernel
theorem dX8_isTube_10 : decode cX8_isTube 10 = .ok (.lconst 1, 1) := by decide +kernel
theorem dX8_isTube_11 : decode cX8_isTube 11 = .ok (.lsub, 1) := by decide +kernel
theorem dX8_isTube_12 : decode cX8_isTube 12 = .ok (.invokestatic 105, 3) := by decide +kernel
theorem dX8_isTube_15 : decode cX8_isTube 15 = .ok (.ireturn, 1) := by decide +kernel
noncomputable def EX8_isTube : Sx := (sret (csz DX8_in (aj (i2l (il 1)) (aj (jk 0) (aj (j2 (· - ·) (i2l (iald (fgr 7 3 (rl 0)) (ik 1))) (jk 1)) anil)))))
noncomputable def DX8_isTube : Fz := mfz 2 EX8_isTube
set_option maxRecDepth 4000 in
theorem BX8_isTube : Vs RX8 cX8_isTube 2 (rmk 1 25) 0 0 EX8_isTube := (v_ret (v_csz IX8_in hX8_in lk1120 ⟨by decide, by decide⟩ (by decide) (v_aj (v_i2l (v_iload_n (i := 1) dX8_isTube_0 rfl (rfl : 0 + 1 = 1)) dX8_isTube_1 (rfl : 1 + 1 = 2)) (v_aj (v_lconst (v := 0) dX8_isTube_2 (by decide) (rfl : 2 + 1 = 3)) (v_aj (v_lsub (v_i2l (v_iald (v_gfr kX8 lk998 (by decide) rfl (v_aload_n (i := 0) dX8_isTube_3 rfl (rfl : 3 + 1 = 4)) dX8_isTube_4 (rfl : 4 + 3 = 7)) (v_iconst (v := 1) dX8_isTube_7 (by decide) (rfl : 7 + 1 = 8)) dX8_isTube_8 (rfl : 8 + 1 = 9)) dX8_isTube_9 (rfl : 9 + 1 = 10)) (v_lconst (v := 1) dX8_isTube_10 (by decide) (rfl : 10 + 1 = 11)) dX8_isTube_11 (rfl : 11 + 1 = 12)) v_anil))) dX8_isTube_12 (rfl : 12 + 3 = 15)) dX8_isTube_15)
theorem IX8_isTube : Mz yX8_isTube cX8_isTube 2 (rmk 1 25) DX8_isTube := mk_z (by decide +kernel) BX8_isTube

theorem dX8_pumpAt_0 : decode cX8_pumpAt 0 = .ok (.bipush 68, 2) := by decide +kernel
theorem dX8_pumpAt_2 : decode cX8_pumpAt 2 = .ok (.bipush 9, 2) := by decide +kernel
theorem dX8_pumpAt_4 : decode cX8_pumpAt 4 = .ok (.iload_n 0, 1) := by decide +kernel
theorem dX8_pumpAt_5 : decode cX8_pumpAt 5 = .ok (.imul, 1) := by decide +kernel
theorem dX8_pumpAt_6 : decode cX8_pumpAt 6 = .ok (.iadd, 1) := by decide +kernel
theorem dX8_pumpAt_7 : decode cX8_pumpAt 7 = .ok (.ireturn, 1) := by decide +kernel
noncomputable def EX8_pumpAt : Sx := (sret (i2 (· + ·) (ik 68) (i2 (· * ·) (ik 9) (il 0))))
noncomputable def DX8_pumpAt : Fi := mfi 1 EX8_pumpAt
set_option maxRecDepth 4000 in
theorem BX8_pumpAt : Vs RX8 cX8_pumpAt 1 (rmk 0 0) 0 0 EX8_pumpAt := (v_ret (v_iadd (v_bipush (v := 68) dX8_pumpAt_0 (by decide) (rfl : 0 + 2 = 2)) (v_imul (v_bipush (v := 9) dX8_pumpAt_2 (by decide) (rfl : 2 + 2 = 4)) (v_iload_n (i := 0) dX8_pumpAt_4 rfl (rfl : 4 + 1 = 5)) dX8_pumpAt_5 (rfl : 5 + 1 = 6)) dX8_pumpAt_6 (rfl : 6 + 1 = 7)) dX8_pumpAt_7)
theorem IX8_pumpAt : Mi yX8_pumpAt cX8_pumpAt 1 (rmk 0 0) DX8_pumpAt := mk_i (by decide +kernel) BX8_pumpAt

theorem dX8_tubeAt_0 : decode cX8_tubeAt 0 = .ok (.bipush 28, 2) := by decide +kernel
theorem dX8_tubeAt_2 : decode cX8_tubeAt 2 = .ok (.iconst 4, 1) := by decide +kernel
theorem dX8_tubeAt_3 : decode cX8_tubeAt 3 = .ok (.iload_n 0, 1) := by decide +kernel
theorem dX8_tubeAt_4 : decode cX8_tubeAt 4 = .ok (.imul, 1) := by decide +kernel
theorem dX8_tubeAt_5 : decode cX8_tubeAt 5 = .ok (.iadd, 1) := by decide +kernel
theorem dX8_tubeAt_6 : decode cX8_tubeAt 6 = .ok (.ireturn, 1) := by decide +kernel
noncomputable def EX8_tubeAt : Sx := (sret (i2 (· + ·) (ik 28) (i2 (· * ·) (ik 4) (il 0))))
noncomputable def DX8_tubeAt : Fi := mfi 1 EX8_tubeAt
set_option maxRecDepth 4000 in
theorem BX8_tubeAt : Vs RX8 cX8_tubeAt 1 (rmk 0 0) 0 0 EX8_tubeAt := (v_ret (v_iadd (v_bipush (v := 28) dX8_tubeAt_0 (by decide) (rfl : 0 + 2 = 2)) (v_imul (v_iconst (v := 4) dX8_tubeAt_2 (by decide) (rfl : 2 + 1 = 3)) (v_iload_n (i := 0) dX8_tubeAt_3 rfl (rfl : 3 + 1 = 4)) dX8_tubeAt_4 (rfl : 4 + 1 = 5)) dX8_tubeAt_5 (rfl : 5 + 1 = 6)) dX8_tubeAt_6)
theorem IX8_tubeAt : Mi yX8_tubeAt cX8_tubeAt 1 (rmk 0 0) DX8_tubeAt := mk_i (by decide +kernel) BX8_tubeAt

theorem dX8_acts_0 : decode cX8_acts 0 = .ok (.iload_n 1, 1) := by decide +kernel
theorem dX8_acts_1 : decode cX8_acts 1 = .ok (.iconst 2, 1) := by decide +kernel
theorem dX8_acts_2 : decode cX8_acts 2 = .ok (.if_icmp .ge 31, 3) := by decide +kernel
theorem dX8_acts_5 : decode cX8_acts 5 = .ok (.aload_n 0, 1) := by decide +kernel
theorem dX8_acts_6 : decode cX8_acts 6 = .ok (.iload_n 2, 1) := by decide +kernel
theorem dX8_acts_7 : decode cX8_acts 7 = .ok (.invokevirtual 113, 3) := by decide +kernel
theorem dX8_acts_10 : decode cX8_acts 10 = .ok (.ifCond .eq 21, 3) := by decide +kernel
theorem dX8_acts_13 : decode cX8_acts 13 = .ok (.aload_n 0, 1) := by decide +kernel
theorem dX8_acts_14 : decode cX8_acts 14 = .ok (.iload_n 2, 1) := by decide +kernel
theorem dX8_acts_15 : decode cX8_acts 15 = .ok (.invokestatic 116, 3) := by decide +kernel
theorem dX8_acts_18 : decode cX8_acts 18 = .ok (.iconst 3, 1) := by decide +kernel
theorem dX8_acts_19 : decode cX8_acts 19 = .ok (.iadd, 1) := by decide +kernel
theorem dX8_acts_20 : decode cX8_acts 20 = .ok (.iload_n 1, 1) := by decide +kernel
theorem dX8_acts_21 : decode cX8_acts 21 = .ok (.invokevirtual 260, 3) := by decide +kernel
theorem dX8_acts_24 : decode cX8_acts 24 = .ok (.ifCond .eq 7, 3) := by decide +kernel
theorem dX8_acts_27 : decode cX8_acts 27 = .ok (.iconst 1, 1) := by decide +kernel
theorem dX8_acts_28 : decode cX8_acts 28 = .ok (.goto 4, 3) := by decide +kernel
theorem dX8_acts_31 : decode cX8_acts 31 = .ok (.iconst 0, 1) := by decide +kernel
theorem dX8_acts_32 : decode cX8_acts 32 = .ok (.ireturn, 1) := by decide +kernel
theorem dX8_acts_33 : decode cX8_acts 33 = .ok (.iload_n 1, 1) := by decide +kernel
theorem dX8_acts_34 : decode cX8_acts 34 = .ok (.iconst 4, 1) := by decide +kernel
theorem dX8_acts_35 : decode cX8_acts 35 = .ok (.if_icmp .ge 33, 3) := by decide +kernel
theorem dX8_acts_38 : decode cX8_acts 38 = .ok (.aload_n 0, 1) := by decide +kernel
theorem dX8_acts_39 : decode cX8_acts 39 = .ok (.iload_n 2, 1) := by decide +kernel
theorem dX8_acts_40 : decode cX8_acts 40 = .ok (.invokevirtual 155, 3) := by decide +kernel
theorem dX8_acts_43 : decode cX8_acts 43 = .ok (.ifCond .eq 23, 3) := by decide +kernel
theorem dX8_acts_46 : decode cX8_acts 46 = .ok (.aload_n 0, 1) := by decide +kernel
theorem dX8_acts_47 : decode cX8_acts 47 = .ok (.iload_n 2, 1) := by decide +kernel
theorem dX8_acts_48 : decode cX8_acts 48 = .ok (.invokestatic 119, 3) := by decide +kernel
theorem dX8_acts_51 : decode cX8_acts 51 = .ok (.iconst 1, 1) := by decide +kernel
theorem dX8_acts_52 : decode cX8_acts 52 = .ok (.iadd, 1) := by decide +kernel
theorem dX8_acts_53 : decode cX8_acts 53 = .ok (.iload_n 1, 1) := by decide +kernel
theorem dX8_acts_54 : decode cX8_acts 54 = .ok (.iconst 2, 1) := by decide +kernel
theorem dX8_acts_55 : decode cX8_acts 55 = .ok (.isub, 1) := by decide +kernel
theorem dX8_acts_56 : decode cX8_acts 56 = .ok (.invokevirtual 260, 3) := by decide +kernel
theorem dX8_acts_59 : decode cX8_acts 59 = .ok (.ifCond .eq 7, 3) := by decide +kernel
theorem dX8_acts_62 : decode cX8_acts 62 = .ok (.iconst 1, 1) := by decide +kernel
theorem dX8_acts_63 : decode cX8_acts 63 = .ok (.goto 4, 3) := by decide +kernel
theorem dX8_acts_66 : decode cX8_acts 66 = .ok (.iconst 0, 1) := by decide +kernel
theorem dX8_acts_67 : decode cX8_acts 67 = .ok (.ireturn, 1) := by decide +kernel
theorem dX8_acts_68 : decode cX8_acts 68 = .ok (.aload_n 0, 1) := by decide +kernel
theorem dX8_acts_69 : decode cX8_acts 69 = .ok (.iload_n 2, 1) := by decide +kernel
theorem dX8_acts_70 : decode cX8_acts 70 = .ok (.invokevirtual 109, 3) := by decide +kernel
theorem dX8_acts_73 : decode cX8_acts 73 = .ok (.ifCond .eq 21, 3) := by decide +kernel
theorem dX8_acts_76 : decode cX8_acts 76 = .ok (.aload_n 0, 1) := by decide +kernel
theorem dX8_acts_77 : decode cX8_acts 77 = .ok (.iload_n 2, 1) := by decide +kernel
theorem dX8_acts_78 : decode cX8_acts 78 = .ok (.invokestatic 122, 3) := by decide +kernel
theorem dX8_acts_81 : decode cX8_acts 81 = .ok (.iconst 2, 1) := by decide +kernel
theorem dX8_acts_82 : decode cX8_acts 82 = .ok (.iadd, 1) := by decide +kernel
theorem dX8_acts_83 : decode cX8_acts 83 = .ok (.iconst 0, 1) := by decide +kernel
theorem dX8_acts_84 : decode cX8_acts 84 = .ok (.invokevirtual 260, 3) := by decide +kernel
theorem dX8_acts_87 : decode cX8_acts 87 = .ok (.ifCond .eq 7, 3) := by decide +kernel
theorem dX8_acts_90 : decode cX8_acts 90 = .ok (.iconst 1, 1) := by decide +kernel
theorem dX8_acts_91 : decode cX8_acts 91 = .ok (.goto 4, 3) := by decide +kernel
theorem dX8_acts_94 : decode cX8_acts 94 = .ok (.iconst 0, 1) := by decide +kernel
theorem dX8_acts_95 : decode cX8_acts 95 = .ok (.ireturn, 1) := by decide +kernel
noncomputable def EX8_acts : Sx := (sseq (sif (bc clt (il 1) (ik 2)) (sret (ic (band (bz cne (cvz 7 DX8_isTube (rl 0) (ai (il 2) anil))) (bz cne (cvz 7 DX8_becomes (rl 0) (ai (i2 (· + ·) (csi DX8_tubeAt (ai (il 2) anil)) (ik 3)) (ai (il 1) anil))))) (ik 1) (ik 0))) snop) (sseq (sif (bc clt (il 1) (ik 4)) (sret (ic (band (bz cne (cvz 7 DX8_isPump (rl 0) (ai (il 2) anil))) (bz cne (cvz 7 DX8_becomes (rl 0) (ai (i2 (· + ·) (csi DX8_pumpAt (ai (il 2) anil)) (ik 1)) (ai (i2 (· - ·) (il 1) (ik 2)) anil))))) (ik 1) (ik 0))) snop) (sret (ic (band (bz cne (cvz 7 DX8_isChamber (rl 0) (ai (il 2) anil))) (bz cne (cvz 7 DX8_becomes (rl 0) (ai (i2 (· + ·) (csi DX8_chamberAt (ai (il 2) anil)) (ik 2)) (ai (ik 0) anil))))) (ik 1) (ik 0)))))
noncomputable def DX8_acts : Fz := mfz 3 EX8_acts
set_option maxRecDepth 4000 in
theorem BX8_acts : Vs RX8 cX8_acts 3 (rmk 2 46) 0 0 EX8_acts := (v_seq (v_if (v_ilt_f (v_iload_n (i := 1) dX8_acts_0 rfl (rfl : 0 + 1 = 1)) (v_iconst (v := 2) dX8_acts_1 (by decide) (rfl : 1 + 1 = 2)) dX8_acts_2 (rfl : ((2 : Nat) : Int) + 31 = ((33 : Nat) : Int)) (rfl : 2 + 3 = 5)) (v_ret (v_ic (v_and (v_zne_f (v_cvz kX8 IX8_isTube hX8_isTube lk1195 ⟨by decide, by decide⟩ (by decide) (v_aload_n (i := 0) dX8_acts_5 rfl (rfl : 5 + 1 = 6)) (v_ai (v_iload_n (i := 2) dX8_acts_6 rfl (rfl : 6 + 1 = 7)) v_anil) dX8_acts_7 (rfl : 7 + 3 = 10)) dX8_acts_10 (rfl : ((10 : Nat) : Int) + 21 = ((31 : Nat) : Int)) (rfl : 10 + 3 = 13)) (v_zne_f (v_cvz kX8 IX8_becomes hX8_becomes lk1319 ⟨by decide, by decide⟩ (by decide) (v_aload_n (i := 0) dX8_acts_13 rfl (rfl : 13 + 1 = 14)) (v_ai (v_iadd (v_csi IX8_tubeAt hX8_tubeAt lk1160 ⟨by decide, by decide⟩ (by decide) (v_ai (v_iload_n (i := 2) dX8_acts_14 rfl (rfl : 14 + 1 = 15)) v_anil) dX8_acts_15 (rfl : 15 + 3 = 18)) (v_iconst (v := 3) dX8_acts_18 (by decide) (rfl : 18 + 1 = 19)) dX8_acts_19 (rfl : 19 + 1 = 20)) (v_ai (v_iload_n (i := 1) dX8_acts_20 rfl (rfl : 20 + 1 = 21)) v_anil)) dX8_acts_21 (rfl : 21 + 3 = 24)) dX8_acts_24 (rfl : ((24 : Nat) : Int) + 7 = ((31 : Nat) : Int)) (rfl : 24 + 3 = 27))) (vi_goto (v_iconst (v := 1) dX8_acts_27 (by decide) (rfl : 27 + 1 = 28)) dX8_acts_28 (rfl : ((28 : Nat) : Int) + 4 = ((32 : Nat) : Int))) (v_iconst (v := 0) dX8_acts_31 (by decide) (rfl : 31 + 1 = 32))) dX8_acts_32) v_nop) (v_seq (v_if (v_ilt_f (v_iload_n (i := 1) dX8_acts_33 rfl (rfl : 33 + 1 = 34)) (v_iconst (v := 4) dX8_acts_34 (by decide) (rfl : 34 + 1 = 35)) dX8_acts_35 (rfl : ((35 : Nat) : Int) + 33 = ((68 : Nat) : Int)) (rfl : 35 + 3 = 38)) (v_ret (v_ic (v_and (v_zne_f (v_cvz kX8 IX8_isPump hX8_isPump lk1181 ⟨by decide, by decide⟩ (by decide) (v_aload_n (i := 0) dX8_acts_38 rfl (rfl : 38 + 1 = 39)) (v_ai (v_iload_n (i := 2) dX8_acts_39 rfl (rfl : 39 + 1 = 40)) v_anil) dX8_acts_40 (rfl : 40 + 3 = 43)) dX8_acts_43 (rfl : ((43 : Nat) : Int) + 23 = ((66 : Nat) : Int)) (rfl : 43 + 3 = 46)) (v_zne_f (v_cvz kX8 IX8_becomes hX8_becomes lk1319 ⟨by decide, by decide⟩ (by decide) (v_aload_n (i := 0) dX8_acts_46 rfl (rfl : 46 + 1 = 47)) (v_ai (v_iadd (v_csi IX8_pumpAt hX8_pumpAt lk1163 ⟨by decide, by decide⟩ (by decide) (v_ai (v_iload_n (i := 2) dX8_acts_47 rfl (rfl : 47 + 1 = 48)) v_anil) dX8_acts_48 (rfl : 48 + 3 = 51)) (v_iconst (v := 1) dX8_acts_51 (by decide) (rfl : 51 + 1 = 52)) dX8_acts_52 (rfl : 52 + 1 = 53)) (v_ai (v_isub (v_iload_n (i := 1) dX8_acts_53 rfl (rfl : 53 + 1 = 54)) (v_iconst (v := 2) dX8_acts_54 (by decide) (rfl : 54 + 1 = 55)) dX8_acts_55 (rfl : 55 + 1 = 56)) v_anil)) dX8_acts_56 (rfl : 56 + 3 = 59)) dX8_acts_59 (rfl : ((59 : Nat) : Int) + 7 = ((66 : Nat) : Int)) (rfl : 59 + 3 = 62))) (vi_goto (v_iconst (v := 1) dX8_acts_62 (by decide) (rfl : 62 + 1 = 63)) dX8_acts_63 (rfl : ((63 : Nat) : Int) + 4 = ((67 : Nat) : Int))) (v_iconst (v := 0) dX8_acts_66 (by decide) (rfl : 66 + 1 = 67))) dX8_acts_67) v_nop) (v_ret (v_ic (v_and (v_zne_f (v_cvz kX8 IX8_isChamber hX8_isChamber lk1145 ⟨by decide, by decide⟩ (by decide) (v_aload_n (i := 0) dX8_acts_68 rfl (rfl : 68 + 1 = 69)) (v_ai (v_iload_n (i := 2) dX8_acts_69 rfl (rfl : 69 + 1 = 70)) v_anil) dX8_acts_70 (rfl : 70 + 3 = 73)) dX8_acts_73 (rfl : ((73 : Nat) : Int) + 21 = ((94 : Nat) : Int)) (rfl : 73 + 3 = 76)) (v_zne_f (v_cvz kX8 IX8_becomes hX8_becomes lk1319 ⟨by decide, by decide⟩ (by decide) (v_aload_n (i := 0) dX8_acts_76 rfl (rfl : 76 + 1 = 77)) (v_ai (v_iadd (v_csi IX8_chamberAt hX8_chamberAt lk1137 ⟨by decide, by decide⟩ (by decide) (v_ai (v_iload_n (i := 2) dX8_acts_77 rfl (rfl : 77 + 1 = 78)) v_anil) dX8_acts_78 (rfl : 78 + 3 = 81)) (v_iconst (v := 2) dX8_acts_81 (by decide) (rfl : 81 + 1 = 82)) dX8_acts_82 (rfl : 82 + 1 = 83)) (v_ai (v_iconst (v := 0) dX8_acts_83 (by decide) (rfl : 83 + 1 = 84)) v_anil)) dX8_acts_84 (rfl : 84 + 3 = 87)) dX8_acts_87 (rfl : ((87 : Nat) : Int) + 7 = ((94 : Nat) : Int)) (rfl : 87 + 3 = 90))) (vi_goto (v_iconst (v := 1) dX8_acts_90 (by decide) (rfl : 90 + 1 = 91)) dX8_acts_91 (rfl : ((91 : Nat) : Int) + 4 = ((95 : Nat) : Int))) (v_iconst (v := 0) dX8_acts_94 (by decide) (rfl : 94 + 1 = 95))) dX8_acts_95)))
theorem IX8_acts : Mz yX8_acts cX8_acts 3 (rmk 2 46) DX8_acts := mk_z (by decide +kernel) BX8_acts
