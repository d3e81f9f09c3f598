theorem dX8_asItIs_0 : decode cX8_asItIs 0 = .ok (.aload_n 0, 1) := by decide +kernel
theorem dX8_asItIs_1 : decode cX8_asItIs 1 = .ok (.aload_n 0, 1) := by decide +kernel
theorem dX8_asItIs_2 : decode cX8_asItIs 2 = .ok (.getfield 13, 3) := by decide +kernel
theorem dX8_asItIs_5 : decode cX8_asItIs 5 = .ok (.iconst 5, 1) := by decide +kernel
theorem dX8_asItIs_6 : decode cX8_asItIs 6 = .ok (.iaload, 1) := by decide +kernel
theorem dX8_asItIs_7 : decode cX8_asItIs 7 = .ok (.putfield 192, 3) := by decide +kernel
theorem dX8_asItIs_10 : decode cX8_asItIs 10 = .ok (.aload_n 0, 1) := by decide +kernel
theorem dX8_asItIs_11 : decode cX8_asItIs 11 = .ok (.aload_n 0, 1) := by decide +kernel
theorem dX8_asItIs_12 : decode cX8_asItIs 12 = .ok (.getfield 13, 3) := by decide +kernel
theorem dX8_asItIs_15 : decode cX8_asItIs 15 = .ok (.bipush 6, 2) := by decide +kernel
theorem dX8_asItIs_17 : decode cX8_asItIs 17 = .ok (.iaload, 1) := by decide +kernel
theorem dX8_asItIs_18 : decode cX8_asItIs 18 = .ok (.putfield 195, 3) := by decide +kernel
theorem dX8_asItIs_21 : decode cX8_asItIs 21 = .ok (.aload_n 0, 1) := by decide +kernel
theorem dX8_asItIs_22 : decode cX8_asItIs 22 = .ok (.iconst (-1), 1) := by decide +kernel
theorem dX8_asItIs_23 : decode cX8_asItIs 23 = .ok (.putfield 198, 3) := by decide +kernel
theorem dX8_asItIs_26 : decode cX8_asItIs 26 = .ok (.aload_n 0, 1) := by decide +kernel
theorem dX8_asItIs_27 : decode cX8_asItIs 27 = .ok (.iconst 0, 1) := by decide +kernel
theorem dX8_asItIs_28 : decode cX8_asItIs 28 = .ok (.putfield 201, 3) := by decide +kernel
theorem dX8_asItIs_31 : decode cX8_asItIs 31 = .ok (.return_, 1) := by decide +kernel
noncomputable def EX8_asItIs : Sx := (sseq (sseq (fpi 7 22 (rl 0) (iald (fgr 7 3 (rl 0)) (ik 5))) (sseq (fpi 7 23 (rl 0) (iald (fgr 7 3 (rl 0)) (ik 6))) (sseq (fpi 7 24 (rl 0) (ik (-1))) (fpi 7 25 (rl 0) (ik 0))))) sretv)
noncomputable def DX8_asItIs : Fu := mfv 1 EX8_asItIs
set_option maxRecDepth 4000 in
theorem BX8_asItIs : Vs RX8 cX8_asItIs 1 (rmk 0 0) 0 0 EX8_asItIs := (v_seq (v_seq (v_fpi kX8 lk1017 (by decide) rfl rfl (by decide +kernel) (v_aload_n (i := 0) dX8_asItIs_0 rfl (rfl : 0 + 1 = 1)) (v_iald (v_gfr kX8 lk998 (by decide) rfl (v_aload_n (i := 0) dX8_asItIs_1 rfl (rfl : 1 + 1 = 2)) dX8_asItIs_2 (rfl : 2 + 3 = 5)) (v_iconst (v := 5) dX8_asItIs_5 (by decide) (rfl : 5 + 1 = 6)) dX8_asItIs_6 (rfl : 6 + 1 = 7)) dX8_asItIs_7 (rfl : 7 + 3 = 10)) (v_seq (v_fpi kX8 lk1018 (by decide) rfl rfl (by decide +kernel) (v_aload_n (i := 0) dX8_asItIs_10 rfl (rfl : 10 + 1 = 11)) (v_iald (v_gfr kX8 lk998 (by decide) rfl (v_aload_n (i := 0) dX8_asItIs_11 rfl (rfl : 11 + 1 = 12)) dX8_asItIs_12 (rfl : 12 + 3 = 15)) (v_bipush (v := 6) dX8_asItIs_15 (by decide) (rfl : 15 + 2 = 17)) dX8_asItIs_17 (rfl : 17 + 1 = 18)) dX8_asItIs_18 (rfl : 18 + 3 = 21)) (v_seq (v_fpi kX8 lk1019 (by decide) rfl rfl (by decide +kernel) (v_aload_n (i := 0) dX8_asItIs_21 rfl (rfl : 21 + 1 = 22)) (v_iconst (v := (-1)) dX8_asItIs_22 (by decide) (rfl : 22 + 1 = 23)) dX8_asItIs_23 (rfl : 23 + 3 = 26)) (v_fpi kX8 lk1020 (by decide) rfl rfl (by decide +kernel) (v_aload_n (i := 0) dX8_asItIs_26 rfl (rfl : 26 + 1 = 27)) (v_iconst (v := 0) dX8_asItIs_27 (by decide) (rfl : 27 + 1 = 28)) dX8_asItIs_28 (rfl : 28 + 3 = 31))))) (v_retv dX8_asItIs_31))
theorem IX8_asItIs : Mv yX8_asItIs cX8_asItIs 1 (rmk 0 0) DX8_asItIs := mk_v (by decide +kernel) BX8_asItIs

theorem dX8_runs_0 : decode cX8_runs 0 = .ok (.aload_n 0, 1) := by decide +kernel
theorem dX8_runs_1 : decode cX8_runs 1 = .ok (.getfield 13, 3) := by decide +kernel
theorem dX8_runs_4 : decode cX8_runs 4 = .ok (.iload_n 1, 1) := by decide +kernel
theorem dX8_runs_5 : decode cX8_runs 5 = .ok (.invokestatic 119, 3) := by decide +kernel
theorem dX8_runs_8 : decode cX8_runs 8 = .ok (.iconst 1, 1) := by decide +kernel
theorem dX8_runs_9 : decode cX8_runs 9 = .ok (.iadd, 1) := by decide +kernel
theorem dX8_runs_10 : decode cX8_runs 10 = .ok (.iaload, 1) := by decide +kernel
theorem dX8_runs_11 : decode cX8_runs 11 = .ok (.iconst 1, 1) := by decide +kernel
theorem dX8_runs_12 : decode cX8_runs 12 = .ok (.if_icmp .ne 7, 3) := by decide +kernel
theorem dX8_runs_15 : decode cX8_runs 15 = .ok (.iconst 1, 1) := by decide +kernel
theorem dX8_runs_16 : decode cX8_runs 16 = .ok (.goto 4, 3) := by decide +kernel
theorem dX8_runs_19 : decode cX8_runs 19 = .ok (.iconst 0, 1) := by decide +kernel
theorem dX8_runs_20 : decode cX8_runs 20 = .ok (.ireturn, 1) := by decide +kernel
noncomputable def EX8_runs : Sx := (sret (ic (bc ceq (iald (fgr 7 3 (rl 0)) (i2 (· + ·) (csi DX8_pumpAt (ai (il 1) anil)) (ik 1))) (ik 1)) (ik 1) (ik 0)))
noncomputable def DX8_runs : Fz := mfz 2 EX8_runs
set_option maxRecDepth 4000 in
theorem BX8_runs : Vs RX8 cX8_runs 2 (rmk 1 20) 0 0 EX8_runs := (v_ret (v_ic (v_ieq_f (v_iald (v_gfr kX8 lk998 (by decide) rfl (v_aload_n (i := 0) dX8_runs_0 rfl (rfl : 0 + 1 = 1)) dX8_runs_1 (rfl : 1 + 3 = 4)) (v_iadd (v_csi IX8_pumpAt hX8_pumpAt lk1163 ⟨by decide, by decide⟩ (by decide) (v_ai (v_iload_n (i := 1) dX8_runs_4 rfl (rfl : 4 + 1 = 5)) v_anil) dX8_runs_5 (rfl : 5 + 3 = 8)) (v_iconst (v := 1) dX8_runs_8 (by decide) (rfl : 8 + 1 = 9)) dX8_runs_9 (rfl : 9 + 1 = 10)) dX8_runs_10 (rfl : 10 + 1 = 11)) (v_iconst (v := 1) dX8_runs_11 (by decide) (rfl : 11 + 1 = 12)) dX8_runs_12 (rfl : ((12 : Nat) : Int) + 7 = ((19 : Nat) : Int)) (rfl : 12 + 3 = 15)) (vi_goto (v_iconst (v := 1) dX8_runs_15 (by decide) (rfl : 15 + 1 = 16)) dX8_runs_16 (rfl : ((16 : Nat) : Int) + 4 = ((20 : Nat) : Int))) (v_iconst (v := 0) dX8_runs_19 (by decide) (rfl : 19 + 1 = 20))) dX8_runs_20)
theorem IX8_runs : Mz yX8_runs cX8_runs 2 (rmk 1 20) DX8_runs := mk_z (by decide +kernel) BX8_runs

theorem dX8_stageBy_0 : decode cX8_stageBy 0 = .ok (.iload_n 1, 1) := by decide +kernel
theorem dX8_stageBy_1 : decode cX8_stageBy 1 = .ok (.invokestatic 119, 3) := by decide +kernel
theorem dX8_stageBy_4 : decode cX8_stageBy 4 = .ok (.istore_n 2, 1) := by decide +kernel
theorem dX8_stageBy_5 : decode cX8_stageBy 5 = .ok (.aload_n 0, 1) := by decide +kernel
theorem dX8_stageBy_6 : decode cX8_stageBy 6 = .ok (.getfield 13, 3) := by decide +kernel
theorem dX8_stageBy_9 : decode cX8_stageBy 9 = .ok (.iload_n 2, 1) := by decide +kernel
theorem dX8_stageBy_10 : decode cX8_stageBy 10 = .ok (.iaload, 1) := by decide +kernel
theorem dX8_stageBy_11 : decode cX8_stageBy 11 = .ok (.istore_n 3, 1) := by decide +kernel
theorem dX8_stageBy_12 : decode cX8_stageBy 12 = .ok (.aload_n 0, 1) := by decide +kernel
theorem dX8_stageBy_13 : decode cX8_stageBy 13 = .ok (.getfield 54, 3) := by decide +kernel
theorem dX8_stageBy_16 : decode cX8_stageBy 16 = .ok (.iload_n 3, 1) := by decide +kernel
theorem dX8_stageBy_17 : decode cX8_stageBy 17 = .ok (.baload, 1) := by decide +kernel
theorem dX8_stageBy_18 : decode cX8_stageBy 18 = .ok (.ifCond .ne 29, 3) := by decide +kernel
theorem dX8_stageBy_21 : decode cX8_stageBy 21 = .ok (.aload_n 0, 1) := by decide +kernel
theorem dX8_stageBy_22 : decode cX8_stageBy 22 = .ok (.getfield 51, 3) := by decide +kernel
theorem dX8_stageBy_25 : decode cX8_stageBy 25 = .ok (.iload_n 3, 1) := by decide +kernel
theorem dX8_stageBy_26 : decode cX8_stageBy 26 = .ok (.laload, 1) := by decide +kernel
theorem dX8_stageBy_27 : decode cX8_stageBy 27 = .ok (.aload_n 0, 1) := by decide +kernel
theorem dX8_stageBy_28 : decode cX8_stageBy 28 = .ok (.getfield 13, 3) := by decide +kernel
theorem dX8_stageBy_31 : decode cX8_stageBy 31 = .ok (.iload_n 2, 1) := by decide +kernel
theorem dX8_stageBy_32 : decode cX8_stageBy 32 = .ok (.iconst 5, 1) := by decide +kernel
theorem dX8_stageBy_33 : decode cX8_stageBy 33 = .ok (.iadd, 1) := by decide +kernel
theorem dX8_stageBy_34 : decode cX8_stageBy 34 = .ok (.iconst 1, 1) := by decide +kernel
theorem dX8_stageBy_35 : decode cX8_stageBy 35 = .ok (.iadd, 1) := by decide +kernel
theorem dX8_stageBy_36 : decode cX8_stageBy 36 = .ok (.iaload, 1) := by decide +kernel
theorem dX8_stageBy_37 : decode cX8_stageBy 37 = .ok (.i2l, 1) := by decide +kernel
theorem dX8_stageBy_38 : decode cX8_stageBy 38 = .ok (.aload_n 0, 1) := by decide +kernel
theorem dX8_stageBy_39 : decode cX8_stageBy 39 = .ok (.getfield 219, 3) := by decide +kernel
theorem dX8_stageBy_42 : decode cX8_stageBy 42 = .ok (.lmul, 1) := by decide +kernel
theorem dX8_stageBy_43 : decode cX8_stageBy 43 = .ok (.lcmp, 1) := by decide +kernel
theorem dX8_stageBy_44 : decode cX8_stageBy 44 = .ok (.ifCond .lt 7, 3) := by decide +kernel
theorem dX8_stageBy_47 : decode cX8_stageBy 47 = .ok (.iconst 2, 1) := by decide +kernel
theorem dX8_stageBy_48 : decode cX8_stageBy 48 = .ok (.goto 32, 3) := by decide +kernel
theorem dX8_stageBy_51 : decode cX8_stageBy 51 = .ok (.aload_n 0, 1) := by decide +kernel
theorem dX8_stageBy_52 : decode cX8_stageBy 52 = .ok (.getfield 51, 3) := by decide +kernel
theorem dX8_stageBy_55 : decode cX8_stageBy 55 = .ok (.iload_n 3, 1) := by decide +kernel
theorem dX8_stageBy_56 : decode cX8_stageBy 56 = .ok (.laload, 1) := by decide +kernel
theorem dX8_stageBy_57 : decode cX8_stageBy 57 = .ok (.aload_n 0, 1) := by decide +kernel
theorem dX8_stageBy_58 : decode cX8_stageBy 58 = .ok (.getfield 13, 3) := by decide +kernel
theorem dX8_stageBy_61 : decode cX8_stageBy 61 = .ok (.iload_n 2, 1) := by decide +kernel
theorem dX8_stageBy_62 : decode cX8_stageBy 62 = .ok (.iconst 5, 1) := by decide +kernel
theorem dX8_stageBy_63 : decode cX8_stageBy 63 = .ok (.iadd, 1) := by decide +kernel
theorem dX8_stageBy_64 : decode cX8_stageBy 64 = .ok (.iaload, 1) := by decide +kernel
theorem dX8_stageBy_65 : decode cX8_stageBy 65 = .ok (.i2l, 1) := by decide +kernel
theorem dX8_stageBy_66 : decode cX8_stageBy 66 = .ok (.aload_n 0, 1) := by decide +kernel
theorem dX8_stageBy_67 : decode cX8_stageBy 67 = .ok (.getfield 219, 3) := by decide +kernel
theorem dX8_stageBy_70 : decode cX8_stageBy 70 = .ok (.lmul, 1) := by decide +kernel
theorem dX8_stageBy_71 : decode cX8_stageBy 71 = .ok (.lcmp, 1) := by decide +kernel
theorem dX8_stageBy_72 : decode cX8_stageBy 72 = .ok (.ifCond .lt 7, 3) := by decide +kernel
theorem dX8_stageBy_75 : decode cX8_stageBy 75 = .ok (.iconst 1, 1) := by decide +kernel
theorem dX8_stageBy_76 : decode cX8_stageBy 76 = .ok (.goto 4, 3) := by decide +kernel
theorem dX8_stageBy_79 : decode cX8_stageBy 79 = .ok (.iconst 0, 1) := by decide +kernel
theorem dX8_stageBy_80 : decode cX8_stageBy 80 = .ok (.ireturn, 1) := by decide +kernel
noncomputable def EX8_stageBy : Sx := (sseq (ssi 2 (csi DX8_pumpAt (ai (il 1) anil))) (sseq (ssi 3 (iald (fgr 7 3 (rl 0)) (il 2))) (sret (ic (bor (bz cne (zald (fgr 7 19 (rl 0)) (il 3))) (bj qge (jald (fgr 7 17 (rl 0)) (il 3)) (j2 (· * ·) (i2l (iald (fgr 7 3 (rl 0)) (i2 (· + ·) (i2 (· + ·) (il 2) (ik 5)) (ik 1)))) (fgj 7 18 (rl 0))))) (ik 2) (ic (bj qge (jald (fgr 7 17 (rl 0)) (il 3)) (j2 (· * ·) (i2l (iald (fgr 7 3 (rl 0)) (i2 (· + ·) (il 2) (ik 5)))) (fgj 7 18 (rl 0)))) (ik 1) (ik 0))))))
noncomputable def DX8_stageBy : Fi := mfi 4 EX8_stageBy
set_option maxRecDepth 4000 in
theorem BX8_stageBy : Vs RX8 cX8_stageBy 4 (rmk 1 20) 0 0 EX8_stageBy := (v_seq (v_istore_n (i := 2) (v_csi IX8_pumpAt hX8_pumpAt lk1163 ⟨by decide, by decide⟩ (by decide) (v_ai (v_iload_n (i := 1) dX8_stageBy_0 rfl (rfl : 0 + 1 = 1)) v_anil) dX8_stageBy_1 (rfl : 1 + 3 = 4)) dX8_stageBy_4 rfl (by decide) (rfl : 4 + 1 = 5)) (v_seq (v_istore_n (i := 3) (v_iald (v_gfr kX8 lk998 (by decide) rfl (v_aload_n (i := 0) dX8_stageBy_5 rfl (rfl : 5 + 1 = 6)) dX8_stageBy_6 (rfl : 6 + 3 = 9)) (v_iload_n (i := 2) dX8_stageBy_9 rfl (rfl : 9 + 1 = 10)) dX8_stageBy_10 (rfl : 10 + 1 = 11)) dX8_stageBy_11 rfl (by decide) (rfl : 11 + 1 = 12)) (v_ret (v_ic (v_or (v_zne_t (v_zald (v_gfr kX8 lk1014 (by decide) rfl (v_aload_n (i := 0) dX8_stageBy_12 rfl (rfl : 12 + 1 = 13)) dX8_stageBy_13 (rfl : 13 + 3 = 16)) (v_iload_n (i := 3) dX8_stageBy_16 rfl (rfl : 16 + 1 = 17)) dX8_stageBy_17 (rfl : 17 + 1 = 18)) dX8_stageBy_18 (rfl : ((18 : Nat) : Int) + 29 = ((47 : Nat) : Int)) (rfl : 18 + 3 = 21)) (v_jge_f (v_jald (v_gfr kX8 lk1012 (by decide) rfl (v_aload_n (i := 0) dX8_stageBy_21 rfl (rfl : 21 + 1 = 22)) dX8_stageBy_22 (rfl : 22 + 3 = 25)) (v_iload_n (i := 3) dX8_stageBy_25 rfl (rfl : 25 + 1 = 26)) dX8_stageBy_26 (rfl : 26 + 1 = 27)) (v_lmul (v_i2l (v_iald (v_gfr kX8 lk998 (by decide) rfl (v_aload_n (i := 0) dX8_stageBy_27 rfl (rfl : 27 + 1 = 28)) dX8_stageBy_28 (rfl : 28 + 3 = 31)) (v_iadd (v_iadd (v_iload_n (i := 2) dX8_stageBy_31 rfl (rfl : 31 + 1 = 32)) (v_iconst (v := 5) dX8_stageBy_32 (by decide) (rfl : 32 + 1 = 33)) dX8_stageBy_33 (rfl : 33 + 1 = 34)) (v_iconst (v := 1) dX8_stageBy_34 (by decide) (rfl : 34 + 1 = 35)) dX8_stageBy_35 (rfl : 35 + 1 = 36)) dX8_stageBy_36 (rfl : 36 + 1 = 37)) dX8_stageBy_37 (rfl : 37 + 1 = 38)) (v_gfj kX8 lk1013 (by decide) rfl (v_aload_n (i := 0) dX8_stageBy_38 rfl (rfl : 38 + 1 = 39)) dX8_stageBy_39 (rfl : 39 + 3 = 42)) dX8_stageBy_42 (rfl : 42 + 1 = 43)) dX8_stageBy_43 dX8_stageBy_44 (rfl : ((44 : Nat) : Int) + 7 = ((51 : Nat) : Int)) (rfl : 44 + 3 = 47))) (vi_goto (v_iconst (v := 2) dX8_stageBy_47 (by decide) (rfl : 47 + 1 = 48)) dX8_stageBy_48 (rfl : ((48 : Nat) : Int) + 32 = ((80 : Nat) : Int))) (v_ic (v_jge_f (v_jald (v_gfr kX8 lk1012 (by decide) rfl (v_aload_n (i := 0) dX8_stageBy_51 rfl (rfl : 51 + 1 = 52)) dX8_stageBy_52 (rfl : 52 + 3 = 55)) (v_iload_n (i := 3) dX8_stageBy_55 rfl (rfl : 55 + 1 = 56)) dX8_stageBy_56 (rfl : 56 + 1 = 57)) (v_lmul (v_i2l (v_iald (v_gfr kX8 lk998 (by decide) rfl (v_aload_n (i := 0) dX8_stageBy_57 rfl (rfl : 57 + 1 = 58)) dX8_stageBy_58 (rfl : 58 + 3 = 61)) (v_iadd (v_iload_n (i := 2) dX8_stageBy_61 rfl (rfl : 61 + 1 = 62)) (v_iconst (v := 5) dX8_stageBy_62 (by decide) (rfl : 62 + 1 = 63)) dX8_stageBy_63 (rfl : 63 + 1 = 64)) dX8_stageBy_64 (rfl : 64 + 1 = 65)) dX8_stageBy_65 (rfl : 65 + 1 = 66)) (v_gfj kX8 lk1013 (by decide) rfl (v_aload_n (i := 0) dX8_stageBy_66 rfl (rfl : 66 + 1 = 67)) dX8_stageBy_67 (rfl : 67 + 3 = 70)) dX8_stageBy_70 (rfl : 70 + 1 = 71)) dX8_stageBy_71 dX8_stageBy_72 (rfl : ((72 : Nat) : Int) + 7 = ((79 : Nat) : Int)) (rfl : 72 + 3 = 75)) (vi_goto (v_iconst (v := 1) dX8_stageBy_75 (by decide) (rfl : 75 + 1 = 76)) dX8_stageBy_76 (rfl : ((76 : Nat) : Int) + 4 = ((80 : Nat) : Int))) (v_iconst (v := 0) dX8_stageBy_79 (by decide) (rfl : 79 + 1 = 80)))) dX8_stageBy_80)))
theorem IX8_stageBy : Mi yX8_stageBy cX8_stageBy 4 (rmk 1 20) DX8_stageBy := mk_i (by decide +kernel) BX8_stageBy

theorem dX8_agrees_0 : decode cX8_agrees 0 = .ok (.iconst 1, 1) := by decide +kernel
theorem dX8_agrees_1 : decode cX8_agrees 1 = .ok (.istore_n 1, 1) := by decide +kernel
theorem dX8_agrees_2 : decode cX8_agrees 2 = .ok (.iconst 0, 1) := by decide +kernel
theorem dX8_agrees_3 : decode cX8_agrees 3 = .ok (.istore_n 2, 1) := by decide +kernel
theorem dX8_agrees_4 : decode cX8_agrees 4 = .ok (.iload_n 2, 1) := by decide +kernel
theorem dX8_agrees_5 : decode cX8_agrees 5 = .ok (.aload_n 0, 1) := by decide +kernel
theorem dX8_agrees_6 : decode cX8_agrees 6 = .ok (.getfield 13, 3) := by decide +kernel
theorem dX8_agrees_9 : decode cX8_agrees 9 = .ok (.iconst 2, 1) := by decide +kernel
theorem dX8_agrees_10 : decode cX8_agrees 10 = .ok (.iaload, 1) := by decide +kernel
theorem dX8_agrees_11 : decode cX8_agrees 11 = .ok (.if_icmp .ge 41, 3) := by decide +kernel
theorem dX8_agrees_14 : decode cX8_agrees 14 = .ok (.iload_n 1, 1) := by decide +kernel
theorem dX8_agrees_15 : decode cX8_agrees 15 = .ok (.ifCond .eq 29, 3) := by decide +kernel
theorem dX8_agrees_18 : decode cX8_agrees 18 = .ok (.aload_n 0, 1) := by decide +kernel
theorem dX8_agrees_19 : decode cX8_agrees 19 = .ok (.iload_n 2, 1) := by decide +kernel
theorem dX8_agrees_20 : decode cX8_agrees 20 = .ok (.invokevirtual 207, 3) := by decide +kernel
theorem dX8_agrees_23 : decode cX8_agrees 23 = .ok (.ifCond .eq 17, 3) := by decide +kernel
theorem dX8_agrees_26 : decode cX8_agrees 26 = .ok (.aload_n 0, 1) := by decide +kernel
theorem dX8_agrees_27 : decode cX8_agrees 27 = .ok (.iload_n 2, 1) := by decide +kernel
theorem dX8_agrees_28 : decode cX8_agrees 28 = .ok (.invokevirtual 222, 3) := by decide +kernel
theorem dX8_agrees_31 : decode cX8_agrees 31 = .ok (.aload_n 0, 1) := by decide +kernel
theorem dX8_agrees_32 : decode cX8_agrees 32 = .ok (.getfield 57, 3) := by decide +kernel
theorem dX8_agrees_35 : decode cX8_agrees 35 = .ok (.iload_n 2, 1) := by decide +kernel
theorem dX8_agrees_36 : decode cX8_agrees 36 = .ok (.iaload, 1) := by decide +kernel
theorem dX8_agrees_37 : decode cX8_agrees 37 = .ok (.if_icmp .ne 7, 3) := by decide +kernel
theorem dX8_agrees_40 : decode cX8_agrees 40 = .ok (.iconst 1, 1) := by decide +kernel
theorem dX8_agrees_41 : decode cX8_agrees 41 = .ok (.goto 4, 3) := by decide +kernel
theorem dX8_agrees_44 : decode cX8_agrees 44 = .ok (.iconst 0, 1) := by decide +kernel
theorem dX8_agrees_45 : decode cX8_agrees 45 = .ok (.istore_n 1, 1) := by decide +kernel
theorem dX8_agrees_46 : decode cX8_agrees 46 = .ok (.iinc 2 1, 3) := by decide +kernel
theorem dX8_agrees_49 : decode cX8_agrees 49 = .ok (.goto (-45), 3) := by decide +kernel
theorem dX8_agrees_52 : decode cX8_agrees 52 = .ok (.iload_n 1, 1) := by decide +kernel
theorem dX8_agrees_53 : decode cX8_agrees 53 = .ok (.ireturn, 1) := by decide +kernel
noncomputable def qX8_agrees_1 : Bx := (bc clt (il 2) (iald (fgr 7 3 (rl 0)) (ik 2)))
noncomputable def wX8_agrees_1 : Sx := (sseq (ssi 1 (ic (band (bz cne (il 1)) (bor (bnot (bz cne (cvz 7 DX8_runs (rl 0) (ai (il 2) anil)))) (bc ceq (cvi 7 DX8_stageBy (rl 0) (ai (il 2) anil)) (iald (fgr 7 20 (rl 0)) (il 2))))) (ik 1) (ik 0))) (sinc 2 1))
noncomputable def EX8_agrees : Sx := (sseq (ssi 1 (ik 1)) (sseq (scut 2 (sseq (ssi 2 (ik 0)) (swh qX8_agrees_1 wX8_agrees_1))) (sret (il 1))))
noncomputable def DX8_agrees : Fz := mfz 3 EX8_agrees
set_option maxRecDepth 4000 in
theorem BX8_agrees : Vs RX8 cX8_agrees 3 (rmk 2 43) 0 0 EX8_agrees := (v_seq (v_istore_n (i := 1) (v_iconst (v := 1) dX8_agrees_0 (by decide) (rfl : 0 + 1 = 1)) dX8_agrees_1 rfl (by decide) (rfl : 1 + 1 = 2)) (v_seq (v_cut (n := 2) (v_seq (v_istore_n (i := 2) (v_iconst (v := 0) dX8_agrees_2 (by decide) (rfl : 2 + 1 = 3)) dX8_agrees_3 rfl (by decide) (rfl : 3 + 1 = 4)) (v_wh (v_ilt_f (v_iload_n (i := 2) dX8_agrees_4 rfl (rfl : 4 + 1 = 5)) (v_iald (v_gfr kX8 lk998 (by decide) rfl (v_aload_n (i := 0) dX8_agrees_5 rfl (rfl : 5 + 1 = 6)) dX8_agrees_6 (rfl : 6 + 3 = 9)) (v_iconst (v := 2) dX8_agrees_9 (by decide) (rfl : 9 + 1 = 10)) dX8_agrees_10 (rfl : 10 + 1 = 11)) dX8_agrees_11 (rfl : ((11 : Nat) : Int) + 41 = ((52 : Nat) : Int)) (rfl : 11 + 3 = 14)) (vs_goto (v_seq (v_istore_n (i := 1) (v_ic (v_and (v_zne_f (v_iload_n (i := 1) dX8_agrees_14 rfl (rfl : 14 + 1 = 15)) dX8_agrees_15 (rfl : ((15 : Nat) : Int) + 29 = ((44 : Nat) : Int)) (rfl : 15 + 3 = 18)) (v_or (v_not (v_zne_f (v_cvz kX8 IX8_runs hX8_runs lk1273 ⟨by decide, by decide⟩ (by decide) (v_aload_n (i := 0) dX8_agrees_18 rfl (rfl : 18 + 1 = 19)) (v_ai (v_iload_n (i := 2) dX8_agrees_19 rfl (rfl : 19 + 1 = 20)) v_anil) dX8_agrees_20 (rfl : 20 + 3 = 23)) dX8_agrees_23 (rfl : ((23 : Nat) : Int) + 17 = ((40 : Nat) : Int)) (rfl : 23 + 3 = 26))) (v_ieq_f (v_cvi kX8 IX8_stageBy hX8_stageBy lk1301 ⟨by decide, by decide⟩ (by decide) (v_aload_n (i := 0) dX8_agrees_26 rfl (rfl : 26 + 1 = 27)) (v_ai (v_iload_n (i := 2) dX8_agrees_27 rfl (rfl : 27 + 1 = 28)) v_anil) dX8_agrees_28 (rfl : 28 + 3 = 31)) (v_iald (v_gfr kX8 lk1015 (by decide) rfl (v_aload_n (i := 0) dX8_agrees_31 rfl (rfl : 31 + 1 = 32)) dX8_agrees_32 (rfl : 32 + 3 = 35)) (v_iload_n (i := 2) dX8_agrees_35 rfl (rfl : 35 + 1 = 36)) dX8_agrees_36 (rfl : 36 + 1 = 37)) dX8_agrees_37 (rfl : ((37 : Nat) : Int) + 7 = ((44 : Nat) : Int)) (rfl : 37 + 3 = 40)))) (vi_goto (v_iconst (v := 1) dX8_agrees_40 (by decide) (rfl : 40 + 1 = 41)) dX8_agrees_41 (rfl : ((41 : Nat) : Int) + 4 = ((45 : Nat) : Int))) (v_iconst (v := 0) dX8_agrees_44 (by decide) (rfl : 44 + 1 = 45))) dX8_agrees_45 rfl (by decide) (rfl : 45 + 1 = 46)) (v_iinc (v := 1) dX8_agrees_46 (by decide) (by decide) (rfl : 46 + 3 = 49))) dX8_agrees_49 (rfl : ((49 : Nat) : Int) + (-45) = ((4 : Nat) : Int)))))) (v_ret (v_iload_n (i := 1) dX8_agrees_52 rfl (rfl : 52 + 1 = 53)) dX8_agrees_53)))
theorem IX8_agrees : Mz yX8_agrees cX8_agrees 3 (rmk 2 43) DX8_agrees := mk_z (by decide +kernel) BX8_agrees

theorem dX8_load_0 : decode cX8_load 0 = .ok (.iload_n 1, 1) := by decide +kernel
theorem dX8_load_1 : decode cX8_load 1 = .ok (.invokestatic 122, 3) := by decide +kernel
theorem dX8_load_4 : decode cX8_load 4 = .ok (.istore_n 2, 1) := by decide +kernel
theorem dX8_load_5 : decode cX8_load 5 = .ok (.aload_n 0, 1) := by decide +kernel
theorem dX8_load_6 : decode cX8_load 6 = .ok (.getfield 13, 3) := by decide +kernel
theorem dX8_load_9 : decode cX8_load 9 = .ok (.iload_n 2, 1) := by decide +kernel
theorem dX8_load_10 : decode cX8_load 10 = .ok (.iconst 0, 1) := by decide +kernel
theorem dX8_load_11 : decode cX8_load 11 = .ok (.iadd, 1) := by decide +kernel
theorem dX8_load_12 : decode cX8_load 12 = .ok (.iaload, 1) := by decide +kernel
theorem dX8_load_13 : decode cX8_load 13 = .ok (.aload_n 0, 1) := by decide +kernel
theorem dX8_load_14 : decode cX8_load 14 = .ok (.getfield 13, 3) := by decide +kernel
theorem dX8_load_17 : decode cX8_load 17 = .ok (.iload_n 2, 1) := by decide +kernel
theorem dX8_load_18 : decode cX8_load 18 = .ok (.iconst 1, 1) := by decide +kernel
theorem dX8_load_19 : decode cX8_load 19 = .ok (.iadd, 1) := by decide +kernel
theorem dX8_load_20 : decode cX8_load 20 = .ok (.iaload, 1) := by decide +kernel
theorem dX8_load_21 : decode cX8_load 21 = .ok (.aload_n 0, 1) := by decide +kernel
theorem dX8_load_22 : decode cX8_load 22 = .ok (.getfield 13, 3) := by decide +kernel
theorem dX8_load_25 : decode cX8_load 25 = .ok (.iload_n 2, 1) := by decide +kernel
theorem dX8_load_26 : decode cX8_load 26 = .ok (.iconst 2, 1) := by decide +kernel
theorem dX8_load_27 : decode cX8_load 27 = .ok (.iadd, 1) := by decide +kernel
theorem dX8_load_28 : decode cX8_load 28 = .ok (.iaload, 1) := by decide +kernel
theorem dX8_load_29 : decode cX8_load 29 = .ok (.imul, 1) := by decide +kernel
theorem dX8_load_30 : decode cX8_load 30 = .ok (.bipush 64, 2) := by decide +kernel
theorem dX8_load_32 : decode cX8_load 32 = .ok (.idiv, 1) := by decide +kernel
theorem dX8_load_33 : decode cX8_load 33 = .ok (.iadd, 1) := by decide +kernel
theorem dX8_load_34 : decode cX8_load 34 = .ok (.ireturn, 1) := by decide +kernel
noncomputable def EX8_load : Sx := (sseq (ssi 2 (csi DX8_chamberAt (ai (il 1) anil))) (sret (i2 (· + ·) (iald (fgr 7 3 (rl 0)) (i2 (· + ·) (il 2) (ik 0))) (i2d (· / ·) (i2 (· * ·) (iald (fgr 7 3 (rl 0)) (i2 (· + ·) (il 2) (ik 1))) (iald (fgr 7 3 (rl 0)) (i2 (· + ·) (il 2) (ik 2)))) (ik 64)))))
noncomputable def DX8_load : Fi := mfi 3 EX8_load
set_option maxRecDepth 4000 in
theorem BX8_load : Vs RX8 cX8_load 3 (rmk 1 20) 0 0 EX8_load := (v_seq (v_istore_n (i := 2) (v_csi IX8_chamberAt hX8_chamberAt lk1137 ⟨by decide, by decide⟩ (by decide) (v_ai (v_iload_n (i := 1) dX8_load_0 rfl (rfl : 0 + 1 = 1)) v_anil) dX8_load_1 (rfl : 1 + 3 = 4)) dX8_load_4 rfl (by decide) (rfl : 4 + 1 = 5)) (v_ret (v_iadd (v_iald (v_gfr kX8 lk998 (by decide) rfl (v_aload_n (i := 0) dX8_load_5 rfl (rfl : 5 + 1 = 6)) dX8_load_6 (rfl : 6 + 3 = 9)) (v_iadd (v_iload_n (i := 2) dX8_load_9 rfl (rfl : 9 + 1 = 10)) (v_iconst (v := 0) dX8_load_10 (by decide) (rfl : 10 + 1 = 11)) dX8_load_11 (rfl : 11 + 1 = 12)) dX8_load_12 (rfl : 12 + 1 = 13)) (v_idiv (v_imul (v_iald (v_gfr kX8 lk998 (by decide) rfl (v_aload_n (i := 0) dX8_load_13 rfl (rfl : 13 + 1 = 14)) dX8_load_14 (rfl : 14 + 3 = 17)) (v_iadd (v_iload_n (i := 2) dX8_load_17 rfl (rfl : 17 + 1 = 18)) (v_iconst (v := 1) dX8_load_18 (by decide) (rfl : 18 + 1 = 19)) dX8_load_19 (rfl : 19 + 1 = 20)) dX8_load_20 (rfl : 20 + 1 = 21)) (v_iald (v_gfr kX8 lk998 (by decide) rfl (v_aload_n (i := 0) dX8_load_21 rfl (rfl : 21 + 1 = 22)) dX8_load_22 (rfl : 22 + 3 = 25)) (v_iadd (v_iload_n (i := 2) dX8_load_25 rfl (rfl : 25 + 1 = 26)) (v_iconst (v := 2) dX8_load_26 (by decide) (rfl : 26 + 1 = 27)) dX8_load_27 (rfl : 27 + 1 = 28)) dX8_load_28 (rfl : 28 + 1 = 29)) dX8_load_29 (rfl : 29 + 1 = 30)) (v_bipush (v := 64) dX8_load_30 (by decide) (rfl : 30 + 2 = 32)) dX8_load_32 (rfl : 32 + 1 = 33)) dX8_load_33 (rfl : 33 + 1 = 34)) dX8_load_34))
theorem IX8_load : Mi yX8_load cX8_load 3 (rmk 1 20) DX8_load := mk_i (by decide +kernel) BX8_load

theorem dX8_layComes_0 : decode cX8_layComes 0 = .ok (.iconst 0, 1) := by decide +kernel
theorem dX8_layComes_1 : decode cX8_layComes 1 = .ok (.istore_n 1, 1) := by decide +kernel
theorem dX8_layComes_2 : decode cX8_layComes 2 = .ok (.iload_n 1, 1) := by decide +kernel
theorem dX8_layComes_3 : decode cX8_layComes 3 = .ok (.iconst 5, 1) := by decide +kernel
theorem dX8_layComes_4 : decode cX8_layComes 4 = .ok (.if_icmp .ge 36, 3) := by decide +kernel
theorem dX8_layComes_7 : decode cX8_layComes 7 = .ok (.aload_n 0, 1) := by decide +kernel
theorem dX8_layComes_8 : decode cX8_layComes 8 = .ok (.getfield 45, 3) := by decide +kernel
theorem dX8_layComes_11 : decode cX8_layComes 11 = .ok (.iload_n 1, 1) := by decide +kernel
theorem dX8_layComes_12 : decode cX8_layComes 12 = .ok (.iload_n 1, 1) := by decide +kernel
theorem dX8_layComes_13 : decode cX8_layComes 13 = .ok (.aload_n 0, 1) := by decide +kernel
theorem dX8_layComes_14 : decode cX8_layComes 14 = .ok (.getfield 13, 3) := by decide +kernel
theorem dX8_layComes_17 : decode cX8_layComes 17 = .ok (.iconst 0, 1) := by decide +kernel
theorem dX8_layComes_18 : decode cX8_layComes 18 = .ok (.iaload, 1) := by decide +kernel
theorem dX8_layComes_19 : decode cX8_layComes 19 = .ok (.if_icmp .ge 13, 3) := by decide +kernel
theorem dX8_layComes_22 : decode cX8_layComes 22 = .ok (.iconst 2, 1) := by decide +kernel
theorem dX8_layComes_23 : decode cX8_layComes 23 = .ok (.aload_n 0, 1) := by decide +kernel
theorem dX8_layComes_24 : decode cX8_layComes 24 = .ok (.iload_n 1, 1) := by decide +kernel
theorem dX8_layComes_25 : decode cX8_layComes 25 = .ok (.invokevirtual 204, 3) := by decide +kernel
theorem dX8_layComes_28 : decode cX8_layComes 28 = .ok (.imul, 1) := by decide +kernel
theorem dX8_layComes_29 : decode cX8_layComes 29 = .ok (.goto 4, 3) := by decide +kernel
theorem dX8_layComes_32 : decode cX8_layComes 32 = .ok (.iconst 0, 1) := by decide +kernel
theorem dX8_layComes_33 : decode cX8_layComes 33 = .ok (.iastore, 1) := by decide +kernel
theorem dX8_layComes_34 : decode cX8_layComes 34 = .ok (.iinc 1 1, 3) := by decide +kernel
theorem dX8_layComes_37 : decode cX8_layComes 37 = .ok (.goto (-35), 3) := by decide +kernel
theorem dX8_layComes_40 : decode cX8_layComes 40 = .ok (.aload_n 0, 1) := by decide +kernel
theorem dX8_layComes_41 : decode cX8_layComes 41 = .ok (.getfield 195, 3) := by decide +kernel
theorem dX8_layComes_44 : decode cX8_layComes 44 = .ok (.ifCond .le 33, 3) := by decide +kernel
theorem dX8_layComes_47 : decode cX8_layComes 47 = .ok (.aload_n 0, 1) := by decide +kernel
theorem dX8_layComes_48 : decode cX8_layComes 48 = .ok (.getfield 192, 3) := by decide +kernel
theorem dX8_layComes_51 : decode cX8_layComes 51 = .ok (.bipush 10, 2) := by decide +kernel
theorem dX8_layComes_53 : decode cX8_layComes 53 = .ok (.if_icmp .ge 24, 3) := by decide +kernel
theorem dX8_layComes_56 : decode cX8_layComes 56 = .ok (.aload_n 0, 1) := by decide +kernel
theorem dX8_layComes_57 : decode cX8_layComes 57 = .ok (.getfield 45, 3) := by decide +kernel
theorem dX8_layComes_60 : decode cX8_layComes 60 = .ok (.aload_n 0, 1) := by decide +kernel
theorem dX8_layComes_61 : decode cX8_layComes 61 = .ok (.getfield 192, 3) := by decide +kernel
theorem dX8_layComes_64 : decode cX8_layComes 64 = .ok (.dup2, 1) := by decide +kernel
theorem dX8_layComes_65 : decode cX8_layComes 65 = .ok (.iaload, 1) := by decide +kernel
theorem dX8_layComes_66 : decode cX8_layComes 66 = .ok (.iconst 2, 1) := by decide +kernel
theorem dX8_layComes_67 : decode cX8_layComes 67 = .ok (.aload_n 0, 1) := by decide +kernel
theorem dX8_layComes_68 : decode cX8_layComes 68 = .ok (.getfield 195, 3) := by decide +kernel
theorem dX8_layComes_71 : decode cX8_layComes 71 = .ok (.imul, 1) := by decide +kernel
theorem dX8_layComes_72 : decode cX8_layComes 72 = .ok (.iadd, 1) := by decide +kernel
theorem dX8_layComes_73 : decode cX8_layComes 73 = .ok (.iastore, 1) := by decide +kernel
theorem dX8_layComes_74 : decode cX8_layComes 74 = .ok (.goto 66, 3) := by decide +kernel
theorem dX8_layComes_77 : decode cX8_layComes 77 = .ok (.aload_n 0, 1) := by decide +kernel
theorem dX8_layComes_78 : decode cX8_layComes 78 = .ok (.getfield 195, 3) := by decide +kernel
theorem dX8_layComes_81 : decode cX8_layComes 81 = .ok (.ifCond .le 59, 3) := by decide +kernel
theorem dX8_layComes_84 : decode cX8_layComes 84 = .ok (.aload_n 0, 1) := by decide +kernel
theorem dX8_layComes_85 : decode cX8_layComes 85 = .ok (.getfield 45, 3) := by decide +kernel
theorem dX8_layComes_88 : decode cX8_layComes 88 = .ok (.aload_n 0, 1) := by decide +kernel
theorem dX8_layComes_89 : decode cX8_layComes 89 = .ok (.getfield 13, 3) := by decide +kernel
theorem dX8_layComes_92 : decode cX8_layComes 92 = .ok (.aload_n 0, 1) := by decide +kernel
theorem dX8_layComes_93 : decode cX8_layComes 93 = .ok (.getfield 192, 3) := by decide +kernel
theorem dX8_layComes_96 : decode cX8_layComes 96 = .ok (.bipush 10, 2) := by decide +kernel
theorem dX8_layComes_98 : decode cX8_layComes 98 = .ok (.isub, 1) := by decide +kernel
theorem dX8_layComes_99 : decode cX8_layComes 99 = .ok (.invokestatic 116, 3) := by decide +kernel
theorem dX8_layComes_102 : decode cX8_layComes 102 = .ok (.iaload, 1) := by decide +kernel
theorem dX8_layComes_103 : decode cX8_layComes 103 = .ok (.dup2, 1) := by decide +kernel
theorem dX8_layComes_104 : decode cX8_layComes 104 = .ok (.iaload, 1) := by decide +kernel
theorem dX8_layComes_105 : decode cX8_layComes 105 = .ok (.aload_n 0, 1) := by decide +kernel
theorem dX8_layComes_106 : decode cX8_layComes 106 = .ok (.getfield 195, 3) := by decide +kernel
theorem dX8_layComes_109 : decode cX8_layComes 109 = .ok (.iadd, 1) := by decide +kernel
theorem dX8_layComes_110 : decode cX8_layComes 110 = .ok (.iastore, 1) := by decide +kernel
theorem dX8_layComes_111 : decode cX8_layComes 111 = .ok (.aload_n 0, 1) := by decide +kernel
theorem dX8_layComes_112 : decode cX8_layComes 112 = .ok (.getfield 45, 3) := by decide +kernel
theorem dX8_layComes_115 : decode cX8_layComes 115 = .ok (.aload_n 0, 1) := by decide +kernel
theorem dX8_layComes_116 : decode cX8_layComes 116 = .ok (.getfield 13, 3) := by decide +kernel
theorem dX8_layComes_119 : decode cX8_layComes 119 = .ok (.aload_n 0, 1) := by decide +kernel
theorem dX8_layComes_120 : decode cX8_layComes 120 = .ok (.getfield 192, 3) := by decide +kernel
theorem dX8_layComes_123 : decode cX8_layComes 123 = .ok (.bipush 10, 2) := by decide +kernel
theorem dX8_layComes_125 : decode cX8_layComes 125 = .ok (.isub, 1) := by decide +kernel
theorem dX8_layComes_126 : decode cX8_layComes 126 = .ok (.invokestatic 116, 3) := by decide +kernel
theorem dX8_layComes_129 : decode cX8_layComes 129 = .ok (.iconst 1, 1) := by decide +kernel
theorem dX8_layComes_130 : decode cX8_layComes 130 = .ok (.iadd, 1) := by decide +kernel
theorem dX8_layComes_131 : decode cX8_layComes 131 = .ok (.iaload, 1) := by decide +kernel
theorem dX8_layComes_132 : decode cX8_layComes 132 = .ok (.dup2, 1) := by decide +kernel
theorem dX8_layComes_133 : decode cX8_layComes 133 = .ok (.iaload, 1) := by decide +kernel
theorem dX8_layComes_134 : decode cX8_layComes 134 = .ok (.aload_n 0, 1) := by decide +kernel
theorem dX8_layComes_135 : decode cX8_layComes 135 = .ok (.getfield 195, 3) := by decide +kernel
theorem dX8_layComes_138 : decode cX8_layComes 138 = .ok (.iadd, 1) := by decide +kernel
theorem dX8_layComes_139 : decode cX8_layComes 139 = .ok (.iastore, 1) := by decide +kernel
theorem dX8_layComes_140 : decode cX8_layComes 140 = .ok (.return_, 1) := by decide +kernel
noncomputable def qX8_layComes_1 : Bx := (bc clt (il 1) (ik 5))
noncomputable def wX8_layComes_1 : Sx := (sseq (aii (fgr 7 15 (rl 0)) (il 1) (ic (bc clt (il 1) (iald (fgr 7 3 (rl 0)) (ik 0))) (i2 (· * ·) (ik 2) (cvi 7 DX8_load (rl 0) (ai (il 1) anil))) (ik 0))) (sinc 1 1))
noncomputable def EX8_layComes : Sx := (sseq (sseq (scut 1 (sseq (ssi 1 (ik 0)) (swh qX8_layComes_1 wX8_layComes_1))) (sif (band (bz cgt (fgi 7 23 (rl 0))) (bc clt (fgi 7 22 (rl 0)) (ik 10))) (aoi (· + ·) (fgr 7 15 (rl 0)) (fgi 7 22 (rl 0)) (i2 (· * ·) (ik 2) (fgi 7 23 (rl 0)))) (sif (bz cgt (fgi 7 23 (rl 0))) (sseq (aoi (· + ·) (fgr 7 15 (rl 0)) (iald (fgr 7 3 (rl 0)) (csi DX8_tubeAt (ai (i2 (· - ·) (fgi 7 22 (rl 0)) (ik 10)) anil))) (fgi 7 23 (rl 0))) (aoi (· + ·) (fgr 7 15 (rl 0)) (iald (fgr 7 3 (rl 0)) (i2 (· + ·) (csi DX8_tubeAt (ai (i2 (· - ·) (fgi 7 22 (rl 0)) (ik 10)) anil)) (ik 1))) (fgi 7 23 (rl 0)))) snop))) sretv)
noncomputable def DX8_layComes : Fu := mfv 2 EX8_layComes
set_option maxRecDepth 4000 in
theorem BX8_layComes : Vs RX8 cX8_layComes 2 (rmk 2 42) 0 0 EX8_layComes := (v_seq (v_seq (v_cut (n := 1) (v_seq (v_istore_n (i := 1) (v_iconst (v := 0) dX8_layComes_0 (by decide) (rfl : 0 + 1 = 1)) dX8_layComes_1 rfl (by decide) (rfl : 1 + 1 = 2)) (v_wh (v_ilt_f (v_iload_n (i := 1) dX8_layComes_2 rfl (rfl : 2 + 1 = 3)) (v_iconst (v := 5) dX8_layComes_3 (by decide) (rfl : 3 + 1 = 4)) dX8_layComes_4 (rfl : ((4 : Nat) : Int) + 36 = ((40 : Nat) : Int)) (rfl : 4 + 3 = 7)) (vs_goto (v_seq (v_aii (v_gfr kX8 lk1010 (by decide) rfl (v_aload_n (i := 0) dX8_layComes_7 rfl (rfl : 7 + 1 = 8)) dX8_layComes_8 (rfl : 8 + 3 = 11)) (v_iload_n (i := 1) dX8_layComes_11 rfl (rfl : 11 + 1 = 12)) (v_ic (v_ilt_f (v_iload_n (i := 1) dX8_layComes_12 rfl (rfl : 12 + 1 = 13)) (v_iald (v_gfr kX8 lk998 (by decide) rfl (v_aload_n (i := 0) dX8_layComes_13 rfl (rfl : 13 + 1 = 14)) dX8_layComes_14 (rfl : 14 + 3 = 17)) (v_iconst (v := 0) dX8_layComes_17 (by decide) (rfl : 17 + 1 = 18)) dX8_layComes_18 (rfl : 18 + 1 = 19)) dX8_layComes_19 (rfl : ((19 : Nat) : Int) + 13 = ((32 : Nat) : Int)) (rfl : 19 + 3 = 22)) (vi_goto (v_imul (v_iconst (v := 2) dX8_layComes_22 (by decide) (rfl : 22 + 1 = 23)) (v_cvi kX8 IX8_load hX8_load lk1265 ⟨by decide, by decide⟩ (by decide) (v_aload_n (i := 0) dX8_layComes_23 rfl (rfl : 23 + 1 = 24)) (v_ai (v_iload_n (i := 1) dX8_layComes_24 rfl (rfl : 24 + 1 = 25)) v_anil) dX8_layComes_25 (rfl : 25 + 3 = 28)) dX8_layComes_28 (rfl : 28 + 1 = 29)) dX8_layComes_29 (rfl : ((29 : Nat) : Int) + 4 = ((33 : Nat) : Int))) (v_iconst (v := 0) dX8_layComes_32 (by decide) (rfl : 32 + 1 = 33))) dX8_layComes_33 (rfl : 33 + 1 = 34)) (v_iinc (v := 1) dX8_layComes_34 (by decide) (by decide) (rfl : 34 + 3 = 37))) dX8_layComes_37 (rfl : ((37 : Nat) : Int) + (-35) = ((2 : Nat) : Int)))))) (v_if (v_and (v_zgt_f (v_gfi kX8 lk1018 (by decide) rfl (v_aload_n (i := 0) dX8_layComes_40 rfl (rfl : 40 + 1 = 41)) dX8_layComes_41 (rfl : 41 + 3 = 44)) dX8_layComes_44 (rfl : ((44 : Nat) : Int) + 33 = ((77 : Nat) : Int)) (rfl : 44 + 3 = 47)) (v_ilt_f (v_gfi kX8 lk1017 (by decide) rfl (v_aload_n (i := 0) dX8_layComes_47 rfl (rfl : 47 + 1 = 48)) dX8_layComes_48 (rfl : 48 + 3 = 51)) (v_bipush (v := 10) dX8_layComes_51 (by decide) (rfl : 51 + 2 = 53)) dX8_layComes_53 (rfl : ((53 : Nat) : Int) + 24 = ((77 : Nat) : Int)) (rfl : 53 + 3 = 56))) (vs_goto (v_aoi_iadd (v_gfr kX8 lk1010 (by decide) rfl (v_aload_n (i := 0) dX8_layComes_56 rfl (rfl : 56 + 1 = 57)) dX8_layComes_57 (rfl : 57 + 3 = 60)) (v_gfi kX8 lk1017 (by decide) rfl (v_aload_n (i := 0) dX8_layComes_60 rfl (rfl : 60 + 1 = 61)) dX8_layComes_61 (rfl : 61 + 3 = 64)) dX8_layComes_64 dX8_layComes_65 (rfl : 64 + 1 + 1 = 66) (v_imul (v_iconst (v := 2) dX8_layComes_66 (by decide) (rfl : 66 + 1 = 67)) (v_gfi kX8 lk1018 (by decide) rfl (v_aload_n (i := 0) dX8_layComes_67 rfl (rfl : 67 + 1 = 68)) dX8_layComes_68 (rfl : 68 + 3 = 71)) dX8_layComes_71 (rfl : 71 + 1 = 72)) dX8_layComes_72 dX8_layComes_73 (rfl : 72 + 1 + 1 = 74)) dX8_layComes_74 (rfl : ((74 : Nat) : Int) + 66 = ((140 : Nat) : Int))) (v_if (v_zgt_f (v_gfi kX8 lk1018 (by decide) rfl (v_aload_n (i := 0) dX8_layComes_77 rfl (rfl : 77 + 1 = 78)) dX8_layComes_78 (rfl : 78 + 3 = 81)) dX8_layComes_81 (rfl : ((81 : Nat) : Int) + 59 = ((140 : Nat) : Int)) (rfl : 81 + 3 = 84)) (v_seq (v_aoi_iadd (v_gfr kX8 lk1010 (by decide) rfl (v_aload_n (i := 0) dX8_layComes_84 rfl (rfl : 84 + 1 = 85)) dX8_layComes_85 (rfl : 85 + 3 = 88)) (v_iald (v_gfr kX8 lk998 (by decide) rfl (v_aload_n (i := 0) dX8_layComes_88 rfl (rfl : 88 + 1 = 89)) dX8_layComes_89 (rfl : 89 + 3 = 92)) (v_csi IX8_tubeAt hX8_tubeAt lk1160 ⟨by decide, by decide⟩ (by decide) (v_ai (v_isub (v_gfi kX8 lk1017 (by decide) rfl (v_aload_n (i := 0) dX8_layComes_92 rfl (rfl : 92 + 1 = 93)) dX8_layComes_93 (rfl : 93 + 3 = 96)) (v_bipush (v := 10) dX8_layComes_96 (by decide) (rfl : 96 + 2 = 98)) dX8_layComes_98 (rfl : 98 + 1 = 99)) v_anil) dX8_layComes_99 (rfl : 99 + 3 = 102)) dX8_layComes_102 (rfl : 102 + 1 = 103)) dX8_layComes_103 dX8_layComes_104 (rfl : 103 + 1 + 1 = 105) (v_gfi kX8 lk1018 (by decide) rfl (v_aload_n (i := 0) dX8_layComes_105 rfl (rfl : 105 + 1 = 106)) dX8_layComes_106 (rfl : 106 + 3 = 109)) dX8_layComes_109 dX8_layComes_110 (rfl : 109 + 1 + 1 = 111)) (v_aoi_iadd (v_gfr kX8 lk1010 (by decide) rfl (v_aload_n (i := 0) dX8_layComes_111 rfl (rfl : 111 + 1 = 112)) dX8_layComes_112 (rfl : 112 + 3 = 115)) (v_iald (v_gfr kX8 lk998 (by decide) rfl (v_aload_n (i := 0) dX8_layComes_115 rfl (rfl : 115 + 1 = 116)) dX8_layComes_116 (rfl : 116 + 3 = 119)) (v_iadd (v_csi IX8_tubeAt hX8_tubeAt lk1160 ⟨by decide, by decide⟩ (by decide) (v_ai (v_isub (v_gfi kX8 lk1017 (by decide) rfl (v_aload_n (i := 0) dX8_layComes_119 rfl (rfl : 119 + 1 = 120)) dX8_layComes_120 (rfl : 120 + 3 = 123)) (v_bipush (v := 10) dX8_layComes_123 (by decide) (rfl : 123 + 2 = 125)) dX8_layComes_125 (rfl : 125 + 1 = 126)) v_anil) dX8_layComes_126 (rfl : 126 + 3 = 129)) (v_iconst (v := 1) dX8_layComes_129 (by decide) (rfl : 129 + 1 = 130)) dX8_layComes_130 (rfl : 130 + 1 = 131)) dX8_layComes_131 (rfl : 131 + 1 = 132)) dX8_layComes_132 dX8_layComes_133 (rfl : 132 + 1 + 1 = 134) (v_gfi kX8 lk1018 (by decide) rfl (v_aload_n (i := 0) dX8_layComes_134 rfl (rfl : 134 + 1 = 135)) dX8_layComes_135 (rfl : 135 + 3 = 138)) dX8_layComes_138 dX8_layComes_139 (rfl : 138 + 1 + 1 = 140))) v_nop))) (v_retv dX8_layComes_140))
theorem IX8_layComes : Mv yX8_layComes cX8_layComes 2 (rmk 2 42) DX8_layComes := mk_v (by decide +kernel) BX8_layComes

theorem dX8_isOpen_0 : decode cX8_isOpen 0 = .ok (.aload_n 0, 1) := by decide +kernel
theorem dX8_isOpen_1 : decode cX8_isOpen 1 = .ok (.getfield 13, 3) := by decide +kernel
theorem dX8_isOpen_4 : decode cX8_isOpen 4 = .ok (.iload_n 1, 1) := by decide +kernel
theorem dX8_isOpen_5 : decode cX8_isOpen 5 = .ok (.invokestatic 116, 3) := by decide +kernel
theorem dX8_isOpen_8 : decode cX8_isOpen 8 = .ok (.iconst 3, 1) := by decide +kernel
theorem dX8_isOpen_9 : decode cX8_isOpen 9 = .ok (.iadd, 1) := by decide +kernel
theorem dX8_isOpen_10 : decode cX8_isOpen 10 = .ok (.iaload, 1) := by decide +kernel
theorem dX8_isOpen_11 : decode cX8_isOpen 11 = .ok (.iconst 1, 1) := by decide +kernel
theorem dX8_isOpen_12 : decode cX8_isOpen 12 = .ok (.if_icmp .ne 7, 3) := by decide +kernel
theorem dX8_isOpen_15 : decode cX8_isOpen 15 = .ok (.iconst 1, 1) := by decide +kernel
theorem dX8_isOpen_16 : decode cX8_isOpen 16 = .ok (.goto 4, 3) := by decide +kernel
theorem dX8_isOpen_19 : decode cX8_isOpen 19 = .ok (.iconst 0, 1) := by decide +kernel
theorem dX8_isOpen_20 : decode cX8_isOpen 20 = .ok (.ireturn, 1) := by decide +kernel
noncomputable def EX8_isOpen : Sx := (sret (ic (bc ceq (iald (fgr 7 3 (rl 0)) (i2 (· + ·) (csi DX8_tubeAt (ai (il 1) anil)) (ik 3))) (ik 1)) (ik 1) (ik 0)))
noncomputable def DX8_isOpen : Fz := mfz 2 EX8_isOpen
set_option maxRecDepth 4000 in
theorem BX8_isOpen : Vs RX8 cX8_isOpen 2 (rmk 1 20) 0 0 EX8_isOpen := (v_ret (v_ic (v_ieq_f (v_iald (v_gfr kX8 lk998 (by decide) rfl (v_aload_n (i := 0) dX8_isOpen_0 rfl (rfl : 0 + 1 = 1)) dX8_isOpen_1 (rfl : 1 + 3 = 4)) (v_iadd (v_csi IX8_tubeAt hX8_tubeAt lk1160 ⟨by decide, by decide⟩ (by decide) (v_ai (v_iload_n (i := 1) dX8_isOpen_4 rfl (rfl : 4 + 1 = 5)) v_anil) dX8_isOpen_5 (rfl : 5 + 3 = 8)) (v_iconst (v := 3) dX8_isOpen_8 (by decide) (rfl : 8 + 1 = 9)) dX8_isOpen_9 (rfl : 9 + 1 = 10)) dX8_isOpen_10 (rfl : 10 + 1 = 11)) (v_iconst (v := 1) dX8_isOpen_11 (by decide) (rfl : 11 + 1 = 12)) dX8_isOpen_12 (rfl : ((12 : Nat) : Int) + 7 = ((19 : Nat) : Int)) (rfl : 12 + 3 = 15)) (vi_goto (v_iconst (v := 1) dX8_isOpen_15 (by decide) (rfl : 15 + 1 = 16)) dX8_isOpen_16 (rfl : ((16 : Nat) : Int) + 4 = ((20 : Nat) : Int))) (v_iconst (v := 0) dX8_isOpen_19 (by decide) (rfl : 19 + 1 = 20))) dX8_isOpen_20)
theorem IX8_isOpen : Mz yX8_isOpen cX8_isOpen 2 (rmk 1 20) DX8_isOpen := mk_z (by decide +kernel) BX8_isOpen

theorem dX8_layNets_0 : decode cX8_layNets 0 = .ok (.iconst 0, 1) := by decide +kernel
theorem dX8_layNets_1 : decode cX8_layNets 1 = .ok (.istore_n 1, 1) := by decide +kernel
theorem dX8_layNets_2 : decode cX8_layNets 2 = .ok (.iload_n 1, 1) := by decide +kernel
theorem dX8_layNets_3 : decode cX8_layNets 3 = .ok (.iconst 5, 1) := by decide +kernel
theorem dX8_layNets_4 : decode cX8_layNets 4 = .ok (.if_icmp .ge 16, 3) := by decide +kernel
theorem dX8_layNets_7 : decode cX8_layNets 7 = .ok (.aload_n 0, 1) := by decide +kernel
theorem dX8_layNets_8 : decode cX8_layNets 8 = .ok (.getfield 32, 3) := by decide +kernel
theorem dX8_layNets_11 : decode cX8_layNets 11 = .ok (.iload_n 1, 1) := by decide +kernel
theorem dX8_layNets_12 : decode cX8_layNets 12 = .ok (.iload_n 1, 1) := by decide +kernel
theorem dX8_layNets_13 : decode cX8_layNets 13 = .ok (.iastore, 1) := by decide +kernel
theorem dX8_layNets_14 : decode cX8_layNets 14 = .ok (.iinc 1 1, 3) := by decide +kernel
theorem dX8_layNets_17 : decode cX8_layNets 17 = .ok (.goto (-15), 3) := by decide +kernel
theorem dX8_layNets_20 : decode cX8_layNets 20 = .ok (.iconst 0, 1) := by decide +kernel
theorem dX8_layNets_21 : decode cX8_layNets 21 = .ok (.istore_n 1, 1) := by decide +kernel
theorem dX8_layNets_22 : decode cX8_layNets 22 = .ok (.iload_n 1, 1) := by decide +kernel
theorem dX8_layNets_23 : decode cX8_layNets 23 = .ok (.iconst 5, 1) := by decide +kernel
theorem dX8_layNets_24 : decode cX8_layNets 24 = .ok (.if_icmp .ge 109, 3) := by decide +kernel
theorem dX8_layNets_27 : decode cX8_layNets 27 = .ok (.iconst 0, 1) := by decide +kernel
theorem dX8_layNets_28 : decode cX8_layNets 28 = .ok (.istore_n 2, 1) := by decide +kernel
theorem dX8_layNets_29 : decode cX8_layNets 29 = .ok (.iload_n 2, 1) := by decide +kernel
theorem dX8_layNets_30 : decode cX8_layNets 30 = .ok (.aload_n 0, 1) := by decide +kernel
theorem dX8_layNets_31 : decode cX8_layNets 31 = .ok (.getfield 13, 3) := by decide +kernel
theorem dX8_layNets_34 : decode cX8_layNets 34 = .ok (.iconst 1, 1) := by decide +kernel
theorem dX8_layNets_35 : decode cX8_layNets 35 = .ok (.iaload, 1) := by decide +kernel
theorem dX8_layNets_36 : decode cX8_layNets 36 = .ok (.if_icmp .ge 91, 3) := by decide +kernel
theorem dX8_layNets_39 : decode cX8_layNets 39 = .ok (.aload_n 0, 1) := by decide +kernel
theorem dX8_layNets_40 : decode cX8_layNets 40 = .ok (.getfield 13, 3) := by decide +kernel
theorem dX8_layNets_43 : decode cX8_layNets 43 = .ok (.iload_n 2, 1) := by decide +kernel
theorem dX8_layNets_44 : decode cX8_layNets 44 = .ok (.invokestatic 116, 3) := by decide +kernel
theorem dX8_layNets_47 : decode cX8_layNets 47 = .ok (.iaload, 1) := by decide +kernel
theorem dX8_layNets_48 : decode cX8_layNets 48 = .ok (.istore_n 3, 1) := by decide +kernel
theorem dX8_layNets_49 : decode cX8_layNets 49 = .ok (.aload_n 0, 1) := by decide +kernel
theorem dX8_layNets_50 : decode cX8_layNets 50 = .ok (.getfield 13, 3) := by decide +kernel
theorem dX8_layNets_53 : decode cX8_layNets 53 = .ok (.iload_n 2, 1) := by decide +kernel
theorem dX8_layNets_54 : decode cX8_layNets 54 = .ok (.invokestatic 116, 3) := by decide +kernel
theorem dX8_layNets_57 : decode cX8_layNets 57 = .ok (.iconst 1, 1) := by decide +kernel
theorem dX8_layNets_58 : decode cX8_layNets 58 = .ok (.iadd, 1) := by decide +kernel
theorem dX8_layNets_59 : decode cX8_layNets 59 = .ok (.iaload, 1) := by decide +kernel
theorem dX8_layNets_60 : decode cX8_layNets 60 = .ok (.istore 4, 2) := by decide +kernel
theorem dX8_layNets_62 : decode cX8_layNets 62 = .ok (.aload_n 0, 1) := by decide +kernel
theorem dX8_layNets_63 : decode cX8_layNets 63 = .ok (.iload_n 2, 1) := by decide +kernel
theorem dX8_layNets_64 : decode cX8_layNets 64 = .ok (.invokevirtual 177, 3) := by decide +kernel
theorem dX8_layNets_67 : decode cX8_layNets 67 = .ok (.ifCond .eq 54, 3) := by decide +kernel
theorem dX8_layNets_70 : decode cX8_layNets 70 = .ok (.aload_n 0, 1) := by decide +kernel
theorem dX8_layNets_71 : decode cX8_layNets 71 = .ok (.getfield 32, 3) := by decide +kernel
theorem dX8_layNets_74 : decode cX8_layNets 74 = .ok (.iload_n 3, 1) := by decide +kernel
theorem dX8_layNets_75 : decode cX8_layNets 75 = .ok (.iaload, 1) := by decide +kernel
theorem dX8_layNets_76 : decode cX8_layNets 76 = .ok (.aload_n 0, 1) := by decide +kernel
theorem dX8_layNets_77 : decode cX8_layNets 77 = .ok (.getfield 32, 3) := by decide +kernel
theorem dX8_layNets_80 : decode cX8_layNets 80 = .ok (.iload 4, 2) := by decide +kernel
theorem dX8_layNets_82 : decode cX8_layNets 82 = .ok (.iaload, 1) := by decide +kernel
theorem dX8_layNets_83 : decode cX8_layNets 83 = .ok (.if_icmp .ge 12, 3) := by decide +kernel
theorem dX8_layNets_86 : decode cX8_layNets 86 = .ok (.aload_n 0, 1) := by decide +kernel
theorem dX8_layNets_87 : decode cX8_layNets 87 = .ok (.getfield 32, 3) := by decide +kernel
theorem dX8_layNets_90 : decode cX8_layNets 90 = .ok (.iload_n 3, 1) := by decide +kernel
theorem dX8_layNets_91 : decode cX8_layNets 91 = .ok (.iaload, 1) := by decide +kernel
theorem dX8_layNets_92 : decode cX8_layNets 92 = .ok (.goto 10, 3) := by decide +kernel
theorem dX8_layNets_95 : decode cX8_layNets 95 = .ok (.aload_n 0, 1) := by decide +kernel
theorem dX8_layNets_96 : decode cX8_layNets 96 = .ok (.getfield 32, 3) := by decide +kernel
theorem dX8_layNets_99 : decode cX8_layNets 99 = .ok (.iload 4, 2) := by decide +kernel
theorem dX8_layNets_101 : decode cX8_layNets 101 = .ok (.iaload, 1) := by decide +kernel
theorem dX8_layNets_102 : decode cX8_layNets 102 = .ok (.istore 5, 2) := by decide +kernel
theorem dX8_layNets_104 : decode cX8_layNets 104 = .ok (.aload_n 0, 1) := by decide +kernel
theorem dX8_layNets_105 : decode cX8_layNets 105 = .ok (.getfield 32, 3) := by decide +kernel
theorem dX8_layNets_108 : decode cX8_layNets 108 = .ok (.iload_n 3, 1) := by decide +kernel
theorem dX8_layNets_109 : decode cX8_layNets 109 = .ok (.iload 5, 2) := by decide +kernel
theorem dX8_layNets_111 : decode cX8_layNets 111 = .ok (.iastore, 1) := by decide +kernel
theorem dX8_layNets_112 : decode cX8_layNets 112 = .ok (.aload_n 0, 1) := by decide +kernel
theorem dX8_layNets_113 : decode cX8_layNets 113 = .ok (.getfield 32, 3) := by decide +kernel
theorem dX8_layNets_116 : decode cX8_layNets 116 = .ok (.iload 4, 2) := by decide +kernel
theorem dX8_layNets_118 : decode cX8_layNets 118 = .ok (.iload 5, 2) := by decide +kernel
theorem dX8_layNets_120 : decode cX8_layNets 120 = .ok (.iastore, 1) := by decide +kernel
theorem dX8_layNets_121 : decode cX8_layNets 121 = .ok (.iinc 2 1, 3) := by decide +kernel
theorem dX8_layNets_124 : decode cX8_layNets 124 = .ok (.goto (-95), 3) := by decide +kernel
theorem dX8_layNets_127 : decode cX8_layNets 127 = .ok (.iinc 1 1, 3) := by decide +kernel
theorem dX8_layNets_130 : decode cX8_layNets 130 = .ok (.goto (-108), 3) := by decide +kernel
theorem dX8_layNets_133 : decode cX8_layNets 133 = .ok (.return_, 1) := by decide +kernel
noncomputable def qX8_layNets_1 : Bx := (bc clt (il 1) (ik 5))
noncomputable def wX8_layNets_1 : Sx := (sseq (aii (fgr 7 10 (rl 0)) (il 1) (il 1)) (sinc 1 1))
noncomputable def qX8_layNets_2 : Bx := (bc clt (il 2) (iald (fgr 7 3 (rl 0)) (ik 1)))
noncomputable def wX8_layNets_2 : Sx := (sseq (scut 3 (sseq (ssi 3 (iald (fgr 7 3 (rl 0)) (csi DX8_tubeAt (ai (il 2) anil)))) (sseq (ssi 4 (iald (fgr 7 3 (rl 0)) (i2 (· + ·) (csi DX8_tubeAt (ai (il 2) anil)) (ik 1)))) (sif (bz cne (cvz 7 DX8_isOpen (rl 0) (ai (il 2) anil))) (scut 5 (sseq (ssi 5 (ic (bc clt (iald (fgr 7 10 (rl 0)) (il 3)) (iald (fgr 7 10 (rl 0)) (il 4))) (iald (fgr 7 10 (rl 0)) (il 3)) (iald (fgr 7 10 (rl 0)) (il 4)))) (sseq (aii (fgr 7 10 (rl 0)) (il 3) (il 5)) (aii (fgr 7 10 (rl 0)) (il 4) (il 5))))) snop)))) (sinc 2 1))
noncomputable def qX8_layNets_3 : Bx := (bc clt (il 1) (ik 5))
noncomputable def wX8_layNets_3 : Sx := (sseq (scut 2 (sseq (ssi 2 (ik 0)) (swh qX8_layNets_2 wX8_layNets_2))) (sinc 1 1))
noncomputable def EX8_layNets : Sx := (sseq (sseq (scut 1 (sseq (ssi 1 (ik 0)) (swh qX8_layNets_1 wX8_layNets_1))) (scut 1 (sseq (ssi 1 (ik 0)) (swh qX8_layNets_3 wX8_layNets_3)))) sretv)
noncomputable def DX8_layNets : Fu := mfv 6 EX8_layNets
set_option maxRecDepth 4000 in
theorem BX8_layNets : Vs RX8 cX8_layNets 6 (rmk 2 41) 0 0 EX8_layNets := (v_seq (v_seq (v_cut (n := 1) (v_seq (v_istore_n (i := 1) (v_iconst (v := 0) dX8_layNets_0 (by decide) (rfl : 0 + 1 = 1)) dX8_layNets_1 rfl (by decide) (rfl : 1 + 1 = 2)) (v_wh (v_ilt_f (v_iload_n (i := 1) dX8_layNets_2 rfl (rfl : 2 + 1 = 3)) (v_iconst (v := 5) dX8_layNets_3 (by decide) (rfl : 3 + 1 = 4)) dX8_layNets_4 (rfl : ((4 : Nat) : Int) + 16 = ((20 : Nat) : Int)) (rfl : 4 + 3 = 7)) (vs_goto (v_seq (v_aii (v_gfr kX8 lk1005 (by decide) rfl (v_aload_n (i := 0) dX8_layNets_7 rfl (rfl : 7 + 1 = 8)) dX8_layNets_8 (rfl : 8 + 3 = 11)) (v_iload_n (i := 1) dX8_layNets_11 rfl (rfl : 11 + 1 = 12)) (v_iload_n (i := 1) dX8_layNets_12 rfl (rfl : 12 + 1 = 13)) dX8_layNets_13 (rfl : 13 + 1 = 14)) (v_iinc (v := 1) dX8_layNets_14 (by decide) (by decide) (rfl : 14 + 3 = 17))) dX8_layNets_17 (rfl : ((17 : Nat) : Int) + (-15) = ((2 : Nat) : Int)))))) (v_cut (n := 1) (v_seq (v_istore_n (i := 1) (v_iconst (v := 0) dX8_layNets_20 (by decide) (rfl : 20 + 1 = 21)) dX8_layNets_21 rfl (by decide) (rfl : 21 + 1 = 22)) (v_wh (v_ilt_f (v_iload_n (i := 1) dX8_layNets_22 rfl (rfl : 22 + 1 = 23)) (v_iconst (v := 5) dX8_layNets_23 (by decide) (rfl : 23 + 1 = 24)) dX8_layNets_24 (rfl : ((24 : Nat) : Int) + 109 = ((133 : Nat) : Int)) (rfl : 24 + 3 = 27)) (vs_goto (v_seq (v_cut (n := 2) (v_seq (v_istore_n (i := 2) (v_iconst (v := 0) dX8_layNets_27 (by decide) (rfl : 27 + 1 = 28)) dX8_layNets_28 rfl (by decide) (rfl : 28 + 1 = 29)) (v_wh (v_ilt_f (v_iload_n (i := 2) dX8_layNets_29 rfl (rfl : 29 + 1 = 30)) (v_iald (v_gfr kX8 lk998 (by decide) rfl (v_aload_n (i := 0) dX8_layNets_30 rfl (rfl : 30 + 1 = 31)) dX8_layNets_31 (rfl : 31 + 3 = 34)) (v_iconst (v := 1) dX8_layNets_34 (by decide) (rfl : 34 + 1 = 35)) dX8_layNets_35 (rfl : 35 + 1 = 36)) dX8_layNets_36 (rfl : ((36 : Nat) : Int) + 91 = ((127 : Nat) : Int)) (rfl : 36 + 3 = 39)) (vs_goto (v_seq (v_cut (n := 3) (v_seq (v_istore_n (i := 3) (v_iald (v_gfr kX8 lk998 (by decide) rfl (v_aload_n (i := 0) dX8_layNets_39 rfl (rfl : 39 + 1 = 40)) dX8_layNets_40 (rfl : 40 + 3 = 43)) (v_csi IX8_tubeAt hX8_tubeAt lk1160 ⟨by decide, by decide⟩ (by decide) (v_ai (v_iload_n (i := 2) dX8_layNets_43 rfl (rfl : 43 + 1 = 44)) v_anil) dX8_layNets_44 (rfl : 44 + 3 = 47)) dX8_layNets_47 (rfl : 47 + 1 = 48)) dX8_layNets_48 rfl (by decide) (rfl : 48 + 1 = 49)) (v_seq (v_istore (i := 4) (v_iald (v_gfr kX8 lk998 (by decide) rfl (v_aload_n (i := 0) dX8_layNets_49 rfl (rfl : 49 + 1 = 50)) dX8_layNets_50 (rfl : 50 + 3 = 53)) (v_iadd (v_csi IX8_tubeAt hX8_tubeAt lk1160 ⟨by decide, by decide⟩ (by decide) (v_ai (v_iload_n (i := 2) dX8_layNets_53 rfl (rfl : 53 + 1 = 54)) v_anil) dX8_layNets_54 (rfl : 54 + 3 = 57)) (v_iconst (v := 1) dX8_layNets_57 (by decide) (rfl : 57 + 1 = 58)) dX8_layNets_58 (rfl : 58 + 1 = 59)) dX8_layNets_59 (rfl : 59 + 1 = 60)) dX8_layNets_60 (by decide) (rfl : 60 + 2 = 62)) (v_if (v_zne_f (v_cvz kX8 IX8_isOpen hX8_isOpen lk1257 ⟨by decide, by decide⟩ (by decide) (v_aload_n (i := 0) dX8_layNets_62 rfl (rfl : 62 + 1 = 63)) (v_ai (v_iload_n (i := 2) dX8_layNets_63 rfl (rfl : 63 + 1 = 64)) v_anil) dX8_layNets_64 (rfl : 64 + 3 = 67)) dX8_layNets_67 (rfl : ((67 : Nat) : Int) + 54 = ((121 : Nat) : Int)) (rfl : 67 + 3 = 70)) (v_cut (n := 5) (v_seq (v_istore (i := 5) (v_ic (v_ilt_f (v_iald (v_gfr kX8 lk1005 (by decide) rfl (v_aload_n (i := 0) dX8_layNets_70 rfl (rfl : 70 + 1 = 71)) dX8_layNets_71 (rfl : 71 + 3 = 74)) (v_iload_n (i := 3) dX8_layNets_74 rfl (rfl : 74 + 1 = 75)) dX8_layNets_75 (rfl : 75 + 1 = 76)) (v_iald (v_gfr kX8 lk1005 (by decide) rfl (v_aload_n (i := 0) dX8_layNets_76 rfl (rfl : 76 + 1 = 77)) dX8_layNets_77 (rfl : 77 + 3 = 80)) (v_iload (i := 4) dX8_layNets_80 (rfl : 80 + 2 = 82)) dX8_layNets_82 (rfl : 82 + 1 = 83)) dX8_layNets_83 (rfl : ((83 : Nat) : Int) + 12 = ((95 : Nat) : Int)) (rfl : 83 + 3 = 86)) (vi_goto (v_iald (v_gfr kX8 lk1005 (by decide) rfl (v_aload_n (i := 0) dX8_layNets_86 rfl (rfl : 86 + 1 = 87)) dX8_layNets_87 (rfl : 87 + 3 = 90)) (v_iload_n (i := 3) dX8_layNets_90 rfl (rfl : 90 + 1 = 91)) dX8_layNets_91 (rfl : 91 + 1 = 92)) dX8_layNets_92 (rfl : ((92 : Nat) : Int) + 10 = ((102 : Nat) : Int))) (v_iald (v_gfr kX8 lk1005 (by decide) rfl (v_aload_n (i := 0) dX8_layNets_95 rfl (rfl : 95 + 1 = 96)) dX8_layNets_96 (rfl : 96 + 3 = 99)) (v_iload (i := 4) dX8_layNets_99 (rfl : 99 + 2 = 101)) dX8_layNets_101 (rfl : 101 + 1 = 102))) dX8_layNets_102 (by decide) (rfl : 102 + 2 = 104)) (v_seq (v_aii (v_gfr kX8 lk1005 (by decide) rfl (v_aload_n (i := 0) dX8_layNets_104 rfl (rfl : 104 + 1 = 105)) dX8_layNets_105 (rfl : 105 + 3 = 108)) (v_iload_n (i := 3) dX8_layNets_108 rfl (rfl : 108 + 1 = 109)) (v_iload (i := 5) dX8_layNets_109 (rfl : 109 + 2 = 111)) dX8_layNets_111 (rfl : 111 + 1 = 112)) (v_aii (v_gfr kX8 lk1005 (by decide) rfl (v_aload_n (i := 0) dX8_layNets_112 rfl (rfl : 112 + 1 = 113)) dX8_layNets_113 (rfl : 113 + 3 = 116)) (v_iload (i := 4) dX8_layNets_116 (rfl : 116 + 2 = 118)) (v_iload (i := 5) dX8_layNets_118 (rfl : 118 + 2 = 120)) dX8_layNets_120 (rfl : 120 + 1 = 121))))) v_nop)))) (v_iinc (v := 1) dX8_layNets_121 (by decide) (by decide) (rfl : 121 + 3 = 124))) dX8_layNets_124 (rfl : ((124 : Nat) : Int) + (-95) = ((29 : Nat) : Int)))))) (v_iinc (v := 1) dX8_layNets_127 (by decide) (by decide) (rfl : 127 + 3 = 130))) dX8_layNets_130 (rfl : ((130 : Nat) : Int) + (-108) = ((22 : Nat) : Int))))))) (v_retv dX8_layNets_133))
theorem IX8_layNets : Mv yX8_layNets cX8_layNets 6 (rmk 2 41) DX8_layNets := mk_v (by decide +kernel) BX8_layNets

theorem dX8_nextStages_0 : decode cX8_nextStages 0 = .ok (.aload_n 0, 1) := by decide +kernel
theorem dX8_nextStages_1 : decode cX8_nextStages 1 = .ok (.getfield 13, 3) := by decide +kernel
theorem dX8_nextStages_4 : decode cX8_nextStages 4 = .ok (.iconst 2, 1) := by decide +kernel
theorem dX8_nextStages_5 : decode cX8_nextStages 5 = .ok (.iaload, 1) := by decide +kernel
theorem dX8_nextStages_6 : decode cX8_nextStages 6 = .ok (.iconst 1, 1) := by decide +kernel
theorem dX8_nextStages_7 : decode cX8_nextStages 7 = .ok (.isub, 1) := by decide +kernel
theorem dX8_nextStages_8 : decode cX8_nextStages 8 = .ok (.istore_n 1, 1) := by decide +kernel
theorem dX8_nextStages_9 : decode cX8_nextStages 9 = .ok (.iload_n 1, 1) := by decide +kernel
theorem dX8_nextStages_10 : decode cX8_nextStages 10 = .ok (.ifCond .lt 46, 3) := by decide +kernel
theorem dX8_nextStages_13 : decode cX8_nextStages 13 = .ok (.aload_n 0, 1) := by decide +kernel
theorem dX8_nextStages_14 : decode cX8_nextStages 14 = .ok (.iload_n 1, 1) := by decide +kernel
theorem dX8_nextStages_15 : decode cX8_nextStages 15 = .ok (.invokevirtual 207, 3) := by decide +kernel
theorem dX8_nextStages_18 : decode cX8_nextStages 18 = .ok (.ifCond .eq 25, 3) := by decide +kernel
theorem dX8_nextStages_21 : decode cX8_nextStages 21 = .ok (.aload_n 0, 1) := by decide +kernel
theorem dX8_nextStages_22 : decode cX8_nextStages 22 = .ok (.getfield 57, 3) := by decide +kernel
theorem dX8_nextStages_25 : decode cX8_nextStages 25 = .ok (.iload_n 1, 1) := by decide +kernel
theorem dX8_nextStages_26 : decode cX8_nextStages 26 = .ok (.iaload, 1) := by decide +kernel
theorem dX8_nextStages_27 : decode cX8_nextStages 27 = .ok (.iconst 2, 1) := by decide +kernel
theorem dX8_nextStages_28 : decode cX8_nextStages 28 = .ok (.if_icmp .ge 15, 3) := by decide +kernel
theorem dX8_nextStages_31 : decode cX8_nextStages 31 = .ok (.aload_n 0, 1) := by decide +kernel
theorem dX8_nextStages_32 : decode cX8_nextStages 32 = .ok (.getfield 57, 3) := by decide +kernel
theorem dX8_nextStages_35 : decode cX8_nextStages 35 = .ok (.iload_n 1, 1) := by decide +kernel
theorem dX8_nextStages_36 : decode cX8_nextStages 36 = .ok (.dup2, 1) := by decide +kernel
theorem dX8_nextStages_37 : decode cX8_nextStages 37 = .ok (.iaload, 1) := by decide +kernel
theorem dX8_nextStages_38 : decode cX8_nextStages 38 = .ok (.iconst 1, 1) := by decide +kernel
theorem dX8_nextStages_39 : decode cX8_nextStages 39 = .ok (.iadd, 1) := by decide +kernel
theorem dX8_nextStages_40 : decode cX8_nextStages 40 = .ok (.iastore, 1) := by decide +kernel
theorem dX8_nextStages_41 : decode cX8_nextStages 41 = .ok (.iconst 1, 1) := by decide +kernel
theorem dX8_nextStages_42 : decode cX8_nextStages 42 = .ok (.ireturn, 1) := by decide +kernel
theorem dX8_nextStages_43 : decode cX8_nextStages 43 = .ok (.aload_n 0, 1) := by decide +kernel
theorem dX8_nextStages_44 : decode cX8_nextStages 44 = .ok (.getfield 57, 3) := by decide +kernel
theorem dX8_nextStages_47 : decode cX8_nextStages 47 = .ok (.iload_n 1, 1) := by decide +kernel
theorem dX8_nextStages_48 : decode cX8_nextStages 48 = .ok (.iconst 0, 1) := by decide +kernel
theorem dX8_nextStages_49 : decode cX8_nextStages 49 = .ok (.iastore, 1) := by decide +kernel
theorem dX8_nextStages_50 : decode cX8_nextStages 50 = .ok (.iinc 1 (-1), 3) := by decide +kernel
theorem dX8_nextStages_53 : decode cX8_nextStages 53 = .ok (.goto (-44), 3) := by decide +kernel
theorem dX8_nextStages_56 : decode cX8_nextStages 56 = .ok (.iconst 0, 1) := by decide +kernel
theorem dX8_nextStages_57 : decode cX8_nextStages 57 = .ok (.ireturn, 1) := by decide +kernel
noncomputable def qX8_nextStages_1 : Bx := (bz cge (il 1))
noncomputable def wX8_nextStages_1 : Sx := (sseq (sseq (sif (band (bz cne (cvz 7 DX8_runs (rl 0) (ai (il 1) anil))) (bc clt (iald (fgr 7 20 (rl 0)) (il 1)) (ik 2))) (sseq (aoi (· + ·) (fgr 7 20 (rl 0)) (il 1) (ik 1)) (sret (ik 1))) snop) (aii (fgr 7 20 (rl 0)) (il 1) (ik 0))) (sinc 1 (-1)))
noncomputable def EX8_nextStages : Sx := (sseq (scut 1 (sseq (ssi 1 (i2 (· - ·) (iald (fgr 7 3 (rl 0)) (ik 2)) (ik 1))) (swh qX8_nextStages_1 wX8_nextStages_1))) (sret (ik 0)))
noncomputable def DX8_nextStages : Fz := mfz 2 EX8_nextStages
set_option maxRecDepth 4000 in
theorem BX8_nextStages : Vs RX8 cX8_nextStages 2 (rmk 2 41) 0 0 EX8_nextStages := (v_seq (v_cut (n := 1) (v_seq (v_istore_n (i := 1) (v_isub (v_iald (v_gfr kX8 lk998 (by decide) rfl (v_aload_n (i := 0) dX8_nextStages_0 rfl (rfl : 0 + 1 = 1)) dX8_nextStages_1 (rfl : 1 + 3 = 4)) (v_iconst (v := 2) dX8_nextStages_4 (by decide) (rfl : 4 + 1 = 5)) dX8_nextStages_5 (rfl : 5 + 1 = 6)) (v_iconst (v := 1) dX8_nextStages_6 (by decide) (rfl : 6 + 1 = 7)) dX8_nextStages_7 (rfl : 7 + 1 = 8)) dX8_nextStages_8 rfl (by decide) (rfl : 8 + 1 = 9)) (v_wh (v_zge_f (v_iload_n (i := 1) dX8_nextStages_9 rfl (rfl : 9 + 1 = 10)) dX8_nextStages_10 (rfl : ((10 : Nat) : Int) + 46 = ((56 : Nat) : Int)) (rfl : 10 + 3 = 13)) (vs_goto (v_seq (v_seq (v_if (v_and (v_zne_f (v_cvz kX8 IX8_runs hX8_runs lk1273 ⟨by decide, by decide⟩ (by decide) (v_aload_n (i := 0) dX8_nextStages_13 rfl (rfl : 13 + 1 = 14)) (v_ai (v_iload_n (i := 1) dX8_nextStages_14 rfl (rfl : 14 + 1 = 15)) v_anil) dX8_nextStages_15 (rfl : 15 + 3 = 18)) dX8_nextStages_18 (rfl : ((18 : Nat) : Int) + 25 = ((43 : Nat) : Int)) (rfl : 18 + 3 = 21)) (v_ilt_f (v_iald (v_gfr kX8 lk1015 (by decide) rfl (v_aload_n (i := 0) dX8_nextStages_21 rfl (rfl : 21 + 1 = 22)) dX8_nextStages_22 (rfl : 22 + 3 = 25)) (v_iload_n (i := 1) dX8_nextStages_25 rfl (rfl : 25 + 1 = 26)) dX8_nextStages_26 (rfl : 26 + 1 = 27)) (v_iconst (v := 2) dX8_nextStages_27 (by decide) (rfl : 27 + 1 = 28)) dX8_nextStages_28 (rfl : ((28 : Nat) : Int) + 15 = ((43 : Nat) : Int)) (rfl : 28 + 3 = 31))) (v_seq (v_aoi_iadd (v_gfr kX8 lk1015 (by decide) rfl (v_aload_n (i := 0) dX8_nextStages_31 rfl (rfl : 31 + 1 = 32)) dX8_nextStages_32 (rfl : 32 + 3 = 35)) (v_iload_n (i := 1) dX8_nextStages_35 rfl (rfl : 35 + 1 = 36)) dX8_nextStages_36 dX8_nextStages_37 (rfl : 36 + 1 + 1 = 38) (v_iconst (v := 1) dX8_nextStages_38 (by decide) (rfl : 38 + 1 = 39)) dX8_nextStages_39 dX8_nextStages_40 (rfl : 39 + 1 + 1 = 41)) (v_ret (v_iconst (v := 1) dX8_nextStages_41 (by decide) (rfl : 41 + 1 = 42)) dX8_nextStages_42)) v_nop) (v_aii (v_gfr kX8 lk1015 (by decide) rfl (v_aload_n (i := 0) dX8_nextStages_43 rfl (rfl : 43 + 1 = 44)) dX8_nextStages_44 (rfl : 44 + 3 = 47)) (v_iload_n (i := 1) dX8_nextStages_47 rfl (rfl : 47 + 1 = 48)) (v_iconst (v := 0) dX8_nextStages_48 (by decide) (rfl : 48 + 1 = 49)) dX8_nextStages_49 (rfl : 49 + 1 = 50))) (v_iinc (v := (-1)) dX8_nextStages_50 (by decide) (by decide) (rfl : 50 + 3 = 53))) dX8_nextStages_53 (rfl : ((53 : Nat) : Int) + (-44) = ((9 : Nat) : Int)))))) (v_ret (v_iconst (v := 0) dX8_nextStages_56 (by decide) (rfl : 56 + 1 = 57)) dX8_nextStages_57))
theorem IX8_nextStages : Mz yX8_nextStages cX8_nextStages 2 (rmk 2 41) DX8_nextStages := mk_z (by decide +kernel) BX8_nextStages

theorem dX8_two_0 : decode cX8_two 0 = .ok (.aload_n 0, 1) := by decide +kernel
theorem dX8_two_1 : decode cX8_two 1 = .ok (.getfield 42, 3) := by decide +kernel
theorem dX8_two_4 : decode cX8_two 4 = .ok (.iconst 4, 1) := by decide +kernel
theorem dX8_two_5 : decode cX8_two 5 = .ok (.iload_n 1, 1) := by decide +kernel
theorem dX8_two_6 : decode cX8_two 6 = .ok (.imul, 1) := by decide +kernel
theorem dX8_two_7 : decode cX8_two 7 = .ok (.iload_n 2, 1) := by decide +kernel
theorem dX8_two_8 : decode cX8_two 8 = .ok (.iadd, 1) := by decide +kernel
theorem dX8_two_9 : decode cX8_two 9 = .ok (.laload, 1) := by decide +kernel
theorem dX8_two_10 : decode cX8_two 10 = .ok (.aload_n 0, 1) := by decide +kernel
theorem dX8_two_11 : decode cX8_two 11 = .ok (.getfield 42, 3) := by decide +kernel
theorem dX8_two_14 : decode cX8_two 14 = .ok (.iconst 4, 1) := by decide +kernel
theorem dX8_two_15 : decode cX8_two 15 = .ok (.iload_n 1, 1) := by decide +kernel
theorem dX8_two_16 : decode cX8_two 16 = .ok (.imul, 1) := by decide +kernel
theorem dX8_two_17 : decode cX8_two 17 = .ok (.iconst 4, 1) := by decide +kernel
theorem dX8_two_18 : decode cX8_two 18 = .ok (.iadd, 1) := by decide +kernel
theorem dX8_two_19 : decode cX8_two 19 = .ok (.iload_n 3, 1) := by decide +kernel
theorem dX8_two_20 : decode cX8_two 20 = .ok (.iadd, 1) := by decide +kernel
theorem dX8_two_21 : decode cX8_two 21 = .ok (.laload, 1) := by decide +kernel
theorem dX8_two_22 : decode cX8_two 22 = .ok (.lmul, 1) := by decide +kernel
theorem dX8_two_23 : decode cX8_two 23 = .ok (.aload_n 0, 1) := by decide +kernel
theorem dX8_two_24 : decode cX8_two 24 = .ok (.getfield 42, 3) := by decide +kernel
theorem dX8_two_27 : decode cX8_two 27 = .ok (.iconst 4, 1) := by decide +kernel
theorem dX8_two_28 : decode cX8_two 28 = .ok (.iload_n 1, 1) := by decide +kernel
theorem dX8_two_29 : decode cX8_two 29 = .ok (.imul, 1) := by decide +kernel
theorem dX8_two_30 : decode cX8_two 30 = .ok (.iload_n 3, 1) := by decide +kernel
theorem dX8_two_31 : decode cX8_two 31 = .ok (.iadd, 1) := by decide +kernel
theorem dX8_two_32 : decode cX8_two 32 = .ok (.laload, 1) := by decide +kernel
theorem dX8_two_33 : decode cX8_two 33 = .ok (.aload_n 0, 1) := by decide +kernel
theorem dX8_two_34 : decode cX8_two 34 = .ok (.getfield 42, 3) := by decide +kernel
theorem dX8_two_37 : decode cX8_two 37 = .ok (.iconst 4, 1) := by decide +kernel
theorem dX8_two_38 : decode cX8_two 38 = .ok (.iload_n 1, 1) := by decide +kernel
theorem dX8_two_39 : decode cX8_two 39 = .ok (.imul, 1) := by decide +kernel
theorem dX8_two_40 : decode cX8_two 40 = .ok (.iconst 4, 1) := by decide +kernel
theorem dX8_two_41 : decode cX8_two 41 = .ok (.iadd, 1) := by decide +kernel
theorem dX8_two_42 : decode cX8_two 42 = .ok (.iload_n 2, 1) := by decide +kernel
theorem dX8_two_43 : decode cX8_two 43 = .ok (.iadd, 1) := by decide +kernel
theorem dX8_two_44 : decode cX8_two 44 = .ok (.laload, 1) := by decide +kernel
theorem dX8_two_45 : decode cX8_two 45 = .ok (.lmul, 1) := by decide +kernel
theorem dX8_two_46 : decode cX8_two 46 = .ok (.lsub, 1) := by decide +kernel
theorem dX8_two_47 : decode cX8_two 47 = .ok (.lreturn, 1) := by decide +kernel
noncomputable def EX8_two : Sx := (sretj (j2 (· - ·) (j2 (· * ·) (jald (fgr 7 13 (rl 0)) (i2 (· + ·) (i2 (· * ·) (ik 4) (il 1)) (il 2))) (jald (fgr 7 13 (rl 0)) (i2 (· + ·) (i2 (· + ·) (i2 (· * ·) (ik 4) (il 1)) (ik 4)) (il 3)))) (j2 (· * ·) (jald (fgr 7 13 (rl 0)) (i2 (· + ·) (i2 (· * ·) (ik 4) (il 1)) (il 3))) (jald (fgr 7 13 (rl 0)) (i2 (· + ·) (i2 (· + ·) (i2 (· * ·) (ik 4) (il 1)) (ik 4)) (il 2))))))
noncomputable def DX8_two : Fj := mfj 4 EX8_two
set_option maxRecDepth 4000 in
theorem BX8_two : Vs RX8 cX8_two 4 (rmk 0 0) 0 0 EX8_two := (v_retj (v_lsub (v_lmul (v_jald (v_gfr kX8 lk1008 (by decide) rfl (v_aload_n (i := 0) dX8_two_0 rfl (rfl : 0 + 1 = 1)) dX8_two_1 (rfl : 1 + 3 = 4)) (v_iadd (v_imul (v_iconst (v := 4) dX8_two_4 (by decide) (rfl : 4 + 1 = 5)) (v_iload_n (i := 1) dX8_two_5 rfl (rfl : 5 + 1 = 6)) dX8_two_6 (rfl : 6 + 1 = 7)) (v_iload_n (i := 2) dX8_two_7 rfl (rfl : 7 + 1 = 8)) dX8_two_8 (rfl : 8 + 1 = 9)) dX8_two_9 (rfl : 9 + 1 = 10)) (v_jald (v_gfr kX8 lk1008 (by decide) rfl (v_aload_n (i := 0) dX8_two_10 rfl (rfl : 10 + 1 = 11)) dX8_two_11 (rfl : 11 + 3 = 14)) (v_iadd (v_iadd (v_imul (v_iconst (v := 4) dX8_two_14 (by decide) (rfl : 14 + 1 = 15)) (v_iload_n (i := 1) dX8_two_15 rfl (rfl : 15 + 1 = 16)) dX8_two_16 (rfl : 16 + 1 = 17)) (v_iconst (v := 4) dX8_two_17 (by decide) (rfl : 17 + 1 = 18)) dX8_two_18 (rfl : 18 + 1 = 19)) (v_iload_n (i := 3) dX8_two_19 rfl (rfl : 19 + 1 = 20)) dX8_two_20 (rfl : 20 + 1 = 21)) dX8_two_21 (rfl : 21 + 1 = 22)) dX8_two_22 (rfl : 22 + 1 = 23)) (v_lmul (v_jald (v_gfr kX8 lk1008 (by decide) rfl (v_aload_n (i := 0) dX8_two_23 rfl (rfl : 23 + 1 = 24)) dX8_two_24 (rfl : 24 + 3 = 27)) (v_iadd (v_imul (v_iconst (v := 4) dX8_two_27 (by decide) (rfl : 27 + 1 = 28)) (v_iload_n (i := 1) dX8_two_28 rfl (rfl : 28 + 1 = 29)) dX8_two_29 (rfl : 29 + 1 = 30)) (v_iload_n (i := 3) dX8_two_30 rfl (rfl : 30 + 1 = 31)) dX8_two_31 (rfl : 31 + 1 = 32)) dX8_two_32 (rfl : 32 + 1 = 33)) (v_jald (v_gfr kX8 lk1008 (by decide) rfl (v_aload_n (i := 0) dX8_two_33 rfl (rfl : 33 + 1 = 34)) dX8_two_34 (rfl : 34 + 3 = 37)) (v_iadd (v_iadd (v_imul (v_iconst (v := 4) dX8_two_37 (by decide) (rfl : 37 + 1 = 38)) (v_iload_n (i := 1) dX8_two_38 rfl (rfl : 38 + 1 = 39)) dX8_two_39 (rfl : 39 + 1 = 40)) (v_iconst (v := 4) dX8_two_40 (by decide) (rfl : 40 + 1 = 41)) dX8_two_41 (rfl : 41 + 1 = 42)) (v_iload_n (i := 2) dX8_two_42 rfl (rfl : 42 + 1 = 43)) dX8_two_43 (rfl : 43 + 1 = 44)) dX8_two_44 (rfl : 44 + 1 = 45)) dX8_two_45 (rfl : 45 + 1 = 46)) dX8_two_46 (rfl : 46 + 1 = 47)) dX8_two_47)
theorem IX8_two : Mj yX8_two cX8_two 4 (rmk 0 0) DX8_two := mk_j (by decide +kernel) BX8_two

theorem dX8_four_0 : decode cX8_four 0 = .ok (.aload_n 0, 1) := by decide +kernel
theorem dX8_four_1 : decode cX8_four 1 = .ok (.iconst 0, 1) := by decide +kernel
theorem dX8_four_2 : decode cX8_four 2 = .ok (.iconst 0, 1) := by decide +kernel
theorem dX8_four_3 : decode cX8_four 3 = .ok (.iconst 1, 1) := by decide +kernel
theorem dX8_four_4 : decode cX8_four 4 = .ok (.invokevirtual 180, 3) := by decide +kernel
theorem dX8_four_7 : decode cX8_four 7 = .ok (.aload_n 0, 1) := by decide +kernel
theorem dX8_four_8 : decode cX8_four 8 = .ok (.iconst 2, 1) := by decide +kernel
theorem dX8_four_9 : decode cX8_four 9 = .ok (.iconst 2, 1) := by decide +kernel
theorem dX8_four_10 : decode cX8_four 10 = .ok (.iconst 3, 1) := by decide +kernel
theorem dX8_four_11 : decode cX8_four 11 = .ok (.invokevirtual 180, 3) := by decide +kernel
theorem dX8_four_14 : decode cX8_four 14 = .ok (.lmul, 1) := by decide +kernel
theorem dX8_four_15 : decode cX8_four 15 = .ok (.aload_n 0, 1) := by decide +kernel
theorem dX8_four_16 : decode cX8_four 16 = .ok (.iconst 0, 1) := by decide +kernel
theorem dX8_four_17 : decode cX8_four 17 = .ok (.iconst 0, 1) := by decide +kernel
theorem dX8_four_18 : decode cX8_four 18 = .ok (.iconst 2, 1) := by decide +kernel
theorem dX8_four_19 : decode cX8_four 19 = .ok (.invokevirtual 180, 3) := by decide +kernel
theorem dX8_four_22 : decode cX8_four 22 = .ok (.aload_n 0, 1) := by decide +kernel
theorem dX8_four_23 : decode cX8_four 23 = .ok (.iconst 2, 1) := by decide +kernel
theorem dX8_four_24 : decode cX8_four 24 = .ok (.iconst 1, 1) := by decide +kernel
theorem dX8_four_25 : decode cX8_four 25 = .ok (.iconst 3, 1) := by decide +kernel
theorem dX8_four_26 : decode cX8_four 26 = .ok (.invokevirtual 180, 3) := by decide +kernel
theorem dX8_four_29 : decode cX8_four 29 = .ok (.lmul, 1) := by decide +kernel
theorem dX8_four_30 : decode cX8_four 30 = .ok (.lsub, 1) := by decide +kernel
theorem dX8_four_31 : decode cX8_four 31 = .ok (.aload_n 0, 1) := by decide +kernel
theorem dX8_four_32 : decode cX8_four 32 = .ok (.iconst 0, 1) := by decide +kernel
theorem dX8_four_33 : decode cX8_four 33 = .ok (.iconst 0, 1) := by decide +kernel
theorem dX8_four_34 : decode cX8_four 34 = .ok (.iconst 3, 1) := by decide +kernel
theorem dX8_four_35 : decode cX8_four 35 = .ok (.invokevirtual 180, 3) := by decide +kernel
theorem dX8_four_38 : decode cX8_four 38 = .ok (.aload_n 0, 1) := by decide +kernel
theorem dX8_four_39 : decode cX8_four 39 = .ok (.iconst 2, 1) := by decide +kernel
theorem dX8_four_40 : decode cX8_four 40 = .ok (.iconst 1, 1) := by decide +kernel
theorem dX8_four_41 : decode cX8_four 41 = .ok (.iconst 2, 1) := by decide +kernel
theorem dX8_four_42 : decode cX8_four 42 = .ok (.invokevirtual 180, 3) := by decide +kernel
theorem dX8_four_45 : decode cX8_four 45 = .ok (.lmul, 1) := by decide +kernel
theorem dX8_four_46 : decode cX8_four 46 = .ok (.ladd, 1) := by decide +kernel
theorem dX8_four_47 : decode cX8_four 47 = .ok (.aload_n 0, 1) := by decide +kernel
theorem dX8_four_48 : decode cX8_four 48 = .ok (.iconst 0, 1) := by decide +kernel
theorem dX8_four_49 : decode cX8_four 49 = .ok (.iconst 1, 1) := by decide +kernel
theorem dX8_four_50 : decode cX8_four 50 = .ok (.iconst 2, 1) := by decide +kernel
theorem dX8_four_51 : decode cX8_four 51 = .ok (.invokevirtual 180, 3) := by decide +kernel
theorem dX8_four_54 : decode cX8_four 54 = .ok (.aload_n 0, 1) := by decide +kernel
theorem dX8_four_55 : decode cX8_four 55 = .ok (.iconst 2, 1) := by decide +kernel
theorem dX8_four_56 : decode cX8_four 56 = .ok (.iconst 0, 1) := by decide +kernel
theorem dX8_four_57 : decode cX8_four 57 = .ok (.iconst 3, 1) := by decide +kernel
theorem dX8_four_58 : decode cX8_four 58 = .ok (.invokevirtual 180, 3) := by decide +kernel
theorem dX8_four_61 : decode cX8_four 61 = .ok (.lmul, 1) := by decide +kernel
theorem dX8_four_62 : decode cX8_four 62 = .ok (.ladd, 1) := by decide +kernel
theorem dX8_four_63 : decode cX8_four 63 = .ok (.aload_n 0, 1) := by decide +kernel
theorem dX8_four_64 : decode cX8_four 64 = .ok (.iconst 0, 1) := by decide +kernel
theorem dX8_four_65 : decode cX8_four 65 = .ok (.iconst 1, 1) := by decide +kernel
theorem dX8_four_66 : decode cX8_four 66 = .ok (.iconst 3, 1) := by decide +kernel
theorem dX8_four_67 : decode cX8_four 67 = .ok (.invokevirtual 180, 3) := by decide +kernel
theorem dX8_four_70 : decode cX8_four 70 = .ok (.aload_n 0, 1) := by decide +kernel
theorem dX8_four_71 : decode cX8_four 71 = .ok (.iconst 2, 1) := by decide +kernel
theorem dX8_four_72 : decode cX8_four 72 = .ok (.iconst 0, 1) := by decide +kernel
theorem dX8_four_73 : decode cX8_four 73 = .ok (.iconst 2, 1) := by decide +kernel
theorem dX8_four_74 : decode cX8_four 74 = .ok (.invokevirtual 180, 3) := by decide +kernel
theorem dX8_four_77 : decode cX8_four 77 = .ok (.lmul, 1) := by decide +kernel
theorem dX8_four_78 : decode cX8_four 78 = .ok (.lsub, 1) := by decide +kernel
theorem dX8_four_79 : decode cX8_four 79 = .ok (.aload_n 0, 1) := by decide +kernel
theorem dX8_four_80 : decode cX8_four 80 = .ok (.iconst 0, 1) := by decide +kernel
theorem dX8_four_81 : decode cX8_four 81 = .ok (.iconst 2, 1) := by decide +kernel
theorem dX8_four_82 : decode cX8_four 82 = .ok (.iconst 3, 1) := by decide +kernel
theorem dX8_four_83 : decode cX8_four 83 = .ok (.invokevirtual 180, 3) := by decide +kernel
theorem dX8_four_86 : decode cX8_four 86 = .ok (.aload_n 0, 1) := by decide +kernel
theorem dX8_four_87 : decode cX8_four 87 = .ok (.iconst 2, 1) := by decide +kernel
theorem dX8_four_88 : decode cX8_four 88 = .ok (.iconst 0, 1) := by decide +kernel
theorem dX8_four_89 : decode cX8_four 89 = .ok (.iconst 1, 1) := by decide +kernel
theorem dX8_four_90 : decode cX8_four 90 = .ok (.invokevirtual 180, 3) := by decide +kernel
theorem dX8_four_93 : decode cX8_four 93 = .ok (.lmul, 1) := by decide +kernel
theorem dX8_four_94 : decode cX8_four 94 = .ok (.ladd, 1) := by decide +kernel
theorem dX8_four_95 : decode cX8_four 95 = .ok (.lreturn, 1) := by decide +kernel
noncomputable def EX8_four : Sx := (sretj (j2 (· + ·) (j2 (· - ·) (j2 (· + ·) (j2 (· + ·) (j2 (· - ·) (j2 (· * ·) (cvj 7 DX8_two (rl 0) (ai (ik 0) (ai (ik 0) (ai (ik 1) anil)))) (cvj 7 DX8_two (rl 0) (ai (ik 2) (ai (ik 2) (ai (ik 3) anil))))) (j2 (· * ·) (cvj 7 DX8_two (rl 0) (ai (ik 0) (ai (ik 0) (ai (ik 2) anil)))) (cvj 7 DX8_two (rl 0) (ai (ik 2) (ai (ik 1) (ai (ik 3) anil)))))) (j2 (· * ·) (cvj 7 DX8_two (rl 0) (ai (ik 0) (ai (ik 0) (ai (ik 3) anil)))) (cvj 7 DX8_two (rl 0) (ai (ik 2) (ai (ik 1) (ai (ik 2) anil)))))) (j2 (· * ·) (cvj 7 DX8_two (rl 0) (ai (ik 0) (ai (ik 1) (ai (ik 2) anil)))) (cvj 7 DX8_two (rl 0) (ai (ik 2) (ai (ik 0) (ai (ik 3) anil)))))) (j2 (· * ·) (cvj 7 DX8_two (rl 0) (ai (ik 0) (ai (ik 1) (ai (ik 3) anil)))) (cvj 7 DX8_two (rl 0) (ai (ik 2) (ai (ik 0) (ai (ik 2) anil)))))) (j2 (· * ·) (cvj 7 DX8_two (rl 0) (ai (ik 0) (ai (ik 2) (ai (ik 3) anil)))) (cvj 7 DX8_two (rl 0) (ai (ik 2) (ai (ik 0) (ai (ik 1) anil)))))))
noncomputable def DX8_four : Fj := mfj 1 EX8_four
set_option maxRecDepth 4000 in
theorem BX8_four : Vs RX8 cX8_four 1 (rmk 1 23) 0 0 EX8_four := (v_retj (v_ladd (v_lsub (v_ladd (v_ladd (v_lsub (v_lmul (v_cvj kX8 IX8_two hX8_two lk1293 ⟨by decide, by decide⟩ (by decide) (v_aload_n (i := 0) dX8_four_0 rfl (rfl : 0 + 1 = 1)) (v_ai (v_iconst (v := 0) dX8_four_1 (by decide) (rfl : 1 + 1 = 2)) (v_ai (v_iconst (v := 0) dX8_four_2 (by decide) (rfl : 2 + 1 = 3)) (v_ai (v_iconst (v := 1) dX8_four_3 (by decide) (rfl : 3 + 1 = 4)) v_anil))) dX8_four_4 (rfl : 4 + 3 = 7)) (v_cvj kX8 IX8_two hX8_two lk1293 ⟨by decide, by decide⟩ (by decide) (v_aload_n (i := 0) dX8_four_7 rfl (rfl : 7 + 1 = 8)) (v_ai (v_iconst (v := 2) dX8_four_8 (by decide) (rfl : 8 + 1 = 9)) (v_ai (v_iconst (v := 2) dX8_four_9 (by decide) (rfl : 9 + 1 = 10)) (v_ai (v_iconst (v := 3) dX8_four_10 (by decide) (rfl : 10 + 1 = 11)) v_anil))) dX8_four_11 (rfl : 11 + 3 = 14)) dX8_four_14 (rfl : 14 + 1 = 15)) (v_lmul (v_cvj kX8 IX8_two hX8_two lk1293 ⟨by decide, by decide⟩ (by decide) (v_aload_n (i := 0) dX8_four_15 rfl (rfl : 15 + 1 = 16)) (v_ai (v_iconst (v := 0) dX8_four_16 (by decide) (rfl : 16 + 1 = 17)) (v_ai (v_iconst (v := 0) dX8_four_17 (by decide) (rfl : 17 + 1 = 18)) (v_ai (v_iconst (v := 2) dX8_four_18 (by decide) (rfl : 18 + 1 = 19)) v_anil))) dX8_four_19 (rfl : 19 + 3 = 22)) (v_cvj kX8 IX8_two hX8_two lk1293 ⟨by decide, by decide⟩ (by decide) (v_aload_n (i := 0) dX8_four_22 rfl (rfl : 22 + 1 = 23)) (v_ai (v_iconst (v := 2) dX8_four_23 (by decide) (rfl : 23 + 1 = 24)) (v_ai (v_iconst (v := 1) dX8_four_24 (by decide) (rfl : 24 + 1 = 25)) (v_ai (v_iconst (v := 3) dX8_four_25 (by decide) (rfl : 25 + 1 = 26)) v_anil))) dX8_four_26 (rfl : 26 + 3 = 29)) dX8_four_29 (rfl : 29 + 1 = 30)) dX8_four_30 (rfl : 30 + 1 = 31)) (v_lmul (v_cvj kX8 IX8_two hX8_two lk1293 ⟨by decide, by decide⟩ (by decide) (v_aload_n (i := 0) dX8_four_31 rfl (rfl : 31 + 1 = 32)) (v_ai (v_iconst (v := 0) dX8_four_32 (by decide) (rfl : 32 + 1 = 33)) (v_ai (v_iconst (v := 0) dX8_four_33 (by decide) (rfl : 33 + 1 = 34)) (v_ai (v_iconst (v := 3) dX8_four_34 (by decide) (rfl : 34 + 1 = 35)) v_anil))) dX8_four_35 (rfl : 35 + 3 = 38)) (v_cvj kX8 IX8_two hX8_two lk1293 ⟨by decide, by decide⟩ (by decide) (v_aload_n (i := 0) dX8_four_38 rfl (rfl : 38 + 1 = 39)) (v_ai (v_iconst (v := 2) dX8_four_39 (by decide) (rfl : 39 + 1 = 40)) (v_ai (v_iconst (v := 1) dX8_four_40 (by decide) (rfl : 40 + 1 = 41)) (v_ai (v_iconst (v := 2) dX8_four_41 (by decide) (rfl : 41 + 1 = 42)) v_anil))) dX8_four_42 (rfl : 42 + 3 = 45)) dX8_four_45 (rfl : 45 + 1 = 46)) dX8_four_46 (rfl : 46 + 1 = 47)) (v_lmul (v_cvj kX8 IX8_two hX8_two lk1293 ⟨by decide, by decide⟩ (by decide) (v_aload_n (i := 0) dX8_four_47 rfl (rfl : 47 + 1 = 48)) (v_ai (v_iconst (v := 0) dX8_four_48 (by decide) (rfl : 48 + 1 = 49)) (v_ai (v_iconst (v := 1) dX8_four_49 (by decide) (rfl : 49 + 1 = 50)) (v_ai (v_iconst (v := 2) dX8_four_50 (by decide) (rfl : 50 + 1 = 51)) v_anil))) dX8_four_51 (rfl : 51 + 3 = 54)) (v_cvj kX8 IX8_two hX8_two lk1293 ⟨by decide, by decide⟩ (by decide) (v_aload_n (i := 0) dX8_four_54 rfl (rfl : 54 + 1 = 55)) (v_ai (v_iconst (v := 2) dX8_four_55 (by decide) (rfl : 55 + 1 = 56)) (v_ai (v_iconst (v := 0) dX8_four_56 (by decide) (rfl : 56 + 1 = 57)) (v_ai (v_iconst (v := 3) dX8_four_57 (by decide) (rfl : 57 + 1 = 58)) v_anil))) dX8_four_58 (rfl : 58 + 3 = 61)) dX8_four_61 (rfl : 61 + 1 = 62)) dX8_four_62 (rfl : 62 + 1 = 63)) (v_lmul (v_cvj kX8 IX8_two hX8_two lk1293 ⟨by decide, by decide⟩ (by decide) (v_aload_n (i := 0) dX8_four_63 rfl (rfl : 63 + 1 = 64)) (v_ai (v_iconst (v := 0) dX8_four_64 (by decide) (rfl : 64 + 1 = 65)) (v_ai (v_iconst (v := 1) dX8_four_65 (by decide) (rfl : 65 + 1 = 66)) (v_ai (v_iconst (v := 3) dX8_four_66 (by decide) (rfl : 66 + 1 = 67)) v_anil))) dX8_four_67 (rfl : 67 + 3 = 70)) (v_cvj kX8 IX8_two hX8_two lk1293 ⟨by decide, by decide⟩ (by decide) (v_aload_n (i := 0) dX8_four_70 rfl (rfl : 70 + 1 = 71)) (v_ai (v_iconst (v := 2) dX8_four_71 (by decide) (rfl : 71 + 1 = 72)) (v_ai (v_iconst (v := 0) dX8_four_72 (by decide) (rfl : 72 + 1 = 73)) (v_ai (v_iconst (v := 2) dX8_four_73 (by decide) (rfl : 73 + 1 = 74)) v_anil))) dX8_four_74 (rfl : 74 + 3 = 77)) dX8_four_77 (rfl : 77 + 1 = 78)) dX8_four_78 (rfl : 78 + 1 = 79)) (v_lmul (v_cvj kX8 IX8_two hX8_two lk1293 ⟨by decide, by decide⟩ (by decide) (v_aload_n (i := 0) dX8_four_79 rfl (rfl : 79 + 1 = 80)) (v_ai (v_iconst (v := 0) dX8_four_80 (by decide) (rfl : 80 + 1 = 81)) (v_ai (v_iconst (v := 2) dX8_four_81 (by decide) (rfl : 81 + 1 = 82)) (v_ai (v_iconst (v := 3) dX8_four_82 (by decide) (rfl : 82 + 1 = 83)) v_anil))) dX8_four_83 (rfl : 83 + 3 = 86)) (v_cvj kX8 IX8_two hX8_two lk1293 ⟨by decide, by decide⟩ (by decide) (v_aload_n (i := 0) dX8_four_86 rfl (rfl : 86 + 1 = 87)) (v_ai (v_iconst (v := 2) dX8_four_87 (by decide) (rfl : 87 + 1 = 88)) (v_ai (v_iconst (v := 0) dX8_four_88 (by decide) (rfl : 88 + 1 = 89)) (v_ai (v_iconst (v := 1) dX8_four_89 (by decide) (rfl : 89 + 1 = 90)) v_anil))) dX8_four_90 (rfl : 90 + 3 = 93)) dX8_four_93 (rfl : 93 + 1 = 94)) dX8_four_94 (rfl : 94 + 1 = 95)) dX8_four_95)
theorem IX8_four : Mj yX8_four cX8_four 1 (rmk 1 23) DX8_four := mk_j (by decide +kernel) BX8_four

theorem dX8_layCofactors_0 : decode cX8_layCofactors 0 = .ok (.iconst 0, 1) := by decide +kernel
theorem dX8_layCofactors_1 : decode cX8_layCofactors 1 = .ok (.istore_n 1, 1) := by decide +kernel
theorem dX8_layCofactors_2 : decode cX8_layCofactors 2 = .ok (.iload_n 1, 1) := by decide +kernel
theorem dX8_layCofactors_3 : decode cX8_layCofactors 3 = .ok (.iconst 5, 1) := by decide +kernel
theorem dX8_layCofactors_4 : decode cX8_layCofactors 4 = .ok (.if_icmp .ge 102, 3) := by decide +kernel
theorem dX8_layCofactors_7 : decode cX8_layCofactors 7 = .ok (.iconst 0, 1) := by decide +kernel
theorem dX8_layCofactors_8 : decode cX8_layCofactors 8 = .ok (.istore_n 2, 1) := by decide +kernel
theorem dX8_layCofactors_9 : decode cX8_layCofactors 9 = .ok (.iload_n 2, 1) := by decide +kernel
theorem dX8_layCofactors_10 : decode cX8_layCofactors 10 = .ok (.iconst 5, 1) := by decide +kernel
theorem dX8_layCofactors_11 : decode cX8_layCofactors 11 = .ok (.if_icmp .ge 89, 3) := by decide +kernel
theorem dX8_layCofactors_14 : decode cX8_layCofactors 14 = .ok (.iconst 0, 1) := by decide +kernel
theorem dX8_layCofactors_15 : decode cX8_layCofactors 15 = .ok (.istore_n 3, 1) := by decide +kernel
theorem dX8_layCofactors_16 : decode cX8_layCofactors 16 = .ok (.iconst 0, 1) := by decide +kernel
theorem dX8_layCofactors_17 : decode cX8_layCofactors 17 = .ok (.istore 4, 2) := by decide +kernel
theorem dX8_layCofactors_19 : decode cX8_layCofactors 19 = .ok (.iload 4, 2) := by decide +kernel
theorem dX8_layCofactors_21 : decode cX8_layCofactors 21 = .ok (.bipush 25, 2) := by decide +kernel
theorem dX8_layCofactors_23 : decode cX8_layCofactors 23 = .ok (.if_icmp .ge 41, 3) := by decide +kernel
theorem dX8_layCofactors_26 : decode cX8_layCofactors 26 = .ok (.iload 4, 2) := by decide +kernel
theorem dX8_layCofactors_28 : decode cX8_layCofactors 28 = .ok (.iconst 5, 1) := by decide +kernel
theorem dX8_layCofactors_29 : decode cX8_layCofactors 29 = .ok (.idiv, 1) := by decide +kernel
theorem dX8_layCofactors_30 : decode cX8_layCofactors 30 = .ok (.iload_n 1, 1) := by decide +kernel
theorem dX8_layCofactors_31 : decode cX8_layCofactors 31 = .ok (.if_icmp .eq 27, 3) := by decide +kernel
theorem dX8_layCofactors_34 : decode cX8_layCofactors 34 = .ok (.iload 4, 2) := by decide +kernel
theorem dX8_layCofactors_36 : decode cX8_layCofactors 36 = .ok (.iconst 5, 1) := by decide +kernel
theorem dX8_layCofactors_37 : decode cX8_layCofactors 37 = .ok (.irem, 1) := by decide +kernel
theorem dX8_layCofactors_38 : decode cX8_layCofactors 38 = .ok (.iload_n 2, 1) := by decide +kernel
theorem dX8_layCofactors_39 : decode cX8_layCofactors 39 = .ok (.if_icmp .eq 19, 3) := by decide +kernel
theorem dX8_layCofactors_42 : decode cX8_layCofactors 42 = .ok (.aload_n 0, 1) := by decide +kernel
theorem dX8_layCofactors_43 : decode cX8_layCofactors 43 = .ok (.getfield 42, 3) := by decide +kernel
theorem dX8_layCofactors_46 : decode cX8_layCofactors 46 = .ok (.iload_n 3, 1) := by decide +kernel
theorem dX8_layCofactors_47 : decode cX8_layCofactors 47 = .ok (.aload_n 0, 1) := by decide +kernel
theorem dX8_layCofactors_48 : decode cX8_layCofactors 48 = .ok (.getfield 35, 3) := by decide +kernel
theorem dX8_layCofactors_51 : decode cX8_layCofactors 51 = .ok (.iload 4, 2) := by decide +kernel
theorem dX8_layCofactors_53 : decode cX8_layCofactors 53 = .ok (.laload, 1) := by decide +kernel
theorem dX8_layCofactors_54 : decode cX8_layCofactors 54 = .ok (.lastore, 1) := by decide +kernel
theorem dX8_layCofactors_55 : decode cX8_layCofactors 55 = .ok (.iinc 3 1, 3) := by decide +kernel
theorem dX8_layCofactors_58 : decode cX8_layCofactors 58 = .ok (.iinc 4 1, 3) := by decide +kernel
theorem dX8_layCofactors_61 : decode cX8_layCofactors 61 = .ok (.goto (-42), 3) := by decide +kernel
theorem dX8_layCofactors_64 : decode cX8_layCofactors 64 = .ok (.aload_n 0, 1) := by decide +kernel
theorem dX8_layCofactors_65 : decode cX8_layCofactors 65 = .ok (.getfield 39, 3) := by decide +kernel
theorem dX8_layCofactors_68 : decode cX8_layCofactors 68 = .ok (.iconst 5, 1) := by decide +kernel
theorem dX8_layCofactors_69 : decode cX8_layCofactors 69 = .ok (.iload_n 1, 1) := by decide +kernel
theorem dX8_layCofactors_70 : decode cX8_layCofactors 70 = .ok (.imul, 1) := by decide +kernel
theorem dX8_layCofactors_71 : decode cX8_layCofactors 71 = .ok (.iload_n 2, 1) := by decide +kernel
theorem dX8_layCofactors_72 : decode cX8_layCofactors 72 = .ok (.iadd, 1) := by decide +kernel
theorem dX8_layCofactors_73 : decode cX8_layCofactors 73 = .ok (.iload_n 1, 1) := by decide +kernel
theorem dX8_layCofactors_74 : decode cX8_layCofactors 74 = .ok (.iload_n 2, 1) := by decide +kernel
theorem dX8_layCofactors_75 : decode cX8_layCofactors 75 = .ok (.iadd, 1) := by decide +kernel
theorem dX8_layCofactors_76 : decode cX8_layCofactors 76 = .ok (.iconst 2, 1) := by decide +kernel
theorem dX8_layCofactors_77 : decode cX8_layCofactors 77 = .ok (.irem, 1) := by decide +kernel
theorem dX8_layCofactors_78 : decode cX8_layCofactors 78 = .ok (.ifCond .ne 10, 3) := by decide +kernel
theorem dX8_layCofactors_81 : decode cX8_layCofactors 81 = .ok (.aload_n 0, 1) := by decide +kernel
theorem dX8_layCofactors_82 : decode cX8_layCofactors 82 = .ok (.invokevirtual 184, 3) := by decide +kernel
theorem dX8_layCofactors_85 : decode cX8_layCofactors 85 = .ok (.goto 8, 3) := by decide +kernel
theorem dX8_layCofactors_88 : decode cX8_layCofactors 88 = .ok (.aload_n 0, 1) := by decide +kernel
theorem dX8_layCofactors_89 : decode cX8_layCofactors 89 = .ok (.invokevirtual 184, 3) := by decide +kernel
theorem dX8_layCofactors_92 : decode cX8_layCofactors 92 = .ok (.lneg, 1) := by decide +kernel
theorem dX8_layCofactors_93 : decode cX8_layCofactors 93 = .ok (.lastore, 1) := by decide +kernel
theorem dX8_layCofactors_94 : decode cX8_layCofactors 94 = .ok (.iinc 2 1, 3) := by decide +kernel
theorem dX8_layCofactors_97 : decode cX8_layCofactors 97 = .ok (.goto (-88), 3) := by decide +kernel
theorem dX8_layCofactors_100 : decode cX8_layCofactors 100 = .ok (.iinc 1 1, 3) := by decide +kernel
theorem dX8_layCofactors_103 : decode cX8_layCofactors 103 = .ok (.goto (-101), 3) := by decide +kernel
theorem dX8_layCofactors_106 : decode cX8_layCofactors 106 = .ok (.aload_n 0, 1) := by decide +kernel
theorem dX8_layCofactors_107 : decode cX8_layCofactors 107 = .ok (.lconst 0, 1) := by decide +kernel
theorem dX8_layCofactors_108 : decode cX8_layCofactors 108 = .ok (.putfield 188, 3) := by decide +kernel
theorem dX8_layCofactors_111 : decode cX8_layCofactors 111 = .ok (.iconst 0, 1) := by decide +kernel
theorem dX8_layCofactors_112 : decode cX8_layCofactors 112 = .ok (.istore_n 1, 1) := by decide +kernel
theorem dX8_layCofactors_113 : decode cX8_layCofactors 113 = .ok (.iload_n 1, 1) := by decide +kernel
theorem dX8_layCofactors_114 : decode cX8_layCofactors 114 = .ok (.iconst 5, 1) := by decide +kernel
theorem dX8_layCofactors_115 : decode cX8_layCofactors 115 = .ok (.if_icmp .ge 31, 3) := by decide +kernel
theorem dX8_layCofactors_118 : decode cX8_layCofactors 118 = .ok (.aload_n 0, 1) := by decide +kernel
theorem dX8_layCofactors_119 : decode cX8_layCofactors 119 = .ok (.dup, 1) := by decide +kernel
theorem dX8_layCofactors_120 : decode cX8_layCofactors 120 = .ok (.getfield 188, 3) := by decide +kernel
theorem dX8_layCofactors_123 : decode cX8_layCofactors 123 = .ok (.aload_n 0, 1) := by decide +kernel
theorem dX8_layCofactors_124 : decode cX8_layCofactors 124 = .ok (.getfield 35, 3) := by decide +kernel
theorem dX8_layCofactors_127 : decode cX8_layCofactors 127 = .ok (.iload_n 1, 1) := by decide +kernel
theorem dX8_layCofactors_128 : decode cX8_layCofactors 128 = .ok (.laload, 1) := by decide +kernel
theorem dX8_layCofactors_129 : decode cX8_layCofactors 129 = .ok (.aload_n 0, 1) := by decide +kernel
theorem dX8_layCofactors_130 : decode cX8_layCofactors 130 = .ok (.getfield 39, 3) := by decide +kernel
theorem dX8_layCofactors_133 : decode cX8_layCofactors 133 = .ok (.iload_n 1, 1) := by decide +kernel
theorem dX8_layCofactors_134 : decode cX8_layCofactors 134 = .ok (.laload, 1) := by decide +kernel
theorem dX8_layCofactors_135 : decode cX8_layCofactors 135 = .ok (.lmul, 1) := by decide +kernel
theorem dX8_layCofactors_136 : decode cX8_layCofactors 136 = .ok (.ladd, 1) := by decide +kernel
theorem dX8_layCofactors_137 : decode cX8_layCofactors 137 = .ok (.putfield 188, 3) := by decide +kernel
theorem dX8_layCofactors_140 : decode cX8_layCofactors 140 = .ok (.iinc 1 1, 3) := by decide +kernel
theorem dX8_layCofactors_143 : decode cX8_layCofactors 143 = .ok (.goto (-30), 3) := by decide +kernel
theorem dX8_layCofactors_146 : decode cX8_layCofactors 146 = .ok (.return_, 1) := by decide +kernel
noncomputable def qX8_layCofactors_1 : Bx := (bc clt (il 4) (ik 25))
noncomputable def wX8_layCofactors_1 : Sx := (sseq (sif (band (bc cne (i2d (· / ·) (il 4) (ik 5)) (il 1)) (bc cne (i2d orem (il 4) (ik 5)) (il 2))) (sseq (aij (fgr 7 13 (rl 0)) (il 3) (jald (fgr 7 11 (rl 0)) (il 4))) (sinc 3 1)) snop) (sinc 4 1))
noncomputable def qX8_layCofactors_2 : Bx := (bc clt (il 2) (ik 5))
noncomputable def wX8_layCofactors_2 : Sx := (sseq (scut 3 (sseq (ssi 3 (ik 0)) (sseq (scut 4 (sseq (ssi 4 (ik 0)) (swh qX8_layCofactors_1 wX8_layCofactors_1))) (aij (fgr 7 12 (rl 0)) (i2 (· + ·) (i2 (· * ·) (ik 5) (il 1)) (il 2)) (jc (bz ceq (i2d orem (i2 (· + ·) (il 1) (il 2)) (ik 2))) (cvj 7 DX8_four (rl 0) anil) (j1 (fun x => -x) (cvj 7 DX8_four (rl 0) anil))))))) (sinc 2 1))
noncomputable def qX8_layCofactors_3 : Bx := (bc clt (il 1) (ik 5))
noncomputable def wX8_layCofactors_3 : Sx := (sseq (scut 2 (sseq (ssi 2 (ik 0)) (swh qX8_layCofactors_2 wX8_layCofactors_2))) (sinc 1 1))
noncomputable def qX8_layCofactors_4 : Bx := (bc clt (il 1) (ik 5))
noncomputable def wX8_layCofactors_4 : Sx := (sseq (foj (· + ·) 7 14 (rl 0) (j2 (· * ·) (jald (fgr 7 11 (rl 0)) (il 1)) (jald (fgr 7 12 (rl 0)) (il 1)))) (sinc 1 1))
noncomputable def EX8_layCofactors : Sx := (sseq (sseq (scut 1 (sseq (ssi 1 (ik 0)) (swh qX8_layCofactors_3 wX8_layCofactors_3))) (sseq (fpj 7 14 (rl 0) (jk 0)) (scut 1 (sseq (ssi 1 (ik 0)) (swh qX8_layCofactors_4 wX8_layCofactors_4))))) sretv)
noncomputable def DX8_layCofactors : Fu := mfv 5 EX8_layCofactors
set_option maxRecDepth 4000 in
theorem BX8_layCofactors : Vs RX8 cX8_layCofactors 5 (rmk 2 43) 0 0 EX8_layCofactors := (v_seq (v_seq (v_cut (n := 1) (v_seq (v_istore_n (i := 1) (v_iconst (v := 0) dX8_layCofactors_0 (by decide) (rfl : 0 + 1 = 1)) dX8_layCofactors_1 rfl (by decide) (rfl : 1 + 1 = 2)) (v_wh (v_ilt_f (v_iload_n (i := 1) dX8_layCofactors_2 rfl (rfl : 2 + 1 = 3)) (v_iconst (v := 5) dX8_layCofactors_3 (by decide) (rfl : 3 + 1 = 4)) dX8_layCofactors_4 (rfl : ((4 : Nat) : Int) + 102 = ((106 : Nat) : Int)) (rfl : 4 + 3 = 7)) (vs_goto (v_seq (v_cut (n := 2) (v_seq (v_istore_n (i := 2) (v_iconst (v := 0) dX8_layCofactors_7 (by decide) (rfl : 7 + 1 = 8)) dX8_layCofactors_8 rfl (by decide) (rfl : 8 + 1 = 9)) (v_wh (v_ilt_f (v_iload_n (i := 2) dX8_layCofactors_9 rfl (rfl : 9 + 1 = 10)) (v_iconst (v := 5) dX8_layCofactors_10 (by decide) (rfl : 10 + 1 = 11)) dX8_layCofactors_11 (rfl : ((11 : Nat) : Int) + 89 = ((100 : Nat) : Int)) (rfl : 11 + 3 = 14)) (vs_goto (v_seq (v_cut (n := 3) (v_seq (v_istore_n (i := 3) (v_iconst (v := 0) dX8_layCofactors_14 (by decide) (rfl : 14 + 1 = 15)) dX8_layCofactors_15 rfl (by decide) (rfl : 15 + 1 = 16)) (v_seq (v_cut (n := 4) (v_seq (v_istore (i := 4) (v_iconst (v := 0) dX8_layCofactors_16 (by decide) (rfl : 16 + 1 = 17)) dX8_layCofactors_17 (by decide) (rfl : 17 + 2 = 19)) (v_wh (v_ilt_f (v_iload (i := 4) dX8_layCofactors_19 (rfl : 19 + 2 = 21)) (v_bipush (v := 25) dX8_layCofactors_21 (by decide) (rfl : 21 + 2 = 23)) dX8_layCofactors_23 (rfl : ((23 : Nat) : Int) + 41 = ((64 : Nat) : Int)) (rfl : 23 + 3 = 26)) (vs_goto (v_seq (v_if (v_and (v_ine_f (v_idiv (v_iload (i := 4) dX8_layCofactors_26 (rfl : 26 + 2 = 28)) (v_iconst (v := 5) dX8_layCofactors_28 (by decide) (rfl : 28 + 1 = 29)) dX8_layCofactors_29 (rfl : 29 + 1 = 30)) (v_iload_n (i := 1) dX8_layCofactors_30 rfl (rfl : 30 + 1 = 31)) dX8_layCofactors_31 (rfl : ((31 : Nat) : Int) + 27 = ((58 : Nat) : Int)) (rfl : 31 + 3 = 34)) (v_ine_f (v_irem (v_iload (i := 4) dX8_layCofactors_34 (rfl : 34 + 2 = 36)) (v_iconst (v := 5) dX8_layCofactors_36 (by decide) (rfl : 36 + 1 = 37)) dX8_layCofactors_37 (rfl : 37 + 1 = 38)) (v_iload_n (i := 2) dX8_layCofactors_38 rfl (rfl : 38 + 1 = 39)) dX8_layCofactors_39 (rfl : ((39 : Nat) : Int) + 19 = ((58 : Nat) : Int)) (rfl : 39 + 3 = 42))) (v_seq (v_aij (v_gfr kX8 lk1008 (by decide) rfl (v_aload_n (i := 0) dX8_layCofactors_42 rfl (rfl : 42 + 1 = 43)) dX8_layCofactors_43 (rfl : 43 + 3 = 46)) (v_iload_n (i := 3) dX8_layCofactors_46 rfl (rfl : 46 + 1 = 47)) (v_jald (v_gfr kX8 lk1006 (by decide) rfl (v_aload_n (i := 0) dX8_layCofactors_47 rfl (rfl : 47 + 1 = 48)) dX8_layCofactors_48 (rfl : 48 + 3 = 51)) (v_iload (i := 4) dX8_layCofactors_51 (rfl : 51 + 2 = 53)) dX8_layCofactors_53 (rfl : 53 + 1 = 54)) dX8_layCofactors_54 (rfl : 54 + 1 = 55)) (v_iinc (v := 1) dX8_layCofactors_55 (by decide) (by decide) (rfl : 55 + 3 = 58))) v_nop) (v_iinc (v := 1) dX8_layCofactors_58 (by decide) (by decide) (rfl : 58 + 3 = 61))) dX8_layCofactors_61 (rfl : ((61 : Nat) : Int) + (-42) = ((19 : Nat) : Int)))))) (v_aij (v_gfr kX8 lk1007 (by decide) rfl (v_aload_n (i := 0) dX8_layCofactors_64 rfl (rfl : 64 + 1 = 65)) dX8_layCofactors_65 (rfl : 65 + 3 = 68)) (v_iadd (v_imul (v_iconst (v := 5) dX8_layCofactors_68 (by decide) (rfl : 68 + 1 = 69)) (v_iload_n (i := 1) dX8_layCofactors_69 rfl (rfl : 69 + 1 = 70)) dX8_layCofactors_70 (rfl : 70 + 1 = 71)) (v_iload_n (i := 2) dX8_layCofactors_71 rfl (rfl : 71 + 1 = 72)) dX8_layCofactors_72 (rfl : 72 + 1 = 73)) (v_jc (v_zeq_f (v_irem (v_iadd (v_iload_n (i := 1) dX8_layCofactors_73 rfl (rfl : 73 + 1 = 74)) (v_iload_n (i := 2) dX8_layCofactors_74 rfl (rfl : 74 + 1 = 75)) dX8_layCofactors_75 (rfl : 75 + 1 = 76)) (v_iconst (v := 2) dX8_layCofactors_76 (by decide) (rfl : 76 + 1 = 77)) dX8_layCofactors_77 (rfl : 77 + 1 = 78)) dX8_layCofactors_78 (rfl : ((78 : Nat) : Int) + 10 = ((88 : Nat) : Int)) (rfl : 78 + 3 = 81)) (vj_goto (v_cvj kX8 IX8_four hX8_four lk1289 ⟨by decide, by decide⟩ (by decide) (v_aload_n (i := 0) dX8_layCofactors_81 rfl (rfl : 81 + 1 = 82)) v_anil dX8_layCofactors_82 (rfl : 82 + 3 = 85)) dX8_layCofactors_85 (rfl : ((85 : Nat) : Int) + 8 = ((93 : Nat) : Int))) (v_lneg (v_cvj kX8 IX8_four hX8_four lk1289 ⟨by decide, by decide⟩ (by decide) (v_aload_n (i := 0) dX8_layCofactors_88 rfl (rfl : 88 + 1 = 89)) v_anil dX8_layCofactors_89 (rfl : 89 + 3 = 92)) dX8_layCofactors_92 (rfl : 92 + 1 = 93))) dX8_layCofactors_93 (rfl : 93 + 1 = 94))))) (v_iinc (v := 1) dX8_layCofactors_94 (by decide) (by decide) (rfl : 94 + 3 = 97))) dX8_layCofactors_97 (rfl : ((97 : Nat) : Int) + (-88) = ((9 : Nat) : Int)))))) (v_iinc (v := 1) dX8_layCofactors_100 (by decide) (by decide) (rfl : 100 + 3 = 103))) dX8_layCofactors_103 (rfl : ((103 : Nat) : Int) + (-101) = ((2 : Nat) : Int)))))) (v_seq (v_fpj kX8 lk1009 (by decide) rfl rfl (by decide +kernel) (v_aload_n (i := 0) dX8_layCofactors_106 rfl (rfl : 106 + 1 = 107)) (v_lconst (v := 0) dX8_layCofactors_107 (by decide) (rfl : 107 + 1 = 108)) dX8_layCofactors_108 (rfl : 108 + 3 = 111)) (v_cut (n := 1) (v_seq (v_istore_n (i := 1) (v_iconst (v := 0) dX8_layCofactors_111 (by decide) (rfl : 111 + 1 = 112)) dX8_layCofactors_112 rfl (by decide) (rfl : 112 + 1 = 113)) (v_wh (v_ilt_f (v_iload_n (i := 1) dX8_layCofactors_113 rfl (rfl : 113 + 1 = 114)) (v_iconst (v := 5) dX8_layCofactors_114 (by decide) (rfl : 114 + 1 = 115)) dX8_layCofactors_115 (rfl : ((115 : Nat) : Int) + 31 = ((146 : Nat) : Int)) (rfl : 115 + 3 = 118)) (vs_goto (v_seq (v_foj_ladd kX8 lk1009 (by decide) rfl rfl (by decide +kernel) (v_aload_n (i := 0) dX8_layCofactors_118 rfl (rfl : 118 + 1 = 119)) dX8_layCofactors_119 dX8_layCofactors_120 (rfl : 119 + 1 + 3 = 123) (v_lmul (v_jald (v_gfr kX8 lk1006 (by decide) rfl (v_aload_n (i := 0) dX8_layCofactors_123 rfl (rfl : 123 + 1 = 124)) dX8_layCofactors_124 (rfl : 124 + 3 = 127)) (v_iload_n (i := 1) dX8_layCofactors_127 rfl (rfl : 127 + 1 = 128)) dX8_layCofactors_128 (rfl : 128 + 1 = 129)) (v_jald (v_gfr kX8 lk1007 (by decide) rfl (v_aload_n (i := 0) dX8_layCofactors_129 rfl (rfl : 129 + 1 = 130)) dX8_layCofactors_130 (rfl : 130 + 3 = 133)) (v_iload_n (i := 1) dX8_layCofactors_133 rfl (rfl : 133 + 1 = 134)) dX8_layCofactors_134 (rfl : 134 + 1 = 135)) dX8_layCofactors_135 (rfl : 135 + 1 = 136)) dX8_layCofactors_136 dX8_layCofactors_137 (rfl : 136 + 1 + 3 = 140)) (v_iinc (v := 1) dX8_layCofactors_140 (by decide) (by decide) (rfl : 140 + 3 = 143))) dX8_layCofactors_143 (rfl : ((143 : Nat) : Int) + (-30) = ((113 : Nat) : Int)))))))) (v_retv dX8_layCofactors_146))
theorem IX8_layCofactors : Mv yX8_layCofactors cX8_layCofactors 5 (rmk 2 43) DX8_layCofactors := mk_v (by decide +kernel) BX8_layCofactors

theorem dX8_layTubes_0 : decode cX8_layTubes 0 = .ok (.iconst 0, 1) := by decide +kernel
theorem dX8_layTubes_1 : decode cX8_layTubes 1 = .ok (.istore_n 1, 1) := by decide +kernel
theorem dX8_layTubes_2 : decode cX8_layTubes 2 = .ok (.iload_n 1, 1) := by decide +kernel
theorem dX8_layTubes_3 : decode cX8_layTubes 3 = .ok (.bipush 25, 2) := by decide +kernel
theorem dX8_layTubes_5 : decode cX8_layTubes 5 = .ok (.if_icmp .ge 16, 3) := by decide +kernel
theorem dX8_layTubes_8 : decode cX8_layTubes 8 = .ok (.aload_n 0, 1) := by decide +kernel
theorem dX8_layTubes_9 : decode cX8_layTubes 9 = .ok (.getfield 35, 3) := by decide +kernel
theorem dX8_layTubes_12 : decode cX8_layTubes 12 = .ok (.iload_n 1, 1) := by decide +kernel
theorem dX8_layTubes_13 : decode cX8_layTubes 13 = .ok (.lconst 0, 1) := by decide +kernel
theorem dX8_layTubes_14 : decode cX8_layTubes 14 = .ok (.lastore, 1) := by decide +kernel
theorem dX8_layTubes_15 : decode cX8_layTubes 15 = .ok (.iinc 1 1, 3) := by decide +kernel
theorem dX8_layTubes_18 : decode cX8_layTubes 18 = .ok (.goto (-16), 3) := by decide +kernel
theorem dX8_layTubes_21 : decode cX8_layTubes 21 = .ok (.iconst 0, 1) := by decide +kernel
theorem dX8_layTubes_22 : decode cX8_layTubes 22 = .ok (.istore_n 1, 1) := by decide +kernel
theorem dX8_layTubes_23 : decode cX8_layTubes 23 = .ok (.iload_n 1, 1) := by decide +kernel
theorem dX8_layTubes_24 : decode cX8_layTubes 24 = .ok (.aload_n 0, 1) := by decide +kernel
theorem dX8_layTubes_25 : decode cX8_layTubes 25 = .ok (.getfield 13, 3) := by decide +kernel
theorem dX8_layTubes_28 : decode cX8_layTubes 28 = .ok (.iconst 1, 1) := by decide +kernel
theorem dX8_layTubes_29 : decode cX8_layTubes 29 = .ok (.iaload, 1) := by decide +kernel
theorem dX8_layTubes_30 : decode cX8_layTubes 30 = .ok (.if_icmp .ge 114, 3) := by decide +kernel
theorem dX8_layTubes_33 : decode cX8_layTubes 33 = .ok (.aload_n 0, 1) := by decide +kernel
theorem dX8_layTubes_34 : decode cX8_layTubes 34 = .ok (.iload_n 1, 1) := by decide +kernel
theorem dX8_layTubes_35 : decode cX8_layTubes 35 = .ok (.invokevirtual 177, 3) := by decide +kernel
theorem dX8_layTubes_38 : decode cX8_layTubes 38 = .ok (.ifCond .eq 100, 3) := by decide +kernel
theorem dX8_layTubes_41 : decode cX8_layTubes 41 = .ok (.aload_n 0, 1) := by decide +kernel
theorem dX8_layTubes_42 : decode cX8_layTubes 42 = .ok (.getfield 13, 3) := by decide +kernel
theorem dX8_layTubes_45 : decode cX8_layTubes 45 = .ok (.iload_n 1, 1) := by decide +kernel
theorem dX8_layTubes_46 : decode cX8_layTubes 46 = .ok (.invokestatic 116, 3) := by decide +kernel
theorem dX8_layTubes_49 : decode cX8_layTubes 49 = .ok (.iaload, 1) := by decide +kernel
theorem dX8_layTubes_50 : decode cX8_layTubes 50 = .ok (.istore_n 2, 1) := by decide +kernel
theorem dX8_layTubes_51 : decode cX8_layTubes 51 = .ok (.aload_n 0, 1) := by decide +kernel
theorem dX8_layTubes_52 : decode cX8_layTubes 52 = .ok (.getfield 13, 3) := by decide +kernel
theorem dX8_layTubes_55 : decode cX8_layTubes 55 = .ok (.iload_n 1, 1) := by decide +kernel
theorem dX8_layTubes_56 : decode cX8_layTubes 56 = .ok (.invokestatic 116, 3) := by decide +kernel
theorem dX8_layTubes_59 : decode cX8_layTubes 59 = .ok (.iconst 1, 1) := by decide +kernel
theorem dX8_layTubes_60 : decode cX8_layTubes 60 = .ok (.iadd, 1) := by decide +kernel
theorem dX8_layTubes_61 : decode cX8_layTubes 61 = .ok (.iaload, 1) := by decide +kernel
theorem dX8_layTubes_62 : decode cX8_layTubes 62 = .ok (.istore_n 3, 1) := by decide +kernel
theorem dX8_layTubes_63 : decode cX8_layTubes 63 = .ok (.aload_n 0, 1) := by decide +kernel
theorem dX8_layTubes_64 : decode cX8_layTubes 64 = .ok (.getfield 13, 3) := by decide +kernel
theorem dX8_layTubes_67 : decode cX8_layTubes 67 = .ok (.iload_n 1, 1) := by decide +kernel
theorem dX8_layTubes_68 : decode cX8_layTubes 68 = .ok (.invokestatic 116, 3) := by decide +kernel
theorem dX8_layTubes_71 : decode cX8_layTubes 71 = .ok (.iconst 2, 1) := by decide +kernel
theorem dX8_layTubes_72 : decode cX8_layTubes 72 = .ok (.iadd, 1) := by decide +kernel
theorem dX8_layTubes_73 : decode cX8_layTubes 73 = .ok (.iaload, 1) := by decide +kernel
theorem dX8_layTubes_74 : decode cX8_layTubes 74 = .ok (.istore 4, 2) := by decide +kernel
theorem dX8_layTubes_76 : decode cX8_layTubes 76 = .ok (.aload_n 0, 1) := by decide +kernel
theorem dX8_layTubes_77 : decode cX8_layTubes 77 = .ok (.getfield 35, 3) := by decide +kernel
theorem dX8_layTubes_80 : decode cX8_layTubes 80 = .ok (.bipush 6, 2) := by decide +kernel
theorem dX8_layTubes_82 : decode cX8_layTubes 82 = .ok (.iload_n 2, 1) := by decide +kernel
theorem dX8_layTubes_83 : decode cX8_layTubes 83 = .ok (.imul, 1) := by decide +kernel
theorem dX8_layTubes_84 : decode cX8_layTubes 84 = .ok (.dup2, 1) := by decide +kernel
theorem dX8_layTubes_85 : decode cX8_layTubes 85 = .ok (.laload, 1) := by decide +kernel
theorem dX8_layTubes_86 : decode cX8_layTubes 86 = .ok (.iload 4, 2) := by decide +kernel
theorem dX8_layTubes_88 : decode cX8_layTubes 88 = .ok (.i2l, 1) := by decide +kernel
theorem dX8_layTubes_89 : decode cX8_layTubes 89 = .ok (.ladd, 1) := by decide +kernel
theorem dX8_layTubes_90 : decode cX8_layTubes 90 = .ok (.lastore, 1) := by decide +kernel
theorem dX8_layTubes_91 : decode cX8_layTubes 91 = .ok (.aload_n 0, 1) := by decide +kernel
theorem dX8_layTubes_92 : decode cX8_layTubes 92 = .ok (.getfield 35, 3) := by decide +kernel
theorem dX8_layTubes_95 : decode cX8_layTubes 95 = .ok (.bipush 6, 2) := by decide +kernel
theorem dX8_layTubes_97 : decode cX8_layTubes 97 = .ok (.iload_n 3, 1) := by decide +kernel
theorem dX8_layTubes_98 : decode cX8_layTubes 98 = .ok (.imul, 1) := by decide +kernel
theorem dX8_layTubes_99 : decode cX8_layTubes 99 = .ok (.dup2, 1) := by decide +kernel
theorem dX8_layTubes_100 : decode cX8_layTubes 100 = .ok (.laload, 1) := by decide +kernel
theorem dX8_layTubes_101 : decode cX8_layTubes 101 = .ok (.iload 4, 2) := by decide +kernel
theorem dX8_layTubes_103 : decode cX8_layTubes 103 = .ok (.i2l, 1) := by decide +kernel
theorem dX8_layTubes_104 : decode cX8_layTubes 104 = .ok (.ladd, 1) := by decide +kernel
theorem dX8_layTubes_105 : decode cX8_layTubes 105 = .ok (.lastore, 1) := by decide +kernel
theorem dX8_layTubes_106 : decode cX8_layTubes 106 = .ok (.aload_n 0, 1) := by decide +kernel
theorem dX8_layTubes_107 : decode cX8_layTubes 107 = .ok (.getfield 35, 3) := by decide +kernel
theorem dX8_layTubes_110 : decode cX8_layTubes 110 = .ok (.iconst 5, 1) := by decide +kernel
theorem dX8_layTubes_111 : decode cX8_layTubes 111 = .ok (.iload_n 2, 1) := by decide +kernel
theorem dX8_layTubes_112 : decode cX8_layTubes 112 = .ok (.imul, 1) := by decide +kernel
theorem dX8_layTubes_113 : decode cX8_layTubes 113 = .ok (.iload_n 3, 1) := by decide +kernel
theorem dX8_layTubes_114 : decode cX8_layTubes 114 = .ok (.iadd, 1) := by decide +kernel
theorem dX8_layTubes_115 : decode cX8_layTubes 115 = .ok (.dup2, 1) := by decide +kernel
theorem dX8_layTubes_116 : decode cX8_layTubes 116 = .ok (.laload, 1) := by decide +kernel
theorem dX8_layTubes_117 : decode cX8_layTubes 117 = .ok (.iload 4, 2) := by decide +kernel
theorem dX8_layTubes_119 : decode cX8_layTubes 119 = .ok (.i2l, 1) := by decide +kernel
theorem dX8_layTubes_120 : decode cX8_layTubes 120 = .ok (.lsub, 1) := by decide +kernel
theorem dX8_layTubes_121 : decode cX8_layTubes 121 = .ok (.lastore, 1) := by decide +kernel
theorem dX8_layTubes_122 : decode cX8_layTubes 122 = .ok (.aload_n 0, 1) := by decide +kernel
theorem dX8_layTubes_123 : decode cX8_layTubes 123 = .ok (.getfield 35, 3) := by decide +kernel
theorem dX8_layTubes_126 : decode cX8_layTubes 126 = .ok (.iconst 5, 1) := by decide +kernel
theorem dX8_layTubes_127 : decode cX8_layTubes 127 = .ok (.iload_n 3, 1) := by decide +kernel
theorem dX8_layTubes_128 : decode cX8_layTubes 128 = .ok (.imul, 1) := by decide +kernel
theorem dX8_layTubes_129 : decode cX8_layTubes 129 = .ok (.iload_n 2, 1) := by decide +kernel
theorem dX8_layTubes_130 : decode cX8_layTubes 130 = .ok (.iadd, 1) := by decide +kernel
theorem dX8_layTubes_131 : decode cX8_layTubes 131 = .ok (.dup2, 1) := by decide +kernel
theorem dX8_layTubes_132 : decode cX8_layTubes 132 = .ok (.laload, 1) := by decide +kernel
theorem dX8_layTubes_133 : decode cX8_layTubes 133 = .ok (.iload 4, 2) := by decide +kernel
theorem dX8_layTubes_135 : decode cX8_layTubes 135 = .ok (.i2l, 1) := by decide +kernel
theorem dX8_layTubes_136 : decode cX8_layTubes 136 = .ok (.lsub, 1) := by decide +kernel
theorem dX8_layTubes_137 : decode cX8_layTubes 137 = .ok (.lastore, 1) := by decide +kernel
theorem dX8_layTubes_138 : decode cX8_layTubes 138 = .ok (.iinc 1 1, 3) := by decide +kernel
theorem dX8_layTubes_141 : decode cX8_layTubes 141 = .ok (.goto (-118), 3) := by decide +kernel
theorem dX8_layTubes_144 : decode cX8_layTubes 144 = .ok (.return_, 1) := by decide +kernel
noncomputable def qX8_layTubes_1 : Bx := (bc clt (il 1) (ik 25))
noncomputable def wX8_layTubes_1 : Sx := (sseq (aij (fgr 7 11 (rl 0)) (il 1) (jk 0)) (sinc 1 1))
noncomputable def qX8_layTubes_2 : Bx := (bc clt (il 1) (iald (fgr 7 3 (rl 0)) (ik 1)))
noncomputable def wX8_layTubes_2 : Sx := (sseq (sif (bz cne (cvz 7 DX8_isOpen (rl 0) (ai (il 1) anil))) (scut 2 (sseq (ssi 2 (iald (fgr 7 3 (rl 0)) (csi DX8_tubeAt (ai (il 1) anil)))) (sseq (ssi 3 (iald (fgr 7 3 (rl 0)) (i2 (· + ·) (csi DX8_tubeAt (ai (il 1) anil)) (ik 1)))) (sseq (ssi 4 (iald (fgr 7 3 (rl 0)) (i2 (· + ·) (csi DX8_tubeAt (ai (il 1) anil)) (ik 2)))) (sseq (aoj (· + ·) (fgr 7 11 (rl 0)) (i2 (· * ·) (ik 6) (il 2)) (i2l (il 4))) (sseq (aoj (· + ·) (fgr 7 11 (rl 0)) (i2 (· * ·) (ik 6) (il 3)) (i2l (il 4))) (sseq (aoj (· - ·) (fgr 7 11 (rl 0)) (i2 (· + ·) (i2 (· * ·) (ik 5) (il 2)) (il 3)) (i2l (il 4))) (aoj (· - ·) (fgr 7 11 (rl 0)) (i2 (· + ·) (i2 (· * ·) (ik 5) (il 3)) (il 2)) (i2l (il 4)))))))))) snop) (sinc 1 1))
noncomputable def EX8_layTubes : Sx := (sseq (sseq (scut 1 (sseq (ssi 1 (ik 0)) (swh qX8_layTubes_1 wX8_layTubes_1))) (scut 1 (sseq (ssi 1 (ik 0)) (swh qX8_layTubes_2 wX8_layTubes_2)))) sretv)
noncomputable def DX8_layTubes : Fu := mfv 5 EX8_layTubes
set_option maxRecDepth 4000 in
theorem BX8_layTubes : Vs RX8 cX8_layTubes 5 (rmk 2 41) 0 0 EX8_layTubes := (v_seq (v_seq (v_cut (n := 1) (v_seq (v_istore_n (i := 1) (v_iconst (v := 0) dX8_layTubes_0 (by decide) (rfl : 0 + 1 = 1)) dX8_layTubes_1 rfl (by decide) (rfl : 1 + 1 = 2)) (v_wh (v_ilt_f (v_iload_n (i := 1) dX8_layTubes_2 rfl (rfl : 2 + 1 = 3)) (v_bipush (v := 25) dX8_layTubes_3 (by decide) (rfl : 3 + 2 = 5)) dX8_layTubes_5 (rfl : ((5 : Nat) : Int) + 16 = ((21 : Nat) : Int)) (rfl : 5 + 3 = 8)) (vs_goto (v_seq (v_aij (v_gfr kX8 lk1006 (by decide) rfl (v_aload_n (i := 0) dX8_layTubes_8 rfl (rfl : 8 + 1 = 9)) dX8_layTubes_9 (rfl : 9 + 3 = 12)) (v_iload_n (i := 1) dX8_layTubes_12 rfl (rfl : 12 + 1 = 13)) (v_lconst (v := 0) dX8_layTubes_13 (by decide) (rfl : 13 + 1 = 14)) dX8_layTubes_14 (rfl : 14 + 1 = 15)) (v_iinc (v := 1) dX8_layTubes_15 (by decide) (by decide) (rfl : 15 + 3 = 18))) dX8_layTubes_18 (rfl : ((18 : Nat) : Int) + (-16) = ((2 : Nat) : Int)))))) (v_cut (n := 1) (v_seq (v_istore_n (i := 1) (v_iconst (v := 0) dX8_layTubes_21 (by decide) (rfl : 21 + 1 = 22)) dX8_layTubes_22 rfl (by decide) (rfl : 22 + 1 = 23)) (v_wh (v_ilt_f (v_iload_n (i := 1) dX8_layTubes_23 rfl (rfl : 23 + 1 = 24)) (v_iald (v_gfr kX8 lk998 (by decide) rfl (v_aload_n (i := 0) dX8_layTubes_24 rfl (rfl : 24 + 1 = 25)) dX8_layTubes_25 (rfl : 25 + 3 = 28)) (v_iconst (v := 1) dX8_layTubes_28 (by decide) (rfl : 28 + 1 = 29)) dX8_layTubes_29 (rfl : 29 + 1 = 30)) dX8_layTubes_30 (rfl : ((30 : Nat) : Int) + 114 = ((144 : Nat) : Int)) (rfl : 30 + 3 = 33)) (vs_goto (v_seq (v_if (v_zne_f (v_cvz kX8 IX8_isOpen hX8_isOpen lk1257 ⟨by decide, by decide⟩ (by decide) (v_aload_n (i := 0) dX8_layTubes_33 rfl (rfl : 33 + 1 = 34)) (v_ai (v_iload_n (i := 1) dX8_layTubes_34 rfl (rfl : 34 + 1 = 35)) v_anil) dX8_layTubes_35 (rfl : 35 + 3 = 38)) dX8_layTubes_38 (rfl : ((38 : Nat) : Int) + 100 = ((138 : Nat) : Int)) (rfl : 38 + 3 = 41)) (v_cut (n := 2) (v_seq (v_istore_n (i := 2) (v_iald (v_gfr kX8 lk998 (by decide) rfl (v_aload_n (i := 0) dX8_layTubes_41 rfl (rfl : 41 + 1 = 42)) dX8_layTubes_42 (rfl : 42 + 3 = 45)) (v_csi IX8_tubeAt hX8_tubeAt lk1160 ⟨by decide, by decide⟩ (by decide) (v_ai (v_iload_n (i := 1) dX8_layTubes_45 rfl (rfl : 45 + 1 = 46)) v_anil) dX8_layTubes_46 (rfl : 46 + 3 = 49)) dX8_layTubes_49 (rfl : 49 + 1 = 50)) dX8_layTubes_50 rfl (by decide) (rfl : 50 + 1 = 51)) (v_seq (v_istore_n (i := 3) (v_iald (v_gfr kX8 lk998 (by decide) rfl (v_aload_n (i := 0) dX8_layTubes_51 rfl (rfl : 51 + 1 = 52)) dX8_layTubes_52 (rfl : 52 + 3 = 55)) (v_iadd (v_csi IX8_tubeAt hX8_tubeAt lk1160 ⟨by decide, by decide⟩ (by decide) (v_ai (v_iload_n (i := 1) dX8_layTubes_55 rfl (rfl : 55 + 1 = 56)) v_anil) dX8_layTubes_56 (rfl : 56 + 3 = 59)) (v_iconst (v := 1) dX8_layTubes_59 (by decide) (rfl : 59 + 1 = 60)) dX8_layTubes_60 (rfl : 60 + 1 = 61)) dX8_layTubes_61 (rfl : 61 + 1 = 62)) dX8_layTubes_62 rfl (by decide) (rfl : 62 + 1 = 63)) (v_seq (v_istore (i := 4) (v_iald (v_gfr kX8 lk998 (by decide) rfl (v_aload_n (i := 0) dX8_layTubes_63 rfl (rfl : 63 + 1 = 64)) dX8_layTubes_64 (rfl : 64 + 3 = 67)) (v_iadd (v_csi IX8_tubeAt hX8_tubeAt lk1160 ⟨by decide, by decide⟩ (by decide) (v_ai (v_iload_n (i := 1) dX8_layTubes_67 rfl (rfl : 67 + 1 = 68)) v_anil) dX8_layTubes_68 (rfl : 68 + 3 = 71)) (v_iconst (v := 2) dX8_layTubes_71 (by decide) (rfl : 71 + 1 = 72)) dX8_layTubes_72 (rfl : 72 + 1 = 73)) dX8_layTubes_73 (rfl : 73 + 1 = 74)) dX8_layTubes_74 (by decide) (rfl : 74 + 2 = 76)) (v_seq (v_aoj_ladd (v_gfr kX8 lk1006 (by decide) rfl (v_aload_n (i := 0) dX8_layTubes_76 rfl (rfl : 76 + 1 = 77)) dX8_layTubes_77 (rfl : 77 + 3 = 80)) (v_imul (v_bipush (v := 6) dX8_layTubes_80 (by decide) (rfl : 80 + 2 = 82)) (v_iload_n (i := 2) dX8_layTubes_82 rfl (rfl : 82 + 1 = 83)) dX8_layTubes_83 (rfl : 83 + 1 = 84)) dX8_layTubes_84 dX8_layTubes_85 (rfl : 84 + 1 + 1 = 86) (v_i2l (v_iload (i := 4) dX8_layTubes_86 (rfl : 86 + 2 = 88)) dX8_layTubes_88 (rfl : 88 + 1 = 89)) dX8_layTubes_89 dX8_layTubes_90 (rfl : 89 + 1 + 1 = 91)) (v_seq (v_aoj_ladd (v_gfr kX8 lk1006 (by decide) rfl (v_aload_n (i := 0) dX8_layTubes_91 rfl (rfl : 91 + 1 = 92)) dX8_layTubes_92 (rfl : 92 + 3 = 95)) (v_imul (v_bipush (v := 6) dX8_layTubes_95 (by decide) (rfl : 95 + 2 = 97)) (v_iload_n (i := 3) dX8_layTubes_97 rfl (rfl : 97 + 1 = 98)) dX8_layTubes_98 (rfl : 98 + 1 = 99)) dX8_layTubes_99 dX8_layTubes_100 (rfl : 99 + 1 + 1 = 101) (v_i2l (v_iload (i := 4) dX8_layTubes_101 (rfl : 101 + 2 = 103)) dX8_layTubes_103 (rfl : 103 + 1 = 104)) dX8_layTubes_104 dX8_layTubes_105 (rfl : 104 + 1 + 1 = 106)) (v_seq (v_aoj_lsub (v_gfr kX8 lk1006 (by decide) rfl (v_aload_n (i := 0) dX8_layTubes_106 rfl (rfl : 106 + 1 = 107)) dX8_layTubes_107 (rfl : 107 + 3 = 110)) (v_iadd (v_imul (v_iconst (v := 5) dX8_layTubes_110 (by decide) (rfl : 110 + 1 = 111)) (v_iload_n (i := 2) dX8_layTubes_111 rfl (rfl : 111 + 1 = 112)) dX8_layTubes_112 (rfl : 112 + 1 = 113)) (v_iload_n (i := 3) dX8_layTubes_113 rfl (rfl : 113 + 1 = 114)) dX8_layTubes_114 (rfl : 114 + 1 = 115)) dX8_layTubes_115 dX8_layTubes_116 (rfl : 115 + 1 + 1 = 117) (v_i2l (v_iload (i := 4) dX8_layTubes_117 (rfl : 117 + 2 = 119)) dX8_layTubes_119 (rfl : 119 + 1 = 120)) dX8_layTubes_120 dX8_layTubes_121 (rfl : 120 + 1 + 1 = 122)) (v_aoj_lsub (v_gfr kX8 lk1006 (by decide) rfl (v_aload_n (i := 0) dX8_layTubes_122 rfl (rfl : 122 + 1 = 123)) dX8_layTubes_123 (rfl : 123 + 3 = 126)) (v_iadd (v_imul (v_iconst (v := 5) dX8_layTubes_126 (by decide) (rfl : 126 + 1 = 127)) (v_iload_n (i := 3) dX8_layTubes_127 rfl (rfl : 127 + 1 = 128)) dX8_layTubes_128 (rfl : 128 + 1 = 129)) (v_iload_n (i := 2) dX8_layTubes_129 rfl (rfl : 129 + 1 = 130)) dX8_layTubes_130 (rfl : 130 + 1 = 131)) dX8_layTubes_131 dX8_layTubes_132 (rfl : 131 + 1 + 1 = 133) (v_i2l (v_iload (i := 4) dX8_layTubes_133 (rfl : 133 + 2 = 135)) dX8_layTubes_135 (rfl : 135 + 1 = 136)) dX8_layTubes_136 dX8_layTubes_137 (rfl : 136 + 1 + 1 = 138))))))))) v_nop) (v_iinc (v := 1) dX8_layTubes_138 (by decide) (by decide) (rfl : 138 + 3 = 141))) dX8_layTubes_141 (rfl : ((141 : Nat) : Int) + (-118) = ((23 : Nat) : Int))))))) (v_retv dX8_layTubes_144))
theorem IX8_layTubes : Mv yX8_layTubes cX8_layTubes 5 (rmk 2 41) DX8_layTubes := mk_v (by decide +kernel) BX8_layTubes

theorem dX8_unit_0 : decode cX8_unit 0 = .ok (.iconst 0, 1) := by decide +kernel
theorem dX8_unit_1 : decode cX8_unit 1 = .ok (.istore_n 2, 1) := by decide +kernel
theorem dX8_unit_2 : decode cX8_unit 2 = .ok (.iload_n 2, 1) := by decide +kernel
theorem dX8_unit_3 : decode cX8_unit 3 = .ok (.iconst 5, 1) := by decide +kernel
theorem dX8_unit_4 : decode cX8_unit 4 = .ok (.if_icmp .ge 31, 3) := by decide +kernel
theorem dX8_unit_7 : decode cX8_unit 7 = .ok (.aload_n 0, 1) := by decide +kernel
theorem dX8_unit_8 : decode cX8_unit 8 = .ok (.getfield 35, 3) := by decide +kernel
theorem dX8_unit_11 : decode cX8_unit 11 = .ok (.iconst 5, 1) := by decide +kernel
theorem dX8_unit_12 : decode cX8_unit 12 = .ok (.iload_n 1, 1) := by decide +kernel
theorem dX8_unit_13 : decode cX8_unit 13 = .ok (.imul, 1) := by decide +kernel
theorem dX8_unit_14 : decode cX8_unit 14 = .ok (.iload_n 2, 1) := by decide +kernel
theorem dX8_unit_15 : decode cX8_unit 15 = .ok (.iadd, 1) := by decide +kernel
theorem dX8_unit_16 : decode cX8_unit 16 = .ok (.lconst 0, 1) := by decide +kernel
theorem dX8_unit_17 : decode cX8_unit 17 = .ok (.lastore, 1) := by decide +kernel
theorem dX8_unit_18 : decode cX8_unit 18 = .ok (.aload_n 0, 1) := by decide +kernel
theorem dX8_unit_19 : decode cX8_unit 19 = .ok (.getfield 35, 3) := by decide +kernel
theorem dX8_unit_22 : decode cX8_unit 22 = .ok (.iconst 5, 1) := by decide +kernel
theorem dX8_unit_23 : decode cX8_unit 23 = .ok (.iload_n 2, 1) := by decide +kernel
theorem dX8_unit_24 : decode cX8_unit 24 = .ok (.imul, 1) := by decide +kernel
theorem dX8_unit_25 : decode cX8_unit 25 = .ok (.iload_n 1, 1) := by decide +kernel
theorem dX8_unit_26 : decode cX8_unit 26 = .ok (.iadd, 1) := by decide +kernel
theorem dX8_unit_27 : decode cX8_unit 27 = .ok (.lconst 0, 1) := by decide +kernel
theorem dX8_unit_28 : decode cX8_unit 28 = .ok (.lastore, 1) := by decide +kernel
theorem dX8_unit_29 : decode cX8_unit 29 = .ok (.iinc 2 1, 3) := by decide +kernel
theorem dX8_unit_32 : decode cX8_unit 32 = .ok (.goto (-30), 3) := by decide +kernel
theorem dX8_unit_35 : decode cX8_unit 35 = .ok (.aload_n 0, 1) := by decide +kernel
theorem dX8_unit_36 : decode cX8_unit 36 = .ok (.getfield 35, 3) := by decide +kernel
theorem dX8_unit_39 : decode cX8_unit 39 = .ok (.bipush 6, 2) := by decide +kernel
theorem dX8_unit_41 : decode cX8_unit 41 = .ok (.iload_n 1, 1) := by decide +kernel
theorem dX8_unit_42 : decode cX8_unit 42 = .ok (.imul, 1) := by decide +kernel
theorem dX8_unit_43 : decode cX8_unit 43 = .ok (.lconst 1, 1) := by decide +kernel
theorem dX8_unit_44 : decode cX8_unit 44 = .ok (.lastore, 1) := by decide +kernel
theorem dX8_unit_45 : decode cX8_unit 45 = .ok (.return_, 1) := by decide +kernel
noncomputable def qX8_unit_1 : Bx := (bc clt (il 2) (ik 5))
noncomputable def wX8_unit_1 : Sx := (sseq (sseq (aij (fgr 7 11 (rl 0)) (i2 (· + ·) (i2 (· * ·) (ik 5) (il 1)) (il 2)) (jk 0)) (aij (fgr 7 11 (rl 0)) (i2 (· + ·) (i2 (· * ·) (ik 5) (il 2)) (il 1)) (jk 0))) (sinc 2 1))
noncomputable def EX8_unit : Sx := (sseq (sseq (scut 2 (sseq (ssi 2 (ik 0)) (swh qX8_unit_1 wX8_unit_1))) (aij (fgr 7 11 (rl 0)) (i2 (· * ·) (ik 6) (il 1)) (jk 1))) sretv)
noncomputable def DX8_unit : Fu := mfv 3 EX8_unit
set_option maxRecDepth 4000 in
theorem BX8_unit : Vs RX8 cX8_unit 3 (rmk 0 0) 0 0 EX8_unit := (v_seq (v_seq (v_cut (n := 2) (v_seq (v_istore_n (i := 2) (v_iconst (v := 0) dX8_unit_0 (by decide) (rfl : 0 + 1 = 1)) dX8_unit_1 rfl (by decide) (rfl : 1 + 1 = 2)) (v_wh (v_ilt_f (v_iload_n (i := 2) dX8_unit_2 rfl (rfl : 2 + 1 = 3)) (v_iconst (v := 5) dX8_unit_3 (by decide) (rfl : 3 + 1 = 4)) dX8_unit_4 (rfl : ((4 : Nat) : Int) + 31 = ((35 : Nat) : Int)) (rfl : 4 + 3 = 7)) (vs_goto (v_seq (v_seq (v_aij (v_gfr kX8 lk1006 (by decide) rfl (v_aload_n (i := 0) dX8_unit_7 rfl (rfl : 7 + 1 = 8)) dX8_unit_8 (rfl : 8 + 3 = 11)) (v_iadd (v_imul (v_iconst (v := 5) dX8_unit_11 (by decide) (rfl : 11 + 1 = 12)) (v_iload_n (i := 1) dX8_unit_12 rfl (rfl : 12 + 1 = 13)) dX8_unit_13 (rfl : 13 + 1 = 14)) (v_iload_n (i := 2) dX8_unit_14 rfl (rfl : 14 + 1 = 15)) dX8_unit_15 (rfl : 15 + 1 = 16)) (v_lconst (v := 0) dX8_unit_16 (by decide) (rfl : 16 + 1 = 17)) dX8_unit_17 (rfl : 17 + 1 = 18)) (v_aij (v_gfr kX8 lk1006 (by decide) rfl (v_aload_n (i := 0) dX8_unit_18 rfl (rfl : 18 + 1 = 19)) dX8_unit_19 (rfl : 19 + 3 = 22)) (v_iadd (v_imul (v_iconst (v := 5) dX8_unit_22 (by decide) (rfl : 22 + 1 = 23)) (v_iload_n (i := 2) dX8_unit_23 rfl (rfl : 23 + 1 = 24)) dX8_unit_24 (rfl : 24 + 1 = 25)) (v_iload_n (i := 1) dX8_unit_25 rfl (rfl : 25 + 1 = 26)) dX8_unit_26 (rfl : 26 + 1 = 27)) (v_lconst (v := 0) dX8_unit_27 (by decide) (rfl : 27 + 1 = 28)) dX8_unit_28 (rfl : 28 + 1 = 29))) (v_iinc (v := 1) dX8_unit_29 (by decide) (by decide) (rfl : 29 + 3 = 32))) dX8_unit_32 (rfl : ((32 : Nat) : Int) + (-30) = ((2 : Nat) : Int)))))) (v_aij (v_gfr kX8 lk1006 (by decide) rfl (v_aload_n (i := 0) dX8_unit_35 rfl (rfl : 35 + 1 = 36)) dX8_unit_36 (rfl : 36 + 3 = 39)) (v_imul (v_bipush (v := 6) dX8_unit_39 (by decide) (rfl : 39 + 2 = 41)) (v_iload_n (i := 1) dX8_unit_41 rfl (rfl : 41 + 1 = 42)) dX8_unit_42 (rfl : 42 + 1 = 43)) (v_lconst (v := 1) dX8_unit_43 (by decide) (rfl : 43 + 1 = 44)) dX8_unit_44 (rfl : 44 + 1 = 45))) (v_retv dX8_unit_45))
theorem IX8_unit : Mv yX8_unit cX8_unit 3 (rmk 0 0) DX8_unit := mk_v (by decide +kernel) BX8_unit

theorem dX8_solve_0 : decode cX8_solve 0 = .ok (.iconst 0, 1) := by decide +kernel
theorem dX8_solve_1 : decode cX8_solve 1 = .ok (.istore_n 1, 1) := by decide +kernel
theorem dX8_solve_2 : decode cX8_solve 2 = .ok (.iload_n 1, 1) := by decide +kernel
theorem dX8_solve_3 : decode cX8_solve 3 = .ok (.iconst 5, 1) := by decide +kernel
theorem dX8_solve_4 : decode cX8_solve 4 = .ok (.if_icmp .ge 31, 3) := by decide +kernel
theorem dX8_solve_7 : decode cX8_solve 7 = .ok (.aload_n 0, 1) := by decide +kernel
theorem dX8_solve_8 : decode cX8_solve 8 = .ok (.getfield 48, 3) := by decide +kernel
theorem dX8_solve_11 : decode cX8_solve 11 = .ok (.iload_n 1, 1) := by decide +kernel
theorem dX8_solve_12 : decode cX8_solve 12 = .ok (.iload_n 1, 1) := by decide +kernel
theorem dX8_solve_13 : decode cX8_solve 13 = .ok (.aload_n 0, 1) := by decide +kernel
theorem dX8_solve_14 : decode cX8_solve 14 = .ok (.getfield 198, 3) := by decide +kernel
theorem dX8_solve_17 : decode cX8_solve 17 = .ok (.if_icmp .ne 10, 3) := by decide +kernel
theorem dX8_solve_20 : decode cX8_solve 20 = .ok (.aload_n 0, 1) := by decide +kernel
theorem dX8_solve_21 : decode cX8_solve 21 = .ok (.getfield 201, 3) := by decide +kernel
theorem dX8_solve_24 : decode cX8_solve 24 = .ok (.goto 4, 3) := by decide +kernel
theorem dX8_solve_27 : decode cX8_solve 27 = .ok (.iconst 0, 1) := by decide +kernel
theorem dX8_solve_28 : decode cX8_solve 28 = .ok (.iastore, 1) := by decide +kernel
theorem dX8_solve_29 : decode cX8_solve 29 = .ok (.iinc 1 1, 3) := by decide +kernel
theorem dX8_solve_32 : decode cX8_solve 32 = .ok (.goto (-30), 3) := by decide +kernel
theorem dX8_solve_35 : decode cX8_solve 35 = .ok (.iconst 0, 1) := by decide +kernel
theorem dX8_solve_36 : decode cX8_solve 36 = .ok (.istore_n 1, 1) := by decide +kernel
theorem dX8_solve_37 : decode cX8_solve 37 = .ok (.iload_n 1, 1) := by decide +kernel
theorem dX8_solve_38 : decode cX8_solve 38 = .ok (.aload_n 0, 1) := by decide +kernel
theorem dX8_solve_39 : decode cX8_solve 39 = .ok (.getfield 13, 3) := by decide +kernel
theorem dX8_solve_42 : decode cX8_solve 42 = .ok (.iconst 2, 1) := by decide +kernel
theorem dX8_solve_43 : decode cX8_solve 43 = .ok (.iaload, 1) := by decide +kernel
theorem dX8_solve_44 : decode cX8_solve 44 = .ok (.if_icmp .ge 56, 3) := by decide +kernel
theorem dX8_solve_47 : decode cX8_solve 47 = .ok (.aload_n 0, 1) := by decide +kernel
theorem dX8_solve_48 : decode cX8_solve 48 = .ok (.getfield 48, 3) := by decide +kernel
theorem dX8_solve_51 : decode cX8_solve 51 = .ok (.aload_n 0, 1) := by decide +kernel
theorem dX8_solve_52 : decode cX8_solve 52 = .ok (.getfield 13, 3) := by decide +kernel
theorem dX8_solve_55 : decode cX8_solve 55 = .ok (.iload_n 1, 1) := by decide +kernel
theorem dX8_solve_56 : decode cX8_solve 56 = .ok (.invokestatic 119, 3) := by decide +kernel
theorem dX8_solve_59 : decode cX8_solve 59 = .ok (.iaload, 1) := by decide +kernel
theorem dX8_solve_60 : decode cX8_solve 60 = .ok (.dup2, 1) := by decide +kernel
theorem dX8_solve_61 : decode cX8_solve 61 = .ok (.iaload, 1) := by decide +kernel
theorem dX8_solve_62 : decode cX8_solve 62 = .ok (.aload_n 0, 1) := by decide +kernel
theorem dX8_solve_63 : decode cX8_solve 63 = .ok (.iload_n 1, 1) := by decide +kernel
theorem dX8_solve_64 : decode cX8_solve 64 = .ok (.invokevirtual 207, 3) := by decide +kernel
theorem dX8_solve_67 : decode cX8_solve 67 = .ok (.ifCond .eq 24, 3) := by decide +kernel
theorem dX8_solve_70 : decode cX8_solve 70 = .ok (.aload_n 0, 1) := by decide +kernel
theorem dX8_solve_71 : decode cX8_solve 71 = .ok (.getfield 13, 3) := by decide +kernel
theorem dX8_solve_74 : decode cX8_solve 74 = .ok (.iload_n 1, 1) := by decide +kernel
theorem dX8_solve_75 : decode cX8_solve 75 = .ok (.invokestatic 119, 3) := by decide +kernel
theorem dX8_solve_78 : decode cX8_solve 78 = .ok (.iconst 2, 1) := by decide +kernel
theorem dX8_solve_79 : decode cX8_solve 79 = .ok (.iadd, 1) := by decide +kernel
theorem dX8_solve_80 : decode cX8_solve 80 = .ok (.aload_n 0, 1) := by decide +kernel
theorem dX8_solve_81 : decode cX8_solve 81 = .ok (.getfield 57, 3) := by decide +kernel
theorem dX8_solve_84 : decode cX8_solve 84 = .ok (.iload_n 1, 1) := by decide +kernel
theorem dX8_solve_85 : decode cX8_solve 85 = .ok (.iaload, 1) := by decide +kernel
theorem dX8_solve_86 : decode cX8_solve 86 = .ok (.iadd, 1) := by decide +kernel
theorem dX8_solve_87 : decode cX8_solve 87 = .ok (.iaload, 1) := by decide +kernel
theorem dX8_solve_88 : decode cX8_solve 88 = .ok (.goto 4, 3) := by decide +kernel
theorem dX8_solve_91 : decode cX8_solve 91 = .ok (.iconst 0, 1) := by decide +kernel
theorem dX8_solve_92 : decode cX8_solve 92 = .ok (.iadd, 1) := by decide +kernel
theorem dX8_solve_93 : decode cX8_solve 93 = .ok (.iastore, 1) := by decide +kernel
theorem dX8_solve_94 : decode cX8_solve 94 = .ok (.iinc 1 1, 3) := by decide +kernel
theorem dX8_solve_97 : decode cX8_solve 97 = .ok (.goto (-60), 3) := by decide +kernel
theorem dX8_solve_100 : decode cX8_solve 100 = .ok (.aload_n 0, 1) := by decide +kernel
theorem dX8_solve_101 : decode cX8_solve 101 = .ok (.invokevirtual 210, 3) := by decide +kernel
theorem dX8_solve_104 : decode cX8_solve 104 = .ok (.iconst 0, 1) := by decide +kernel
theorem dX8_solve_105 : decode cX8_solve 105 = .ok (.istore_n 1, 1) := by decide +kernel
theorem dX8_solve_106 : decode cX8_solve 106 = .ok (.iload_n 1, 1) := by decide +kernel
theorem dX8_solve_107 : decode cX8_solve 107 = .ok (.iconst 5, 1) := by decide +kernel
theorem dX8_solve_108 : decode cX8_solve 108 = .ok (.if_icmp .ge 147, 3) := by decide +kernel
theorem dX8_solve_111 : decode cX8_solve 111 = .ok (.iconst 0, 1) := by decide +kernel
theorem dX8_solve_112 : decode cX8_solve 112 = .ok (.istore_n 2, 1) := by decide +kernel
theorem dX8_solve_113 : decode cX8_solve 113 = .ok (.iconst 0, 1) := by decide +kernel
theorem dX8_solve_114 : decode cX8_solve 114 = .ok (.istore_n 3, 1) := by decide +kernel
theorem dX8_solve_115 : decode cX8_solve 115 = .ok (.iconst 0, 1) := by decide +kernel
theorem dX8_solve_116 : decode cX8_solve 116 = .ok (.istore 4, 2) := by decide +kernel
theorem dX8_solve_118 : decode cX8_solve 118 = .ok (.iload 4, 2) := by decide +kernel
theorem dX8_solve_120 : decode cX8_solve 120 = .ok (.iconst 5, 1) := by decide +kernel
theorem dX8_solve_121 : decode cX8_solve 121 = .ok (.if_icmp .ge 81, 3) := by decide +kernel
theorem dX8_solve_124 : decode cX8_solve 124 = .ok (.iload_n 2, 1) := by decide +kernel
theorem dX8_solve_125 : decode cX8_solve 125 = .ok (.ifCond .ne 29, 3) := by decide +kernel
theorem dX8_solve_128 : decode cX8_solve 128 = .ok (.aload_n 0, 1) := by decide +kernel
theorem dX8_solve_129 : decode cX8_solve 129 = .ok (.getfield 32, 3) := by decide +kernel
theorem dX8_solve_132 : decode cX8_solve 132 = .ok (.iload 4, 2) := by decide +kernel
theorem dX8_solve_134 : decode cX8_solve 134 = .ok (.iaload, 1) := by decide +kernel
theorem dX8_solve_135 : decode cX8_solve 135 = .ok (.aload_n 0, 1) := by decide +kernel
theorem dX8_solve_136 : decode cX8_solve 136 = .ok (.getfield 32, 3) := by decide +kernel
theorem dX8_solve_139 : decode cX8_solve 139 = .ok (.iload_n 1, 1) := by decide +kernel
theorem dX8_solve_140 : decode cX8_solve 140 = .ok (.iaload, 1) := by decide +kernel
theorem dX8_solve_141 : decode cX8_solve 141 = .ok (.if_icmp .ne 17, 3) := by decide +kernel
theorem dX8_solve_144 : decode cX8_solve 144 = .ok (.aload_n 0, 1) := by decide +kernel
theorem dX8_solve_145 : decode cX8_solve 145 = .ok (.getfield 48, 3) := by decide +kernel
theorem dX8_solve_148 : decode cX8_solve 148 = .ok (.iload 4, 2) := by decide +kernel
theorem dX8_solve_150 : decode cX8_solve 150 = .ok (.iaload, 1) := by decide +kernel
theorem dX8_solve_151 : decode cX8_solve 151 = .ok (.ifCond .le 7, 3) := by decide +kernel
theorem dX8_solve_154 : decode cX8_solve 154 = .ok (.iconst 1, 1) := by decide +kernel
theorem dX8_solve_155 : decode cX8_solve 155 = .ok (.goto 4, 3) := by decide +kernel
theorem dX8_solve_158 : decode cX8_solve 158 = .ok (.iconst 0, 1) := by decide +kernel
theorem dX8_solve_159 : decode cX8_solve 159 = .ok (.istore_n 2, 1) := by decide +kernel
theorem dX8_solve_160 : decode cX8_solve 160 = .ok (.iload_n 3, 1) := by decide +kernel
theorem dX8_solve_161 : decode cX8_solve 161 = .ok (.ifCond .ne 29, 3) := by decide +kernel
theorem dX8_solve_164 : decode cX8_solve 164 = .ok (.aload_n 0, 1) := by decide +kernel
theorem dX8_solve_165 : decode cX8_solve 165 = .ok (.getfield 32, 3) := by decide +kernel
theorem dX8_solve_168 : decode cX8_solve 168 = .ok (.iload 4, 2) := by decide +kernel
theorem dX8_solve_170 : decode cX8_solve 170 = .ok (.iaload, 1) := by decide +kernel
theorem dX8_solve_171 : decode cX8_solve 171 = .ok (.aload_n 0, 1) := by decide +kernel
theorem dX8_solve_172 : decode cX8_solve 172 = .ok (.getfield 32, 3) := by decide +kernel
theorem dX8_solve_175 : decode cX8_solve 175 = .ok (.iload_n 1, 1) := by decide +kernel
theorem dX8_solve_176 : decode cX8_solve 176 = .ok (.iaload, 1) := by decide +kernel
theorem dX8_solve_177 : decode cX8_solve 177 = .ok (.if_icmp .ne 17, 3) := by decide +kernel
theorem dX8_solve_180 : decode cX8_solve 180 = .ok (.aload_n 0, 1) := by decide +kernel
theorem dX8_solve_181 : decode cX8_solve 181 = .ok (.getfield 45, 3) := by decide +kernel
theorem dX8_solve_184 : decode cX8_solve 184 = .ok (.iload 4, 2) := by decide +kernel
theorem dX8_solve_186 : decode cX8_solve 186 = .ok (.iaload, 1) := by decide +kernel
theorem dX8_solve_187 : decode cX8_solve 187 = .ok (.ifCond .le 7, 3) := by decide +kernel
theorem dX8_solve_190 : decode cX8_solve 190 = .ok (.iconst 1, 1) := by decide +kernel
theorem dX8_solve_191 : decode cX8_solve 191 = .ok (.goto 4, 3) := by decide +kernel
theorem dX8_solve_194 : decode cX8_solve 194 = .ok (.iconst 0, 1) := by decide +kernel
theorem dX8_solve_195 : decode cX8_solve 195 = .ok (.istore_n 3, 1) := by decide +kernel
theorem dX8_solve_196 : decode cX8_solve 196 = .ok (.iinc 4 1, 3) := by decide +kernel
theorem dX8_solve_199 : decode cX8_solve 199 = .ok (.goto (-81), 3) := by decide +kernel
theorem dX8_solve_202 : decode cX8_solve 202 = .ok (.aload_n 0, 1) := by decide +kernel
theorem dX8_solve_203 : decode cX8_solve 203 = .ok (.getfield 35, 3) := by decide +kernel
theorem dX8_solve_206 : decode cX8_solve 206 = .ok (.bipush 6, 2) := by decide +kernel
theorem dX8_solve_208 : decode cX8_solve 208 = .ok (.iload_n 1, 1) := by decide +kernel
theorem dX8_solve_209 : decode cX8_solve 209 = .ok (.imul, 1) := by decide +kernel
theorem dX8_solve_210 : decode cX8_solve 210 = .ok (.dup2, 1) := by decide +kernel
theorem dX8_solve_211 : decode cX8_solve 211 = .ok (.laload, 1) := by decide +kernel
theorem dX8_solve_212 : decode cX8_solve 212 = .ok (.aload_n 0, 1) := by decide +kernel
theorem dX8_solve_213 : decode cX8_solve 213 = .ok (.getfield 48, 3) := by decide +kernel
theorem dX8_solve_216 : decode cX8_solve 216 = .ok (.iload_n 1, 1) := by decide +kernel
theorem dX8_solve_217 : decode cX8_solve 217 = .ok (.iaload, 1) := by decide +kernel
theorem dX8_solve_218 : decode cX8_solve 218 = .ok (.i2l, 1) := by decide +kernel
theorem dX8_solve_219 : decode cX8_solve 219 = .ok (.ladd, 1) := by decide +kernel
theorem dX8_solve_220 : decode cX8_solve 220 = .ok (.lastore, 1) := by decide +kernel
theorem dX8_solve_221 : decode cX8_solve 221 = .ok (.iload_n 2, 1) := by decide +kernel
theorem dX8_solve_222 : decode cX8_solve 222 = .ok (.ifCond .ne 8, 3) := by decide +kernel
theorem dX8_solve_225 : decode cX8_solve 225 = .ok (.aload_n 0, 1) := by decide +kernel
theorem dX8_solve_226 : decode cX8_solve 226 = .ok (.iload_n 1, 1) := by decide +kernel
theorem dX8_solve_227 : decode cX8_solve 227 = .ok (.invokevirtual 213, 3) := by decide +kernel
theorem dX8_solve_230 : decode cX8_solve 230 = .ok (.aload_n 0, 1) := by decide +kernel
theorem dX8_solve_231 : decode cX8_solve 231 = .ok (.getfield 54, 3) := by decide +kernel
theorem dX8_solve_234 : decode cX8_solve 234 = .ok (.iload_n 1, 1) := by decide +kernel
theorem dX8_solve_235 : decode cX8_solve 235 = .ok (.iload_n 2, 1) := by decide +kernel
theorem dX8_solve_236 : decode cX8_solve 236 = .ok (.ifCond .ne 11, 3) := by decide +kernel
theorem dX8_solve_239 : decode cX8_solve 239 = .ok (.iload_n 3, 1) := by decide +kernel
theorem dX8_solve_240 : decode cX8_solve 240 = .ok (.ifCond .eq 7, 3) := by decide +kernel
theorem dX8_solve_243 : decode cX8_solve 243 = .ok (.iconst 1, 1) := by decide +kernel
theorem dX8_solve_244 : decode cX8_solve 244 = .ok (.goto 4, 3) := by decide +kernel
theorem dX8_solve_247 : decode cX8_solve 247 = .ok (.iconst 0, 1) := by decide +kernel
theorem dX8_solve_248 : decode cX8_solve 248 = .ok (.bastore, 1) := by decide +kernel
theorem dX8_solve_249 : decode cX8_solve 249 = .ok (.iinc 1 1, 3) := by decide +kernel
theorem dX8_solve_252 : decode cX8_solve 252 = .ok (.goto (-146), 3) := by decide +kernel
theorem dX8_solve_255 : decode cX8_solve 255 = .ok (.aload_n 0, 1) := by decide +kernel
theorem dX8_solve_256 : decode cX8_solve 256 = .ok (.invokevirtual 216, 3) := by decide +kernel
theorem dX8_solve_259 : decode cX8_solve 259 = .ok (.aload_n 0, 1) := by decide +kernel
theorem dX8_solve_260 : decode cX8_solve 260 = .ok (.ldc2_w 158, 3) := by decide +kernel
theorem dX8_solve_263 : decode cX8_solve 263 = .ok (.aload_n 0, 1) := by decide +kernel
theorem dX8_solve_264 : decode cX8_solve 264 = .ok (.getfield 188, 3) := by decide +kernel
theorem dX8_solve_267 : decode cX8_solve 267 = .ok (.lmul, 1) := by decide +kernel
theorem dX8_solve_268 : decode cX8_solve 268 = .ok (.putfield 219, 3) := by decide +kernel
theorem dX8_solve_271 : decode cX8_solve 271 = .ok (.iconst 0, 1) := by decide +kernel
theorem dX8_solve_272 : decode cX8_solve 272 = .ok (.istore_n 1, 1) := by decide +kernel
theorem dX8_solve_273 : decode cX8_solve 273 = .ok (.iload_n 1, 1) := by decide +kernel
theorem dX8_solve_274 : decode cX8_solve 274 = .ok (.iconst 5, 1) := by decide +kernel
theorem dX8_solve_275 : decode cX8_solve 275 = .ok (.if_icmp .ge 84, 3) := by decide +kernel
theorem dX8_solve_278 : decode cX8_solve 278 = .ok (.aload_n 0, 1) := by decide +kernel
theorem dX8_solve_279 : decode cX8_solve 279 = .ok (.getfield 51, 3) := by decide +kernel
theorem dX8_solve_282 : decode cX8_solve 282 = .ok (.iload_n 1, 1) := by decide +kernel
theorem dX8_solve_283 : decode cX8_solve 283 = .ok (.lconst 0, 1) := by decide +kernel
theorem dX8_solve_284 : decode cX8_solve 284 = .ok (.lastore, 1) := by decide +kernel
theorem dX8_solve_285 : decode cX8_solve 285 = .ok (.iconst 0, 1) := by decide +kernel
theorem dX8_solve_286 : decode cX8_solve 286 = .ok (.istore_n 2, 1) := by decide +kernel
theorem dX8_solve_287 : decode cX8_solve 287 = .ok (.iload_n 2, 1) := by decide +kernel
theorem dX8_solve_288 : decode cX8_solve 288 = .ok (.iconst 5, 1) := by decide +kernel
theorem dX8_solve_289 : decode cX8_solve 289 = .ok (.if_icmp .ge 64, 3) := by decide +kernel
theorem dX8_solve_292 : decode cX8_solve 292 = .ok (.aload_n 0, 1) := by decide +kernel
theorem dX8_solve_293 : decode cX8_solve 293 = .ok (.getfield 51, 3) := by decide +kernel
theorem dX8_solve_296 : decode cX8_solve 296 = .ok (.iload_n 1, 1) := by decide +kernel
theorem dX8_solve_297 : decode cX8_solve 297 = .ok (.dup2, 1) := by decide +kernel
theorem dX8_solve_298 : decode cX8_solve 298 = .ok (.laload, 1) := by decide +kernel
theorem dX8_solve_299 : decode cX8_solve 299 = .ok (.aload_n 0, 1) := by decide +kernel
theorem dX8_solve_300 : decode cX8_solve 300 = .ok (.getfield 32, 3) := by decide +kernel
theorem dX8_solve_303 : decode cX8_solve 303 = .ok (.iload_n 2, 1) := by decide +kernel
theorem dX8_solve_304 : decode cX8_solve 304 = .ok (.iaload, 1) := by decide +kernel
theorem dX8_solve_305 : decode cX8_solve 305 = .ok (.aload_n 0, 1) := by decide +kernel
theorem dX8_solve_306 : decode cX8_solve 306 = .ok (.getfield 32, 3) := by decide +kernel
theorem dX8_solve_309 : decode cX8_solve 309 = .ok (.iload_n 1, 1) := by decide +kernel
theorem dX8_solve_310 : decode cX8_solve 310 = .ok (.iaload, 1) := by decide +kernel
theorem dX8_solve_311 : decode cX8_solve 311 = .ok (.if_icmp .ne 33, 3) := by decide +kernel
theorem dX8_solve_314 : decode cX8_solve 314 = .ok (.aload_n 0, 1) := by decide +kernel
theorem dX8_solve_315 : decode cX8_solve 315 = .ok (.getfield 54, 3) := by decide +kernel
theorem dX8_solve_318 : decode cX8_solve 318 = .ok (.iload_n 1, 1) := by decide +kernel
theorem dX8_solve_319 : decode cX8_solve 319 = .ok (.baload, 1) := by decide +kernel
theorem dX8_solve_320 : decode cX8_solve 320 = .ok (.ifCond .ne 24, 3) := by decide +kernel
theorem dX8_solve_323 : decode cX8_solve 323 = .ok (.aload_n 0, 1) := by decide +kernel
theorem dX8_solve_324 : decode cX8_solve 324 = .ok (.getfield 45, 3) := by decide +kernel
theorem dX8_solve_327 : decode cX8_solve 327 = .ok (.iload_n 2, 1) := by decide +kernel
theorem dX8_solve_328 : decode cX8_solve 328 = .ok (.iaload, 1) := by decide +kernel
theorem dX8_solve_329 : decode cX8_solve 329 = .ok (.i2l, 1) := by decide +kernel
theorem dX8_solve_330 : decode cX8_solve 330 = .ok (.aload_n 0, 1) := by decide +kernel
theorem dX8_solve_331 : decode cX8_solve 331 = .ok (.getfield 39, 3) := by decide +kernel
theorem dX8_solve_334 : decode cX8_solve 334 = .ok (.iconst 5, 1) := by decide +kernel
theorem dX8_solve_335 : decode cX8_solve 335 = .ok (.iload_n 2, 1) := by decide +kernel
theorem dX8_solve_336 : decode cX8_solve 336 = .ok (.imul, 1) := by decide +kernel
theorem dX8_solve_337 : decode cX8_solve 337 = .ok (.iload_n 1, 1) := by decide +kernel
theorem dX8_solve_338 : decode cX8_solve 338 = .ok (.iadd, 1) := by decide +kernel
theorem dX8_solve_339 : decode cX8_solve 339 = .ok (.laload, 1) := by decide +kernel
theorem dX8_solve_340 : decode cX8_solve 340 = .ok (.lmul, 1) := by decide +kernel
theorem dX8_solve_341 : decode cX8_solve 341 = .ok (.goto 4, 3) := by decide +kernel
theorem dX8_solve_344 : decode cX8_solve 344 = .ok (.lconst 0, 1) := by decide +kernel
theorem dX8_solve_345 : decode cX8_solve 345 = .ok (.ladd, 1) := by decide +kernel
theorem dX8_solve_346 : decode cX8_solve 346 = .ok (.lastore, 1) := by decide +kernel
theorem dX8_solve_347 : decode cX8_solve 347 = .ok (.iinc 2 1, 3) := by decide +kernel
theorem dX8_solve_350 : decode cX8_solve 350 = .ok (.goto (-63), 3) := by decide +kernel
theorem dX8_solve_353 : decode cX8_solve 353 = .ok (.iinc 1 1, 3) := by decide +kernel
theorem dX8_solve_356 : decode cX8_solve 356 = .ok (.goto (-83), 3) := by decide +kernel
theorem dX8_solve_359 : decode cX8_solve 359 = .ok (.return_, 1) := by decide +kernel
noncomputable def qX8_solve_1 : Bx := (bc clt (il 1) (ik 5))
noncomputable def wX8_solve_1 : Sx := (sseq (aii (fgr 7 16 (rl 0)) (il 1) (ic (bc ceq (il 1) (fgi 7 24 (rl 0))) (fgi 7 25 (rl 0)) (ik 0))) (sinc 1 1))
noncomputable def qX8_solve_2 : Bx := (bc clt (il 1) (iald (fgr 7 3 (rl 0)) (ik 2)))
noncomputable def wX8_solve_2 : Sx := (sseq (aoi (· + ·) (fgr 7 16 (rl 0)) (iald (fgr 7 3 (rl 0)) (csi DX8_pumpAt (ai (il 1) anil))) (ic (bz cne (cvz 7 DX8_runs (rl 0) (ai (il 1) anil))) (iald (fgr 7 3 (rl 0)) (i2 (· + ·) (i2 (· + ·) (csi DX8_pumpAt (ai (il 1) anil)) (ik 2)) (iald (fgr 7 20 (rl 0)) (il 1)))) (ik 0))) (sinc 1 1))
noncomputable def qX8_solve_3 : Bx := (bc clt (il 4) (ik 5))
noncomputable def wX8_solve_3 : Sx := (sseq (sseq (ssi 2 (ic (bor (bz cne (il 2)) (band (bc ceq (iald (fgr 7 10 (rl 0)) (il 4)) (iald (fgr 7 10 (rl 0)) (il 1))) (bz cgt (iald (fgr 7 16 (rl 0)) (il 4))))) (ik 1) (ik 0))) (ssi 3 (ic (bor (bz cne (il 3)) (band (bc ceq (iald (fgr 7 10 (rl 0)) (il 4)) (iald (fgr 7 10 (rl 0)) (il 1))) (bz cgt (iald (fgr 7 15 (rl 0)) (il 4))))) (ik 1) (ik 0)))) (sinc 4 1))
noncomputable def qX8_solve_4 : Bx := (bc clt (il 1) (ik 5))
noncomputable def wX8_solve_4 : Sx := (sseq (scut 2 (sseq (ssi 2 (ik 0)) (sseq (ssi 3 (ik 0)) (sseq (scut 4 (sseq (ssi 4 (ik 0)) (swh qX8_solve_3 wX8_solve_3))) (sseq (aoj (· + ·) (fgr 7 11 (rl 0)) (i2 (· * ·) (ik 6) (il 1)) (i2l (iald (fgr 7 16 (rl 0)) (il 1)))) (sseq (sif (bnot (bz cne (il 2))) (scv 7 DX8_unit (rl 0) (ai (il 1) anil)) snop) (aiz (fgr 7 19 (rl 0)) (il 1) (ic (band (bnot (bz cne (il 2))) (bz cne (il 3))) (ik 1) (ik 0))))))))) (sinc 1 1))
noncomputable def qX8_solve_5 : Bx := (bc clt (il 2) (ik 5))
noncomputable def wX8_solve_5 : Sx := (sseq (aoj (· + ·) (fgr 7 17 (rl 0)) (il 1) (jc (band (bc ceq (iald (fgr 7 10 (rl 0)) (il 2)) (iald (fgr 7 10 (rl 0)) (il 1))) (bnot (bz cne (zald (fgr 7 19 (rl 0)) (il 1))))) (j2 (· * ·) (i2l (iald (fgr 7 15 (rl 0)) (il 2))) (jald (fgr 7 12 (rl 0)) (i2 (· + ·) (i2 (· * ·) (ik 5) (il 2)) (il 1)))) (jk 0))) (sinc 2 1))
noncomputable def qX8_solve_6 : Bx := (bc clt (il 1) (ik 5))
noncomputable def wX8_solve_6 : Sx := (sseq (sseq (aij (fgr 7 17 (rl 0)) (il 1) (jk 0)) (scut 2 (sseq (ssi 2 (ik 0)) (swh qX8_solve_5 wX8_solve_5)))) (sinc 1 1))
noncomputable def EX8_solve : Sx := (sseq (sseq (scut 1 (sseq (ssi 1 (ik 0)) (swh qX8_solve_1 wX8_solve_1))) (sseq (scut 1 (sseq (ssi 1 (ik 0)) (swh qX8_solve_2 wX8_solve_2))) (sseq (scv 7 DX8_layTubes (rl 0) anil) (sseq (scut 1 (sseq (ssi 1 (ik 0)) (swh qX8_solve_4 wX8_solve_4))) (sseq (scv 7 DX8_layCofactors (rl 0) anil) (sseq (fpj 7 18 (rl 0) (j2 (· * ·) (jk 2) (fgj 7 14 (rl 0)))) (scut 1 (sseq (ssi 1 (ik 0)) (swh qX8_solve_6 wX8_solve_6))))))))) sretv)
noncomputable def DX8_solve : Fu := mfv 5 EX8_solve
set_option maxRecDepth 4000 in
theorem BX8_solve : Vs RX8 cX8_solve 5 (rmk 3 67) 0 0 EX8_solve := (v_seq (v_seq (v_cut (n := 1) (v_seq (v_istore_n (i := 1) (v_iconst (v := 0) dX8_solve_0 (by decide) (rfl : 0 + 1 = 1)) dX8_solve_1 rfl (by decide) (rfl : 1 + 1 = 2)) (v_wh (v_ilt_f (v_iload_n (i := 1) dX8_solve_2 rfl (rfl : 2 + 1 = 3)) (v_iconst (v := 5) dX8_solve_3 (by decide) (rfl : 3 + 1 = 4)) dX8_solve_4 (rfl : ((4 : Nat) : Int) + 31 = ((35 : Nat) : Int)) (rfl : 4 + 3 = 7)) (vs_goto (v_seq (v_aii (v_gfr kX8 lk1011 (by decide) rfl (v_aload_n (i := 0) dX8_solve_7 rfl (rfl : 7 + 1 = 8)) dX8_solve_8 (rfl : 8 + 3 = 11)) (v_iload_n (i := 1) dX8_solve_11 rfl (rfl : 11 + 1 = 12)) (v_ic (v_ieq_f (v_iload_n (i := 1) dX8_solve_12 rfl (rfl : 12 + 1 = 13)) (v_gfi kX8 lk1019 (by decide) rfl (v_aload_n (i := 0) dX8_solve_13 rfl (rfl : 13 + 1 = 14)) dX8_solve_14 (rfl : 14 + 3 = 17)) dX8_solve_17 (rfl : ((17 : Nat) : Int) + 10 = ((27 : Nat) : Int)) (rfl : 17 + 3 = 20)) (vi_goto (v_gfi kX8 lk1020 (by decide) rfl (v_aload_n (i := 0) dX8_solve_20 rfl (rfl : 20 + 1 = 21)) dX8_solve_21 (rfl : 21 + 3 = 24)) dX8_solve_24 (rfl : ((24 : Nat) : Int) + 4 = ((28 : Nat) : Int))) (v_iconst (v := 0) dX8_solve_27 (by decide) (rfl : 27 + 1 = 28))) dX8_solve_28 (rfl : 28 + 1 = 29)) (v_iinc (v := 1) dX8_solve_29 (by decide) (by decide) (rfl : 29 + 3 = 32))) dX8_solve_32 (rfl : ((32 : Nat) : Int) + (-30) = ((2 : Nat) : Int)))))) (v_seq (v_cut (n := 1) (v_seq (v_istore_n (i := 1) (v_iconst (v := 0) dX8_solve_35 (by decide) (rfl : 35 + 1 = 36)) dX8_solve_36 rfl (by decide) (rfl : 36 + 1 = 37)) (v_wh (v_ilt_f (v_iload_n (i := 1) dX8_solve_37 rfl (rfl : 37 + 1 = 38)) (v_iald (v_gfr kX8 lk998 (by decide) rfl (v_aload_n (i := 0) dX8_solve_38 rfl (rfl : 38 + 1 = 39)) dX8_solve_39 (rfl : 39 + 3 = 42)) (v_iconst (v := 2) dX8_solve_42 (by decide) (rfl : 42 + 1 = 43)) dX8_solve_43 (rfl : 43 + 1 = 44)) dX8_solve_44 (rfl : ((44 : Nat) : Int) + 56 = ((100 : Nat) : Int)) (rfl : 44 + 3 = 47)) (vs_goto (v_seq (v_aoi_iadd (v_gfr kX8 lk1011 (by decide) rfl (v_aload_n (i := 0) dX8_solve_47 rfl (rfl : 47 + 1 = 48)) dX8_solve_48 (rfl : 48 + 3 = 51)) (v_iald (v_gfr kX8 lk998 (by decide) rfl (v_aload_n (i := 0) dX8_solve_51 rfl (rfl : 51 + 1 = 52)) dX8_solve_52 (rfl : 52 + 3 = 55)) (v_csi IX8_pumpAt hX8_pumpAt lk1163 ⟨by decide, by decide⟩ (by decide) (v_ai (v_iload_n (i := 1) dX8_solve_55 rfl (rfl : 55 + 1 = 56)) v_anil) dX8_solve_56 (rfl : 56 + 3 = 59)) dX8_solve_59 (rfl : 59 + 1 = 60)) dX8_solve_60 dX8_solve_61 (rfl : 60 + 1 + 1 = 62) (v_ic (v_zne_f (v_cvz kX8 IX8_runs hX8_runs lk1273 ⟨by decide, by decide⟩ (by decide) (v_aload_n (i := 0) dX8_solve_62 rfl (rfl : 62 + 1 = 63)) (v_ai (v_iload_n (i := 1) dX8_solve_63 rfl (rfl : 63 + 1 = 64)) v_anil) dX8_solve_64 (rfl : 64 + 3 = 67)) dX8_solve_67 (rfl : ((67 : Nat) : Int) + 24 = ((91 : Nat) : Int)) (rfl : 67 + 3 = 70)) (vi_goto (v_iald (v_gfr kX8 lk998 (by decide) rfl (v_aload_n (i := 0) dX8_solve_70 rfl (rfl : 70 + 1 = 71)) dX8_solve_71 (rfl : 71 + 3 = 74)) (v_iadd (v_iadd (v_csi IX8_pumpAt hX8_pumpAt lk1163 ⟨by decide, by decide⟩ (by decide) (v_ai (v_iload_n (i := 1) dX8_solve_74 rfl (rfl : 74 + 1 = 75)) v_anil) dX8_solve_75 (rfl : 75 + 3 = 78)) (v_iconst (v := 2) dX8_solve_78 (by decide) (rfl : 78 + 1 = 79)) dX8_solve_79 (rfl : 79 + 1 = 80)) (v_iald (v_gfr kX8 lk1015 (by decide) rfl (v_aload_n (i := 0) dX8_solve_80 rfl (rfl : 80 + 1 = 81)) dX8_solve_81 (rfl : 81 + 3 = 84)) (v_iload_n (i := 1) dX8_solve_84 rfl (rfl : 84 + 1 = 85)) dX8_solve_85 (rfl : 85 + 1 = 86)) dX8_solve_86 (rfl : 86 + 1 = 87)) dX8_solve_87 (rfl : 87 + 1 = 88)) dX8_solve_88 (rfl : ((88 : Nat) : Int) + 4 = ((92 : Nat) : Int))) (v_iconst (v := 0) dX8_solve_91 (by decide) (rfl : 91 + 1 = 92))) dX8_solve_92 dX8_solve_93 (rfl : 92 + 1 + 1 = 94)) (v_iinc (v := 1) dX8_solve_94 (by decide) (by decide) (rfl : 94 + 3 = 97))) dX8_solve_97 (rfl : ((97 : Nat) : Int) + (-60) = ((37 : Nat) : Int)))))) (v_seq (v_scv kX8 IX8_layTubes hX8_layTubes lk1277 ⟨by decide, by decide⟩ (v_aload_n (i := 0) dX8_solve_100 rfl (rfl : 100 + 1 = 101)) v_anil dX8_solve_101 (rfl : 101 + 3 = 104)) (v_seq (v_cut (n := 1) (v_seq (v_istore_n (i := 1) (v_iconst (v := 0) dX8_solve_104 (by decide) (rfl : 104 + 1 = 105)) dX8_solve_105 rfl (by decide) (rfl : 105 + 1 = 106)) (v_wh (v_ilt_f (v_iload_n (i := 1) dX8_solve_106 rfl (rfl : 106 + 1 = 107)) (v_iconst (v := 5) dX8_solve_107 (by decide) (rfl : 107 + 1 = 108)) dX8_solve_108 (rfl : ((108 : Nat) : Int) + 147 = ((255 : Nat) : Int)) (rfl : 108 + 3 = 111)) (vs_goto (v_seq (v_cut (n := 2) (v_seq (v_istore_n (i := 2) (v_iconst (v := 0) dX8_solve_111 (by decide) (rfl : 111 + 1 = 112)) dX8_solve_112 rfl (by decide) (rfl : 112 + 1 = 113)) (v_seq (v_istore_n (i := 3) (v_iconst (v := 0) dX8_solve_113 (by decide) (rfl : 113 + 1 = 114)) dX8_solve_114 rfl (by decide) (rfl : 114 + 1 = 115)) (v_seq (v_cut (n := 4) (v_seq (v_istore (i := 4) (v_iconst (v := 0) dX8_solve_115 (by decide) (rfl : 115 + 1 = 116)) dX8_solve_116 (by decide) (rfl : 116 + 2 = 118)) (v_wh (v_ilt_f (v_iload (i := 4) dX8_solve_118 (rfl : 118 + 2 = 120)) (v_iconst (v := 5) dX8_solve_120 (by decide) (rfl : 120 + 1 = 121)) dX8_solve_121 (rfl : ((121 : Nat) : Int) + 81 = ((202 : Nat) : Int)) (rfl : 121 + 3 = 124)) (vs_goto (v_seq (v_seq (v_istore_n (i := 2) (v_ic (v_or (v_zne_t (v_iload_n (i := 2) dX8_solve_124 rfl (rfl : 124 + 1 = 125)) dX8_solve_125 (rfl : ((125 : Nat) : Int) + 29 = ((154 : Nat) : Int)) (rfl : 125 + 3 = 128)) (v_and (v_ieq_f (v_iald (v_gfr kX8 lk1005 (by decide) rfl (v_aload_n (i := 0) dX8_solve_128 rfl (rfl : 128 + 1 = 129)) dX8_solve_129 (rfl : 129 + 3 = 132)) (v_iload (i := 4) dX8_solve_132 (rfl : 132 + 2 = 134)) dX8_solve_134 (rfl : 134 + 1 = 135)) (v_iald (v_gfr kX8 lk1005 (by decide) rfl (v_aload_n (i := 0) dX8_solve_135 rfl (rfl : 135 + 1 = 136)) dX8_solve_136 (rfl : 136 + 3 = 139)) (v_iload_n (i := 1) dX8_solve_139 rfl (rfl : 139 + 1 = 140)) dX8_solve_140 (rfl : 140 + 1 = 141)) dX8_solve_141 (rfl : ((141 : Nat) : Int) + 17 = ((158 : Nat) : Int)) (rfl : 141 + 3 = 144)) (v_zgt_f (v_iald (v_gfr kX8 lk1011 (by decide) rfl (v_aload_n (i := 0) dX8_solve_144 rfl (rfl : 144 + 1 = 145)) dX8_solve_145 (rfl : 145 + 3 = 148)) (v_iload (i := 4) dX8_solve_148 (rfl : 148 + 2 = 150)) dX8_solve_150 (rfl : 150 + 1 = 151)) dX8_solve_151 (rfl : ((151 : Nat) : Int) + 7 = ((158 : Nat) : Int)) (rfl : 151 + 3 = 154)))) (vi_goto (v_iconst (v := 1) dX8_solve_154 (by decide) (rfl : 154 + 1 = 155)) dX8_solve_155 (rfl : ((155 : Nat) : Int) + 4 = ((159 : Nat) : Int))) (v_iconst (v := 0) dX8_solve_158 (by decide) (rfl : 158 + 1 = 159))) dX8_solve_159 rfl (by decide) (rfl : 159 + 1 = 160)) (v_istore_n (i := 3) (v_ic (v_or (v_zne_t (v_iload_n (i := 3) dX8_solve_160 rfl (rfl : 160 + 1 = 161)) dX8_solve_161 (rfl : ((161 : Nat) : Int) + 29 = ((190 : Nat) : Int)) (rfl : 161 + 3 = 164)) (v_and (v_ieq_f (v_iald (v_gfr kX8 lk1005 (by decide) rfl (v_aload_n (i := 0) dX8_solve_164 rfl (rfl : 164 + 1 = 165)) dX8_solve_165 (rfl : 165 + 3 = 168)) (v_iload (i := 4) dX8_solve_168 (rfl : 168 + 2 = 170)) dX8_solve_170 (rfl : 170 + 1 = 171)) (v_iald (v_gfr kX8 lk1005 (by decide) rfl (v_aload_n (i := 0) dX8_solve_171 rfl (rfl : 171 + 1 = 172)) dX8_solve_172 (rfl : 172 + 3 = 175)) (v_iload_n (i := 1) dX8_solve_175 rfl (rfl : 175 + 1 = 176)) dX8_solve_176 (rfl : 176 + 1 = 177)) dX8_solve_177 (rfl : ((177 : Nat) : Int) + 17 = ((194 : Nat) : Int)) (rfl : 177 + 3 = 180)) (v_zgt_f (v_iald (v_gfr kX8 lk1010 (by decide) rfl (v_aload_n (i := 0) dX8_solve_180 rfl (rfl : 180 + 1 = 181)) dX8_solve_181 (rfl : 181 + 3 = 184)) (v_iload (i := 4) dX8_solve_184 (rfl : 184 + 2 = 186)) dX8_solve_186 (rfl : 186 + 1 = 187)) dX8_solve_187 (rfl : ((187 : Nat) : Int) + 7 = ((194 : Nat) : Int)) (rfl : 187 + 3 = 190)))) (vi_goto (v_iconst (v := 1) dX8_solve_190 (by decide) (rfl : 190 + 1 = 191)) dX8_solve_191 (rfl : ((191 : Nat) : Int) + 4 = ((195 : Nat) : Int))) (v_iconst (v := 0) dX8_solve_194 (by decide) (rfl : 194 + 1 = 195))) dX8_solve_195 rfl (by decide) (rfl : 195 + 1 = 196))) (v_iinc (v := 1) dX8_solve_196 (by decide) (by decide) (rfl : 196 + 3 = 199))) dX8_solve_199 (rfl : ((199 : Nat) : Int) + (-81) = ((118 : Nat) : Int)))))) (v_seq (v_aoj_ladd (v_gfr kX8 lk1006 (by decide) rfl (v_aload_n (i := 0) dX8_solve_202 rfl (rfl : 202 + 1 = 203)) dX8_solve_203 (rfl : 203 + 3 = 206)) (v_imul (v_bipush (v := 6) dX8_solve_206 (by decide) (rfl : 206 + 2 = 208)) (v_iload_n (i := 1) dX8_solve_208 rfl (rfl : 208 + 1 = 209)) dX8_solve_209 (rfl : 209 + 1 = 210)) dX8_solve_210 dX8_solve_211 (rfl : 210 + 1 + 1 = 212) (v_i2l (v_iald (v_gfr kX8 lk1011 (by decide) rfl (v_aload_n (i := 0) dX8_solve_212 rfl (rfl : 212 + 1 = 213)) dX8_solve_213 (rfl : 213 + 3 = 216)) (v_iload_n (i := 1) dX8_solve_216 rfl (rfl : 216 + 1 = 217)) dX8_solve_217 (rfl : 217 + 1 = 218)) dX8_solve_218 (rfl : 218 + 1 = 219)) dX8_solve_219 dX8_solve_220 (rfl : 219 + 1 + 1 = 221)) (v_seq (v_if (v_not (v_zne_t (v_iload_n (i := 2) dX8_solve_221 rfl (rfl : 221 + 1 = 222)) dX8_solve_222 (rfl : ((222 : Nat) : Int) + 8 = ((230 : Nat) : Int)) (rfl : 222 + 3 = 225))) (v_scv kX8 IX8_unit hX8_unit lk1281 ⟨by decide, by decide⟩ (v_aload_n (i := 0) dX8_solve_225 rfl (rfl : 225 + 1 = 226)) (v_ai (v_iload_n (i := 1) dX8_solve_226 rfl (rfl : 226 + 1 = 227)) v_anil) dX8_solve_227 (rfl : 227 + 3 = 230)) v_nop) (v_aiz (v_gfr kX8 lk1014 (by decide) rfl (v_aload_n (i := 0) dX8_solve_230 rfl (rfl : 230 + 1 = 231)) dX8_solve_231 (rfl : 231 + 3 = 234)) (v_iload_n (i := 1) dX8_solve_234 rfl (rfl : 234 + 1 = 235)) (v_ic (v_and (v_not (v_zne_t (v_iload_n (i := 2) dX8_solve_235 rfl (rfl : 235 + 1 = 236)) dX8_solve_236 (rfl : ((236 : Nat) : Int) + 11 = ((247 : Nat) : Int)) (rfl : 236 + 3 = 239))) (v_zne_f (v_iload_n (i := 3) dX8_solve_239 rfl (rfl : 239 + 1 = 240)) dX8_solve_240 (rfl : ((240 : Nat) : Int) + 7 = ((247 : Nat) : Int)) (rfl : 240 + 3 = 243))) (vi_goto (v_iconst (v := 1) dX8_solve_243 (by decide) (rfl : 243 + 1 = 244)) dX8_solve_244 (rfl : ((244 : Nat) : Int) + 4 = ((248 : Nat) : Int))) (v_iconst (v := 0) dX8_solve_247 (by decide) (rfl : 247 + 1 = 248))) dX8_solve_248 (rfl : 248 + 1 = 249)))))))) (v_iinc (v := 1) dX8_solve_249 (by decide) (by decide) (rfl : 249 + 3 = 252))) dX8_solve_252 (rfl : ((252 : Nat) : Int) + (-146) = ((106 : Nat) : Int)))))) (v_seq (v_scv kX8 IX8_layCofactors hX8_layCofactors lk1285 ⟨by decide, by decide⟩ (v_aload_n (i := 0) dX8_solve_255 rfl (rfl : 255 + 1 = 256)) v_anil dX8_solve_256 (rfl : 256 + 3 = 259)) (v_seq (v_fpj kX8 lk1013 (by decide) rfl rfl (by decide +kernel) (v_aload_n (i := 0) dX8_solve_259 rfl (rfl : 259 + 1 = 260)) (v_lmul (v_ldc2 (v := 2) lk1189 dX8_solve_260 (rfl : 260 + 3 = 263)) (v_gfj kX8 lk1009 (by decide) rfl (v_aload_n (i := 0) dX8_solve_263 rfl (rfl : 263 + 1 = 264)) dX8_solve_264 (rfl : 264 + 3 = 267)) dX8_solve_267 (rfl : 267 + 1 = 268)) dX8_solve_268 (rfl : 268 + 3 = 271)) (v_cut (n := 1) (v_seq (v_istore_n (i := 1) (v_iconst (v := 0) dX8_solve_271 (by decide) (rfl : 271 + 1 = 272)) dX8_solve_272 rfl (by decide) (rfl : 272 + 1 = 273)) (v_wh (v_ilt_f (v_iload_n (i := 1) dX8_solve_273 rfl (rfl : 273 + 1 = 274)) (v_iconst (v := 5) dX8_solve_274 (by decide) (rfl : 274 + 1 = 275)) dX8_solve_275 (rfl : ((275 : Nat) : Int) + 84 = ((359 : Nat) : Int)) (rfl : 275 + 3 = 278)) (vs_goto (v_seq (v_seq (v_aij (v_gfr kX8 lk1012 (by decide) rfl (v_aload_n (i := 0) dX8_solve_278 rfl (rfl : 278 + 1 = 279)) dX8_solve_279 (rfl : 279 + 3 = 282)) (v_iload_n (i := 1) dX8_solve_282 rfl (rfl : 282 + 1 = 283)) (v_lconst (v := 0) dX8_solve_283 (by decide) (rfl : 283 + 1 = 284)) dX8_solve_284 (rfl : 284 + 1 = 285)) (v_cut (n := 2) (v_seq (v_istore_n (i := 2) (v_iconst (v := 0) dX8_solve_285 (by decide) (rfl : 285 + 1 = 286)) dX8_solve_286 rfl (by decide) (rfl : 286 + 1 = 287)) (v_wh (v_ilt_f (v_iload_n (i := 2) dX8_solve_287 rfl (rfl : 287 + 1 = 288)) (v_iconst (v := 5) dX8_solve_288 (by decide) (rfl : 288 + 1 = 289)) dX8_solve_289 (rfl : ((289 : Nat) : Int) + 64 = ((353 : Nat) : Int)) (rfl : 289 + 3 = 292)) (vs_goto (v_seq (v_aoj_ladd (v_gfr kX8 lk1012 (by decide) rfl (v_aload_n (i := 0) dX8_solve_292 rfl (rfl : 292 + 1 = 293)) dX8_solve_293 (rfl : 293 + 3 = 296)) (v_iload_n (i := 1) dX8_solve_296 rfl (rfl : 296 + 1 = 297)) dX8_solve_297 dX8_solve_298 (rfl : 297 + 1 + 1 = 299) (v_jc (v_and (v_ieq_f (v_iald (v_gfr kX8 lk1005 (by decide) rfl (v_aload_n (i := 0) dX8_solve_299 rfl (rfl : 299 + 1 = 300)) dX8_solve_300 (rfl : 300 + 3 = 303)) (v_iload_n (i := 2) dX8_solve_303 rfl (rfl : 303 + 1 = 304)) dX8_solve_304 (rfl : 304 + 1 = 305)) (v_iald (v_gfr kX8 lk1005 (by decide) rfl (v_aload_n (i := 0) dX8_solve_305 rfl (rfl : 305 + 1 = 306)) dX8_solve_306 (rfl : 306 + 3 = 309)) (v_iload_n (i := 1) dX8_solve_309 rfl (rfl : 309 + 1 = 310)) dX8_solve_310 (rfl : 310 + 1 = 311)) dX8_solve_311 (rfl : ((311 : Nat) : Int) + 33 = ((344 : Nat) : Int)) (rfl : 311 + 3 = 314)) (v_not (v_zne_t (v_zald (v_gfr kX8 lk1014 (by decide) rfl (v_aload_n (i := 0) dX8_solve_314 rfl (rfl : 314 + 1 = 315)) dX8_solve_315 (rfl : 315 + 3 = 318)) (v_iload_n (i := 1) dX8_solve_318 rfl (rfl : 318 + 1 = 319)) dX8_solve_319 (rfl : 319 + 1 = 320)) dX8_solve_320 (rfl : ((320 : Nat) : Int) + 24 = ((344 : Nat) : Int)) (rfl : 320 + 3 = 323)))) (vj_goto (v_lmul (v_i2l (v_iald (v_gfr kX8 lk1010 (by decide) rfl (v_aload_n (i := 0) dX8_solve_323 rfl (rfl : 323 + 1 = 324)) dX8_solve_324 (rfl : 324 + 3 = 327)) (v_iload_n (i := 2) dX8_solve_327 rfl (rfl : 327 + 1 = 328)) dX8_solve_328 (rfl : 328 + 1 = 329)) dX8_solve_329 (rfl : 329 + 1 = 330)) (v_jald (v_gfr kX8 lk1007 (by decide) rfl (v_aload_n (i := 0) dX8_solve_330 rfl (rfl : 330 + 1 = 331)) dX8_solve_331 (rfl : 331 + 3 = 334)) (v_iadd (v_imul (v_iconst (v := 5) dX8_solve_334 (by decide) (rfl : 334 + 1 = 335)) (v_iload_n (i := 2) dX8_solve_335 rfl (rfl : 335 + 1 = 336)) dX8_solve_336 (rfl : 336 + 1 = 337)) (v_iload_n (i := 1) dX8_solve_337 rfl (rfl : 337 + 1 = 338)) dX8_solve_338 (rfl : 338 + 1 = 339)) dX8_solve_339 (rfl : 339 + 1 = 340)) dX8_solve_340 (rfl : 340 + 1 = 341)) dX8_solve_341 (rfl : ((341 : Nat) : Int) + 4 = ((345 : Nat) : Int))) (v_lconst (v := 0) dX8_solve_344 (by decide) (rfl : 344 + 1 = 345))) dX8_solve_345 dX8_solve_346 (rfl : 345 + 1 + 1 = 347)) (v_iinc (v := 1) dX8_solve_347 (by decide) (by decide) (rfl : 347 + 3 = 350))) dX8_solve_350 (rfl : ((350 : Nat) : Int) + (-63) = ((287 : Nat) : Int))))))) (v_iinc (v := 1) dX8_solve_353 (by decide) (by decide) (rfl : 353 + 3 = 356))) dX8_solve_356 (rfl : ((356 : Nat) : Int) + (-83) = ((273 : Nat) : Int)))))))))))) (v_retv dX8_solve_359))
theorem IX8_solve : Mv yX8_solve cX8_solve 5 (rmk 3 67) DX8_solve := mk_v (by decide +kernel) BX8_solve

theorem dX8_reckon_0 : decode cX8_reckon 0 = .ok (.aload_n 0, 1) := by decide +kernel
theorem dX8_reckon_1 : decode cX8_reckon 1 = .ok (.invokevirtual 225, 3) := by decide +kernel
theorem dX8_reckon_4 : decode cX8_reckon 4 = .ok (.aload_n 0, 1) := by decide +kernel
theorem dX8_reckon_5 : decode cX8_reckon 5 = .ok (.invokevirtual 228, 3) := by decide +kernel
theorem dX8_reckon_8 : decode cX8_reckon 8 = .ok (.iconst 0, 1) := by decide +kernel
theorem dX8_reckon_9 : decode cX8_reckon 9 = .ok (.istore_n 2, 1) := by decide +kernel
theorem dX8_reckon_10 : decode cX8_reckon 10 = .ok (.iload_n 2, 1) := by decide +kernel
theorem dX8_reckon_11 : decode cX8_reckon 11 = .ok (.iconst 3, 1) := by decide +kernel
theorem dX8_reckon_12 : decode cX8_reckon 12 = .ok (.if_icmp .ge 16, 3) := by decide +kernel
theorem dX8_reckon_15 : decode cX8_reckon 15 = .ok (.aload_n 0, 1) := by decide +kernel
theorem dX8_reckon_16 : decode cX8_reckon 16 = .ok (.getfield 57, 3) := by decide +kernel
theorem dX8_reckon_19 : decode cX8_reckon 19 = .ok (.iload_n 2, 1) := by decide +kernel
theorem dX8_reckon_20 : decode cX8_reckon 20 = .ok (.iconst 0, 1) := by decide +kernel
theorem dX8_reckon_21 : decode cX8_reckon 21 = .ok (.iastore, 1) := by decide +kernel
theorem dX8_reckon_22 : decode cX8_reckon 22 = .ok (.iinc 2 1, 3) := by decide +kernel
theorem dX8_reckon_25 : decode cX8_reckon 25 = .ok (.goto (-15), 3) := by decide +kernel
theorem dX8_reckon_28 : decode cX8_reckon 28 = .ok (.aload_n 0, 1) := by decide +kernel
theorem dX8_reckon_29 : decode cX8_reckon 29 = .ok (.iconst 0, 1) := by decide +kernel
theorem dX8_reckon_30 : decode cX8_reckon 30 = .ok (.putfield 231, 3) := by decide +kernel
theorem dX8_reckon_33 : decode cX8_reckon 33 = .ok (.iconst 1, 1) := by decide +kernel
theorem dX8_reckon_34 : decode cX8_reckon 34 = .ok (.istore_n 2, 1) := by decide +kernel
theorem dX8_reckon_35 : decode cX8_reckon 35 = .ok (.iload_n 2, 1) := by decide +kernel
theorem dX8_reckon_36 : decode cX8_reckon 36 = .ok (.ifCond .eq 83, 3) := by decide +kernel
theorem dX8_reckon_39 : decode cX8_reckon 39 = .ok (.aload_n 0, 1) := by decide +kernel
theorem dX8_reckon_40 : decode cX8_reckon 40 = .ok (.invokevirtual 234, 3) := by decide +kernel
theorem dX8_reckon_43 : decode cX8_reckon 43 = .ok (.aload_n 0, 1) := by decide +kernel
theorem dX8_reckon_44 : decode cX8_reckon 44 = .ok (.invokevirtual 237, 3) := by decide +kernel
theorem dX8_reckon_47 : decode cX8_reckon 47 = .ok (.ifCond .eq 45, 3) := by decide +kernel
theorem dX8_reckon_50 : decode cX8_reckon 50 = .ok (.iconst 0, 1) := by decide +kernel
theorem dX8_reckon_51 : decode cX8_reckon 51 = .ok (.istore_n 3, 1) := by decide +kernel
theorem dX8_reckon_52 : decode cX8_reckon 52 = .ok (.iload_n 3, 1) := by decide +kernel
theorem dX8_reckon_53 : decode cX8_reckon 53 = .ok (.iconst 3, 1) := by decide +kernel
theorem dX8_reckon_54 : decode cX8_reckon 54 = .ok (.if_icmp .ge 28, 3) := by decide +kernel
theorem dX8_reckon_57 : decode cX8_reckon 57 = .ok (.aload_n 0, 1) := by decide +kernel
theorem dX8_reckon_58 : decode cX8_reckon 58 = .ok (.getfield 231, 3) := by decide +kernel
theorem dX8_reckon_61 : decode cX8_reckon 61 = .ok (.ifCond .ne 21, 3) := by decide +kernel
theorem dX8_reckon_64 : decode cX8_reckon 64 = .ok (.aload_n 0, 1) := by decide +kernel
theorem dX8_reckon_65 : decode cX8_reckon 65 = .ok (.getfield 60, 3) := by decide +kernel
theorem dX8_reckon_68 : decode cX8_reckon 68 = .ok (.iload_n 3, 1) := by decide +kernel
theorem dX8_reckon_69 : decode cX8_reckon 69 = .ok (.aload_n 0, 1) := by decide +kernel
theorem dX8_reckon_70 : decode cX8_reckon 70 = .ok (.getfield 57, 3) := by decide +kernel
theorem dX8_reckon_73 : decode cX8_reckon 73 = .ok (.iload_n 3, 1) := by decide +kernel
theorem dX8_reckon_74 : decode cX8_reckon 74 = .ok (.iaload, 1) := by decide +kernel
theorem dX8_reckon_75 : decode cX8_reckon 75 = .ok (.iastore, 1) := by decide +kernel
theorem dX8_reckon_76 : decode cX8_reckon 76 = .ok (.iinc 3 1, 3) := by decide +kernel
theorem dX8_reckon_79 : decode cX8_reckon 79 = .ok (.goto (-27), 3) := by decide +kernel
theorem dX8_reckon_82 : decode cX8_reckon 82 = .ok (.aload_n 0, 1) := by decide +kernel
theorem dX8_reckon_83 : decode cX8_reckon 83 = .ok (.dup, 1) := by decide +kernel
theorem dX8_reckon_84 : decode cX8_reckon 84 = .ok (.getfield 231, 3) := by decide +kernel
theorem dX8_reckon_87 : decode cX8_reckon 87 = .ok (.iconst 1, 1) := by decide +kernel
theorem dX8_reckon_88 : decode cX8_reckon 88 = .ok (.iadd, 1) := by decide +kernel
theorem dX8_reckon_89 : decode cX8_reckon 89 = .ok (.putfield 231, 3) := by decide +kernel
theorem dX8_reckon_92 : decode cX8_reckon 92 = .ok (.iload_n 1, 1) := by decide +kernel
theorem dX8_reckon_93 : decode cX8_reckon 93 = .ok (.ifCond .ne 10, 3) := by decide +kernel
theorem dX8_reckon_96 : decode cX8_reckon 96 = .ok (.aload_n 0, 1) := by decide +kernel
theorem dX8_reckon_97 : decode cX8_reckon 97 = .ok (.getfield 231, 3) := by decide +kernel
theorem dX8_reckon_100 : decode cX8_reckon 100 = .ok (.ifCond .ne 14, 3) := by decide +kernel
theorem dX8_reckon_103 : decode cX8_reckon 103 = .ok (.aload_n 0, 1) := by decide +kernel
theorem dX8_reckon_104 : decode cX8_reckon 104 = .ok (.invokevirtual 241, 3) := by decide +kernel
theorem dX8_reckon_107 : decode cX8_reckon 107 = .ok (.ifCond .eq 7, 3) := by decide +kernel
theorem dX8_reckon_110 : decode cX8_reckon 110 = .ok (.iconst 1, 1) := by decide +kernel
theorem dX8_reckon_111 : decode cX8_reckon 111 = .ok (.goto 4, 3) := by decide +kernel
theorem dX8_reckon_114 : decode cX8_reckon 114 = .ok (.iconst 0, 1) := by decide +kernel
theorem dX8_reckon_115 : decode cX8_reckon 115 = .ok (.istore_n 2, 1) := by decide +kernel
theorem dX8_reckon_116 : decode cX8_reckon 116 = .ok (.goto (-81), 3) := by decide +kernel
theorem dX8_reckon_119 : decode cX8_reckon 119 = .ok (.iload_n 1, 1) := by decide +kernel
theorem dX8_reckon_120 : decode cX8_reckon 120 = .ok (.ifCond .eq 39, 3) := by decide +kernel
theorem dX8_reckon_123 : decode cX8_reckon 123 = .ok (.aload_n 0, 1) := by decide +kernel
theorem dX8_reckon_124 : decode cX8_reckon 124 = .ok (.getfield 231, 3) := by decide +kernel
theorem dX8_reckon_127 : decode cX8_reckon 127 = .ok (.ifCond .le 32, 3) := by decide +kernel
theorem dX8_reckon_130 : decode cX8_reckon 130 = .ok (.iconst 0, 1) := by decide +kernel
theorem dX8_reckon_131 : decode cX8_reckon 131 = .ok (.istore_n 3, 1) := by decide +kernel
theorem dX8_reckon_132 : decode cX8_reckon 132 = .ok (.iload_n 3, 1) := by decide +kernel
theorem dX8_reckon_133 : decode cX8_reckon 133 = .ok (.iconst 3, 1) := by decide +kernel
theorem dX8_reckon_134 : decode cX8_reckon 134 = .ok (.if_icmp .ge 21, 3) := by decide +kernel
theorem dX8_reckon_137 : decode cX8_reckon 137 = .ok (.aload_n 0, 1) := by decide +kernel
theorem dX8_reckon_138 : decode cX8_reckon 138 = .ok (.getfield 57, 3) := by decide +kernel
theorem dX8_reckon_141 : decode cX8_reckon 141 = .ok (.iload_n 3, 1) := by decide +kernel
theorem dX8_reckon_142 : decode cX8_reckon 142 = .ok (.aload_n 0, 1) := by decide +kernel
theorem dX8_reckon_143 : decode cX8_reckon 143 = .ok (.getfield 60, 3) := by decide +kernel
theorem dX8_reckon_146 : decode cX8_reckon 146 = .ok (.iload_n 3, 1) := by decide +kernel
theorem dX8_reckon_147 : decode cX8_reckon 147 = .ok (.iaload, 1) := by decide +kernel
theorem dX8_reckon_148 : decode cX8_reckon 148 = .ok (.iastore, 1) := by decide +kernel
theorem dX8_reckon_149 : decode cX8_reckon 149 = .ok (.iinc 3 1, 3) := by decide +kernel
theorem dX8_reckon_152 : decode cX8_reckon 152 = .ok (.goto (-20), 3) := by decide +kernel
theorem dX8_reckon_155 : decode cX8_reckon 155 = .ok (.aload_n 0, 1) := by decide +kernel
theorem dX8_reckon_156 : decode cX8_reckon 156 = .ok (.invokevirtual 234, 3) := by decide +kernel
theorem dX8_reckon_159 : decode cX8_reckon 159 = .ok (.aload_n 0, 1) := by decide +kernel
theorem dX8_reckon_160 : decode cX8_reckon 160 = .ok (.getfield 231, 3) := by decide +kernel
theorem dX8_reckon_163 : decode cX8_reckon 163 = .ok (.ifCond .le 7, 3) := by decide +kernel
theorem dX8_reckon_166 : decode cX8_reckon 166 = .ok (.iconst 1, 1) := by decide +kernel
theorem dX8_reckon_167 : decode cX8_reckon 167 = .ok (.goto 4, 3) := by decide +kernel
theorem dX8_reckon_170 : decode cX8_reckon 170 = .ok (.iconst 0, 1) := by decide +kernel
theorem dX8_reckon_171 : decode cX8_reckon 171 = .ok (.ireturn, 1) := by decide +kernel
noncomputable def qX8_reckon_1 : Bx := (bc clt (il 2) (ik 3))
noncomputable def wX8_reckon_1 : Sx := (sseq (aii (fgr 7 20 (rl 0)) (il 2) (ik 0)) (sinc 2 1))
noncomputable def qX8_reckon_2 : Bx := (band (bc clt (il 3) (ik 3)) (bz ceq (fgi 7 21 (rl 0))))
noncomputable def wX8_reckon_2 : Sx := (sseq (aii (fgr 7 26 (rl 0)) (il 3) (iald (fgr 7 20 (rl 0)) (il 3))) (sinc 3 1))
noncomputable def qX8_reckon_3 : Bx := (bz cne (il 2))
noncomputable def wX8_reckon_3 : Sx := (sseq (scv 7 DX8_solve (rl 0) anil) (sseq (sif (bz cne (cvz 7 DX8_agrees (rl 0) anil)) (sseq (scut 3 (sseq (ssi 3 (ik 0)) (swh qX8_reckon_2 wX8_reckon_2))) (foi (· + ·) 7 21 (rl 0) (ik 1))) snop) (ssi 2 (ic (band (bor (bz cne (il 1)) (bz ceq (fgi 7 21 (rl 0)))) (bz cne (cvz 7 DX8_nextStages (rl 0) anil))) (ik 1) (ik 0)))))
noncomputable def qX8_reckon_4 : Bx := (bc clt (il 3) (ik 3))
noncomputable def wX8_reckon_4 : Sx := (sseq (aii (fgr 7 20 (rl 0)) (il 3) (iald (fgr 7 26 (rl 0)) (il 3))) (sinc 3 1))
noncomputable def EX8_reckon : Sx := (sseq (scv 7 DX8_layNets (rl 0) anil) (sseq (scv 7 DX8_layComes (rl 0) anil) (sseq (scut 2 (sseq (ssi 2 (ik 0)) (swh qX8_reckon_1 wX8_reckon_1))) (sseq (fpi 7 21 (rl 0) (ik 0)) (sseq (ssi 2 (ik 1)) (sseq (swh qX8_reckon_3 wX8_reckon_3) (sseq (sif (band (bz cne (il 1)) (bz cgt (fgi 7 21 (rl 0)))) (sseq (scut 3 (sseq (ssi 3 (ik 0)) (swh qX8_reckon_4 wX8_reckon_4))) (scv 7 DX8_solve (rl 0) anil)) snop) (sret (ic (bz cgt (fgi 7 21 (rl 0))) (ik 1) (ik 0))))))))))
noncomputable def DX8_reckon : Fz := mfz 4 EX8_reckon
set_option maxRecDepth 4000 in
theorem BX8_reckon : Vs RX8 cX8_reckon 4 (rmk 4 91) 0 0 EX8_reckon := (v_seq (v_scv kX8 IX8_layNets hX8_layNets lk1253 ⟨by decide, by decide⟩ (v_aload_n (i := 0) dX8_reckon_0 rfl (rfl : 0 + 1 = 1)) v_anil dX8_reckon_1 (rfl : 1 + 3 = 4)) (v_seq (v_scv kX8 IX8_layComes hX8_layComes lk1261 ⟨by decide, by decide⟩ (v_aload_n (i := 0) dX8_reckon_4 rfl (rfl : 4 + 1 = 5)) v_anil dX8_reckon_5 (rfl : 5 + 3 = 8)) (v_seq (v_cut (n := 2) (v_seq (v_istore_n (i := 2) (v_iconst (v := 0) dX8_reckon_8 (by decide) (rfl : 8 + 1 = 9)) dX8_reckon_9 rfl (by decide) (rfl : 9 + 1 = 10)) (v_wh (v_ilt_f (v_iload_n (i := 2) dX8_reckon_10 rfl (rfl : 10 + 1 = 11)) (v_iconst (v := 3) dX8_reckon_11 (by decide) (rfl : 11 + 1 = 12)) dX8_reckon_12 (rfl : ((12 : Nat) : Int) + 16 = ((28 : Nat) : Int)) (rfl : 12 + 3 = 15)) (vs_goto (v_seq (v_aii (v_gfr kX8 lk1015 (by decide) rfl (v_aload_n (i := 0) dX8_reckon_15 rfl (rfl : 15 + 1 = 16)) dX8_reckon_16 (rfl : 16 + 3 = 19)) (v_iload_n (i := 2) dX8_reckon_19 rfl (rfl : 19 + 1 = 20)) (v_iconst (v := 0) dX8_reckon_20 (by decide) (rfl : 20 + 1 = 21)) dX8_reckon_21 (rfl : 21 + 1 = 22)) (v_iinc (v := 1) dX8_reckon_22 (by decide) (by decide) (rfl : 22 + 3 = 25))) dX8_reckon_25 (rfl : ((25 : Nat) : Int) + (-15) = ((10 : Nat) : Int)))))) (v_seq (v_fpi kX8 lk1016 (by decide) rfl rfl (by decide +kernel) (v_aload_n (i := 0) dX8_reckon_28 rfl (rfl : 28 + 1 = 29)) (v_iconst (v := 0) dX8_reckon_29 (by decide) (rfl : 29 + 1 = 30)) dX8_reckon_30 (rfl : 30 + 3 = 33)) (v_seq (v_istore_n (i := 2) (v_iconst (v := 1) dX8_reckon_33 (by decide) (rfl : 33 + 1 = 34)) dX8_reckon_34 rfl (by decide) (rfl : 34 + 1 = 35)) (v_seq (v_wh (v_zne_f (v_iload_n (i := 2) dX8_reckon_35 rfl (rfl : 35 + 1 = 36)) dX8_reckon_36 (rfl : ((36 : Nat) : Int) + 83 = ((119 : Nat) : Int)) (rfl : 36 + 3 = 39)) (vs_goto (v_seq (v_scv kX8 IX8_solve hX8_solve lk1269 ⟨by decide, by decide⟩ (v_aload_n (i := 0) dX8_reckon_39 rfl (rfl : 39 + 1 = 40)) v_anil dX8_reckon_40 (rfl : 40 + 3 = 43)) (v_seq (v_if (v_zne_f (v_cvz kX8 IX8_agrees hX8_agrees lk1297 ⟨by decide, by decide⟩ (by decide) (v_aload_n (i := 0) dX8_reckon_43 rfl (rfl : 43 + 1 = 44)) v_anil dX8_reckon_44 (rfl : 44 + 3 = 47)) dX8_reckon_47 (rfl : ((47 : Nat) : Int) + 45 = ((92 : Nat) : Int)) (rfl : 47 + 3 = 50)) (v_seq (v_cut (n := 3) (v_seq (v_istore_n (i := 3) (v_iconst (v := 0) dX8_reckon_50 (by decide) (rfl : 50 + 1 = 51)) dX8_reckon_51 rfl (by decide) (rfl : 51 + 1 = 52)) (v_wh (v_and (v_ilt_f (v_iload_n (i := 3) dX8_reckon_52 rfl (rfl : 52 + 1 = 53)) (v_iconst (v := 3) dX8_reckon_53 (by decide) (rfl : 53 + 1 = 54)) dX8_reckon_54 (rfl : ((54 : Nat) : Int) + 28 = ((82 : Nat) : Int)) (rfl : 54 + 3 = 57)) (v_zeq_f (v_gfi kX8 lk1016 (by decide) rfl (v_aload_n (i := 0) dX8_reckon_57 rfl (rfl : 57 + 1 = 58)) dX8_reckon_58 (rfl : 58 + 3 = 61)) dX8_reckon_61 (rfl : ((61 : Nat) : Int) + 21 = ((82 : Nat) : Int)) (rfl : 61 + 3 = 64))) (vs_goto (v_seq (v_aii (v_gfr kX8 lk1021 (by decide) rfl (v_aload_n (i := 0) dX8_reckon_64 rfl (rfl : 64 + 1 = 65)) dX8_reckon_65 (rfl : 65 + 3 = 68)) (v_iload_n (i := 3) dX8_reckon_68 rfl (rfl : 68 + 1 = 69)) (v_iald (v_gfr kX8 lk1015 (by decide) rfl (v_aload_n (i := 0) dX8_reckon_69 rfl (rfl : 69 + 1 = 70)) dX8_reckon_70 (rfl : 70 + 3 = 73)) (v_iload_n (i := 3) dX8_reckon_73 rfl (rfl : 73 + 1 = 74)) dX8_reckon_74 (rfl : 74 + 1 = 75)) dX8_reckon_75 (rfl : 75 + 1 = 76)) (v_iinc (v := 1) dX8_reckon_76 (by decide) (by decide) (rfl : 76 + 3 = 79))) dX8_reckon_79 (rfl : ((79 : Nat) : Int) + (-27) = ((52 : Nat) : Int)))))) (v_foi_iadd kX8 lk1016 (by decide) rfl rfl (by decide +kernel) (v_aload_n (i := 0) dX8_reckon_82 rfl (rfl : 82 + 1 = 83)) dX8_reckon_83 dX8_reckon_84 (rfl : 83 + 1 + 3 = 87) (v_iconst (v := 1) dX8_reckon_87 (by decide) (rfl : 87 + 1 = 88)) dX8_reckon_88 dX8_reckon_89 (rfl : 88 + 1 + 3 = 92))) v_nop) (v_istore_n (i := 2) (v_ic (v_and (v_or (v_zne_t (v_iload_n (i := 1) dX8_reckon_92 rfl (rfl : 92 + 1 = 93)) dX8_reckon_93 (rfl : ((93 : Nat) : Int) + 10 = ((103 : Nat) : Int)) (rfl : 93 + 3 = 96)) (v_zeq_f (v_gfi kX8 lk1016 (by decide) rfl (v_aload_n (i := 0) dX8_reckon_96 rfl (rfl : 96 + 1 = 97)) dX8_reckon_97 (rfl : 97 + 3 = 100)) dX8_reckon_100 (rfl : ((100 : Nat) : Int) + 14 = ((114 : Nat) : Int)) (rfl : 100 + 3 = 103))) (v_zne_f (v_cvz kX8 IX8_nextStages hX8_nextStages lk1305 ⟨by decide, by decide⟩ (by decide) (v_aload_n (i := 0) dX8_reckon_103 rfl (rfl : 103 + 1 = 104)) v_anil dX8_reckon_104 (rfl : 104 + 3 = 107)) dX8_reckon_107 (rfl : ((107 : Nat) : Int) + 7 = ((114 : Nat) : Int)) (rfl : 107 + 3 = 110))) (vi_goto (v_iconst (v := 1) dX8_reckon_110 (by decide) (rfl : 110 + 1 = 111)) dX8_reckon_111 (rfl : ((111 : Nat) : Int) + 4 = ((115 : Nat) : Int))) (v_iconst (v := 0) dX8_reckon_114 (by decide) (rfl : 114 + 1 = 115))) dX8_reckon_115 rfl (by decide) (rfl : 115 + 1 = 116)))) dX8_reckon_116 (rfl : ((116 : Nat) : Int) + (-81) = ((35 : Nat) : Int)))) (v_seq (v_if (v_and (v_zne_f (v_iload_n (i := 1) dX8_reckon_119 rfl (rfl : 119 + 1 = 120)) dX8_reckon_120 (rfl : ((120 : Nat) : Int) + 39 = ((159 : Nat) : Int)) (rfl : 120 + 3 = 123)) (v_zgt_f (v_gfi kX8 lk1016 (by decide) rfl (v_aload_n (i := 0) dX8_reckon_123 rfl (rfl : 123 + 1 = 124)) dX8_reckon_124 (rfl : 124 + 3 = 127)) dX8_reckon_127 (rfl : ((127 : Nat) : Int) + 32 = ((159 : Nat) : Int)) (rfl : 127 + 3 = 130))) (v_seq (v_cut (n := 3) (v_seq (v_istore_n (i := 3) (v_iconst (v := 0) dX8_reckon_130 (by decide) (rfl : 130 + 1 = 131)) dX8_reckon_131 rfl (by decide) (rfl : 131 + 1 = 132)) (v_wh (v_ilt_f (v_iload_n (i := 3) dX8_reckon_132 rfl (rfl : 132 + 1 = 133)) (v_iconst (v := 3) dX8_reckon_133 (by decide) (rfl : 133 + 1 = 134)) dX8_reckon_134 (rfl : ((134 : Nat) : Int) + 21 = ((155 : Nat) : Int)) (rfl : 134 + 3 = 137)) (vs_goto (v_seq (v_aii (v_gfr kX8 lk1015 (by decide) rfl (v_aload_n (i := 0) dX8_reckon_137 rfl (rfl : 137 + 1 = 138)) dX8_reckon_138 (rfl : 138 + 3 = 141)) (v_iload_n (i := 3) dX8_reckon_141 rfl (rfl : 141 + 1 = 142)) (v_iald (v_gfr kX8 lk1021 (by decide) rfl (v_aload_n (i := 0) dX8_reckon_142 rfl (rfl : 142 + 1 = 143)) dX8_reckon_143 (rfl : 143 + 3 = 146)) (v_iload_n (i := 3) dX8_reckon_146 rfl (rfl : 146 + 1 = 147)) dX8_reckon_147 (rfl : 147 + 1 = 148)) dX8_reckon_148 (rfl : 148 + 1 = 149)) (v_iinc (v := 1) dX8_reckon_149 (by decide) (by decide) (rfl : 149 + 3 = 152))) dX8_reckon_152 (rfl : ((152 : Nat) : Int) + (-20) = ((132 : Nat) : Int)))))) (v_scv kX8 IX8_solve hX8_solve lk1269 ⟨by decide, by decide⟩ (v_aload_n (i := 0) dX8_reckon_155 rfl (rfl : 155 + 1 = 156)) v_anil dX8_reckon_156 (rfl : 156 + 3 = 159))) v_nop) (v_ret (v_ic (v_zgt_f (v_gfi kX8 lk1016 (by decide) rfl (v_aload_n (i := 0) dX8_reckon_159 rfl (rfl : 159 + 1 = 160)) dX8_reckon_160 (rfl : 160 + 3 = 163)) dX8_reckon_163 (rfl : ((163 : Nat) : Int) + 7 = ((170 : Nat) : Int)) (rfl : 163 + 3 = 166)) (vi_goto (v_iconst (v := 1) dX8_reckon_166 (by decide) (rfl : 166 + 1 = 167)) dX8_reckon_167 (rfl : ((167 : Nat) : Int) + 4 = ((171 : Nat) : Int))) (v_iconst (v := 0) dX8_reckon_170 (by decide) (rfl : 170 + 1 = 171))) dX8_reckon_171))))))))
theorem IX8_reckon : Mz yX8_reckon cX8_reckon 4 (rmk 4 91) DX8_reckon := mk_z (by decide +kernel) BX8_reckon

theorem dX8_agreeing_0 : decode cX8_agreeing 0 = .ok (.aload_n 0, 1) := by decide +kernel
theorem dX8_agreeing_1 : decode cX8_agreeing 1 = .ok (.invokevirtual 244, 3) := by decide +kernel
theorem dX8_agreeing_4 : decode cX8_agreeing 4 = .ok (.aload_n 0, 1) := by decide +kernel
theorem dX8_agreeing_5 : decode cX8_agreeing 5 = .ok (.iconst 1, 1) := by decide +kernel
theorem dX8_agreeing_6 : decode cX8_agreeing 6 = .ok (.invokevirtual 247, 3) := by decide +kernel
theorem dX8_agreeing_9 : decode cX8_agreeing 9 = .ok (.pop, 1) := by decide +kernel
theorem dX8_agreeing_10 : decode cX8_agreeing 10 = .ok (.aload_n 0, 1) := by decide +kernel
theorem dX8_agreeing_11 : decode cX8_agreeing 11 = .ok (.getfield 231, 3) := by decide +kernel
theorem dX8_agreeing_14 : decode cX8_agreeing 14 = .ok (.ireturn, 1) := by decide +kernel
noncomputable def EX8_agreeing : Sx := (sseq (scv 7 DX8_asItIs (rl 0) anil) (sseq (spop (cvz 7 DX8_reckon (rl 0) (ai (ik 1) anil))) (sret (fgi 7 21 (rl 0)))))
noncomputable def DX8_agreeing : Fi := mfi 1 EX8_agreeing
set_option maxRecDepth 4000 in
theorem BX8_agreeing : Vs RX8 cX8_agreeing 1 (rmk 5 114) 0 0 EX8_agreeing := (v_seq (v_scv kX8 IX8_asItIs hX8_asItIs lk1245 ⟨by decide, by decide⟩ (v_aload_n (i := 0) dX8_agreeing_0 rfl (rfl : 0 + 1 = 1)) v_anil dX8_agreeing_1 (rfl : 1 + 3 = 4)) (v_seq (v_pop (v_cvz kX8 IX8_reckon hX8_reckon lk1249 ⟨by decide, by decide⟩ (by decide) (v_aload_n (i := 0) dX8_agreeing_4 rfl (rfl : 4 + 1 = 5)) (v_ai (v_iconst (v := 1) dX8_agreeing_5 (by decide) (rfl : 5 + 1 = 6)) v_anil) dX8_agreeing_6 (rfl : 6 + 3 = 9)) dX8_agreeing_9 (rfl : 9 + 1 = 10)) (v_ret (v_gfi kX8 lk1016 (by decide) rfl (v_aload_n (i := 0) dX8_agreeing_10 rfl (rfl : 10 + 1 = 11)) dX8_agreeing_11 (rfl : 11 + 3 = 14)) dX8_agreeing_14)))
theorem IX8_agreeing : Mi yX8_agreeing cX8_agreeing 1 (rmk 5 114) DX8_agreeing := mk_i (by decide +kernel) BX8_agreeing

theorem dX8_areAlike_0 : decode cX8_areAlike 0 = .ok (.iconst 1, 1) := by decide +kernel
theorem dX8_areAlike_1 : decode cX8_areAlike 1 = .ok (.istore_n 3, 1) := by decide +kernel
theorem dX8_areAlike_2 : decode cX8_areAlike 2 = .ok (.iconst 0, 1) := by decide +kernel
theorem dX8_areAlike_3 : decode cX8_areAlike 3 = .ok (.istore 4, 2) := by decide +kernel
theorem dX8_areAlike_5 : decode cX8_areAlike 5 = .ok (.iload 4, 2) := by decide +kernel
theorem dX8_areAlike_7 : decode cX8_areAlike 7 = .ok (.bipush 6, 2) := by decide +kernel
theorem dX8_areAlike_9 : decode cX8_areAlike 9 = .ok (.if_icmp .ge 46, 3) := by decide +kernel
theorem dX8_areAlike_12 : decode cX8_areAlike 12 = .ok (.iload_n 3, 1) := by decide +kernel
theorem dX8_areAlike_13 : decode cX8_areAlike 13 = .ok (.ifCond .eq 34, 3) := by decide +kernel
theorem dX8_areAlike_16 : decode cX8_areAlike 16 = .ok (.aload_n 0, 1) := by decide +kernel
theorem dX8_areAlike_17 : decode cX8_areAlike 17 = .ok (.getfield 81, 3) := by decide +kernel
theorem dX8_areAlike_20 : decode cX8_areAlike 20 = .ok (.bipush 6, 2) := by decide +kernel
theorem dX8_areAlike_22 : decode cX8_areAlike 22 = .ok (.iload_n 1, 1) := by decide +kernel
theorem dX8_areAlike_23 : decode cX8_areAlike 23 = .ok (.imul, 1) := by decide +kernel
theorem dX8_areAlike_24 : decode cX8_areAlike 24 = .ok (.iload 4, 2) := by decide +kernel
theorem dX8_areAlike_26 : decode cX8_areAlike 26 = .ok (.iadd, 1) := by decide +kernel
theorem dX8_areAlike_27 : decode cX8_areAlike 27 = .ok (.iaload, 1) := by decide +kernel
theorem dX8_areAlike_28 : decode cX8_areAlike 28 = .ok (.aload_n 0, 1) := by decide +kernel
theorem dX8_areAlike_29 : decode cX8_areAlike 29 = .ok (.getfield 81, 3) := by decide +kernel
theorem dX8_areAlike_32 : decode cX8_areAlike 32 = .ok (.bipush 6, 2) := by decide +kernel
theorem dX8_areAlike_34 : decode cX8_areAlike 34 = .ok (.iload_n 2, 1) := by decide +kernel
theorem dX8_areAlike_35 : decode cX8_areAlike 35 = .ok (.imul, 1) := by decide +kernel
theorem dX8_areAlike_36 : decode cX8_areAlike 36 = .ok (.iload 4, 2) := by decide +kernel
theorem dX8_areAlike_38 : decode cX8_areAlike 38 = .ok (.iadd, 1) := by decide +kernel
theorem dX8_areAlike_39 : decode cX8_areAlike 39 = .ok (.iaload, 1) := by decide +kernel
theorem dX8_areAlike_40 : decode cX8_areAlike 40 = .ok (.if_icmp .ne 7, 3) := by decide +kernel
theorem dX8_areAlike_43 : decode cX8_areAlike 43 = .ok (.iconst 1, 1) := by decide +kernel
theorem dX8_areAlike_44 : decode cX8_areAlike 44 = .ok (.goto 4, 3) := by decide +kernel
theorem dX8_areAlike_47 : decode cX8_areAlike 47 = .ok (.iconst 0, 1) := by decide +kernel
theorem dX8_areAlike_48 : decode cX8_areAlike 48 = .ok (.istore_n 3, 1) := by decide +kernel
theorem dX8_areAlike_49 : decode cX8_areAlike 49 = .ok (.iinc 4 1, 3) := by decide +kernel
theorem dX8_areAlike_52 : decode cX8_areAlike 52 = .ok (.goto (-47), 3) := by decide +kernel
theorem dX8_areAlike_55 : decode cX8_areAlike 55 = .ok (.iload_n 3, 1) := by decide +kernel
theorem dX8_areAlike_56 : decode cX8_areAlike 56 = .ok (.ireturn, 1) := by decide +kernel
noncomputable def qX8_areAlike_1 : Bx := (bc clt (il 4) (ik 6))
noncomputable def wX8_areAlike_1 : Sx := (sseq (ssi 3 (ic (band (bz cne (il 3)) (bc ceq (iald (fgr 7 34 (rl 0)) (i2 (· + ·) (i2 (· * ·) (ik 6) (il 1)) (il 4))) (iald (fgr 7 34 (rl 0)) (i2 (· + ·) (i2 (· * ·) (ik 6) (il 2)) (il 4))))) (ik 1) (ik 0))) (sinc 4 1))
noncomputable def EX8_areAlike : Sx := (sseq (ssi 3 (ik 1)) (sseq (scut 4 (sseq (ssi 4 (ik 0)) (swh qX8_areAlike_1 wX8_areAlike_1))) (sret (il 3))))
noncomputable def DX8_areAlike : Fz := mfz 5 EX8_areAlike
set_option maxRecDepth 4000 in
theorem BX8_areAlike : Vs RX8 cX8_areAlike 5 (rmk 0 0) 0 0 EX8_areAlike := (v_seq (v_istore_n (i := 3) (v_iconst (v := 1) dX8_areAlike_0 (by decide) (rfl : 0 + 1 = 1)) dX8_areAlike_1 rfl (by decide) (rfl : 1 + 1 = 2)) (v_seq (v_cut (n := 4) (v_seq (v_istore (i := 4) (v_iconst (v := 0) dX8_areAlike_2 (by decide) (rfl : 2 + 1 = 3)) dX8_areAlike_3 (by decide) (rfl : 3 + 2 = 5)) (v_wh (v_ilt_f (v_iload (i := 4) dX8_areAlike_5 (rfl : 5 + 2 = 7)) (v_bipush (v := 6) dX8_areAlike_7 (by decide) (rfl : 7 + 2 = 9)) dX8_areAlike_9 (rfl : ((9 : Nat) : Int) + 46 = ((55 : Nat) : Int)) (rfl : 9 + 3 = 12)) (vs_goto (v_seq (v_istore_n (i := 3) (v_ic (v_and (v_zne_f (v_iload_n (i := 3) dX8_areAlike_12 rfl (rfl : 12 + 1 = 13)) dX8_areAlike_13 (rfl : ((13 : Nat) : Int) + 34 = ((47 : Nat) : Int)) (rfl : 13 + 3 = 16)) (v_ieq_f (v_iald (v_gfr kX8 lk1029 (by decide) rfl (v_aload_n (i := 0) dX8_areAlike_16 rfl (rfl : 16 + 1 = 17)) dX8_areAlike_17 (rfl : 17 + 3 = 20)) (v_iadd (v_imul (v_bipush (v := 6) dX8_areAlike_20 (by decide) (rfl : 20 + 2 = 22)) (v_iload_n (i := 1) dX8_areAlike_22 rfl (rfl : 22 + 1 = 23)) dX8_areAlike_23 (rfl : 23 + 1 = 24)) (v_iload (i := 4) dX8_areAlike_24 (rfl : 24 + 2 = 26)) dX8_areAlike_26 (rfl : 26 + 1 = 27)) dX8_areAlike_27 (rfl : 27 + 1 = 28)) (v_iald (v_gfr kX8 lk1029 (by decide) rfl (v_aload_n (i := 0) dX8_areAlike_28 rfl (rfl : 28 + 1 = 29)) dX8_areAlike_29 (rfl : 29 + 3 = 32)) (v_iadd (v_imul (v_bipush (v := 6) dX8_areAlike_32 (by decide) (rfl : 32 + 2 = 34)) (v_iload_n (i := 2) dX8_areAlike_34 rfl (rfl : 34 + 1 = 35)) dX8_areAlike_35 (rfl : 35 + 1 = 36)) (v_iload (i := 4) dX8_areAlike_36 (rfl : 36 + 2 = 38)) dX8_areAlike_38 (rfl : 38 + 1 = 39)) dX8_areAlike_39 (rfl : 39 + 1 = 40)) dX8_areAlike_40 (rfl : ((40 : Nat) : Int) + 7 = ((47 : Nat) : Int)) (rfl : 40 + 3 = 43))) (vi_goto (v_iconst (v := 1) dX8_areAlike_43 (by decide) (rfl : 43 + 1 = 44)) dX8_areAlike_44 (rfl : ((44 : Nat) : Int) + 4 = ((48 : Nat) : Int))) (v_iconst (v := 0) dX8_areAlike_47 (by decide) (rfl : 47 + 1 = 48))) dX8_areAlike_48 rfl (by decide) (rfl : 48 + 1 = 49)) (v_iinc (v := 1) dX8_areAlike_49 (by decide) (by decide) (rfl : 49 + 3 = 52))) dX8_areAlike_52 (rfl : ((52 : Nat) : Int) + (-47) = ((5 : Nat) : Int)))))) (v_ret (v_iload_n (i := 3) dX8_areAlike_55 rfl (rfl : 55 + 1 = 56)) dX8_areAlike_56)))
theorem IX8_areAlike : Mz yX8_areAlike cX8_areAlike 5 (rmk 0 0) DX8_areAlike := mk_z (by decide +kernel) BX8_areAlike

theorem dX8_readingOf_0 : decode cX8_readingOf 0 = .ok (.aload_n 0, 1) := by decide +kernel
theorem dX8_readingOf_1 : decode cX8_readingOf 1 = .ok (.getfield 54, 3) := by decide +kernel
theorem dX8_readingOf_4 : decode cX8_readingOf 4 = .ok (.iload_n 1, 1) := by decide +kernel
theorem dX8_readingOf_5 : decode cX8_readingOf 5 = .ok (.baload, 1) := by decide +kernel
theorem dX8_readingOf_6 : decode cX8_readingOf 6 = .ok (.ifCond .eq 9, 3) := by decide +kernel
theorem dX8_readingOf_9 : decode cX8_readingOf 9 = .ok (.ldc2_w 167, 3) := by decide +kernel
theorem dX8_readingOf_12 : decode cX8_readingOf 12 = .ok (.goto 18, 3) := by decide +kernel
theorem dX8_readingOf_15 : decode cX8_readingOf 15 = .ok (.ldc2_w 251, 3) := by decide +kernel
theorem dX8_readingOf_18 : decode cX8_readingOf 18 = .ok (.aload_n 0, 1) := by decide +kernel
theorem dX8_readingOf_19 : decode cX8_readingOf 19 = .ok (.getfield 51, 3) := by decide +kernel
theorem dX8_readingOf_22 : decode cX8_readingOf 22 = .ok (.iload_n 1, 1) := by decide +kernel
theorem dX8_readingOf_23 : decode cX8_readingOf 23 = .ok (.laload, 1) := by decide +kernel
theorem dX8_readingOf_24 : decode cX8_readingOf 24 = .ok (.lmul, 1) := by decide +kernel
theorem dX8_readingOf_25 : decode cX8_readingOf 25 = .ok (.aload_n 0, 1) := by decide +kernel
theorem dX8_readingOf_26 : decode cX8_readingOf 26 = .ok (.getfield 219, 3) := by decide +kernel
theorem dX8_readingOf_29 : decode cX8_readingOf 29 = .ok (.ldiv, 1) := by decide +kernel
theorem dX8_readingOf_30 : decode cX8_readingOf 30 = .ok (.lstore_n 2, 1) := by decide +kernel
theorem dX8_readingOf_31 : decode cX8_readingOf 31 = .ok (.lload_n 2, 1) := by decide +kernel
theorem dX8_readingOf_32 : decode cX8_readingOf 32 = .ok (.ldc2_w 167, 3) := by decide +kernel
theorem dX8_readingOf_35 : decode cX8_readingOf 35 = .ok (.lcmp, 1) := by decide +kernel
theorem dX8_readingOf_36 : decode cX8_readingOf 36 = .ok (.ifCond .le 8, 3) := by decide +kernel
theorem dX8_readingOf_39 : decode cX8_readingOf 39 = .ok (.ldc 253, 2) := by decide +kernel
theorem dX8_readingOf_41 : decode cX8_readingOf 41 = .ok (.goto 5, 3) := by decide +kernel
theorem dX8_readingOf_44 : decode cX8_readingOf 44 = .ok (.lload_n 2, 1) := by decide +kernel
theorem dX8_readingOf_45 : decode cX8_readingOf 45 = .ok (.l2i, 1) := by decide +kernel
theorem dX8_readingOf_46 : decode cX8_readingOf 46 = .ok (.ireturn, 1) := by decide +kernel
noncomputable def EX8_readingOf : Sx := (sseq (ssj 2 (jc (bz cne (zald (fgr 7 19 (rl 0)) (il 1))) (jk 99999999) (j2d (· / ·) (j2 (· * ·) (jk 1000) (jald (fgr 7 17 (rl 0)) (il 1))) (fgj 7 18 (rl 0))))) (sret (ic (bj qgt (jl 2) (jk 99999999)) (ik 99999999) (l2i (jl 2)))))
noncomputable def DX8_readingOf : Fi := mfi 4 EX8_readingOf
set_option maxRecDepth 4000 in
theorem BX8_readingOf : Vs RX8 cX8_readingOf 4 (rmk 0 0) 0 0 EX8_readingOf := (v_seq (v_lstore_n (i := 2) (v_jc (v_zne_f (v_zald (v_gfr kX8 lk1014 (by decide) rfl (v_aload_n (i := 0) dX8_readingOf_0 rfl (rfl : 0 + 1 = 1)) dX8_readingOf_1 (rfl : 1 + 3 = 4)) (v_iload_n (i := 1) dX8_readingOf_4 rfl (rfl : 4 + 1 = 5)) dX8_readingOf_5 (rfl : 5 + 1 = 6)) dX8_readingOf_6 (rfl : ((6 : Nat) : Int) + 9 = ((15 : Nat) : Int)) (rfl : 6 + 3 = 9)) (vj_goto (v_ldc2 (v := 99999999) lk1216 dX8_readingOf_9 (rfl : 9 + 3 = 12)) dX8_readingOf_12 (rfl : ((12 : Nat) : Int) + 18 = ((30 : Nat) : Int))) (v_ldiv (v_lmul (v_ldc2 (v := 1000) lk1313 dX8_readingOf_15 (rfl : 15 + 3 = 18)) (v_jald (v_gfr kX8 lk1012 (by decide) rfl (v_aload_n (i := 0) dX8_readingOf_18 rfl (rfl : 18 + 1 = 19)) dX8_readingOf_19 (rfl : 19 + 3 = 22)) (v_iload_n (i := 1) dX8_readingOf_22 rfl (rfl : 22 + 1 = 23)) dX8_readingOf_23 (rfl : 23 + 1 = 24)) dX8_readingOf_24 (rfl : 24 + 1 = 25)) (v_gfj kX8 lk1013 (by decide) rfl (v_aload_n (i := 0) dX8_readingOf_25 rfl (rfl : 25 + 1 = 26)) dX8_readingOf_26 (rfl : 26 + 3 = 29)) dX8_readingOf_29 (rfl : 29 + 1 = 30))) dX8_readingOf_30 rfl (by decide) (rfl : 30 + 1 = 31)) (v_ret (v_ic (v_jgt_f (v_lload_n (i := 2) dX8_readingOf_31 rfl (rfl : 31 + 1 = 32)) (v_ldc2 (v := 99999999) lk1216 dX8_readingOf_32 (rfl : 32 + 3 = 35)) dX8_readingOf_35 dX8_readingOf_36 (rfl : ((36 : Nat) : Int) + 8 = ((44 : Nat) : Int)) (rfl : 36 + 3 = 39)) (vi_goto (v_ldc (v := 99999999) lk1314 dX8_readingOf_39 (rfl : 39 + 2 = 41)) dX8_readingOf_41 (rfl : ((41 : Nat) : Int) + 5 = ((46 : Nat) : Int))) (v_l2i (v_lload_n (i := 2) dX8_readingOf_44 rfl (rfl : 44 + 1 = 45)) dX8_readingOf_45 (rfl : 45 + 1 = 46))) dX8_readingOf_46))
theorem IX8_readingOf : Mi yX8_readingOf cX8_readingOf 4 (rmk 0 0) DX8_readingOf := mk_i (by decide +kernel) BX8_readingOf

theorem dX8_areBelowReckoned_0 : decode cX8_areBelowReckoned 0 = .ok (.iload_n 1, 1) := by decide +kernel
theorem dX8_areBelowReckoned_1 : decode cX8_areBelowReckoned 1 = .ok (.istore_n 3, 1) := by decide +kernel
theorem dX8_areBelowReckoned_2 : decode cX8_areBelowReckoned 2 = .ok (.iconst 0, 1) := by decide +kernel
theorem dX8_areBelowReckoned_3 : decode cX8_areBelowReckoned 3 = .ok (.istore 4, 2) := by decide +kernel
theorem dX8_areBelowReckoned_5 : decode cX8_areBelowReckoned 5 = .ok (.iload 4, 2) := by decide +kernel
theorem dX8_areBelowReckoned_7 : decode cX8_areBelowReckoned 7 = .ok (.aload_n 0, 1) := by decide +kernel
theorem dX8_areBelowReckoned_8 : decode cX8_areBelowReckoned 8 = .ok (.getfield 13, 3) := by decide +kernel
theorem dX8_areBelowReckoned_11 : decode cX8_areBelowReckoned 11 = .ok (.iconst 0, 1) := by decide +kernel
theorem dX8_areBelowReckoned_12 : decode cX8_areBelowReckoned 12 = .ok (.iaload, 1) := by decide +kernel
theorem dX8_areBelowReckoned_13 : decode cX8_areBelowReckoned 13 = .ok (.if_icmp .ge 29, 3) := by decide +kernel
theorem dX8_areBelowReckoned_16 : decode cX8_areBelowReckoned 16 = .ok (.iload_n 3, 1) := by decide +kernel
theorem dX8_areBelowReckoned_17 : decode cX8_areBelowReckoned 17 = .ok (.ifCond .eq 25, 3) := by decide +kernel
theorem dX8_areBelowReckoned_20 : decode cX8_areBelowReckoned 20 = .ok (.aload_n 0, 1) := by decide +kernel
theorem dX8_areBelowReckoned_21 : decode cX8_areBelowReckoned 21 = .ok (.iload 4, 2) := by decide +kernel
theorem dX8_areBelowReckoned_23 : decode cX8_areBelowReckoned 23 = .ok (.invokevirtual 257, 3) := by decide +kernel
theorem dX8_areBelowReckoned_26 : decode cX8_areBelowReckoned 26 = .ok (.iload_n 2, 1) := by decide +kernel
theorem dX8_areBelowReckoned_27 : decode cX8_areBelowReckoned 27 = .ok (.if_icmp .gt 7, 3) := by decide +kernel
theorem dX8_areBelowReckoned_30 : decode cX8_areBelowReckoned 30 = .ok (.iconst 1, 1) := by decide +kernel
theorem dX8_areBelowReckoned_31 : decode cX8_areBelowReckoned 31 = .ok (.goto 4, 3) := by decide +kernel
theorem dX8_areBelowReckoned_34 : decode cX8_areBelowReckoned 34 = .ok (.iconst 0, 1) := by decide +kernel
theorem dX8_areBelowReckoned_35 : decode cX8_areBelowReckoned 35 = .ok (.istore_n 3, 1) := by decide +kernel
theorem dX8_areBelowReckoned_36 : decode cX8_areBelowReckoned 36 = .ok (.iinc 4 1, 3) := by decide +kernel
theorem dX8_areBelowReckoned_39 : decode cX8_areBelowReckoned 39 = .ok (.goto (-34), 3) := by decide +kernel
theorem dX8_areBelowReckoned_42 : decode cX8_areBelowReckoned 42 = .ok (.iload_n 3, 1) := by decide +kernel
theorem dX8_areBelowReckoned_43 : decode cX8_areBelowReckoned 43 = .ok (.ireturn, 1) := by decide +kernel
noncomputable def qX8_areBelowReckoned_1 : Bx := (band (bc clt (il 4) (iald (fgr 7 3 (rl 0)) (ik 0))) (bz cne (il 3)))
noncomputable def wX8_areBelowReckoned_1 : Sx := (sseq (ssi 3 (ic (bc cle (cvi 7 DX8_readingOf (rl 0) (ai (il 4) anil)) (il 2)) (ik 1) (ik 0))) (sinc 4 1))
noncomputable def EX8_areBelowReckoned : Sx := (sseq (ssi 3 (il 1)) (sseq (scut 4 (sseq (ssi 4 (ik 0)) (swh qX8_areBelowReckoned_1 wX8_areBelowReckoned_1))) (sret (il 3))))
noncomputable def DX8_areBelowReckoned : Fz := mfz 5 EX8_areBelowReckoned
set_option maxRecDepth 4000 in
theorem BX8_areBelowReckoned : Vs RX8 cX8_areBelowReckoned 5 (rmk 1 23) 0 0 EX8_areBelowReckoned := (v_seq (v_istore_n (i := 3) (v_iload_n (i := 1) dX8_areBelowReckoned_0 rfl (rfl : 0 + 1 = 1)) dX8_areBelowReckoned_1 rfl (by decide) (rfl : 1 + 1 = 2)) (v_seq (v_cut (n := 4) (v_seq (v_istore (i := 4) (v_iconst (v := 0) dX8_areBelowReckoned_2 (by decide) (rfl : 2 + 1 = 3)) dX8_areBelowReckoned_3 (by decide) (rfl : 3 + 2 = 5)) (v_wh (v_and (v_ilt_f (v_iload (i := 4) dX8_areBelowReckoned_5 (rfl : 5 + 2 = 7)) (v_iald (v_gfr kX8 lk998 (by decide) rfl (v_aload_n (i := 0) dX8_areBelowReckoned_7 rfl (rfl : 7 + 1 = 8)) dX8_areBelowReckoned_8 (rfl : 8 + 3 = 11)) (v_iconst (v := 0) dX8_areBelowReckoned_11 (by decide) (rfl : 11 + 1 = 12)) dX8_areBelowReckoned_12 (rfl : 12 + 1 = 13)) dX8_areBelowReckoned_13 (rfl : ((13 : Nat) : Int) + 29 = ((42 : Nat) : Int)) (rfl : 13 + 3 = 16)) (v_zne_f (v_iload_n (i := 3) dX8_areBelowReckoned_16 rfl (rfl : 16 + 1 = 17)) dX8_areBelowReckoned_17 (rfl : ((17 : Nat) : Int) + 25 = ((42 : Nat) : Int)) (rfl : 17 + 3 = 20))) (vs_goto (v_seq (v_istore_n (i := 3) (v_ic (v_ile_f (v_cvi kX8 IX8_readingOf hX8_readingOf lk1309 ⟨by decide, by decide⟩ (by decide) (v_aload_n (i := 0) dX8_areBelowReckoned_20 rfl (rfl : 20 + 1 = 21)) (v_ai (v_iload (i := 4) dX8_areBelowReckoned_21 (rfl : 21 + 2 = 23)) v_anil) dX8_areBelowReckoned_23 (rfl : 23 + 3 = 26)) (v_iload_n (i := 2) dX8_areBelowReckoned_26 rfl (rfl : 26 + 1 = 27)) dX8_areBelowReckoned_27 (rfl : ((27 : Nat) : Int) + 7 = ((34 : Nat) : Int)) (rfl : 27 + 3 = 30)) (vi_goto (v_iconst (v := 1) dX8_areBelowReckoned_30 (by decide) (rfl : 30 + 1 = 31)) dX8_areBelowReckoned_31 (rfl : ((31 : Nat) : Int) + 4 = ((35 : Nat) : Int))) (v_iconst (v := 0) dX8_areBelowReckoned_34 (by decide) (rfl : 34 + 1 = 35))) dX8_areBelowReckoned_35 rfl (by decide) (rfl : 35 + 1 = 36)) (v_iinc (v := 1) dX8_areBelowReckoned_36 (by decide) (by decide) (rfl : 36 + 3 = 39))) dX8_areBelowReckoned_39 (rfl : ((39 : Nat) : Int) + (-34) = ((5 : Nat) : Int)))))) (v_ret (v_iload_n (i := 3) dX8_areBelowReckoned_42 rfl (rfl : 42 + 1 = 43)) dX8_areBelowReckoned_43)))
theorem IX8_areBelowReckoned : Mz yX8_areBelowReckoned cX8_areBelowReckoned 5 (rmk 1 23) DX8_areBelowReckoned := mk_z (by decide +kernel) BX8_areBelowReckoned

theorem dX8_reckonNow_0 : decode cX8_reckonNow 0 = .ok (.aload_n 0, 1) := by decide +kernel
theorem dX8_reckonNow_1 : decode cX8_reckonNow 1 = .ok (.invokevirtual 244, 3) := by decide +kernel
theorem dX8_reckonNow_4 : decode cX8_reckonNow 4 = .ok (.aload_n 0, 1) := by decide +kernel
theorem dX8_reckonNow_5 : decode cX8_reckonNow 5 = .ok (.iconst 0, 1) := by decide +kernel
theorem dX8_reckonNow_6 : decode cX8_reckonNow 6 = .ok (.invokevirtual 247, 3) := by decide +kernel
theorem dX8_reckonNow_9 : decode cX8_reckonNow 9 = .ok (.ireturn, 1) := by decide +kernel
noncomputable def EX8_reckonNow : Sx := (sseq (scv 7 DX8_asItIs (rl 0) anil) (sret (cvz 7 DX8_reckon (rl 0) (ai (ik 0) anil))))
noncomputable def DX8_reckonNow : Fz := mfz 1 EX8_reckonNow
set_option maxRecDepth 4000 in
theorem BX8_reckonNow : Vs RX8 cX8_reckonNow 1 (rmk 5 114) 0 0 EX8_reckonNow := (v_seq (v_scv kX8 IX8_asItIs hX8_asItIs lk1245 ⟨by decide, by decide⟩ (v_aload_n (i := 0) dX8_reckonNow_0 rfl (rfl : 0 + 1 = 1)) v_anil dX8_reckonNow_1 (rfl : 1 + 3 = 4)) (v_ret (v_cvz kX8 IX8_reckon hX8_reckon lk1249 ⟨by decide, by decide⟩ (by decide) (v_aload_n (i := 0) dX8_reckonNow_4 rfl (rfl : 4 + 1 = 5)) (v_ai (v_iconst (v := 0) dX8_reckonNow_5 (by decide) (rfl : 5 + 1 = 6)) v_anil) dX8_reckonNow_6 (rfl : 6 + 3 = 9)) dX8_reckonNow_9))
theorem IX8_reckonNow : Mz yX8_reckonNow cX8_reckonNow 1 (rmk 5 114) DX8_reckonNow := mk_z (by decide +kernel) BX8_reckonNow

theorem dX8_areBelow_0 : decode cX8_areBelow 0 = .ok (.aload_n 0, 1) := by decide +kernel
theorem dX8_areBelow_1 : decode cX8_areBelow 1 = .ok (.aload_n 0, 1) := by decide +kernel
theorem dX8_areBelow_2 : decode cX8_areBelow 2 = .ok (.invokevirtual 254, 3) := by decide +kernel
theorem dX8_areBelow_5 : decode cX8_areBelow 5 = .ok (.iload_n 1, 1) := by decide +kernel
theorem dX8_areBelow_6 : decode cX8_areBelow 6 = .ok (.invokevirtual 358, 3) := by decide +kernel
theorem dX8_areBelow_9 : decode cX8_areBelow 9 = .ok (.ireturn, 1) := by decide +kernel
noncomputable def EX8_areBelow : Sx := (sret (cvz 7 DX8_areBelowReckoned (rl 0) (ai (cvz 7 DX8_reckonNow (rl 0) anil) (ai (il 1) anil))))
noncomputable def DX8_areBelow : Fz := mfz 2 EX8_areBelow
set_option maxRecDepth 4000 in
theorem BX8_areBelow : Vs RX8 cX8_areBelow 2 (rmk 6 134) 0 0 EX8_areBelow := (v_ret (v_cvz kX8 IX8_areBelowReckoned hX8_areBelowReckoned lk1468 ⟨by decide, by decide⟩ (by decide) (v_aload_n (i := 0) dX8_areBelow_0 rfl (rfl : 0 + 1 = 1)) (v_ai (v_cvz kX8 IX8_reckonNow hX8_reckonNow lk1241 ⟨by decide, by decide⟩ (by decide) (v_aload_n (i := 0) dX8_areBelow_1 rfl (rfl : 1 + 1 = 2)) v_anil dX8_areBelow_2 (rfl : 2 + 3 = 5)) (v_ai (v_iload_n (i := 1) dX8_areBelow_5 rfl (rfl : 5 + 1 = 6)) v_anil)) dX8_areBelow_6 (rfl : 6 + 3 = 9)) dX8_areBelow_9)
theorem IX8_areBelow : Mz yX8_areBelow cX8_areBelow 2 (rmk 6 134) DX8_areBelow := mk_z (by decide +kernel) BX8_areBelow

theorem dX8_areOpen_0 : decode cX8_areOpen 0 = .ok (.iconst 1, 1) := by decide +kernel
theorem dX8_areOpen_1 : decode cX8_areOpen 1 = .ok (.istore_n 2, 1) := by decide +kernel
theorem dX8_areOpen_2 : decode cX8_areOpen 2 = .ok (.iconst 0, 1) := by decide +kernel
theorem dX8_areOpen_3 : decode cX8_areOpen 3 = .ok (.istore_n 3, 1) := by decide +kernel
theorem dX8_areOpen_4 : decode cX8_areOpen 4 = .ok (.iload_n 3, 1) := by decide +kernel
theorem dX8_areOpen_5 : decode cX8_areOpen 5 = .ok (.aload_n 0, 1) := by decide +kernel
theorem dX8_areOpen_6 : decode cX8_areOpen 6 = .ok (.getfield 13, 3) := by decide +kernel
theorem dX8_areOpen_9 : decode cX8_areOpen 9 = .ok (.iconst 1, 1) := by decide +kernel
theorem dX8_areOpen_10 : decode cX8_areOpen 10 = .ok (.iaload, 1) := by decide +kernel
theorem dX8_areOpen_11 : decode cX8_areOpen 11 = .ok (.if_icmp .ge 35, 3) := by decide +kernel
theorem dX8_areOpen_14 : decode cX8_areOpen 14 = .ok (.iload_n 2, 1) := by decide +kernel
theorem dX8_areOpen_15 : decode cX8_areOpen 15 = .ok (.ifCond .eq 23, 3) := by decide +kernel
theorem dX8_areOpen_18 : decode cX8_areOpen 18 = .ok (.iload_n 1, 1) := by decide +kernel
theorem dX8_areOpen_19 : decode cX8_areOpen 19 = .ok (.iload_n 3, 1) := by decide +kernel
theorem dX8_areOpen_20 : decode cX8_areOpen 20 = .ok (.ishr, 1) := by decide +kernel
theorem dX8_areOpen_21 : decode cX8_areOpen 21 = .ok (.iconst 1, 1) := by decide +kernel
theorem dX8_areOpen_22 : decode cX8_areOpen 22 = .ok (.iand, 1) := by decide +kernel
theorem dX8_areOpen_23 : decode cX8_areOpen 23 = .ok (.ifCond .eq 11, 3) := by decide +kernel
theorem dX8_areOpen_26 : decode cX8_areOpen 26 = .ok (.aload_n 0, 1) := by decide +kernel
theorem dX8_areOpen_27 : decode cX8_areOpen 27 = .ok (.iload_n 3, 1) := by decide +kernel
theorem dX8_areOpen_28 : decode cX8_areOpen 28 = .ok (.invokevirtual 177, 3) := by decide +kernel
theorem dX8_areOpen_31 : decode cX8_areOpen 31 = .ok (.ifCond .eq 7, 3) := by decide +kernel
theorem dX8_areOpen_34 : decode cX8_areOpen 34 = .ok (.iconst 1, 1) := by decide +kernel
theorem dX8_areOpen_35 : decode cX8_areOpen 35 = .ok (.goto 4, 3) := by decide +kernel
theorem dX8_areOpen_38 : decode cX8_areOpen 38 = .ok (.iconst 0, 1) := by decide +kernel
theorem dX8_areOpen_39 : decode cX8_areOpen 39 = .ok (.istore_n 2, 1) := by decide +kernel
theorem dX8_areOpen_40 : decode cX8_areOpen 40 = .ok (.iinc 3 1, 3) := by decide +kernel
theorem dX8_areOpen_43 : decode cX8_areOpen 43 = .ok (.goto (-39), 3) := by decide +kernel
theorem dX8_areOpen_46 : decode cX8_areOpen 46 = .ok (.iload_n 2, 1) := by decide +kernel
theorem dX8_areOpen_47 : decode cX8_areOpen 47 = .ok (.ireturn, 1) := by decide +kernel
noncomputable def qX8_areOpen_1 : Bx := (bc clt (il 3) (iald (fgr 7 3 (rl 0)) (ik 1)))
noncomputable def wX8_areOpen_1 : Sx := (sseq (ssi 2 (ic (band (bz cne (il 2)) (bor (bz ceq (i2 (· &&& ·) (i2 oshr (il 1) (il 3)) (ik 1))) (bz cne (cvz 7 DX8_isOpen (rl 0) (ai (il 3) anil))))) (ik 1) (ik 0))) (sinc 3 1))
noncomputable def EX8_areOpen : Sx := (sseq (ssi 2 (ik 1)) (sseq (scut 3 (sseq (ssi 3 (ik 0)) (swh qX8_areOpen_1 wX8_areOpen_1))) (sret (il 2))))
noncomputable def DX8_areOpen : Fz := mfz 4 EX8_areOpen
set_option maxRecDepth 4000 in
theorem BX8_areOpen : Vs RX8 cX8_areOpen 4 (rmk 2 41) 0 0 EX8_areOpen := (v_seq (v_istore_n (i := 2) (v_iconst (v := 1) dX8_areOpen_0 (by decide) (rfl : 0 + 1 = 1)) dX8_areOpen_1 rfl (by decide) (rfl : 1 + 1 = 2)) (v_seq (v_cut (n := 3) (v_seq (v_istore_n (i := 3) (v_iconst (v := 0) dX8_areOpen_2 (by decide) (rfl : 2 + 1 = 3)) dX8_areOpen_3 rfl (by decide) (rfl : 3 + 1 = 4)) (v_wh (v_ilt_f (v_iload_n (i := 3) dX8_areOpen_4 rfl (rfl : 4 + 1 = 5)) (v_iald (v_gfr kX8 lk998 (by decide) rfl (v_aload_n (i := 0) dX8_areOpen_5 rfl (rfl : 5 + 1 = 6)) dX8_areOpen_6 (rfl : 6 + 3 = 9)) (v_iconst (v := 1) dX8_areOpen_9 (by decide) (rfl : 9 + 1 = 10)) dX8_areOpen_10 (rfl : 10 + 1 = 11)) dX8_areOpen_11 (rfl : ((11 : Nat) : Int) + 35 = ((46 : Nat) : Int)) (rfl : 11 + 3 = 14)) (vs_goto (v_seq (v_istore_n (i := 2) (v_ic (v_and (v_zne_f (v_iload_n (i := 2) dX8_areOpen_14 rfl (rfl : 14 + 1 = 15)) dX8_areOpen_15 (rfl : ((15 : Nat) : Int) + 23 = ((38 : Nat) : Int)) (rfl : 15 + 3 = 18)) (v_or (v_zeq_t (v_iand (v_ishr (v_iload_n (i := 1) dX8_areOpen_18 rfl (rfl : 18 + 1 = 19)) (v_iload_n (i := 3) dX8_areOpen_19 rfl (rfl : 19 + 1 = 20)) dX8_areOpen_20 (rfl : 20 + 1 = 21)) (v_iconst (v := 1) dX8_areOpen_21 (by decide) (rfl : 21 + 1 = 22)) dX8_areOpen_22 (rfl : 22 + 1 = 23)) dX8_areOpen_23 (rfl : ((23 : Nat) : Int) + 11 = ((34 : Nat) : Int)) (rfl : 23 + 3 = 26)) (v_zne_f (v_cvz kX8 IX8_isOpen hX8_isOpen lk1257 ⟨by decide, by decide⟩ (by decide) (v_aload_n (i := 0) dX8_areOpen_26 rfl (rfl : 26 + 1 = 27)) (v_ai (v_iload_n (i := 3) dX8_areOpen_27 rfl (rfl : 27 + 1 = 28)) v_anil) dX8_areOpen_28 (rfl : 28 + 3 = 31)) dX8_areOpen_31 (rfl : ((31 : Nat) : Int) + 7 = ((38 : Nat) : Int)) (rfl : 31 + 3 = 34)))) (vi_goto (v_iconst (v := 1) dX8_areOpen_34 (by decide) (rfl : 34 + 1 = 35)) dX8_areOpen_35 (rfl : ((35 : Nat) : Int) + 4 = ((39 : Nat) : Int))) (v_iconst (v := 0) dX8_areOpen_38 (by decide) (rfl : 38 + 1 = 39))) dX8_areOpen_39 rfl (by decide) (rfl : 39 + 1 = 40)) (v_iinc (v := 1) dX8_areOpen_40 (by decide) (by decide) (rfl : 40 + 3 = 43))) dX8_areOpen_43 (rfl : ((43 : Nat) : Int) + (-39) = ((4 : Nat) : Int)))))) (v_ret (v_iload_n (i := 2) dX8_areOpen_46 rfl (rfl : 46 + 1 = 47)) dX8_areOpen_47)))
theorem IX8_areOpen : Mz yX8_areOpen cX8_areOpen 4 (rmk 2 41) DX8_areOpen := mk_z (by decide +kernel) BX8_areOpen

theorem dX8_copy_0 : decode cX8_copy 0 = .ok (.iconst 0, 1) := by decide +kernel
theorem dX8_copy_1 : decode cX8_copy 1 = .ok (.istore 4, 2) := by decide +kernel
theorem dX8_copy_3 : decode cX8_copy 3 = .ok (.iload 4, 2) := by decide +kernel
theorem dX8_copy_5 : decode cX8_copy 5 = .ok (.sipush 331, 3) := by decide +kernel
theorem dX8_copy_8 : decode cX8_copy 8 = .ok (.if_icmp .ge 21, 3) := by decide +kernel
theorem dX8_copy_11 : decode cX8_copy 11 = .ok (.aload_n 2, 1) := by decide +kernel
theorem dX8_copy_12 : decode cX8_copy 12 = .ok (.iload_n 3, 1) := by decide +kernel
theorem dX8_copy_13 : decode cX8_copy 13 = .ok (.iload 4, 2) := by decide +kernel
theorem dX8_copy_15 : decode cX8_copy 15 = .ok (.iadd, 1) := by decide +kernel
theorem dX8_copy_16 : decode cX8_copy 16 = .ok (.aload_n 0, 1) := by decide +kernel
theorem dX8_copy_17 : decode cX8_copy 17 = .ok (.iload_n 1, 1) := by decide +kernel
theorem dX8_copy_18 : decode cX8_copy 18 = .ok (.iload 4, 2) := by decide +kernel
theorem dX8_copy_20 : decode cX8_copy 20 = .ok (.iadd, 1) := by decide +kernel
theorem dX8_copy_21 : decode cX8_copy 21 = .ok (.iaload, 1) := by decide +kernel
theorem dX8_copy_22 : decode cX8_copy 22 = .ok (.iastore, 1) := by decide +kernel
theorem dX8_copy_23 : decode cX8_copy 23 = .ok (.iinc 4 1, 3) := by decide +kernel
theorem dX8_copy_26 : decode cX8_copy 26 = .ok (.goto (-23), 3) := by decide +kernel
theorem dX8_copy_29 : decode cX8_copy 29 = .ok (.return_, 1) := by decide +kernel
noncomputable def qX8_copy_1 : Bx := (bc clt (il 4) (ik 331))
noncomputable def wX8_copy_1 : Sx := (sseq (aii (rl 2) (i2 (· + ·) (il 3) (il 4)) (iald (rl 0) (i2 (· + ·) (il 1) (il 4)))) (sinc 4 1))
noncomputable def EX8_copy : Sx := (sseq (scut 4 (sseq (ssi 4 (ik 0)) (swh qX8_copy_1 wX8_copy_1))) sretv)
noncomputable def DX8_copy : Fu := mfv 5 EX8_copy
set_option maxRecDepth 4000 in
theorem BX8_copy : Vs RX8 cX8_copy 5 (rmk 0 0) 0 0 EX8_copy := (v_seq (v_cut (n := 4) (v_seq (v_istore (i := 4) (v_iconst (v := 0) dX8_copy_0 (by decide) (rfl : 0 + 1 = 1)) dX8_copy_1 (by decide) (rfl : 1 + 2 = 3)) (v_wh (v_ilt_f (v_iload (i := 4) dX8_copy_3 (rfl : 3 + 2 = 5)) (v_sipush (v := 331) dX8_copy_5 (by decide) (rfl : 5 + 3 = 8)) dX8_copy_8 (rfl : ((8 : Nat) : Int) + 21 = ((29 : Nat) : Int)) (rfl : 8 + 3 = 11)) (vs_goto (v_seq (v_aii (v_aload_n (i := 2) dX8_copy_11 rfl (rfl : 11 + 1 = 12)) (v_iadd (v_iload_n (i := 3) dX8_copy_12 rfl (rfl : 12 + 1 = 13)) (v_iload (i := 4) dX8_copy_13 (rfl : 13 + 2 = 15)) dX8_copy_15 (rfl : 15 + 1 = 16)) (v_iald (v_aload_n (i := 0) dX8_copy_16 rfl (rfl : 16 + 1 = 17)) (v_iadd (v_iload_n (i := 1) dX8_copy_17 rfl (rfl : 17 + 1 = 18)) (v_iload (i := 4) dX8_copy_18 (rfl : 18 + 2 = 20)) dX8_copy_20 (rfl : 20 + 1 = 21)) dX8_copy_21 (rfl : 21 + 1 = 22)) dX8_copy_22 (rfl : 22 + 1 = 23)) (v_iinc (v := 1) dX8_copy_23 (by decide) (by decide) (rfl : 23 + 3 = 26))) dX8_copy_26 (rfl : ((26 : Nat) : Int) + (-23) = ((3 : Nat) : Int)))))) (v_retv dX8_copy_29))
theorem IX8_copy : Mv yX8_copy cX8_copy 5 (rmk 0 0) DX8_copy := mk_v (by decide +kernel) BX8_copy

theorem dX8_refuse_0 : decode cX8_refuse 0 = .ok (.aload_n 0, 1) := by decide +kernel
theorem dX8_refuse_1 : decode cX8_refuse 1 = .ok (.iload_n 1, 1) := by decide +kernel
theorem dX8_refuse_2 : decode cX8_refuse 2 = .ok (.putfield 88, 3) := by decide +kernel
theorem dX8_refuse_5 : decode cX8_refuse 5 = .ok (.aload_n 0, 1) := by decide +kernel
theorem dX8_refuse_6 : decode cX8_refuse 6 = .ok (.getfield 7, 3) := by decide +kernel
theorem dX8_refuse_9 : decode cX8_refuse 9 = .ok (.iload_n 1, 1) := by decide +kernel
theorem dX8_refuse_10 : decode cX8_refuse 10 = .ok (.ineg, 1) := by decide +kernel
theorem dX8_refuse_11 : decode cX8_refuse 11 = .ok (.dup2, 1) := by decide +kernel
theorem dX8_refuse_12 : decode cX8_refuse 12 = .ok (.iaload, 1) := by decide +kernel
theorem dX8_refuse_13 : decode cX8_refuse 13 = .ok (.iconst 1, 1) := by decide +kernel
theorem dX8_refuse_14 : decode cX8_refuse 14 = .ok (.iadd, 1) := by decide +kernel
theorem dX8_refuse_15 : decode cX8_refuse 15 = .ok (.iastore, 1) := by decide +kernel
theorem dX8_refuse_16 : decode cX8_refuse 16 = .ok (.iload_n 1, 1) := by decide +kernel
theorem dX8_refuse_17 : decode cX8_refuse 17 = .ok (.ireturn, 1) := by decide +kernel
noncomputable def EX8_refuse : Sx := (sseq (fpi 7 1 (rl 0) (il 1)) (sseq (aoi (· + ·) (fgr 7 2 (rl 0)) (i1 (fun x => -x) (il 1)) (ik 1)) (sret (il 1))))
noncomputable def DX8_refuse : Fi := mfi 2 EX8_refuse
set_option maxRecDepth 4000 in
theorem BX8_refuse : Vs RX8 cX8_refuse 2 (rmk 0 0) 0 0 EX8_refuse := (v_seq (v_fpi kX8 lk996 (by decide) rfl rfl (by decide +kernel) (v_aload_n (i := 0) dX8_refuse_0 rfl (rfl : 0 + 1 = 1)) (v_iload_n (i := 1) dX8_refuse_1 rfl (rfl : 1 + 1 = 2)) dX8_refuse_2 (rfl : 2 + 3 = 5)) (v_seq (v_aoi_iadd (v_gfr kX8 lk997 (by decide) rfl (v_aload_n (i := 0) dX8_refuse_5 rfl (rfl : 5 + 1 = 6)) dX8_refuse_6 (rfl : 6 + 3 = 9)) (v_ineg (v_iload_n (i := 1) dX8_refuse_9 rfl (rfl : 9 + 1 = 10)) dX8_refuse_10 (rfl : 10 + 1 = 11)) dX8_refuse_11 dX8_refuse_12 (rfl : 11 + 1 + 1 = 13) (v_iconst (v := 1) dX8_refuse_13 (by decide) (rfl : 13 + 1 = 14)) dX8_refuse_14 dX8_refuse_15 (rfl : 14 + 1 + 1 = 16)) (v_ret (v_iload_n (i := 1) dX8_refuse_16 rfl (rfl : 16 + 1 = 17)) dX8_refuse_17)))
theorem IX8_refuse : Mi yX8_refuse cX8_refuse 2 (rmk 0 0) DX8_refuse := mk_i (by decide +kernel) BX8_refuse

theorem dX8_tell_0 : decode cX8_tell 0 = .ok (.aload_n 0, 1) := by decide +kernel
theorem dX8_tell_1 : decode cX8_tell 1 = .ok (.iconst 0, 1) := by decide +kernel
theorem dX8_tell_2 : decode cX8_tell 2 = .ok (.putfield 88, 3) := by decide +kernel
theorem dX8_tell_5 : decode cX8_tell 5 = .ok (.iload_n 1, 1) := by decide +kernel
theorem dX8_tell_6 : decode cX8_tell 6 = .ok (.ireturn, 1) := by decide +kernel
noncomputable def EX8_tell : Sx := (sseq (fpi 7 1 (rl 0) (ik 0)) (sret (il 1)))
noncomputable def DX8_tell : Fi := mfi 2 EX8_tell
set_option maxRecDepth 4000 in
theorem BX8_tell : Vs RX8 cX8_tell 2 (rmk 0 0) 0 0 EX8_tell := (v_seq (v_fpi kX8 lk996 (by decide) rfl rfl (by decide +kernel) (v_aload_n (i := 0) dX8_tell_0 rfl (rfl : 0 + 1 = 1)) (v_iconst (v := 0) dX8_tell_1 (by decide) (rfl : 1 + 1 = 2)) dX8_tell_2 (rfl : 2 + 3 = 5)) (v_ret (v_iload_n (i := 1) dX8_tell_5 rfl (rfl : 5 + 1 = 6)) dX8_tell_6))
theorem IX8_tell : Mi yX8_tell cX8_tell 2 (rmk 0 0) DX8_tell := mk_i (by decide +kernel) BX8_tell

theorem dX8_back_0 : decode cX8_back 0 = .ok (.aload_n 0, 1) := by decide +kernel
theorem dX8_back_1 : decode cX8_back 1 = .ok (.iconst 0, 1) := by decide +kernel
theorem dX8_back_2 : decode cX8_back 2 = .ok (.putfield 84, 3) := by decide +kernel
theorem dX8_back_5 : decode cX8_back 5 = .ok (.iload_n 1, 1) := by decide +kernel
theorem dX8_back_6 : decode cX8_back 6 = .ok (.i2l, 1) := by decide +kernel
theorem dX8_back_7 : decode cX8_back 7 = .ok (.lconst 0, 1) := by decide +kernel
theorem dX8_back_8 : decode cX8_back 8 = .ok (.lconst 1, 1) := by decide +kernel
theorem dX8_back_9 : decode cX8_back 9 = .ok (.invokestatic 105, 3) := by decide +kernel
theorem dX8_back_12 : decode cX8_back 12 = .ok (.ifCond .ne 9, 3) := by decide +kernel
theorem dX8_back_15 : decode cX8_back 15 = .ok (.aload_n 0, 1) := by decide +kernel
theorem dX8_back_16 : decode cX8_back 16 = .ok (.iconst (-1), 1) := by decide +kernel
theorem dX8_back_17 : decode cX8_back 17 = .ok (.invokevirtual 98, 3) := by decide +kernel
theorem dX8_back_20 : decode cX8_back 20 = .ok (.ireturn, 1) := by decide +kernel
theorem dX8_back_21 : decode cX8_back 21 = .ok (.aload_n 0, 1) := by decide +kernel
theorem dX8_back_22 : decode cX8_back 22 = .ok (.getfield 25, 3) := by decide +kernel
theorem dX8_back_25 : decode cX8_back 25 = .ok (.iload_n 1, 1) := by decide +kernel
theorem dX8_back_26 : decode cX8_back 26 = .ok (.baload, 1) := by decide +kernel
theorem dX8_back_27 : decode cX8_back 27 = .ok (.ifCond .ne 10, 3) := by decide +kernel
theorem dX8_back_30 : decode cX8_back 30 = .ok (.aload_n 0, 1) := by decide +kernel
theorem dX8_back_31 : decode cX8_back 31 = .ok (.bipush (-4), 2) := by decide +kernel
theorem dX8_back_33 : decode cX8_back 33 = .ok (.invokevirtual 98, 3) := by decide +kernel
theorem dX8_back_36 : decode cX8_back 36 = .ok (.ireturn, 1) := by decide +kernel
theorem dX8_back_37 : decode cX8_back 37 = .ok (.aload_n 0, 1) := by decide +kernel
theorem dX8_back_38 : decode cX8_back 38 = .ok (.getfield 22, 3) := by decide +kernel
theorem dX8_back_41 : decode cX8_back 41 = .ok (.sipush 331, 3) := by decide +kernel
theorem dX8_back_44 : decode cX8_back 44 = .ok (.iload_n 1, 1) := by decide +kernel
theorem dX8_back_45 : decode cX8_back 45 = .ok (.imul, 1) := by decide +kernel
theorem dX8_back_46 : decode cX8_back 46 = .ok (.aload_n 0, 1) := by decide +kernel
theorem dX8_back_47 : decode cX8_back 47 = .ok (.getfield 13, 3) := by decide +kernel
theorem dX8_back_50 : decode cX8_back 50 = .ok (.iconst 0, 1) := by decide +kernel
theorem dX8_back_51 : decode cX8_back 51 = .ok (.invokestatic 94, 3) := by decide +kernel
theorem dX8_back_54 : decode cX8_back 54 = .ok (.aload_n 0, 1) := by decide +kernel
theorem dX8_back_55 : decode cX8_back 55 = .ok (.iconst 0, 1) := by decide +kernel
theorem dX8_back_56 : decode cX8_back 56 = .ok (.putfield 91, 3) := by decide +kernel
theorem dX8_back_59 : decode cX8_back 59 = .ok (.aload_n 0, 1) := by decide +kernel
theorem dX8_back_60 : decode cX8_back 60 = .ok (.aload_n 0, 1) := by decide +kernel
theorem dX8_back_61 : decode cX8_back 61 = .ok (.getfield 13, 3) := by decide +kernel
theorem dX8_back_64 : decode cX8_back 64 = .ok (.iconst 4, 1) := by decide +kernel
theorem dX8_back_65 : decode cX8_back 65 = .ok (.iaload, 1) := by decide +kernel
theorem dX8_back_66 : decode cX8_back 66 = .ok (.invokevirtual 102, 3) := by decide +kernel
theorem dX8_back_69 : decode cX8_back 69 = .ok (.ireturn, 1) := by decide +kernel
noncomputable def EX8_back : Sx := (sseq (fpi 7 0 (rl 0) (ik 0)) (sseq (sif (bnot (bz cne (csz DX8_in (aj (i2l (il 1)) (aj (jk 0) (aj (jk 1) anil)))))) (sret (cvi 7 DX8_refuse (rl 0) (ai (ik (-1)) anil))) snop) (sseq (sif (bnot (bz cne (zald (fgr 7 8 (rl 0)) (il 1)))) (sret (cvi 7 DX8_refuse (rl 0) (ai (ik (-4)) anil))) snop) (sseq (scs DX8_copy (ar (fgr 7 7 (rl 0)) (ai (i2 (· * ·) (ik 331) (il 1)) (ar (fgr 7 3 (rl 0)) (ai (ik 0) anil))))) (sseq (fpi 7 6 (rl 0) (ik 0)) (sret (cvi 7 DX8_tell (rl 0) (ai (iald (fgr 7 3 (rl 0)) (ik 4)) anil))))))))
noncomputable def DX8_back : Fi := mfi 2 EX8_back
set_option maxRecDepth 4000 in
theorem BX8_back : Vs RX8 cX8_back 2 (rmk 1 25) 0 0 EX8_back := (v_seq (v_fpi kX8 lk995 (by decide) rfl rfl (by decide +kernel) (v_aload_n (i := 0) dX8_back_0 rfl (rfl : 0 + 1 = 1)) (v_iconst (v := 0) dX8_back_1 (by decide) (rfl : 1 + 1 = 2)) dX8_back_2 (rfl : 2 + 3 = 5)) (v_seq (v_if (v_not (v_zne_t (v_csz IX8_in hX8_in lk1120 ⟨by decide, by decide⟩ (by decide) (v_aj (v_i2l (v_iload_n (i := 1) dX8_back_5 rfl (rfl : 5 + 1 = 6)) dX8_back_6 (rfl : 6 + 1 = 7)) (v_aj (v_lconst (v := 0) dX8_back_7 (by decide) (rfl : 7 + 1 = 8)) (v_aj (v_lconst (v := 1) dX8_back_8 (by decide) (rfl : 8 + 1 = 9)) v_anil))) dX8_back_9 (rfl : 9 + 3 = 12)) dX8_back_12 (rfl : ((12 : Nat) : Int) + 9 = ((21 : Nat) : Int)) (rfl : 12 + 3 = 15))) (v_ret (v_cvi kX8 IX8_refuse hX8_refuse lk1105 ⟨by decide, by decide⟩ (by decide) (v_aload_n (i := 0) dX8_back_15 rfl (rfl : 15 + 1 = 16)) (v_ai (v_iconst (v := (-1)) dX8_back_16 (by decide) (rfl : 16 + 1 = 17)) v_anil) dX8_back_17 (rfl : 17 + 3 = 20)) dX8_back_20) v_nop) (v_seq (v_if (v_not (v_zne_t (v_zald (v_gfr kX8 lk1003 (by decide) rfl (v_aload_n (i := 0) dX8_back_21 rfl (rfl : 21 + 1 = 22)) dX8_back_22 (rfl : 22 + 3 = 25)) (v_iload_n (i := 1) dX8_back_25 rfl (rfl : 25 + 1 = 26)) dX8_back_26 (rfl : 26 + 1 = 27)) dX8_back_27 (rfl : ((27 : Nat) : Int) + 10 = ((37 : Nat) : Int)) (rfl : 27 + 3 = 30))) (v_ret (v_cvi kX8 IX8_refuse hX8_refuse lk1105 ⟨by decide, by decide⟩ (by decide) (v_aload_n (i := 0) dX8_back_30 rfl (rfl : 30 + 1 = 31)) (v_ai (v_bipush (v := (-4)) dX8_back_31 (by decide) (rfl : 31 + 2 = 33)) v_anil) dX8_back_33 (rfl : 33 + 3 = 36)) dX8_back_36) v_nop) (v_seq (v_scs IX8_copy hX8_copy lk1109 ⟨by decide, by decide⟩ (v_ar (v_gfr kX8 lk1002 (by decide) rfl (v_aload_n (i := 0) dX8_back_37 rfl (rfl : 37 + 1 = 38)) dX8_back_38 (rfl : 38 + 3 = 41)) (v_ai (v_imul (v_sipush (v := 331) dX8_back_41 (by decide) (rfl : 41 + 3 = 44)) (v_iload_n (i := 1) dX8_back_44 rfl (rfl : 44 + 1 = 45)) dX8_back_45 (rfl : 45 + 1 = 46)) (v_ar (v_gfr kX8 lk998 (by decide) rfl (v_aload_n (i := 0) dX8_back_46 rfl (rfl : 46 + 1 = 47)) dX8_back_47 (rfl : 47 + 3 = 50)) (v_ai (v_iconst (v := 0) dX8_back_50 (by decide) (rfl : 50 + 1 = 51)) v_anil)))) dX8_back_51 (rfl : 51 + 3 = 54)) (v_seq (v_fpi kX8 lk1001 (by decide) rfl rfl (by decide +kernel) (v_aload_n (i := 0) dX8_back_54 rfl (rfl : 54 + 1 = 55)) (v_iconst (v := 0) dX8_back_55 (by decide) (rfl : 55 + 1 = 56)) dX8_back_56 (rfl : 56 + 3 = 59)) (v_ret (v_cvi kX8 IX8_tell hX8_tell lk1112 ⟨by decide, by decide⟩ (by decide) (v_aload_n (i := 0) dX8_back_59 rfl (rfl : 59 + 1 = 60)) (v_ai (v_iald (v_gfr kX8 lk998 (by decide) rfl (v_aload_n (i := 0) dX8_back_60 rfl (rfl : 60 + 1 = 61)) dX8_back_61 (rfl : 61 + 3 = 64)) (v_iconst (v := 4) dX8_back_64 (by decide) (rfl : 64 + 1 = 65)) dX8_back_65 (rfl : 65 + 1 = 66)) v_anil) dX8_back_66 (rfl : 66 + 3 = 69)) dX8_back_69))))))
theorem IX8_back : Mi yX8_back cX8_back 2 (rmk 1 25) DX8_back := mk_i (by decide +kernel) BX8_back

theorem dX8_isJoint_0 : decode cX8_isJoint 0 = .ok (.iload_n 1, 1) := by decide +kernel
theorem dX8_isJoint_1 : decode cX8_isJoint 1 = .ok (.bipush 10, 2) := by decide +kernel
theorem dX8_isJoint_3 : decode cX8_isJoint 3 = .ok (.if_icmp .ge 11, 3) := by decide +kernel
theorem dX8_isJoint_6 : decode cX8_isJoint 6 = .ok (.aload_n 0, 1) := by decide +kernel
theorem dX8_isJoint_7 : decode cX8_isJoint 7 = .ok (.iload_n 1, 1) := by decide +kernel
theorem dX8_isJoint_8 : decode cX8_isJoint 8 = .ok (.invokevirtual 109, 3) := by decide +kernel
theorem dX8_isJoint_11 : decode cX8_isJoint 11 = .ok (.goto 11, 3) := by decide +kernel
theorem dX8_isJoint_14 : decode cX8_isJoint 14 = .ok (.aload_n 0, 1) := by decide +kernel
theorem dX8_isJoint_15 : decode cX8_isJoint 15 = .ok (.iload_n 1, 1) := by decide +kernel
theorem dX8_isJoint_16 : decode cX8_isJoint 16 = .ok (.bipush 10, 2) := by decide +kernel
theorem dX8_isJoint_18 : decode cX8_isJoint 18 = .ok (.isub, 1) := by decide +kernel
theorem dX8_isJoint_19 : decode cX8_isJoint 19 = .ok (.invokevirtual 113, 3) := by decide +kernel
theorem dX8_isJoint_22 : decode cX8_isJoint 22 = .ok (.ireturn, 1) := by decide +kernel
noncomputable def EX8_isJoint : Sx := (sret (ic (bc clt (il 1) (ik 10)) (cvz 7 DX8_isChamber (rl 0) (ai (il 1) anil)) (cvz 7 DX8_isTube (rl 0) (ai (i2 (· - ·) (il 1) (ik 10)) anil))))
noncomputable def DX8_isJoint : Fz := mfz 2 EX8_isJoint
set_option maxRecDepth 4000 in
theorem BX8_isJoint : Vs RX8 cX8_isJoint 2 (rmk 2 46) 0 0 EX8_isJoint := (v_ret (v_ic (v_ilt_f (v_iload_n (i := 1) dX8_isJoint_0 rfl (rfl : 0 + 1 = 1)) (v_bipush (v := 10) dX8_isJoint_1 (by decide) (rfl : 1 + 2 = 3)) dX8_isJoint_3 (rfl : ((3 : Nat) : Int) + 11 = ((14 : Nat) : Int)) (rfl : 3 + 3 = 6)) (vi_goto (v_cvz kX8 IX8_isChamber hX8_isChamber lk1145 ⟨by decide, by decide⟩ (by decide) (v_aload_n (i := 0) dX8_isJoint_6 rfl (rfl : 6 + 1 = 7)) (v_ai (v_iload_n (i := 1) dX8_isJoint_7 rfl (rfl : 7 + 1 = 8)) v_anil) dX8_isJoint_8 (rfl : 8 + 3 = 11)) dX8_isJoint_11 (rfl : ((11 : Nat) : Int) + 11 = ((22 : Nat) : Int))) (v_cvz kX8 IX8_isTube hX8_isTube lk1195 ⟨by decide, by decide⟩ (by decide) (v_aload_n (i := 0) dX8_isJoint_14 rfl (rfl : 14 + 1 = 15)) (v_ai (v_isub (v_iload_n (i := 1) dX8_isJoint_15 rfl (rfl : 15 + 1 = 16)) (v_bipush (v := 10) dX8_isJoint_16 (by decide) (rfl : 16 + 2 = 18)) dX8_isJoint_18 (rfl : 18 + 1 = 19)) v_anil) dX8_isJoint_19 (rfl : 19 + 3 = 22))) dX8_isJoint_22)
theorem IX8_isJoint : Mz yX8_isJoint cX8_isJoint 2 (rmk 2 46) DX8_isJoint := mk_z (by decide +kernel) BX8_isJoint
