theorem dX8_reckonLeak_0 : decode cX8_reckonLeak 0 = .ok (.aload_n 0, 1) := by decide +kernel
theorem dX8_reckonLeak_1 : decode cX8_reckonLeak 1 = .ok (.invokevirtual 244, 3) := by decide +kernel
theorem dX8_reckonLeak_4 : decode cX8_reckonLeak 4 = .ok (.aload_n 0, 1) := by decide +kernel
theorem dX8_reckonLeak_5 : decode cX8_reckonLeak 5 = .ok (.iload_n 1, 1) := by decide +kernel
theorem dX8_reckonLeak_6 : decode cX8_reckonLeak 6 = .ok (.putfield 192, 3) := by decide +kernel
theorem dX8_reckonLeak_9 : decode cX8_reckonLeak 9 = .ok (.aload_n 0, 1) := by decide +kernel
theorem dX8_reckonLeak_10 : decode cX8_reckonLeak 10 = .ok (.iload_n 2, 1) := by decide +kernel
theorem dX8_reckonLeak_11 : decode cX8_reckonLeak 11 = .ok (.putfield 195, 3) := by decide +kernel
theorem dX8_reckonLeak_14 : decode cX8_reckonLeak 14 = .ok (.aload_n 0, 1) := by decide +kernel
theorem dX8_reckonLeak_15 : decode cX8_reckonLeak 15 = .ok (.iconst 0, 1) := by decide +kernel
theorem dX8_reckonLeak_16 : decode cX8_reckonLeak 16 = .ok (.invokevirtual 247, 3) := by decide +kernel
theorem dX8_reckonLeak_19 : decode cX8_reckonLeak 19 = .ok (.ireturn, 1) := by decide +kernel
noncomputable def EX8_reckonLeak : Sx := (sseq (scv 7 DX8_asItIs (rl 0) anil) (sseq (fpi 7 22 (rl 0) (il 1)) (sseq (fpi 7 23 (rl 0) (il 2)) (sret (cvz 7 DX8_reckon (rl 0) (ai (ik 0) anil))))))
noncomputable def DX8_reckonLeak : Fz := mfz 3 EX8_reckonLeak
set_option maxRecDepth 4000 in
theorem BX8_reckonLeak : Vs RX8 cX8_reckonLeak 3 (rmk 5 114) 0 0 EX8_reckonLeak := (v_seq (v_scv kX8 IX8_asItIs hX8_asItIs lk1245 ⟨by decide, by decide⟩ (v_aload_n (i := 0) dX8_reckonLeak_0 rfl (rfl : 0 + 1 = 1)) v_anil dX8_reckonLeak_1 (rfl : 1 + 3 = 4)) (v_seq (v_fpi kX8 lk1017 (by decide) rfl rfl (by decide +kernel) (v_aload_n (i := 0) dX8_reckonLeak_4 rfl (rfl : 4 + 1 = 5)) (v_iload_n (i := 1) dX8_reckonLeak_5 rfl (rfl : 5 + 1 = 6)) dX8_reckonLeak_6 (rfl : 6 + 3 = 9)) (v_seq (v_fpi kX8 lk1018 (by decide) rfl rfl (by decide +kernel) (v_aload_n (i := 0) dX8_reckonLeak_9 rfl (rfl : 9 + 1 = 10)) (v_iload_n (i := 2) dX8_reckonLeak_10 rfl (rfl : 10 + 1 = 11)) dX8_reckonLeak_11 (rfl : 11 + 3 = 14)) (v_ret (v_cvz kX8 IX8_reckon hX8_reckon lk1249 ⟨by decide, by decide⟩ (by decide) (v_aload_n (i := 0) dX8_reckonLeak_14 rfl (rfl : 14 + 1 = 15)) (v_ai (v_iconst (v := 0) dX8_reckonLeak_15 (by decide) (rfl : 15 + 1 = 16)) v_anil) dX8_reckonLeak_16 (rfl : 16 + 3 = 19)) dX8_reckonLeak_19))))
theorem IX8_reckonLeak : Mz yX8_reckonLeak cX8_reckonLeak 3 (rmk 5 114) DX8_reckonLeak := mk_z (by decide +kernel) BX8_reckonLeak

theorem dX8_bears_0 : decode cX8_bears 0 = .ok (.aload_n 0, 1) := by decide +kernel
theorem dX8_bears_1 : decode cX8_bears 1 = .ok (.iconst 0, 1) := by decide +kernel
theorem dX8_bears_2 : decode cX8_bears 2 = .ok (.putfield 84, 3) := by decide +kernel
theorem dX8_bears_5 : decode cX8_bears 5 = .ok (.aload_n 0, 1) := by decide +kernel
theorem dX8_bears_6 : decode cX8_bears 6 = .ok (.iload_n 1, 1) := by decide +kernel
theorem dX8_bears_7 : decode cX8_bears 7 = .ok (.invokevirtual 164, 3) := by decide +kernel
theorem dX8_bears_10 : decode cX8_bears 10 = .ok (.ifCond .eq 7, 3) := by decide +kernel
theorem dX8_bears_13 : decode cX8_bears 13 = .ok (.iload_n 2, 1) := by decide +kernel
theorem dX8_bears_14 : decode cX8_bears 14 = .ok (.ifCond .ge 5, 3) := by decide +kernel
theorem dX8_bears_17 : decode cX8_bears 17 = .ok (.iconst (-1), 1) := by decide +kernel
theorem dX8_bears_18 : decode cX8_bears 18 = .ok (.ireturn, 1) := by decide +kernel
theorem dX8_bears_19 : decode cX8_bears 19 = .ok (.iconst (-1), 1) := by decide +kernel
theorem dX8_bears_20 : decode cX8_bears 20 = .ok (.istore_n 3, 1) := by decide +kernel
theorem dX8_bears_21 : decode cX8_bears 21 = .ok (.iconst 0, 1) := by decide +kernel
theorem dX8_bears_22 : decode cX8_bears 22 = .ok (.istore 4, 2) := by decide +kernel
theorem dX8_bears_24 : decode cX8_bears 24 = .ok (.iload 4, 2) := by decide +kernel
theorem dX8_bears_26 : decode cX8_bears 26 = .ok (.bipush 60, 2) := by decide +kernel
theorem dX8_bears_28 : decode cX8_bears 28 = .ok (.if_icmp .gt 31, 3) := by decide +kernel
theorem dX8_bears_31 : decode cX8_bears 31 = .ok (.aload_n 0, 1) := by decide +kernel
theorem dX8_bears_32 : decode cX8_bears 32 = .ok (.aload_n 0, 1) := by decide +kernel
theorem dX8_bears_33 : decode cX8_bears 33 = .ok (.iload_n 1, 1) := by decide +kernel
theorem dX8_bears_34 : decode cX8_bears 34 = .ok (.iload 4, 2) := by decide +kernel
theorem dX8_bears_36 : decode cX8_bears 36 = .ok (.invokevirtual 323, 3) := by decide +kernel
theorem dX8_bears_39 : decode cX8_bears 39 = .ok (.iload_n 2, 1) := by decide +kernel
theorem dX8_bears_40 : decode cX8_bears 40 = .ok (.invokevirtual 358, 3) := by decide +kernel
theorem dX8_bears_43 : decode cX8_bears 43 = .ok (.ifCond .eq 8, 3) := by decide +kernel
theorem dX8_bears_46 : decode cX8_bears 46 = .ok (.iload 4, 2) := by decide +kernel
theorem dX8_bears_48 : decode cX8_bears 48 = .ok (.goto 4, 3) := by decide +kernel
theorem dX8_bears_51 : decode cX8_bears 51 = .ok (.iload_n 3, 1) := by decide +kernel
theorem dX8_bears_52 : decode cX8_bears 52 = .ok (.istore_n 3, 1) := by decide +kernel
theorem dX8_bears_53 : decode cX8_bears 53 = .ok (.iinc 4 1, 3) := by decide +kernel
theorem dX8_bears_56 : decode cX8_bears 56 = .ok (.goto (-32), 3) := by decide +kernel
theorem dX8_bears_59 : decode cX8_bears 59 = .ok (.iload_n 3, 1) := by decide +kernel
theorem dX8_bears_60 : decode cX8_bears 60 = .ok (.ireturn, 1) := by decide +kernel
noncomputable def qX8_bears_1 : Bx := (bc cle (il 4) (ik 60))
noncomputable def wX8_bears_1 : Sx := (sseq (ssi 3 (ic (bz cne (cvz 7 DX8_areBelowReckoned (rl 0) (ai (cvz 7 DX8_reckonLeak (rl 0) (ai (il 1) (ai (il 4) anil))) (ai (il 2) anil)))) (il 4) (il 3))) (sinc 4 1))
noncomputable def EX8_bears : Sx := (sseq (fpi 7 0 (rl 0) (ik 0)) (sseq (sif (bor (bnot (bz cne (cvz 7 DX8_isJoint (rl 0) (ai (il 1) anil)))) (bz clt (il 2))) (sret (ik (-1))) snop) (sseq (ssi 3 (ik (-1))) (sseq (scut 4 (sseq (ssi 4 (ik 0)) (swh qX8_bears_1 wX8_bears_1))) (sret (il 3))))))
noncomputable def DX8_bears : Fi := mfi 5 EX8_bears
set_option maxRecDepth 4000 in
theorem BX8_bears : Vs RX8 cX8_bears 5 (rmk 6 136) 0 0 EX8_bears := (v_seq (v_fpi kX8 lk995 (by decide) rfl rfl (by decide +kernel) (v_aload_n (i := 0) dX8_bears_0 rfl (rfl : 0 + 1 = 1)) (v_iconst (v := 0) dX8_bears_1 (by decide) (rfl : 1 + 1 = 2)) dX8_bears_2 (rfl : 2 + 3 = 5)) (v_seq (v_if (v_or (v_not (v_zne_f (v_cvz kX8 IX8_isJoint hX8_isJoint lk1208 ⟨by decide, by decide⟩ (by decide) (v_aload_n (i := 0) dX8_bears_5 rfl (rfl : 5 + 1 = 6)) (v_ai (v_iload_n (i := 1) dX8_bears_6 rfl (rfl : 6 + 1 = 7)) v_anil) dX8_bears_7 (rfl : 7 + 3 = 10)) dX8_bears_10 (rfl : ((10 : Nat) : Int) + 7 = ((17 : Nat) : Int)) (rfl : 10 + 3 = 13))) (v_zlt_f (v_iload_n (i := 2) dX8_bears_13 rfl (rfl : 13 + 1 = 14)) dX8_bears_14 (rfl : ((14 : Nat) : Int) + 5 = ((19 : Nat) : Int)) (rfl : 14 + 3 = 17))) (v_ret (v_iconst (v := (-1)) dX8_bears_17 (by decide) (rfl : 17 + 1 = 18)) dX8_bears_18) v_nop) (v_seq (v_istore_n (i := 3) (v_iconst (v := (-1)) dX8_bears_19 (by decide) (rfl : 19 + 1 = 20)) dX8_bears_20 rfl (by decide) (rfl : 20 + 1 = 21)) (v_seq (v_cut (n := 4) (v_seq (v_istore (i := 4) (v_iconst (v := 0) dX8_bears_21 (by decide) (rfl : 21 + 1 = 22)) dX8_bears_22 (by decide) (rfl : 22 + 2 = 24)) (v_wh (v_ile_f (v_iload (i := 4) dX8_bears_24 (rfl : 24 + 2 = 26)) (v_bipush (v := 60) dX8_bears_26 (by decide) (rfl : 26 + 2 = 28)) dX8_bears_28 (rfl : ((28 : Nat) : Int) + 31 = ((59 : Nat) : Int)) (rfl : 28 + 3 = 31)) (vs_goto (v_seq (v_istore_n (i := 3) (v_ic (v_zne_f (v_cvz kX8 IX8_areBelowReckoned hX8_areBelowReckoned lk1468 ⟨by decide, by decide⟩ (by decide) (v_aload_n (i := 0) dX8_bears_31 rfl (rfl : 31 + 1 = 32)) (v_ai (v_cvz kX8 IX8_reckonLeak hX8_reckonLeak lk1409 ⟨by decide, by decide⟩ (by decide) (v_aload_n (i := 0) dX8_bears_32 rfl (rfl : 32 + 1 = 33)) (v_ai (v_iload_n (i := 1) dX8_bears_33 rfl (rfl : 33 + 1 = 34)) (v_ai (v_iload (i := 4) dX8_bears_34 (rfl : 34 + 2 = 36)) v_anil)) dX8_bears_36 (rfl : 36 + 3 = 39)) (v_ai (v_iload_n (i := 2) dX8_bears_39 rfl (rfl : 39 + 1 = 40)) v_anil)) dX8_bears_40 (rfl : 40 + 3 = 43)) dX8_bears_43 (rfl : ((43 : Nat) : Int) + 8 = ((51 : Nat) : Int)) (rfl : 43 + 3 = 46)) (vi_goto (v_iload (i := 4) dX8_bears_46 (rfl : 46 + 2 = 48)) dX8_bears_48 (rfl : ((48 : Nat) : Int) + 4 = ((52 : Nat) : Int))) (v_iload_n (i := 3) dX8_bears_51 rfl (rfl : 51 + 1 = 52))) dX8_bears_52 rfl (by decide) (rfl : 52 + 1 = 53)) (v_iinc (v := 1) dX8_bears_53 (by decide) (by decide) (rfl : 53 + 3 = 56))) dX8_bears_56 (rfl : ((56 : Nat) : Int) + (-32) = ((24 : Nat) : Int)))))) (v_ret (v_iload_n (i := 3) dX8_bears_59 rfl (rfl : 59 + 1 = 60)) dX8_bears_60)))))
theorem IX8_bears : Mi yX8_bears cX8_bears 5 (rmk 6 136) DX8_bears := mk_i (by decide +kernel) BX8_bears

theorem dX8_common_0 : decode cX8_common 0 = .ok (.lload_n 0, 1) := by decide +kernel
theorem dX8_common_1 : decode cX8_common 1 = .ok (.lconst 0, 1) := by decide +kernel
theorem dX8_common_2 : decode cX8_common 2 = .ok (.lcmp, 1) := by decide +kernel
theorem dX8_common_3 : decode cX8_common 3 = .ok (.ifCond .ge 8, 3) := by decide +kernel
theorem dX8_common_6 : decode cX8_common 6 = .ok (.lload_n 0, 1) := by decide +kernel
theorem dX8_common_7 : decode cX8_common 7 = .ok (.lneg, 1) := by decide +kernel
theorem dX8_common_8 : decode cX8_common 8 = .ok (.goto 4, 3) := by decide +kernel
theorem dX8_common_11 : decode cX8_common 11 = .ok (.lload_n 0, 1) := by decide +kernel
theorem dX8_common_12 : decode cX8_common 12 = .ok (.lstore 4, 2) := by decide +kernel
theorem dX8_common_14 : decode cX8_common 14 = .ok (.lload_n 2, 1) := by decide +kernel
theorem dX8_common_15 : decode cX8_common 15 = .ok (.lstore 6, 2) := by decide +kernel
theorem dX8_common_17 : decode cX8_common 17 = .ok (.lload 6, 2) := by decide +kernel
theorem dX8_common_19 : decode cX8_common 19 = .ok (.lconst 0, 1) := by decide +kernel
theorem dX8_common_20 : decode cX8_common 20 = .ok (.lcmp, 1) := by decide +kernel
theorem dX8_common_21 : decode cX8_common 21 = .ok (.ifCond .eq 21, 3) := by decide +kernel
theorem dX8_common_24 : decode cX8_common 24 = .ok (.lload 4, 2) := by decide +kernel
theorem dX8_common_26 : decode cX8_common 26 = .ok (.lload 6, 2) := by decide +kernel
theorem dX8_common_28 : decode cX8_common 28 = .ok (.lrem, 1) := by decide +kernel
theorem dX8_common_29 : decode cX8_common 29 = .ok (.lstore 8, 2) := by decide +kernel
theorem dX8_common_31 : decode cX8_common 31 = .ok (.lload 6, 2) := by decide +kernel
theorem dX8_common_33 : decode cX8_common 33 = .ok (.lstore 4, 2) := by decide +kernel
theorem dX8_common_35 : decode cX8_common 35 = .ok (.lload 8, 2) := by decide +kernel
theorem dX8_common_37 : decode cX8_common 37 = .ok (.lstore 6, 2) := by decide +kernel
theorem dX8_common_39 : decode cX8_common 39 = .ok (.goto (-22), 3) := by decide +kernel
theorem dX8_common_42 : decode cX8_common 42 = .ok (.lload 4, 2) := by decide +kernel
theorem dX8_common_44 : decode cX8_common 44 = .ok (.lreturn, 1) := by decide +kernel
noncomputable def qX8_common_1 : Bx := (bj qne (jl 6) (jk 0))
noncomputable def wX8_common_1 : Sx := (scut 8 (sseq (ssj 8 (j2d ojrem (jl 4) (jl 6))) (sseq (ssj 4 (jl 6)) (ssj 6 (jl 8)))))
noncomputable def EX8_common : Sx := (sseq (ssj 4 (jc (bj qlt (jl 0) (jk 0)) (j1 (fun x => -x) (jl 0)) (jl 0))) (sseq (ssj 6 (jl 2)) (sseq (swh qX8_common_1 wX8_common_1) (sretj (jl 4)))))
noncomputable def DX8_common : Fj := mfj 10 EX8_common
set_option maxRecDepth 4000 in
theorem BX8_common : Vs RX8 cX8_common 10 (rmk 0 0) 0 0 EX8_common := (v_seq (v_lstore (i := 4) (v_jc (v_jlt_f (v_lload_n (i := 0) dX8_common_0 rfl (rfl : 0 + 1 = 1)) (v_lconst (v := 0) dX8_common_1 (by decide) (rfl : 1 + 1 = 2)) dX8_common_2 dX8_common_3 (rfl : ((3 : Nat) : Int) + 8 = ((11 : Nat) : Int)) (rfl : 3 + 3 = 6)) (vj_goto (v_lneg (v_lload_n (i := 0) dX8_common_6 rfl (rfl : 6 + 1 = 7)) dX8_common_7 (rfl : 7 + 1 = 8)) dX8_common_8 (rfl : ((8 : Nat) : Int) + 4 = ((12 : Nat) : Int))) (v_lload_n (i := 0) dX8_common_11 rfl (rfl : 11 + 1 = 12))) dX8_common_12 (by decide) (rfl : 12 + 2 = 14)) (v_seq (v_lstore (i := 6) (v_lload_n (i := 2) dX8_common_14 rfl (rfl : 14 + 1 = 15)) dX8_common_15 (by decide) (rfl : 15 + 2 = 17)) (v_seq (v_wh (v_jne_f (v_lload (i := 6) dX8_common_17 (rfl : 17 + 2 = 19)) (v_lconst (v := 0) dX8_common_19 (by decide) (rfl : 19 + 1 = 20)) dX8_common_20 dX8_common_21 (rfl : ((21 : Nat) : Int) + 21 = ((42 : Nat) : Int)) (rfl : 21 + 3 = 24)) (vs_goto (v_cut (n := 8) (v_seq (v_lstore (i := 8) (v_lrem (v_lload (i := 4) dX8_common_24 (rfl : 24 + 2 = 26)) (v_lload (i := 6) dX8_common_26 (rfl : 26 + 2 = 28)) dX8_common_28 (rfl : 28 + 1 = 29)) dX8_common_29 (by decide) (rfl : 29 + 2 = 31)) (v_seq (v_lstore (i := 4) (v_lload (i := 6) dX8_common_31 (rfl : 31 + 2 = 33)) dX8_common_33 (by decide) (rfl : 33 + 2 = 35)) (v_lstore (i := 6) (v_lload (i := 8) dX8_common_35 (rfl : 35 + 2 = 37)) dX8_common_37 (by decide) (rfl : 37 + 2 = 39))))) dX8_common_39 (rfl : ((39 : Nat) : Int) + (-22) = ((17 : Nat) : Int)))) (v_retj (v_lload (i := 4) dX8_common_42 (rfl : 42 + 2 = 44)) dX8_common_44))))
theorem IX8_common : Mj yX8_common cX8_common 10 (rmk 0 0) DX8_common := mk_j (by decide +kernel) BX8_common

theorem dX8_become_0 : decode cX8_become 0 = .ok (.lload_n 2, 1) := by decide +kernel
theorem dX8_become_1 : decode cX8_become 1 = .ok (.lload 4, 2) := by decide +kernel
theorem dX8_become_3 : decode cX8_become 3 = .ok (.invokestatic 281, 3) := by decide +kernel
theorem dX8_become_6 : decode cX8_become 6 = .ok (.lstore 6, 2) := by decide +kernel
theorem dX8_become_8 : decode cX8_become 8 = .ok (.aload_n 0, 1) := by decide +kernel
theorem dX8_become_9 : decode cX8_become 9 = .ok (.getfield 69, 3) := by decide +kernel
theorem dX8_become_12 : decode cX8_become 12 = .ok (.iload_n 1, 1) := by decide +kernel
theorem dX8_become_13 : decode cX8_become 13 = .ok (.lload_n 2, 1) := by decide +kernel
theorem dX8_become_14 : decode cX8_become 14 = .ok (.lload 6, 2) := by decide +kernel
theorem dX8_become_16 : decode cX8_become 16 = .ok (.ldiv, 1) := by decide +kernel
theorem dX8_become_17 : decode cX8_become 17 = .ok (.lastore, 1) := by decide +kernel
theorem dX8_become_18 : decode cX8_become 18 = .ok (.aload_n 0, 1) := by decide +kernel
theorem dX8_become_19 : decode cX8_become 19 = .ok (.getfield 72, 3) := by decide +kernel
theorem dX8_become_22 : decode cX8_become 22 = .ok (.iload_n 1, 1) := by decide +kernel
theorem dX8_become_23 : decode cX8_become 23 = .ok (.lload 4, 2) := by decide +kernel
theorem dX8_become_25 : decode cX8_become 25 = .ok (.lload 6, 2) := by decide +kernel
theorem dX8_become_27 : decode cX8_become 27 = .ok (.ldiv, 1) := by decide +kernel
theorem dX8_become_28 : decode cX8_become 28 = .ok (.lastore, 1) := by decide +kernel
theorem dX8_become_29 : decode cX8_become 29 = .ok (.return_, 1) := by decide +kernel
noncomputable def EX8_become : Sx := (sseq (sseq (ssj 6 (csj DX8_common (aj (jl 2) (aj (jl 4) anil)))) (sseq (aij (fgr 7 29 (rl 0)) (il 1) (j2d (· / ·) (jl 2) (jl 6))) (aij (fgr 7 30 (rl 0)) (il 1) (j2d (· / ·) (jl 4) (jl 6))))) sretv)
noncomputable def DX8_become : Fu := mfv 8 EX8_become
set_option maxRecDepth 4000 in
theorem BX8_become : Vs RX8 cX8_become 8 (rmk 1 29) 0 0 EX8_become := (v_seq (v_seq (v_lstore (i := 6) (v_csj IX8_common hX8_common lk1349 ⟨by decide, by decide⟩ (by decide) (v_aj (v_lload_n (i := 2) dX8_become_0 rfl (rfl : 0 + 1 = 1)) (v_aj (v_lload (i := 4) dX8_become_1 (rfl : 1 + 2 = 3)) v_anil)) dX8_become_3 (rfl : 3 + 3 = 6)) dX8_become_6 (by decide) (rfl : 6 + 2 = 8)) (v_seq (v_aij (v_gfr kX8 lk1024 (by decide) rfl (v_aload_n (i := 0) dX8_become_8 rfl (rfl : 8 + 1 = 9)) dX8_become_9 (rfl : 9 + 3 = 12)) (v_iload_n (i := 1) dX8_become_12 rfl (rfl : 12 + 1 = 13)) (v_ldiv (v_lload_n (i := 2) dX8_become_13 rfl (rfl : 13 + 1 = 14)) (v_lload (i := 6) dX8_become_14 (rfl : 14 + 2 = 16)) dX8_become_16 (rfl : 16 + 1 = 17)) dX8_become_17 (rfl : 17 + 1 = 18)) (v_aij (v_gfr kX8 lk1025 (by decide) rfl (v_aload_n (i := 0) dX8_become_18 rfl (rfl : 18 + 1 = 19)) dX8_become_19 (rfl : 19 + 3 = 22)) (v_iload_n (i := 1) dX8_become_22 rfl (rfl : 22 + 1 = 23)) (v_ldiv (v_lload (i := 4) dX8_become_23 (rfl : 23 + 2 = 25)) (v_lload (i := 6) dX8_become_25 (rfl : 25 + 2 = 27)) dX8_become_27 (rfl : 27 + 1 = 28)) dX8_become_28 (rfl : 28 + 1 = 29)))) (v_retv dX8_become_29))
theorem IX8_become : Mv yX8_become cX8_become 8 (rmk 1 29) DX8_become := mk_v (by decide +kernel) BX8_become

theorem dX8_lowest_0 : decode cX8_lowest 0 = .ok (.iload 4, 2) := by decide +kernel
theorem dX8_lowest_2 : decode cX8_lowest 2 = .ok (.ifCond .ne 7, 3) := by decide +kernel
theorem dX8_lowest_5 : decode cX8_lowest 5 = .ok (.lload_n 0, 1) := by decide +kernel
theorem dX8_lowest_6 : decode cX8_lowest 6 = .ok (.goto 4, 3) := by decide +kernel
theorem dX8_lowest_9 : decode cX8_lowest 9 = .ok (.lload_n 2, 1) := by decide +kernel
theorem dX8_lowest_10 : decode cX8_lowest 10 = .ok (.lload_n 0, 1) := by decide +kernel
theorem dX8_lowest_11 : decode cX8_lowest 11 = .ok (.lload_n 2, 1) := by decide +kernel
theorem dX8_lowest_12 : decode cX8_lowest 12 = .ok (.invokestatic 281, 3) := by decide +kernel
theorem dX8_lowest_15 : decode cX8_lowest 15 = .ok (.ldiv, 1) := by decide +kernel
theorem dX8_lowest_16 : decode cX8_lowest 16 = .ok (.lreturn, 1) := by decide +kernel
noncomputable def EX8_lowest : Sx := (sretj (j2d (· / ·) (jc (bz ceq (il 4)) (jl 0) (jl 2)) (csj DX8_common (aj (jl 0) (aj (jl 2) anil)))))
noncomputable def DX8_lowest : Fj := mfj 5 EX8_lowest
set_option maxRecDepth 4000 in
theorem BX8_lowest : Vs RX8 cX8_lowest 5 (rmk 1 29) 0 0 EX8_lowest := (v_retj (v_ldiv (v_jc (v_zeq_f (v_iload (i := 4) dX8_lowest_0 (rfl : 0 + 2 = 2)) dX8_lowest_2 (rfl : ((2 : Nat) : Int) + 7 = ((9 : Nat) : Int)) (rfl : 2 + 3 = 5)) (vj_goto (v_lload_n (i := 0) dX8_lowest_5 rfl (rfl : 5 + 1 = 6)) dX8_lowest_6 (rfl : ((6 : Nat) : Int) + 4 = ((10 : Nat) : Int))) (v_lload_n (i := 2) dX8_lowest_9 rfl (rfl : 9 + 1 = 10))) (v_csj IX8_common hX8_common lk1349 ⟨by decide, by decide⟩ (by decide) (v_aj (v_lload_n (i := 0) dX8_lowest_10 rfl (rfl : 10 + 1 = 11)) (v_aj (v_lload_n (i := 2) dX8_lowest_11 rfl (rfl : 11 + 1 = 12)) v_anil)) dX8_lowest_12 (rfl : 12 + 3 = 15)) dX8_lowest_15 (rfl : 15 + 1 = 16)) dX8_lowest_16)
theorem IX8_lowest : Mj yX8_lowest cX8_lowest 5 (rmk 1 29) DX8_lowest := mk_j (by decide +kernel) BX8_lowest

theorem dX8_between_0 : decode cX8_between 0 = .ok (.aload_n 0, 1) := by decide +kernel
theorem dX8_between_1 : decode cX8_between 1 = .ok (.iconst 0, 1) := by decide +kernel
theorem dX8_between_2 : decode cX8_between 2 = .ok (.putfield 84, 3) := by decide +kernel
theorem dX8_between_5 : decode cX8_between 5 = .ok (.aload_n 0, 1) := by decide +kernel
theorem dX8_between_6 : decode cX8_between 6 = .ok (.invokevirtual 225, 3) := by decide +kernel
theorem dX8_between_9 : decode cX8_between 9 = .ok (.aload_n 0, 1) := by decide +kernel
theorem dX8_between_10 : decode cX8_between 10 = .ok (.iload_n 1, 1) := by decide +kernel
theorem dX8_between_11 : decode cX8_between 11 = .ok (.invokevirtual 109, 3) := by decide +kernel
theorem dX8_between_14 : decode cX8_between 14 = .ok (.ifCond .eq 41, 3) := by decide +kernel
theorem dX8_between_17 : decode cX8_between 17 = .ok (.aload_n 0, 1) := by decide +kernel
theorem dX8_between_18 : decode cX8_between 18 = .ok (.iload_n 2, 1) := by decide +kernel
theorem dX8_between_19 : decode cX8_between 19 = .ok (.invokevirtual 109, 3) := by decide +kernel
theorem dX8_between_22 : decode cX8_between 22 = .ok (.ifCond .eq 33, 3) := by decide +kernel
theorem dX8_between_25 : decode cX8_between 25 = .ok (.iload_n 1, 1) := by decide +kernel
theorem dX8_between_26 : decode cX8_between 26 = .ok (.iload_n 2, 1) := by decide +kernel
theorem dX8_between_27 : decode cX8_between 27 = .ok (.if_icmp .eq 28, 3) := by decide +kernel
theorem dX8_between_30 : decode cX8_between 30 = .ok (.iload_n 3, 1) := by decide +kernel
theorem dX8_between_31 : decode cX8_between 31 = .ok (.i2l, 1) := by decide +kernel
theorem dX8_between_32 : decode cX8_between 32 = .ok (.lconst 0, 1) := by decide +kernel
theorem dX8_between_33 : decode cX8_between 33 = .ok (.lconst 1, 1) := by decide +kernel
theorem dX8_between_34 : decode cX8_between 34 = .ok (.invokestatic 105, 3) := by decide +kernel
theorem dX8_between_37 : decode cX8_between 37 = .ok (.ifCond .eq 18, 3) := by decide +kernel
theorem dX8_between_40 : decode cX8_between 40 = .ok (.aload_n 0, 1) := by decide +kernel
theorem dX8_between_41 : decode cX8_between 41 = .ok (.getfield 32, 3) := by decide +kernel
theorem dX8_between_44 : decode cX8_between 44 = .ok (.iload_n 1, 1) := by decide +kernel
theorem dX8_between_45 : decode cX8_between 45 = .ok (.iaload, 1) := by decide +kernel
theorem dX8_between_46 : decode cX8_between 46 = .ok (.aload_n 0, 1) := by decide +kernel
theorem dX8_between_47 : decode cX8_between 47 = .ok (.getfield 32, 3) := by decide +kernel
theorem dX8_between_50 : decode cX8_between 50 = .ok (.iload_n 2, 1) := by decide +kernel
theorem dX8_between_51 : decode cX8_between 51 = .ok (.iaload, 1) := by decide +kernel
theorem dX8_between_52 : decode cX8_between 52 = .ok (.if_icmp .eq 7, 3) := by decide +kernel
theorem dX8_between_55 : decode cX8_between 55 = .ok (.ldc2_w 279, 3) := by decide +kernel
theorem dX8_between_58 : decode cX8_between 58 = .ok (.lreturn, 1) := by decide +kernel
theorem dX8_between_59 : decode cX8_between 59 = .ok (.aload_n 0, 1) := by decide +kernel
theorem dX8_between_60 : decode cX8_between 60 = .ok (.invokevirtual 210, 3) := by decide +kernel
theorem dX8_between_63 : decode cX8_between 63 = .ok (.iconst 0, 1) := by decide +kernel
theorem dX8_between_64 : decode cX8_between 64 = .ok (.istore 4, 2) := by decide +kernel
theorem dX8_between_66 : decode cX8_between 66 = .ok (.iload 4, 2) := by decide +kernel
theorem dX8_between_68 : decode cX8_between 68 = .ok (.iconst 5, 1) := by decide +kernel
theorem dX8_between_69 : decode cX8_between 69 = .ok (.if_icmp .ge 37, 3) := by decide +kernel
theorem dX8_between_72 : decode cX8_between 72 = .ok (.aload_n 0, 1) := by decide +kernel
theorem dX8_between_73 : decode cX8_between 73 = .ok (.getfield 32, 3) := by decide +kernel
theorem dX8_between_76 : decode cX8_between 76 = .ok (.iload 4, 2) := by decide +kernel
theorem dX8_between_78 : decode cX8_between 78 = .ok (.iaload, 1) := by decide +kernel
theorem dX8_between_79 : decode cX8_between 79 = .ok (.aload_n 0, 1) := by decide +kernel
theorem dX8_between_80 : decode cX8_between 80 = .ok (.getfield 32, 3) := by decide +kernel
theorem dX8_between_83 : decode cX8_between 83 = .ok (.iload_n 1, 1) := by decide +kernel
theorem dX8_between_84 : decode cX8_between 84 = .ok (.iaload, 1) := by decide +kernel
theorem dX8_between_85 : decode cX8_between 85 = .ok (.if_icmp .ne 9, 3) := by decide +kernel
theorem dX8_between_88 : decode cX8_between 88 = .ok (.iload 4, 2) := by decide +kernel
theorem dX8_between_90 : decode cX8_between 90 = .ok (.iload_n 2, 1) := by decide +kernel
theorem dX8_between_91 : decode cX8_between 91 = .ok (.if_icmp .ne 9, 3) := by decide +kernel
theorem dX8_between_94 : decode cX8_between 94 = .ok (.aload_n 0, 1) := by decide +kernel
theorem dX8_between_95 : decode cX8_between 95 = .ok (.iload 4, 2) := by decide +kernel
theorem dX8_between_97 : decode cX8_between 97 = .ok (.invokevirtual 213, 3) := by decide +kernel
theorem dX8_between_100 : decode cX8_between 100 = .ok (.iinc 4 1, 3) := by decide +kernel
theorem dX8_between_103 : decode cX8_between 103 = .ok (.goto (-37), 3) := by decide +kernel
theorem dX8_between_106 : decode cX8_between 106 = .ok (.aload_n 0, 1) := by decide +kernel
theorem dX8_between_107 : decode cX8_between 107 = .ok (.invokevirtual 216, 3) := by decide +kernel
theorem dX8_between_110 : decode cX8_between 110 = .ok (.aload_n 0, 1) := by decide +kernel
theorem dX8_between_111 : decode cX8_between 111 = .ok (.getfield 188, 3) := by decide +kernel
theorem dX8_between_114 : decode cX8_between 114 = .ok (.lstore 4, 2) := by decide +kernel
theorem dX8_between_116 : decode cX8_between 116 = .ok (.aload_n 0, 1) := by decide +kernel
theorem dX8_between_117 : decode cX8_between 117 = .ok (.iload_n 1, 1) := by decide +kernel
theorem dX8_between_118 : decode cX8_between 118 = .ok (.invokevirtual 213, 3) := by decide +kernel
theorem dX8_between_121 : decode cX8_between 121 = .ok (.aload_n 0, 1) := by decide +kernel
theorem dX8_between_122 : decode cX8_between 122 = .ok (.invokevirtual 216, 3) := by decide +kernel
theorem dX8_between_125 : decode cX8_between 125 = .ok (.lload 4, 2) := by decide +kernel
theorem dX8_between_127 : decode cX8_between 127 = .ok (.aload_n 0, 1) := by decide +kernel
theorem dX8_between_128 : decode cX8_between 128 = .ok (.getfield 188, 3) := by decide +kernel
theorem dX8_between_131 : decode cX8_between 131 = .ok (.iload_n 3, 1) := by decide +kernel
theorem dX8_between_132 : decode cX8_between 132 = .ok (.invokestatic 289, 3) := by decide +kernel
theorem dX8_between_135 : decode cX8_between 135 = .ok (.lreturn, 1) := by decide +kernel
noncomputable def qX8_between_1 : Bx := (bc clt (il 4) (ik 5))
noncomputable def wX8_between_1 : Sx := (sseq (sif (bor (bc cne (iald (fgr 7 10 (rl 0)) (il 4)) (iald (fgr 7 10 (rl 0)) (il 1))) (bc ceq (il 4) (il 2))) (scv 7 DX8_unit (rl 0) (ai (il 4) anil)) snop) (sinc 4 1))
noncomputable def EX8_between : Sx := (sseq (fpi 7 0 (rl 0) (ik 0)) (sseq (scv 7 DX8_layNets (rl 0) anil) (sseq (sif (bor (bor (bor (bor (bnot (bz cne (cvz 7 DX8_isChamber (rl 0) (ai (il 1) anil)))) (bnot (bz cne (cvz 7 DX8_isChamber (rl 0) (ai (il 2) anil))))) (bc ceq (il 1) (il 2))) (bnot (bz cne (csz DX8_in (aj (i2l (il 3)) (aj (jk 0) (aj (jk 1) anil))))))) (bc cne (iald (fgr 7 10 (rl 0)) (il 1)) (iald (fgr 7 10 (rl 0)) (il 2)))) (sretj (jk (-1))) snop) (sseq (scv 7 DX8_layTubes (rl 0) anil) (sseq (scut 4 (sseq (ssi 4 (ik 0)) (swh qX8_between_1 wX8_between_1))) (sseq (scv 7 DX8_layCofactors (rl 0) anil) (sseq (ssj 4 (fgj 7 14 (rl 0))) (sseq (scv 7 DX8_unit (rl 0) (ai (il 1) anil)) (sseq (scv 7 DX8_layCofactors (rl 0) anil) (sretj (csj DX8_lowest (aj (jl 4) (aj (fgj 7 14 (rl 0)) (ai (il 3) anil))))))))))))))
noncomputable def DX8_between : Fj := mfj 6 EX8_between
set_option maxRecDepth 4000 in
theorem BX8_between : Vs RX8 cX8_between 6 (rmk 3 67) 0 0 EX8_between := (v_seq (v_fpi kX8 lk995 (by decide) rfl rfl (by decide +kernel) (v_aload_n (i := 0) dX8_between_0 rfl (rfl : 0 + 1 = 1)) (v_iconst (v := 0) dX8_between_1 (by decide) (rfl : 1 + 1 = 2)) dX8_between_2 (rfl : 2 + 3 = 5)) (v_seq (v_scv kX8 IX8_layNets hX8_layNets lk1253 ⟨by decide, by decide⟩ (v_aload_n (i := 0) dX8_between_5 rfl (rfl : 5 + 1 = 6)) v_anil dX8_between_6 (rfl : 6 + 3 = 9)) (v_seq (v_if (v_or (v_or (v_or (v_or (v_not (v_zne_f (v_cvz kX8 IX8_isChamber hX8_isChamber lk1145 ⟨by decide, by decide⟩ (by decide) (v_aload_n (i := 0) dX8_between_9 rfl (rfl : 9 + 1 = 10)) (v_ai (v_iload_n (i := 1) dX8_between_10 rfl (rfl : 10 + 1 = 11)) v_anil) dX8_between_11 (rfl : 11 + 3 = 14)) dX8_between_14 (rfl : ((14 : Nat) : Int) + 41 = ((55 : Nat) : Int)) (rfl : 14 + 3 = 17))) (v_not (v_zne_f (v_cvz kX8 IX8_isChamber hX8_isChamber lk1145 ⟨by decide, by decide⟩ (by decide) (v_aload_n (i := 0) dX8_between_17 rfl (rfl : 17 + 1 = 18)) (v_ai (v_iload_n (i := 2) dX8_between_18 rfl (rfl : 18 + 1 = 19)) v_anil) dX8_between_19 (rfl : 19 + 3 = 22)) dX8_between_22 (rfl : ((22 : Nat) : Int) + 33 = ((55 : Nat) : Int)) (rfl : 22 + 3 = 25)))) (v_ieq_t (v_iload_n (i := 1) dX8_between_25 rfl (rfl : 25 + 1 = 26)) (v_iload_n (i := 2) dX8_between_26 rfl (rfl : 26 + 1 = 27)) dX8_between_27 (rfl : ((27 : Nat) : Int) + 28 = ((55 : Nat) : Int)) (rfl : 27 + 3 = 30))) (v_not (v_zne_f (v_csz IX8_in hX8_in lk1120 ⟨by decide, by decide⟩ (by decide) (v_aj (v_i2l (v_iload_n (i := 3) dX8_between_30 rfl (rfl : 30 + 1 = 31)) dX8_between_31 (rfl : 31 + 1 = 32)) (v_aj (v_lconst (v := 0) dX8_between_32 (by decide) (rfl : 32 + 1 = 33)) (v_aj (v_lconst (v := 1) dX8_between_33 (by decide) (rfl : 33 + 1 = 34)) v_anil))) dX8_between_34 (rfl : 34 + 3 = 37)) dX8_between_37 (rfl : ((37 : Nat) : Int) + 18 = ((55 : Nat) : Int)) (rfl : 37 + 3 = 40)))) (v_ine_f (v_iald (v_gfr kX8 lk1005 (by decide) rfl (v_aload_n (i := 0) dX8_between_40 rfl (rfl : 40 + 1 = 41)) dX8_between_41 (rfl : 41 + 3 = 44)) (v_iload_n (i := 1) dX8_between_44 rfl (rfl : 44 + 1 = 45)) dX8_between_45 (rfl : 45 + 1 = 46)) (v_iald (v_gfr kX8 lk1005 (by decide) rfl (v_aload_n (i := 0) dX8_between_46 rfl (rfl : 46 + 1 = 47)) dX8_between_47 (rfl : 47 + 3 = 50)) (v_iload_n (i := 2) dX8_between_50 rfl (rfl : 50 + 1 = 51)) dX8_between_51 (rfl : 51 + 1 = 52)) dX8_between_52 (rfl : ((52 : Nat) : Int) + 7 = ((59 : Nat) : Int)) (rfl : 52 + 3 = 55))) (v_retj (v_ldc2 (v := (-1)) lk1335 dX8_between_55 (rfl : 55 + 3 = 58)) dX8_between_58) v_nop) (v_seq (v_scv kX8 IX8_layTubes hX8_layTubes lk1277 ⟨by decide, by decide⟩ (v_aload_n (i := 0) dX8_between_59 rfl (rfl : 59 + 1 = 60)) v_anil dX8_between_60 (rfl : 60 + 3 = 63)) (v_seq (v_cut (n := 4) (v_seq (v_istore (i := 4) (v_iconst (v := 0) dX8_between_63 (by decide) (rfl : 63 + 1 = 64)) dX8_between_64 (by decide) (rfl : 64 + 2 = 66)) (v_wh (v_ilt_f (v_iload (i := 4) dX8_between_66 (rfl : 66 + 2 = 68)) (v_iconst (v := 5) dX8_between_68 (by decide) (rfl : 68 + 1 = 69)) dX8_between_69 (rfl : ((69 : Nat) : Int) + 37 = ((106 : Nat) : Int)) (rfl : 69 + 3 = 72)) (vs_goto (v_seq (v_if (v_or (v_ine_t (v_iald (v_gfr kX8 lk1005 (by decide) rfl (v_aload_n (i := 0) dX8_between_72 rfl (rfl : 72 + 1 = 73)) dX8_between_73 (rfl : 73 + 3 = 76)) (v_iload (i := 4) dX8_between_76 (rfl : 76 + 2 = 78)) dX8_between_78 (rfl : 78 + 1 = 79)) (v_iald (v_gfr kX8 lk1005 (by decide) rfl (v_aload_n (i := 0) dX8_between_79 rfl (rfl : 79 + 1 = 80)) dX8_between_80 (rfl : 80 + 3 = 83)) (v_iload_n (i := 1) dX8_between_83 rfl (rfl : 83 + 1 = 84)) dX8_between_84 (rfl : 84 + 1 = 85)) dX8_between_85 (rfl : ((85 : Nat) : Int) + 9 = ((94 : Nat) : Int)) (rfl : 85 + 3 = 88)) (v_ieq_f (v_iload (i := 4) dX8_between_88 (rfl : 88 + 2 = 90)) (v_iload_n (i := 2) dX8_between_90 rfl (rfl : 90 + 1 = 91)) dX8_between_91 (rfl : ((91 : Nat) : Int) + 9 = ((100 : Nat) : Int)) (rfl : 91 + 3 = 94))) (v_scv kX8 IX8_unit hX8_unit lk1281 ⟨by decide, by decide⟩ (v_aload_n (i := 0) dX8_between_94 rfl (rfl : 94 + 1 = 95)) (v_ai (v_iload (i := 4) dX8_between_95 (rfl : 95 + 2 = 97)) v_anil) dX8_between_97 (rfl : 97 + 3 = 100)) v_nop) (v_iinc (v := 1) dX8_between_100 (by decide) (by decide) (rfl : 100 + 3 = 103))) dX8_between_103 (rfl : ((103 : Nat) : Int) + (-37) = ((66 : Nat) : Int)))))) (v_seq (v_scv kX8 IX8_layCofactors hX8_layCofactors lk1285 ⟨by decide, by decide⟩ (v_aload_n (i := 0) dX8_between_106 rfl (rfl : 106 + 1 = 107)) v_anil dX8_between_107 (rfl : 107 + 3 = 110)) (v_seq (v_lstore (i := 4) (v_gfj kX8 lk1009 (by decide) rfl (v_aload_n (i := 0) dX8_between_110 rfl (rfl : 110 + 1 = 111)) dX8_between_111 (rfl : 111 + 3 = 114)) dX8_between_114 (by decide) (rfl : 114 + 2 = 116)) (v_seq (v_scv kX8 IX8_unit hX8_unit lk1281 ⟨by decide, by decide⟩ (v_aload_n (i := 0) dX8_between_116 rfl (rfl : 116 + 1 = 117)) (v_ai (v_iload_n (i := 1) dX8_between_117 rfl (rfl : 117 + 1 = 118)) v_anil) dX8_between_118 (rfl : 118 + 3 = 121)) (v_seq (v_scv kX8 IX8_layCofactors hX8_layCofactors lk1285 ⟨by decide, by decide⟩ (v_aload_n (i := 0) dX8_between_121 rfl (rfl : 121 + 1 = 122)) v_anil dX8_between_122 (rfl : 122 + 3 = 125)) (v_retj (v_csj IX8_lowest hX8_lowest lk1346 ⟨by decide, by decide⟩ (by decide) (v_aj (v_lload (i := 4) dX8_between_125 (rfl : 125 + 2 = 127)) (v_aj (v_gfj kX8 lk1009 (by decide) rfl (v_aload_n (i := 0) dX8_between_127 rfl (rfl : 127 + 1 = 128)) dX8_between_128 (rfl : 128 + 3 = 131)) (v_ai (v_iload_n (i := 3) dX8_between_131 rfl (rfl : 131 + 1 = 132)) v_anil))) dX8_between_132 (rfl : 132 + 3 = 135)) dX8_between_135))))))))))
theorem IX8_between : Mj yX8_between cX8_between 6 (rmk 3 67) DX8_between := mk_j (by decide +kernel) BX8_between

theorem dX8_bits_0 : decode cX8_bits 0 = .ok (.iconst 0, 1) := by decide +kernel
theorem dX8_bits_1 : decode cX8_bits 1 = .ok (.istore_n 1, 1) := by decide +kernel
theorem dX8_bits_2 : decode cX8_bits 2 = .ok (.iload_n 0, 1) := by decide +kernel
theorem dX8_bits_3 : decode cX8_bits 3 = .ok (.istore_n 2, 1) := by decide +kernel
theorem dX8_bits_4 : decode cX8_bits 4 = .ok (.iload_n 2, 1) := by decide +kernel
theorem dX8_bits_5 : decode cX8_bits 5 = .ok (.ifCond .eq 15, 3) := by decide +kernel
theorem dX8_bits_8 : decode cX8_bits 8 = .ok (.iinc 1 1, 3) := by decide +kernel
theorem dX8_bits_11 : decode cX8_bits 11 = .ok (.iload_n 2, 1) := by decide +kernel
theorem dX8_bits_12 : decode cX8_bits 12 = .ok (.iload_n 2, 1) := by decide +kernel
theorem dX8_bits_13 : decode cX8_bits 13 = .ok (.iconst 1, 1) := by decide +kernel
theorem dX8_bits_14 : decode cX8_bits 14 = .ok (.isub, 1) := by decide +kernel
theorem dX8_bits_15 : decode cX8_bits 15 = .ok (.iand, 1) := by decide +kernel
theorem dX8_bits_16 : decode cX8_bits 16 = .ok (.istore_n 2, 1) := by decide +kernel
theorem dX8_bits_17 : decode cX8_bits 17 = .ok (.goto (-13), 3) := by decide +kernel
theorem dX8_bits_20 : decode cX8_bits 20 = .ok (.iload_n 1, 1) := by decide +kernel
theorem dX8_bits_21 : decode cX8_bits 21 = .ok (.ireturn, 1) := by decide +kernel
noncomputable def qX8_bits_1 : Bx := (bz cne (il 2))
noncomputable def wX8_bits_1 : Sx := (sseq (sinc 1 1) (ssi 2 (i2 (· &&& ·) (il 2) (i2 (· - ·) (il 2) (ik 1)))))
noncomputable def EX8_bits : Sx := (sseq (ssi 1 (ik 0)) (sseq (scut 2 (sseq (ssi 2 (il 0)) (swh qX8_bits_1 wX8_bits_1))) (sret (il 1))))
noncomputable def DX8_bits : Fi := mfi 3 EX8_bits
set_option maxRecDepth 4000 in
theorem BX8_bits : Vs RX8 cX8_bits 3 (rmk 0 0) 0 0 EX8_bits := (v_seq (v_istore_n (i := 1) (v_iconst (v := 0) dX8_bits_0 (by decide) (rfl : 0 + 1 = 1)) dX8_bits_1 rfl (by decide) (rfl : 1 + 1 = 2)) (v_seq (v_cut (n := 2) (v_seq (v_istore_n (i := 2) (v_iload_n (i := 0) dX8_bits_2 rfl (rfl : 2 + 1 = 3)) dX8_bits_3 rfl (by decide) (rfl : 3 + 1 = 4)) (v_wh (v_zne_f (v_iload_n (i := 2) dX8_bits_4 rfl (rfl : 4 + 1 = 5)) dX8_bits_5 (rfl : ((5 : Nat) : Int) + 15 = ((20 : Nat) : Int)) (rfl : 5 + 3 = 8)) (vs_goto (v_seq (v_iinc (v := 1) dX8_bits_8 (by decide) (by decide) (rfl : 8 + 3 = 11)) (v_istore_n (i := 2) (v_iand (v_iload_n (i := 2) dX8_bits_11 rfl (rfl : 11 + 1 = 12)) (v_isub (v_iload_n (i := 2) dX8_bits_12 rfl (rfl : 12 + 1 = 13)) (v_iconst (v := 1) dX8_bits_13 (by decide) (rfl : 13 + 1 = 14)) dX8_bits_14 (rfl : 14 + 1 = 15)) dX8_bits_15 (rfl : 15 + 1 = 16)) dX8_bits_16 rfl (by decide) (rfl : 16 + 1 = 17))) dX8_bits_17 (rfl : ((17 : Nat) : Int) + (-13) = ((4 : Nat) : Int)))))) (v_ret (v_iload_n (i := 1) dX8_bits_20 rfl (rfl : 20 + 1 = 21)) dX8_bits_21)))
theorem IX8_bits : Mi yX8_bits cX8_bits 3 (rmk 0 0) DX8_bits := mk_i (by decide +kernel) BX8_bits

theorem dX8_remember_0 : decode cX8_remember 0 = .ok (.aload_n 0, 1) := by decide +kernel
theorem dX8_remember_1 : decode cX8_remember 1 = .ok (.getfield 91, 3) := by decide +kernel
theorem dX8_remember_4 : decode cX8_remember 4 = .ok (.bipush 10, 2) := by decide +kernel
theorem dX8_remember_6 : decode cX8_remember 6 = .ok (.if_icmp .ne 72, 3) := by decide +kernel
theorem dX8_remember_9 : decode cX8_remember 9 = .ok (.iconst 0, 1) := by decide +kernel
theorem dX8_remember_10 : decode cX8_remember 10 = .ok (.istore_n 2, 1) := by decide +kernel
theorem dX8_remember_11 : decode cX8_remember 11 = .ok (.iload_n 2, 1) := by decide +kernel
theorem dX8_remember_12 : decode cX8_remember 12 = .ok (.sipush 2979, 3) := by decide +kernel
theorem dX8_remember_15 : decode cX8_remember 15 = .ok (.if_icmp .ge 25, 3) := by decide +kernel
theorem dX8_remember_18 : decode cX8_remember 18 = .ok (.aload_n 0, 1) := by decide +kernel
theorem dX8_remember_19 : decode cX8_remember 19 = .ok (.getfield 16, 3) := by decide +kernel
theorem dX8_remember_22 : decode cX8_remember 22 = .ok (.iload_n 2, 1) := by decide +kernel
theorem dX8_remember_23 : decode cX8_remember 23 = .ok (.aload_n 0, 1) := by decide +kernel
theorem dX8_remember_24 : decode cX8_remember 24 = .ok (.getfield 16, 3) := by decide +kernel
theorem dX8_remember_27 : decode cX8_remember 27 = .ok (.iload_n 2, 1) := by decide +kernel
theorem dX8_remember_28 : decode cX8_remember 28 = .ok (.sipush 331, 3) := by decide +kernel
theorem dX8_remember_31 : decode cX8_remember 31 = .ok (.iadd, 1) := by decide +kernel
theorem dX8_remember_32 : decode cX8_remember 32 = .ok (.iaload, 1) := by decide +kernel
theorem dX8_remember_33 : decode cX8_remember 33 = .ok (.iastore, 1) := by decide +kernel
theorem dX8_remember_34 : decode cX8_remember 34 = .ok (.iinc 2 1, 3) := by decide +kernel
theorem dX8_remember_37 : decode cX8_remember 37 = .ok (.goto (-26), 3) := by decide +kernel
theorem dX8_remember_40 : decode cX8_remember 40 = .ok (.iconst 0, 1) := by decide +kernel
theorem dX8_remember_41 : decode cX8_remember 41 = .ok (.istore_n 2, 1) := by decide +kernel
theorem dX8_remember_42 : decode cX8_remember 42 = .ok (.iload_n 2, 1) := by decide +kernel
theorem dX8_remember_43 : decode cX8_remember 43 = .ok (.bipush 9, 2) := by decide +kernel
theorem dX8_remember_45 : decode cX8_remember 45 = .ok (.if_icmp .ge 23, 3) := by decide +kernel
theorem dX8_remember_48 : decode cX8_remember 48 = .ok (.aload_n 0, 1) := by decide +kernel
theorem dX8_remember_49 : decode cX8_remember 49 = .ok (.getfield 19, 3) := by decide +kernel
theorem dX8_remember_52 : decode cX8_remember 52 = .ok (.iload_n 2, 1) := by decide +kernel
theorem dX8_remember_53 : decode cX8_remember 53 = .ok (.aload_n 0, 1) := by decide +kernel
theorem dX8_remember_54 : decode cX8_remember 54 = .ok (.getfield 19, 3) := by decide +kernel
theorem dX8_remember_57 : decode cX8_remember 57 = .ok (.iload_n 2, 1) := by decide +kernel
theorem dX8_remember_58 : decode cX8_remember 58 = .ok (.iconst 1, 1) := by decide +kernel
theorem dX8_remember_59 : decode cX8_remember 59 = .ok (.iadd, 1) := by decide +kernel
theorem dX8_remember_60 : decode cX8_remember 60 = .ok (.iaload, 1) := by decide +kernel
theorem dX8_remember_61 : decode cX8_remember 61 = .ok (.iastore, 1) := by decide +kernel
theorem dX8_remember_62 : decode cX8_remember 62 = .ok (.iinc 2 1, 3) := by decide +kernel
theorem dX8_remember_65 : decode cX8_remember 65 = .ok (.goto (-23), 3) := by decide +kernel
theorem dX8_remember_68 : decode cX8_remember 68 = .ok (.aload_n 0, 1) := by decide +kernel
theorem dX8_remember_69 : decode cX8_remember 69 = .ok (.dup, 1) := by decide +kernel
theorem dX8_remember_70 : decode cX8_remember 70 = .ok (.getfield 91, 3) := by decide +kernel
theorem dX8_remember_73 : decode cX8_remember 73 = .ok (.iconst 1, 1) := by decide +kernel
theorem dX8_remember_74 : decode cX8_remember 74 = .ok (.isub, 1) := by decide +kernel
theorem dX8_remember_75 : decode cX8_remember 75 = .ok (.putfield 91, 3) := by decide +kernel
theorem dX8_remember_78 : decode cX8_remember 78 = .ok (.aload_n 0, 1) := by decide +kernel
theorem dX8_remember_79 : decode cX8_remember 79 = .ok (.getfield 13, 3) := by decide +kernel
theorem dX8_remember_82 : decode cX8_remember 82 = .ok (.iconst 0, 1) := by decide +kernel
theorem dX8_remember_83 : decode cX8_remember 83 = .ok (.aload_n 0, 1) := by decide +kernel
theorem dX8_remember_84 : decode cX8_remember 84 = .ok (.getfield 16, 3) := by decide +kernel
theorem dX8_remember_87 : decode cX8_remember 87 = .ok (.sipush 331, 3) := by decide +kernel
theorem dX8_remember_90 : decode cX8_remember 90 = .ok (.aload_n 0, 1) := by decide +kernel
theorem dX8_remember_91 : decode cX8_remember 91 = .ok (.getfield 91, 3) := by decide +kernel
theorem dX8_remember_94 : decode cX8_remember 94 = .ok (.imul, 1) := by decide +kernel
theorem dX8_remember_95 : decode cX8_remember 95 = .ok (.invokestatic 94, 3) := by decide +kernel
theorem dX8_remember_98 : decode cX8_remember 98 = .ok (.aload_n 0, 1) := by decide +kernel
theorem dX8_remember_99 : decode cX8_remember 99 = .ok (.getfield 19, 3) := by decide +kernel
theorem dX8_remember_102 : decode cX8_remember 102 = .ok (.aload_n 0, 1) := by decide +kernel
theorem dX8_remember_103 : decode cX8_remember 103 = .ok (.getfield 91, 3) := by decide +kernel
theorem dX8_remember_106 : decode cX8_remember 106 = .ok (.iload_n 1, 1) := by decide +kernel
theorem dX8_remember_107 : decode cX8_remember 107 = .ok (.iastore, 1) := by decide +kernel
theorem dX8_remember_108 : decode cX8_remember 108 = .ok (.aload_n 0, 1) := by decide +kernel
theorem dX8_remember_109 : decode cX8_remember 109 = .ok (.dup, 1) := by decide +kernel
theorem dX8_remember_110 : decode cX8_remember 110 = .ok (.getfield 91, 3) := by decide +kernel
theorem dX8_remember_113 : decode cX8_remember 113 = .ok (.iconst 1, 1) := by decide +kernel
theorem dX8_remember_114 : decode cX8_remember 114 = .ok (.iadd, 1) := by decide +kernel
theorem dX8_remember_115 : decode cX8_remember 115 = .ok (.putfield 91, 3) := by decide +kernel
theorem dX8_remember_118 : decode cX8_remember 118 = .ok (.return_, 1) := by decide +kernel
noncomputable def qX8_remember_1 : Bx := (bc clt (il 2) (ik 2979))
noncomputable def wX8_remember_1 : Sx := (sseq (aii (fgr 7 4 (rl 0)) (il 2) (iald (fgr 7 4 (rl 0)) (i2 (· + ·) (il 2) (ik 331)))) (sinc 2 1))
noncomputable def qX8_remember_2 : Bx := (bc clt (il 2) (ik 9))
noncomputable def wX8_remember_2 : Sx := (sseq (aii (fgr 7 5 (rl 0)) (il 2) (iald (fgr 7 5 (rl 0)) (i2 (· + ·) (il 2) (ik 1)))) (sinc 2 1))
noncomputable def EX8_remember : Sx := (sseq (sseq (sif (bc ceq (fgi 7 6 (rl 0)) (ik 10)) (sseq (scut 2 (sseq (ssi 2 (ik 0)) (swh qX8_remember_1 wX8_remember_1))) (sseq (scut 2 (sseq (ssi 2 (ik 0)) (swh qX8_remember_2 wX8_remember_2))) (foi (· - ·) 7 6 (rl 0) (ik 1)))) snop) (sseq (scs DX8_copy (ar (fgr 7 3 (rl 0)) (ai (ik 0) (ar (fgr 7 4 (rl 0)) (ai (i2 (· * ·) (ik 331) (fgi 7 6 (rl 0))) anil))))) (sseq (aii (fgr 7 5 (rl 0)) (fgi 7 6 (rl 0)) (il 1)) (foi (· + ·) 7 6 (rl 0) (ik 1))))) sretv)
noncomputable def DX8_remember : Fu := mfv 3 EX8_remember
set_option maxRecDepth 4000 in
theorem BX8_remember : Vs RX8 cX8_remember 3 (rmk 1 24) 0 0 EX8_remember := (v_seq (v_seq (v_if (v_ieq_f (v_gfi kX8 lk1001 (by decide) rfl (v_aload_n (i := 0) dX8_remember_0 rfl (rfl : 0 + 1 = 1)) dX8_remember_1 (rfl : 1 + 3 = 4)) (v_bipush (v := 10) dX8_remember_4 (by decide) (rfl : 4 + 2 = 6)) dX8_remember_6 (rfl : ((6 : Nat) : Int) + 72 = ((78 : Nat) : Int)) (rfl : 6 + 3 = 9)) (v_seq (v_cut (n := 2) (v_seq (v_istore_n (i := 2) (v_iconst (v := 0) dX8_remember_9 (by decide) (rfl : 9 + 1 = 10)) dX8_remember_10 rfl (by decide) (rfl : 10 + 1 = 11)) (v_wh (v_ilt_f (v_iload_n (i := 2) dX8_remember_11 rfl (rfl : 11 + 1 = 12)) (v_sipush (v := 2979) dX8_remember_12 (by decide) (rfl : 12 + 3 = 15)) dX8_remember_15 (rfl : ((15 : Nat) : Int) + 25 = ((40 : Nat) : Int)) (rfl : 15 + 3 = 18)) (vs_goto (v_seq (v_aii (v_gfr kX8 lk999 (by decide) rfl (v_aload_n (i := 0) dX8_remember_18 rfl (rfl : 18 + 1 = 19)) dX8_remember_19 (rfl : 19 + 3 = 22)) (v_iload_n (i := 2) dX8_remember_22 rfl (rfl : 22 + 1 = 23)) (v_iald (v_gfr kX8 lk999 (by decide) rfl (v_aload_n (i := 0) dX8_remember_23 rfl (rfl : 23 + 1 = 24)) dX8_remember_24 (rfl : 24 + 3 = 27)) (v_iadd (v_iload_n (i := 2) dX8_remember_27 rfl (rfl : 27 + 1 = 28)) (v_sipush (v := 331) dX8_remember_28 (by decide) (rfl : 28 + 3 = 31)) dX8_remember_31 (rfl : 31 + 1 = 32)) dX8_remember_32 (rfl : 32 + 1 = 33)) dX8_remember_33 (rfl : 33 + 1 = 34)) (v_iinc (v := 1) dX8_remember_34 (by decide) (by decide) (rfl : 34 + 3 = 37))) dX8_remember_37 (rfl : ((37 : Nat) : Int) + (-26) = ((11 : Nat) : Int)))))) (v_seq (v_cut (n := 2) (v_seq (v_istore_n (i := 2) (v_iconst (v := 0) dX8_remember_40 (by decide) (rfl : 40 + 1 = 41)) dX8_remember_41 rfl (by decide) (rfl : 41 + 1 = 42)) (v_wh (v_ilt_f (v_iload_n (i := 2) dX8_remember_42 rfl (rfl : 42 + 1 = 43)) (v_bipush (v := 9) dX8_remember_43 (by decide) (rfl : 43 + 2 = 45)) dX8_remember_45 (rfl : ((45 : Nat) : Int) + 23 = ((68 : Nat) : Int)) (rfl : 45 + 3 = 48)) (vs_goto (v_seq (v_aii (v_gfr kX8 lk1000 (by decide) rfl (v_aload_n (i := 0) dX8_remember_48 rfl (rfl : 48 + 1 = 49)) dX8_remember_49 (rfl : 49 + 3 = 52)) (v_iload_n (i := 2) dX8_remember_52 rfl (rfl : 52 + 1 = 53)) (v_iald (v_gfr kX8 lk1000 (by decide) rfl (v_aload_n (i := 0) dX8_remember_53 rfl (rfl : 53 + 1 = 54)) dX8_remember_54 (rfl : 54 + 3 = 57)) (v_iadd (v_iload_n (i := 2) dX8_remember_57 rfl (rfl : 57 + 1 = 58)) (v_iconst (v := 1) dX8_remember_58 (by decide) (rfl : 58 + 1 = 59)) dX8_remember_59 (rfl : 59 + 1 = 60)) dX8_remember_60 (rfl : 60 + 1 = 61)) dX8_remember_61 (rfl : 61 + 1 = 62)) (v_iinc (v := 1) dX8_remember_62 (by decide) (by decide) (rfl : 62 + 3 = 65))) dX8_remember_65 (rfl : ((65 : Nat) : Int) + (-23) = ((42 : Nat) : Int)))))) (v_foi_isub kX8 lk1001 (by decide) rfl rfl (by decide +kernel) (v_aload_n (i := 0) dX8_remember_68 rfl (rfl : 68 + 1 = 69)) dX8_remember_69 dX8_remember_70 (rfl : 69 + 1 + 3 = 73) (v_iconst (v := 1) dX8_remember_73 (by decide) (rfl : 73 + 1 = 74)) dX8_remember_74 dX8_remember_75 (rfl : 74 + 1 + 3 = 78)))) v_nop) (v_seq (v_scs IX8_copy hX8_copy lk1109 ⟨by decide, by decide⟩ (v_ar (v_gfr kX8 lk998 (by decide) rfl (v_aload_n (i := 0) dX8_remember_78 rfl (rfl : 78 + 1 = 79)) dX8_remember_79 (rfl : 79 + 3 = 82)) (v_ai (v_iconst (v := 0) dX8_remember_82 (by decide) (rfl : 82 + 1 = 83)) (v_ar (v_gfr kX8 lk999 (by decide) rfl (v_aload_n (i := 0) dX8_remember_83 rfl (rfl : 83 + 1 = 84)) dX8_remember_84 (rfl : 84 + 3 = 87)) (v_ai (v_imul (v_sipush (v := 331) dX8_remember_87 (by decide) (rfl : 87 + 3 = 90)) (v_gfi kX8 lk1001 (by decide) rfl (v_aload_n (i := 0) dX8_remember_90 rfl (rfl : 90 + 1 = 91)) dX8_remember_91 (rfl : 91 + 3 = 94)) dX8_remember_94 (rfl : 94 + 1 = 95)) v_anil)))) dX8_remember_95 (rfl : 95 + 3 = 98)) (v_seq (v_aii (v_gfr kX8 lk1000 (by decide) rfl (v_aload_n (i := 0) dX8_remember_98 rfl (rfl : 98 + 1 = 99)) dX8_remember_99 (rfl : 99 + 3 = 102)) (v_gfi kX8 lk1001 (by decide) rfl (v_aload_n (i := 0) dX8_remember_102 rfl (rfl : 102 + 1 = 103)) dX8_remember_103 (rfl : 103 + 3 = 106)) (v_iload_n (i := 1) dX8_remember_106 rfl (rfl : 106 + 1 = 107)) dX8_remember_107 (rfl : 107 + 1 = 108)) (v_foi_iadd kX8 lk1001 (by decide) rfl rfl (by decide +kernel) (v_aload_n (i := 0) dX8_remember_108 rfl (rfl : 108 + 1 = 109)) dX8_remember_109 dX8_remember_110 (rfl : 109 + 1 + 3 = 113) (v_iconst (v := 1) dX8_remember_113 (by decide) (rfl : 113 + 1 = 114)) dX8_remember_114 dX8_remember_115 (rfl : 114 + 1 + 3 = 118))))) (v_retv dX8_remember_118))
theorem IX8_remember : Mv yX8_remember cX8_remember 3 (rmk 1 24) DX8_remember := mk_v (by decide +kernel) BX8_remember

theorem dX8_chamber_0 : decode cX8_chamber 0 = .ok (.aload_n 0, 1) := by decide +kernel
theorem dX8_chamber_1 : decode cX8_chamber 1 = .ok (.iconst 0, 1) := by decide +kernel
theorem dX8_chamber_2 : decode cX8_chamber 2 = .ok (.putfield 84, 3) := by decide +kernel
theorem dX8_chamber_5 : decode cX8_chamber 5 = .ok (.iload_n 1, 1) := by decide +kernel
theorem dX8_chamber_6 : decode cX8_chamber 6 = .ok (.i2l, 1) := by decide +kernel
theorem dX8_chamber_7 : decode cX8_chamber 7 = .ok (.lconst 0, 1) := by decide +kernel
theorem dX8_chamber_8 : decode cX8_chamber 8 = .ok (.ldc2_w 132, 3) := by decide +kernel
theorem dX8_chamber_11 : decode cX8_chamber 11 = .ok (.invokestatic 105, 3) := by decide +kernel
theorem dX8_chamber_14 : decode cX8_chamber 14 = .ok (.ifCond .eq 15, 3) := by decide +kernel
theorem dX8_chamber_17 : decode cX8_chamber 17 = .ok (.iload_n 2, 1) := by decide +kernel
theorem dX8_chamber_18 : decode cX8_chamber 18 = .ok (.i2l, 1) := by decide +kernel
theorem dX8_chamber_19 : decode cX8_chamber 19 = .ok (.lconst 0, 1) := by decide +kernel
theorem dX8_chamber_20 : decode cX8_chamber 20 = .ok (.ldc2_w 134, 3) := by decide +kernel
theorem dX8_chamber_23 : decode cX8_chamber 23 = .ok (.invokestatic 105, 3) := by decide +kernel
theorem dX8_chamber_26 : decode cX8_chamber 26 = .ok (.ifCond .ne 9, 3) := by decide +kernel
theorem dX8_chamber_29 : decode cX8_chamber 29 = .ok (.aload_n 0, 1) := by decide +kernel
theorem dX8_chamber_30 : decode cX8_chamber 30 = .ok (.iconst (-1), 1) := by decide +kernel
theorem dX8_chamber_31 : decode cX8_chamber 31 = .ok (.invokevirtual 98, 3) := by decide +kernel
theorem dX8_chamber_34 : decode cX8_chamber 34 = .ok (.ireturn, 1) := by decide +kernel
theorem dX8_chamber_35 : decode cX8_chamber 35 = .ok (.aload_n 0, 1) := by decide +kernel
theorem dX8_chamber_36 : decode cX8_chamber 36 = .ok (.getfield 13, 3) := by decide +kernel
theorem dX8_chamber_39 : decode cX8_chamber 39 = .ok (.iconst 0, 1) := by decide +kernel
theorem dX8_chamber_40 : decode cX8_chamber 40 = .ok (.iaload, 1) := by decide +kernel
theorem dX8_chamber_41 : decode cX8_chamber 41 = .ok (.istore_n 3, 1) := by decide +kernel
theorem dX8_chamber_42 : decode cX8_chamber 42 = .ok (.iload_n 3, 1) := by decide +kernel
theorem dX8_chamber_43 : decode cX8_chamber 43 = .ok (.iconst 5, 1) := by decide +kernel
theorem dX8_chamber_44 : decode cX8_chamber 44 = .ok (.if_icmp .ne 10, 3) := by decide +kernel
theorem dX8_chamber_47 : decode cX8_chamber 47 = .ok (.aload_n 0, 1) := by decide +kernel
theorem dX8_chamber_48 : decode cX8_chamber 48 = .ok (.bipush (-5), 2) := by decide +kernel
theorem dX8_chamber_50 : decode cX8_chamber 50 = .ok (.invokevirtual 98, 3) := by decide +kernel
theorem dX8_chamber_53 : decode cX8_chamber 53 = .ok (.ireturn, 1) := by decide +kernel
theorem dX8_chamber_54 : decode cX8_chamber 54 = .ok (.aload_n 0, 1) := by decide +kernel
theorem dX8_chamber_55 : decode cX8_chamber 55 = .ok (.iconst 0, 1) := by decide +kernel
theorem dX8_chamber_56 : decode cX8_chamber 56 = .ok (.invokevirtual 136, 3) := by decide +kernel
theorem dX8_chamber_59 : decode cX8_chamber 59 = .ok (.iload_n 3, 1) := by decide +kernel
theorem dX8_chamber_60 : decode cX8_chamber 60 = .ok (.invokestatic 122, 3) := by decide +kernel
theorem dX8_chamber_63 : decode cX8_chamber 63 = .ok (.istore 4, 2) := by decide +kernel
theorem dX8_chamber_65 : decode cX8_chamber 65 = .ok (.aload_n 0, 1) := by decide +kernel
theorem dX8_chamber_66 : decode cX8_chamber 66 = .ok (.getfield 13, 3) := by decide +kernel
theorem dX8_chamber_69 : decode cX8_chamber 69 = .ok (.iload 4, 2) := by decide +kernel
theorem dX8_chamber_71 : decode cX8_chamber 71 = .ok (.iconst 0, 1) := by decide +kernel
theorem dX8_chamber_72 : decode cX8_chamber 72 = .ok (.iadd, 1) := by decide +kernel
theorem dX8_chamber_73 : decode cX8_chamber 73 = .ok (.iload_n 1, 1) := by decide +kernel
theorem dX8_chamber_74 : decode cX8_chamber 74 = .ok (.iastore, 1) := by decide +kernel
theorem dX8_chamber_75 : decode cX8_chamber 75 = .ok (.aload_n 0, 1) := by decide +kernel
theorem dX8_chamber_76 : decode cX8_chamber 76 = .ok (.getfield 13, 3) := by decide +kernel
theorem dX8_chamber_79 : decode cX8_chamber 79 = .ok (.iload 4, 2) := by decide +kernel
theorem dX8_chamber_81 : decode cX8_chamber 81 = .ok (.iconst 1, 1) := by decide +kernel
theorem dX8_chamber_82 : decode cX8_chamber 82 = .ok (.iadd, 1) := by decide +kernel
theorem dX8_chamber_83 : decode cX8_chamber 83 = .ok (.iload_n 2, 1) := by decide +kernel
theorem dX8_chamber_84 : decode cX8_chamber 84 = .ok (.iastore, 1) := by decide +kernel
theorem dX8_chamber_85 : decode cX8_chamber 85 = .ok (.aload_n 0, 1) := by decide +kernel
theorem dX8_chamber_86 : decode cX8_chamber 86 = .ok (.getfield 13, 3) := by decide +kernel
theorem dX8_chamber_89 : decode cX8_chamber 89 = .ok (.iload 4, 2) := by decide +kernel
theorem dX8_chamber_91 : decode cX8_chamber 91 = .ok (.iconst 2, 1) := by decide +kernel
theorem dX8_chamber_92 : decode cX8_chamber 92 = .ok (.iadd, 1) := by decide +kernel
theorem dX8_chamber_93 : decode cX8_chamber 93 = .ok (.iconst 0, 1) := by decide +kernel
theorem dX8_chamber_94 : decode cX8_chamber 94 = .ok (.iastore, 1) := by decide +kernel
theorem dX8_chamber_95 : decode cX8_chamber 95 = .ok (.aload_n 0, 1) := by decide +kernel
theorem dX8_chamber_96 : decode cX8_chamber 96 = .ok (.getfield 13, 3) := by decide +kernel
theorem dX8_chamber_99 : decode cX8_chamber 99 = .ok (.iload 4, 2) := by decide +kernel
theorem dX8_chamber_101 : decode cX8_chamber 101 = .ok (.iconst 3, 1) := by decide +kernel
theorem dX8_chamber_102 : decode cX8_chamber 102 = .ok (.iadd, 1) := by decide +kernel
theorem dX8_chamber_103 : decode cX8_chamber 103 = .ok (.iconst 0, 1) := by decide +kernel
theorem dX8_chamber_104 : decode cX8_chamber 104 = .ok (.iastore, 1) := by decide +kernel
theorem dX8_chamber_105 : decode cX8_chamber 105 = .ok (.iconst 0, 1) := by decide +kernel
theorem dX8_chamber_106 : decode cX8_chamber 106 = .ok (.istore 5, 2) := by decide +kernel
theorem dX8_chamber_108 : decode cX8_chamber 108 = .ok (.iload 5, 2) := by decide +kernel
theorem dX8_chamber_110 : decode cX8_chamber 110 = .ok (.bipush 40, 2) := by decide +kernel
theorem dX8_chamber_112 : decode cX8_chamber 112 = .ok (.if_icmp .ge 25, 3) := by decide +kernel
theorem dX8_chamber_115 : decode cX8_chamber 115 = .ok (.aload_n 0, 1) := by decide +kernel
theorem dX8_chamber_116 : decode cX8_chamber 116 = .ok (.getfield 13, 3) := by decide +kernel
theorem dX8_chamber_119 : decode cX8_chamber 119 = .ok (.sipush 131, 3) := by decide +kernel
theorem dX8_chamber_122 : decode cX8_chamber 122 = .ok (.iconst 5, 1) := by decide +kernel
theorem dX8_chamber_123 : decode cX8_chamber 123 = .ok (.iload 5, 2) := by decide +kernel
theorem dX8_chamber_125 : decode cX8_chamber 125 = .ok (.imul, 1) := by decide +kernel
theorem dX8_chamber_126 : decode cX8_chamber 126 = .ok (.iadd, 1) := by decide +kernel
theorem dX8_chamber_127 : decode cX8_chamber 127 = .ok (.iload_n 3, 1) := by decide +kernel
theorem dX8_chamber_128 : decode cX8_chamber 128 = .ok (.iadd, 1) := by decide +kernel
theorem dX8_chamber_129 : decode cX8_chamber 129 = .ok (.iconst (-1), 1) := by decide +kernel
theorem dX8_chamber_130 : decode cX8_chamber 130 = .ok (.iastore, 1) := by decide +kernel
theorem dX8_chamber_131 : decode cX8_chamber 131 = .ok (.iinc 5 1, 3) := by decide +kernel
theorem dX8_chamber_134 : decode cX8_chamber 134 = .ok (.goto (-26), 3) := by decide +kernel
theorem dX8_chamber_137 : decode cX8_chamber 137 = .ok (.aload_n 0, 1) := by decide +kernel
theorem dX8_chamber_138 : decode cX8_chamber 138 = .ok (.getfield 13, 3) := by decide +kernel
theorem dX8_chamber_141 : decode cX8_chamber 141 = .ok (.iconst 0, 1) := by decide +kernel
theorem dX8_chamber_142 : decode cX8_chamber 142 = .ok (.dup2, 1) := by decide +kernel
theorem dX8_chamber_143 : decode cX8_chamber 143 = .ok (.iaload, 1) := by decide +kernel
theorem dX8_chamber_144 : decode cX8_chamber 144 = .ok (.iconst 1, 1) := by decide +kernel
theorem dX8_chamber_145 : decode cX8_chamber 145 = .ok (.iadd, 1) := by decide +kernel
theorem dX8_chamber_146 : decode cX8_chamber 146 = .ok (.iastore, 1) := by decide +kernel
theorem dX8_chamber_147 : decode cX8_chamber 147 = .ok (.aload_n 0, 1) := by decide +kernel
theorem dX8_chamber_148 : decode cX8_chamber 148 = .ok (.iload_n 3, 1) := by decide +kernel
theorem dX8_chamber_149 : decode cX8_chamber 149 = .ok (.invokevirtual 102, 3) := by decide +kernel
theorem dX8_chamber_152 : decode cX8_chamber 152 = .ok (.ireturn, 1) := by decide +kernel
noncomputable def qX8_chamber_1 : Bx := (bc clt (il 5) (ik 40))
noncomputable def wX8_chamber_1 : Sx := (sseq (aii (fgr 7 3 (rl 0)) (i2 (· + ·) (i2 (· + ·) (ik 131) (i2 (· * ·) (ik 5) (il 5))) (il 3)) (ik (-1))) (sinc 5 1))
noncomputable def EX8_chamber : Sx := (sseq (fpi 7 0 (rl 0) (ik 0)) (sseq (sif (bor (bnot (bz cne (csz DX8_in (aj (i2l (il 1)) (aj (jk 0) (aj (jk 99) anil)))))) (bnot (bz cne (csz DX8_in (aj (i2l (il 2)) (aj (jk 0) (aj (jk 4999) anil))))))) (sret (cvi 7 DX8_refuse (rl 0) (ai (ik (-1)) anil))) snop) (sseq (ssi 3 (iald (fgr 7 3 (rl 0)) (ik 0))) (sseq (sif (bc ceq (il 3) (ik 5)) (sret (cvi 7 DX8_refuse (rl 0) (ai (ik (-5)) anil))) snop) (sseq (scv 7 DX8_remember (rl 0) (ai (ik 0) anil)) (sseq (ssi 4 (csi DX8_chamberAt (ai (il 3) anil))) (sseq (aii (fgr 7 3 (rl 0)) (i2 (· + ·) (il 4) (ik 0)) (il 1)) (sseq (aii (fgr 7 3 (rl 0)) (i2 (· + ·) (il 4) (ik 1)) (il 2)) (sseq (aii (fgr 7 3 (rl 0)) (i2 (· + ·) (il 4) (ik 2)) (ik 0)) (sseq (aii (fgr 7 3 (rl 0)) (i2 (· + ·) (il 4) (ik 3)) (ik 0)) (sseq (scut 5 (sseq (ssi 5 (ik 0)) (swh qX8_chamber_1 wX8_chamber_1))) (sseq (aoi (· + ·) (fgr 7 3 (rl 0)) (ik 0) (ik 1)) (sret (cvi 7 DX8_tell (rl 0) (ai (il 3) anil)))))))))))))))
noncomputable def DX8_chamber : Fi := mfi 6 EX8_chamber
set_option maxRecDepth 4000 in
theorem BX8_chamber : Vs RX8 cX8_chamber 6 (rmk 2 46) 0 0 EX8_chamber := (v_seq (v_fpi kX8 lk995 (by decide) rfl rfl (by decide +kernel) (v_aload_n (i := 0) dX8_chamber_0 rfl (rfl : 0 + 1 = 1)) (v_iconst (v := 0) dX8_chamber_1 (by decide) (rfl : 1 + 1 = 2)) dX8_chamber_2 (rfl : 2 + 3 = 5)) (v_seq (v_if (v_or (v_not (v_zne_f (v_csz IX8_in hX8_in lk1120 ⟨by decide, by decide⟩ (by decide) (v_aj (v_i2l (v_iload_n (i := 1) dX8_chamber_5 rfl (rfl : 5 + 1 = 6)) dX8_chamber_6 (rfl : 6 + 1 = 7)) (v_aj (v_lconst (v := 0) dX8_chamber_7 (by decide) (rfl : 7 + 1 = 8)) (v_aj (v_ldc2 (v := 99) lk1131 dX8_chamber_8 (rfl : 8 + 3 = 11)) v_anil))) dX8_chamber_11 (rfl : 11 + 3 = 14)) dX8_chamber_14 (rfl : ((14 : Nat) : Int) + 15 = ((29 : Nat) : Int)) (rfl : 14 + 3 = 17))) (v_not (v_zne_t (v_csz IX8_in hX8_in lk1120 ⟨by decide, by decide⟩ (by decide) (v_aj (v_i2l (v_iload_n (i := 2) dX8_chamber_17 rfl (rfl : 17 + 1 = 18)) dX8_chamber_18 (rfl : 18 + 1 = 19)) (v_aj (v_lconst (v := 0) dX8_chamber_19 (by decide) (rfl : 19 + 1 = 20)) (v_aj (v_ldc2 (v := 4999) lk1132 dX8_chamber_20 (rfl : 20 + 3 = 23)) v_anil))) dX8_chamber_23 (rfl : 23 + 3 = 26)) dX8_chamber_26 (rfl : ((26 : Nat) : Int) + 9 = ((35 : Nat) : Int)) (rfl : 26 + 3 = 29)))) (v_ret (v_cvi kX8 IX8_refuse hX8_refuse lk1105 ⟨by decide, by decide⟩ (by decide) (v_aload_n (i := 0) dX8_chamber_29 rfl (rfl : 29 + 1 = 30)) (v_ai (v_iconst (v := (-1)) dX8_chamber_30 (by decide) (rfl : 30 + 1 = 31)) v_anil) dX8_chamber_31 (rfl : 31 + 3 = 34)) dX8_chamber_34) v_nop) (v_seq (v_istore_n (i := 3) (v_iald (v_gfr kX8 lk998 (by decide) rfl (v_aload_n (i := 0) dX8_chamber_35 rfl (rfl : 35 + 1 = 36)) dX8_chamber_36 (rfl : 36 + 3 = 39)) (v_iconst (v := 0) dX8_chamber_39 (by decide) (rfl : 39 + 1 = 40)) dX8_chamber_40 (rfl : 40 + 1 = 41)) dX8_chamber_41 rfl (by decide) (rfl : 41 + 1 = 42)) (v_seq (v_if (v_ieq_f (v_iload_n (i := 3) dX8_chamber_42 rfl (rfl : 42 + 1 = 43)) (v_iconst (v := 5) dX8_chamber_43 (by decide) (rfl : 43 + 1 = 44)) dX8_chamber_44 (rfl : ((44 : Nat) : Int) + 10 = ((54 : Nat) : Int)) (rfl : 44 + 3 = 47)) (v_ret (v_cvi kX8 IX8_refuse hX8_refuse lk1105 ⟨by decide, by decide⟩ (by decide) (v_aload_n (i := 0) dX8_chamber_47 rfl (rfl : 47 + 1 = 48)) (v_ai (v_bipush (v := (-5)) dX8_chamber_48 (by decide) (rfl : 48 + 2 = 50)) v_anil) dX8_chamber_50 (rfl : 50 + 3 = 53)) dX8_chamber_53) v_nop) (v_seq (v_scv kX8 IX8_remember hX8_remember lk1133 ⟨by decide, by decide⟩ (v_aload_n (i := 0) dX8_chamber_54 rfl (rfl : 54 + 1 = 55)) (v_ai (v_iconst (v := 0) dX8_chamber_55 (by decide) (rfl : 55 + 1 = 56)) v_anil) dX8_chamber_56 (rfl : 56 + 3 = 59)) (v_seq (v_istore (i := 4) (v_csi IX8_chamberAt hX8_chamberAt lk1137 ⟨by decide, by decide⟩ (by decide) (v_ai (v_iload_n (i := 3) dX8_chamber_59 rfl (rfl : 59 + 1 = 60)) v_anil) dX8_chamber_60 (rfl : 60 + 3 = 63)) dX8_chamber_63 (by decide) (rfl : 63 + 2 = 65)) (v_seq (v_aii (v_gfr kX8 lk998 (by decide) rfl (v_aload_n (i := 0) dX8_chamber_65 rfl (rfl : 65 + 1 = 66)) dX8_chamber_66 (rfl : 66 + 3 = 69)) (v_iadd (v_iload (i := 4) dX8_chamber_69 (rfl : 69 + 2 = 71)) (v_iconst (v := 0) dX8_chamber_71 (by decide) (rfl : 71 + 1 = 72)) dX8_chamber_72 (rfl : 72 + 1 = 73)) (v_iload_n (i := 1) dX8_chamber_73 rfl (rfl : 73 + 1 = 74)) dX8_chamber_74 (rfl : 74 + 1 = 75)) (v_seq (v_aii (v_gfr kX8 lk998 (by decide) rfl (v_aload_n (i := 0) dX8_chamber_75 rfl (rfl : 75 + 1 = 76)) dX8_chamber_76 (rfl : 76 + 3 = 79)) (v_iadd (v_iload (i := 4) dX8_chamber_79 (rfl : 79 + 2 = 81)) (v_iconst (v := 1) dX8_chamber_81 (by decide) (rfl : 81 + 1 = 82)) dX8_chamber_82 (rfl : 82 + 1 = 83)) (v_iload_n (i := 2) dX8_chamber_83 rfl (rfl : 83 + 1 = 84)) dX8_chamber_84 (rfl : 84 + 1 = 85)) (v_seq (v_aii (v_gfr kX8 lk998 (by decide) rfl (v_aload_n (i := 0) dX8_chamber_85 rfl (rfl : 85 + 1 = 86)) dX8_chamber_86 (rfl : 86 + 3 = 89)) (v_iadd (v_iload (i := 4) dX8_chamber_89 (rfl : 89 + 2 = 91)) (v_iconst (v := 2) dX8_chamber_91 (by decide) (rfl : 91 + 1 = 92)) dX8_chamber_92 (rfl : 92 + 1 = 93)) (v_iconst (v := 0) dX8_chamber_93 (by decide) (rfl : 93 + 1 = 94)) dX8_chamber_94 (rfl : 94 + 1 = 95)) (v_seq (v_aii (v_gfr kX8 lk998 (by decide) rfl (v_aload_n (i := 0) dX8_chamber_95 rfl (rfl : 95 + 1 = 96)) dX8_chamber_96 (rfl : 96 + 3 = 99)) (v_iadd (v_iload (i := 4) dX8_chamber_99 (rfl : 99 + 2 = 101)) (v_iconst (v := 3) dX8_chamber_101 (by decide) (rfl : 101 + 1 = 102)) dX8_chamber_102 (rfl : 102 + 1 = 103)) (v_iconst (v := 0) dX8_chamber_103 (by decide) (rfl : 103 + 1 = 104)) dX8_chamber_104 (rfl : 104 + 1 = 105)) (v_seq (v_cut (n := 5) (v_seq (v_istore (i := 5) (v_iconst (v := 0) dX8_chamber_105 (by decide) (rfl : 105 + 1 = 106)) dX8_chamber_106 (by decide) (rfl : 106 + 2 = 108)) (v_wh (v_ilt_f (v_iload (i := 5) dX8_chamber_108 (rfl : 108 + 2 = 110)) (v_bipush (v := 40) dX8_chamber_110 (by decide) (rfl : 110 + 2 = 112)) dX8_chamber_112 (rfl : ((112 : Nat) : Int) + 25 = ((137 : Nat) : Int)) (rfl : 112 + 3 = 115)) (vs_goto (v_seq (v_aii (v_gfr kX8 lk998 (by decide) rfl (v_aload_n (i := 0) dX8_chamber_115 rfl (rfl : 115 + 1 = 116)) dX8_chamber_116 (rfl : 116 + 3 = 119)) (v_iadd (v_iadd (v_sipush (v := 131) dX8_chamber_119 (by decide) (rfl : 119 + 3 = 122)) (v_imul (v_iconst (v := 5) dX8_chamber_122 (by decide) (rfl : 122 + 1 = 123)) (v_iload (i := 5) dX8_chamber_123 (rfl : 123 + 2 = 125)) dX8_chamber_125 (rfl : 125 + 1 = 126)) dX8_chamber_126 (rfl : 126 + 1 = 127)) (v_iload_n (i := 3) dX8_chamber_127 rfl (rfl : 127 + 1 = 128)) dX8_chamber_128 (rfl : 128 + 1 = 129)) (v_iconst (v := (-1)) dX8_chamber_129 (by decide) (rfl : 129 + 1 = 130)) dX8_chamber_130 (rfl : 130 + 1 = 131)) (v_iinc (v := 1) dX8_chamber_131 (by decide) (by decide) (rfl : 131 + 3 = 134))) dX8_chamber_134 (rfl : ((134 : Nat) : Int) + (-26) = ((108 : Nat) : Int)))))) (v_seq (v_aoi_iadd (v_gfr kX8 lk998 (by decide) rfl (v_aload_n (i := 0) dX8_chamber_137 rfl (rfl : 137 + 1 = 138)) dX8_chamber_138 (rfl : 138 + 3 = 141)) (v_iconst (v := 0) dX8_chamber_141 (by decide) (rfl : 141 + 1 = 142)) dX8_chamber_142 dX8_chamber_143 (rfl : 142 + 1 + 1 = 144) (v_iconst (v := 1) dX8_chamber_144 (by decide) (rfl : 144 + 1 = 145)) dX8_chamber_145 dX8_chamber_146 (rfl : 145 + 1 + 1 = 147)) (v_ret (v_cvi kX8 IX8_tell hX8_tell lk1112 ⟨by decide, by decide⟩ (by decide) (v_aload_n (i := 0) dX8_chamber_147 rfl (rfl : 147 + 1 = 148)) (v_ai (v_iload_n (i := 3) dX8_chamber_148 rfl (rfl : 148 + 1 = 149)) v_anil) dX8_chamber_149 (rfl : 149 + 3 = 152)) dX8_chamber_152)))))))))))))
theorem IX8_chamber : Mi yX8_chamber cX8_chamber 6 (rmk 2 46) DX8_chamber := mk_i (by decide +kernel) BX8_chamber

theorem dX8_netMany_0 : decode cX8_netMany 0 = .ok (.aload_n 0, 1) := by decide +kernel
theorem dX8_netMany_1 : decode cX8_netMany 1 = .ok (.invokevirtual 225, 3) := by decide +kernel
theorem dX8_netMany_4 : decode cX8_netMany 4 = .ok (.iconst 0, 1) := by decide +kernel
theorem dX8_netMany_5 : decode cX8_netMany 5 = .ok (.istore_n 1, 1) := by decide +kernel
theorem dX8_netMany_6 : decode cX8_netMany 6 = .ok (.iconst 0, 1) := by decide +kernel
theorem dX8_netMany_7 : decode cX8_netMany 7 = .ok (.istore_n 2, 1) := by decide +kernel
theorem dX8_netMany_8 : decode cX8_netMany 8 = .ok (.iload_n 2, 1) := by decide +kernel
theorem dX8_netMany_9 : decode cX8_netMany 9 = .ok (.aload_n 0, 1) := by decide +kernel
theorem dX8_netMany_10 : decode cX8_netMany 10 = .ok (.getfield 13, 3) := by decide +kernel
theorem dX8_netMany_13 : decode cX8_netMany 13 = .ok (.iconst 0, 1) := by decide +kernel
theorem dX8_netMany_14 : decode cX8_netMany 14 = .ok (.iaload, 1) := by decide +kernel
theorem dX8_netMany_15 : decode cX8_netMany 15 = .ok (.if_icmp .ge 27, 3) := by decide +kernel
theorem dX8_netMany_18 : decode cX8_netMany 18 = .ok (.iload_n 1, 1) := by decide +kernel
theorem dX8_netMany_19 : decode cX8_netMany 19 = .ok (.aload_n 0, 1) := by decide +kernel
theorem dX8_netMany_20 : decode cX8_netMany 20 = .ok (.getfield 32, 3) := by decide +kernel
theorem dX8_netMany_23 : decode cX8_netMany 23 = .ok (.iload_n 2, 1) := by decide +kernel
theorem dX8_netMany_24 : decode cX8_netMany 24 = .ok (.iaload, 1) := by decide +kernel
theorem dX8_netMany_25 : decode cX8_netMany 25 = .ok (.iload_n 2, 1) := by decide +kernel
theorem dX8_netMany_26 : decode cX8_netMany 26 = .ok (.if_icmp .ne 7, 3) := by decide +kernel
theorem dX8_netMany_29 : decode cX8_netMany 29 = .ok (.iconst 1, 1) := by decide +kernel
theorem dX8_netMany_30 : decode cX8_netMany 30 = .ok (.goto 4, 3) := by decide +kernel
theorem dX8_netMany_33 : decode cX8_netMany 33 = .ok (.iconst 0, 1) := by decide +kernel
theorem dX8_netMany_34 : decode cX8_netMany 34 = .ok (.iadd, 1) := by decide +kernel
theorem dX8_netMany_35 : decode cX8_netMany 35 = .ok (.istore_n 1, 1) := by decide +kernel
theorem dX8_netMany_36 : decode cX8_netMany 36 = .ok (.iinc 2 1, 3) := by decide +kernel
theorem dX8_netMany_39 : decode cX8_netMany 39 = .ok (.goto (-31), 3) := by decide +kernel
theorem dX8_netMany_42 : decode cX8_netMany 42 = .ok (.iload_n 1, 1) := by decide +kernel
theorem dX8_netMany_43 : decode cX8_netMany 43 = .ok (.ireturn, 1) := by decide +kernel
noncomputable def qX8_netMany_1 : Bx := (bc clt (il 2) (iald (fgr 7 3 (rl 0)) (ik 0)))
noncomputable def wX8_netMany_1 : Sx := (sseq (ssi 1 (i2 (· + ·) (il 1) (ic (bc ceq (iald (fgr 7 10 (rl 0)) (il 2)) (il 2)) (ik 1) (ik 0)))) (sinc 2 1))
noncomputable def EX8_netMany : Sx := (sseq (scv 7 DX8_layNets (rl 0) anil) (sseq (ssi 1 (ik 0)) (sseq (scut 2 (sseq (ssi 2 (ik 0)) (swh qX8_netMany_1 wX8_netMany_1))) (sret (il 1)))))
noncomputable def DX8_netMany : Fi := mfi 3 EX8_netMany
set_option maxRecDepth 4000 in
theorem BX8_netMany : Vs RX8 cX8_netMany 3 (rmk 3 66) 0 0 EX8_netMany := (v_seq (v_scv kX8 IX8_layNets hX8_layNets lk1253 ⟨by decide, by decide⟩ (v_aload_n (i := 0) dX8_netMany_0 rfl (rfl : 0 + 1 = 1)) v_anil dX8_netMany_1 (rfl : 1 + 3 = 4)) (v_seq (v_istore_n (i := 1) (v_iconst (v := 0) dX8_netMany_4 (by decide) (rfl : 4 + 1 = 5)) dX8_netMany_5 rfl (by decide) (rfl : 5 + 1 = 6)) (v_seq (v_cut (n := 2) (v_seq (v_istore_n (i := 2) (v_iconst (v := 0) dX8_netMany_6 (by decide) (rfl : 6 + 1 = 7)) dX8_netMany_7 rfl (by decide) (rfl : 7 + 1 = 8)) (v_wh (v_ilt_f (v_iload_n (i := 2) dX8_netMany_8 rfl (rfl : 8 + 1 = 9)) (v_iald (v_gfr kX8 lk998 (by decide) rfl (v_aload_n (i := 0) dX8_netMany_9 rfl (rfl : 9 + 1 = 10)) dX8_netMany_10 (rfl : 10 + 3 = 13)) (v_iconst (v := 0) dX8_netMany_13 (by decide) (rfl : 13 + 1 = 14)) dX8_netMany_14 (rfl : 14 + 1 = 15)) dX8_netMany_15 (rfl : ((15 : Nat) : Int) + 27 = ((42 : Nat) : Int)) (rfl : 15 + 3 = 18)) (vs_goto (v_seq (v_istore_n (i := 1) (v_iadd (v_iload_n (i := 1) dX8_netMany_18 rfl (rfl : 18 + 1 = 19)) (v_ic (v_ieq_f (v_iald (v_gfr kX8 lk1005 (by decide) rfl (v_aload_n (i := 0) dX8_netMany_19 rfl (rfl : 19 + 1 = 20)) dX8_netMany_20 (rfl : 20 + 3 = 23)) (v_iload_n (i := 2) dX8_netMany_23 rfl (rfl : 23 + 1 = 24)) dX8_netMany_24 (rfl : 24 + 1 = 25)) (v_iload_n (i := 2) dX8_netMany_25 rfl (rfl : 25 + 1 = 26)) dX8_netMany_26 (rfl : ((26 : Nat) : Int) + 7 = ((33 : Nat) : Int)) (rfl : 26 + 3 = 29)) (vi_goto (v_iconst (v := 1) dX8_netMany_29 (by decide) (rfl : 29 + 1 = 30)) dX8_netMany_30 (rfl : ((30 : Nat) : Int) + 4 = ((34 : Nat) : Int))) (v_iconst (v := 0) dX8_netMany_33 (by decide) (rfl : 33 + 1 = 34))) dX8_netMany_34 (rfl : 34 + 1 = 35)) dX8_netMany_35 rfl (by decide) (rfl : 35 + 1 = 36)) (v_iinc (v := 1) dX8_netMany_36 (by decide) (by decide) (rfl : 36 + 3 = 39))) dX8_netMany_39 (rfl : ((39 : Nat) : Int) + (-31) = ((8 : Nat) : Int)))))) (v_ret (v_iload_n (i := 1) dX8_netMany_42 rfl (rfl : 42 + 1 = 43)) dX8_netMany_43))))
theorem IX8_netMany : Mi yX8_netMany cX8_netMany 3 (rmk 3 66) DX8_netMany := mk_i (by decide +kernel) BX8_netMany

theorem dX8_notedOnes_0 : decode cX8_notedOnes 0 = .ok (.iconst 0, 1) := by decide +kernel
theorem dX8_notedOnes_1 : decode cX8_notedOnes 1 = .ok (.istore_n 1, 1) := by decide +kernel
theorem dX8_notedOnes_2 : decode cX8_notedOnes 2 = .ok (.iconst 0, 1) := by decide +kernel
theorem dX8_notedOnes_3 : decode cX8_notedOnes 3 = .ok (.istore_n 2, 1) := by decide +kernel
theorem dX8_notedOnes_4 : decode cX8_notedOnes 4 = .ok (.iload_n 2, 1) := by decide +kernel
theorem dX8_notedOnes_5 : decode cX8_notedOnes 5 = .ok (.aload_n 0, 1) := by decide +kernel
theorem dX8_notedOnes_6 : decode cX8_notedOnes 6 = .ok (.getfield 13, 3) := by decide +kernel
theorem dX8_notedOnes_9 : decode cX8_notedOnes 9 = .ok (.iconst 0, 1) := by decide +kernel
theorem dX8_notedOnes_10 : decode cX8_notedOnes 10 = .ok (.iaload, 1) := by decide +kernel
theorem dX8_notedOnes_11 : decode cX8_notedOnes 11 = .ok (.if_icmp .ge 31, 3) := by decide +kernel
theorem dX8_notedOnes_14 : decode cX8_notedOnes 14 = .ok (.iload_n 1, 1) := by decide +kernel
theorem dX8_notedOnes_15 : decode cX8_notedOnes 15 = .ok (.aload_n 0, 1) := by decide +kernel
theorem dX8_notedOnes_16 : decode cX8_notedOnes 16 = .ok (.getfield 13, 3) := by decide +kernel
theorem dX8_notedOnes_19 : decode cX8_notedOnes 19 = .ok (.iload_n 2, 1) := by decide +kernel
theorem dX8_notedOnes_20 : decode cX8_notedOnes 20 = .ok (.invokestatic 122, 3) := by decide +kernel
theorem dX8_notedOnes_23 : decode cX8_notedOnes 23 = .ok (.iconst 3, 1) := by decide +kernel
theorem dX8_notedOnes_24 : decode cX8_notedOnes 24 = .ok (.iadd, 1) := by decide +kernel
theorem dX8_notedOnes_25 : decode cX8_notedOnes 25 = .ok (.iaload, 1) := by decide +kernel
theorem dX8_notedOnes_26 : decode cX8_notedOnes 26 = .ok (.ifCond .le 7, 3) := by decide +kernel
theorem dX8_notedOnes_29 : decode cX8_notedOnes 29 = .ok (.iconst 1, 1) := by decide +kernel
theorem dX8_notedOnes_30 : decode cX8_notedOnes 30 = .ok (.goto 4, 3) := by decide +kernel
theorem dX8_notedOnes_33 : decode cX8_notedOnes 33 = .ok (.iconst 0, 1) := by decide +kernel
theorem dX8_notedOnes_34 : decode cX8_notedOnes 34 = .ok (.iadd, 1) := by decide +kernel
theorem dX8_notedOnes_35 : decode cX8_notedOnes 35 = .ok (.istore_n 1, 1) := by decide +kernel
theorem dX8_notedOnes_36 : decode cX8_notedOnes 36 = .ok (.iinc 2 1, 3) := by decide +kernel
theorem dX8_notedOnes_39 : decode cX8_notedOnes 39 = .ok (.goto (-35), 3) := by decide +kernel
theorem dX8_notedOnes_42 : decode cX8_notedOnes 42 = .ok (.iload_n 1, 1) := by decide +kernel
theorem dX8_notedOnes_43 : decode cX8_notedOnes 43 = .ok (.ireturn, 1) := by decide +kernel
noncomputable def qX8_notedOnes_1 : Bx := (bc clt (il 2) (iald (fgr 7 3 (rl 0)) (ik 0)))
noncomputable def wX8_notedOnes_1 : Sx := (sseq (ssi 1 (i2 (· + ·) (il 1) (ic (bz cgt (iald (fgr 7 3 (rl 0)) (i2 (· + ·) (csi DX8_chamberAt (ai (il 2) anil)) (ik 3)))) (ik 1) (ik 0)))) (sinc 2 1))
noncomputable def EX8_notedOnes : Sx := (sseq (ssi 1 (ik 0)) (sseq (scut 2 (sseq (ssi 2 (ik 0)) (swh qX8_notedOnes_1 wX8_notedOnes_1))) (sret (il 1))))
noncomputable def DX8_notedOnes : Fi := mfi 3 EX8_notedOnes
set_option maxRecDepth 4000 in
theorem BX8_notedOnes : Vs RX8 cX8_notedOnes 3 (rmk 1 20) 0 0 EX8_notedOnes := (v_seq (v_istore_n (i := 1) (v_iconst (v := 0) dX8_notedOnes_0 (by decide) (rfl : 0 + 1 = 1)) dX8_notedOnes_1 rfl (by decide) (rfl : 1 + 1 = 2)) (v_seq (v_cut (n := 2) (v_seq (v_istore_n (i := 2) (v_iconst (v := 0) dX8_notedOnes_2 (by decide) (rfl : 2 + 1 = 3)) dX8_notedOnes_3 rfl (by decide) (rfl : 3 + 1 = 4)) (v_wh (v_ilt_f (v_iload_n (i := 2) dX8_notedOnes_4 rfl (rfl : 4 + 1 = 5)) (v_iald (v_gfr kX8 lk998 (by decide) rfl (v_aload_n (i := 0) dX8_notedOnes_5 rfl (rfl : 5 + 1 = 6)) dX8_notedOnes_6 (rfl : 6 + 3 = 9)) (v_iconst (v := 0) dX8_notedOnes_9 (by decide) (rfl : 9 + 1 = 10)) dX8_notedOnes_10 (rfl : 10 + 1 = 11)) dX8_notedOnes_11 (rfl : ((11 : Nat) : Int) + 31 = ((42 : Nat) : Int)) (rfl : 11 + 3 = 14)) (vs_goto (v_seq (v_istore_n (i := 1) (v_iadd (v_iload_n (i := 1) dX8_notedOnes_14 rfl (rfl : 14 + 1 = 15)) (v_ic (v_zgt_f (v_iald (v_gfr kX8 lk998 (by decide) rfl (v_aload_n (i := 0) dX8_notedOnes_15 rfl (rfl : 15 + 1 = 16)) dX8_notedOnes_16 (rfl : 16 + 3 = 19)) (v_iadd (v_csi IX8_chamberAt hX8_chamberAt lk1137 ⟨by decide, by decide⟩ (by decide) (v_ai (v_iload_n (i := 2) dX8_notedOnes_19 rfl (rfl : 19 + 1 = 20)) v_anil) dX8_notedOnes_20 (rfl : 20 + 3 = 23)) (v_iconst (v := 3) dX8_notedOnes_23 (by decide) (rfl : 23 + 1 = 24)) dX8_notedOnes_24 (rfl : 24 + 1 = 25)) dX8_notedOnes_25 (rfl : 25 + 1 = 26)) dX8_notedOnes_26 (rfl : ((26 : Nat) : Int) + 7 = ((33 : Nat) : Int)) (rfl : 26 + 3 = 29)) (vi_goto (v_iconst (v := 1) dX8_notedOnes_29 (by decide) (rfl : 29 + 1 = 30)) dX8_notedOnes_30 (rfl : ((30 : Nat) : Int) + 4 = ((34 : Nat) : Int))) (v_iconst (v := 0) dX8_notedOnes_33 (by decide) (rfl : 33 + 1 = 34))) dX8_notedOnes_34 (rfl : 34 + 1 = 35)) dX8_notedOnes_35 rfl (by decide) (rfl : 35 + 1 = 36)) (v_iinc (v := 1) dX8_notedOnes_36 (by decide) (by decide) (rfl : 36 + 3 = 39))) dX8_notedOnes_39 (rfl : ((39 : Nat) : Int) + (-35) = ((4 : Nat) : Int)))))) (v_ret (v_iload_n (i := 1) dX8_notedOnes_42 rfl (rfl : 42 + 1 = 43)) dX8_notedOnes_43)))
theorem IX8_notedOnes : Mi yX8_notedOnes cX8_notedOnes 3 (rmk 1 20) DX8_notedOnes := mk_i (by decide +kernel) BX8_notedOnes

theorem dX8_count_0 : decode cX8_count 0 = .ok (.aload_n 0, 1) := by decide +kernel
theorem dX8_count_1 : decode cX8_count 1 = .ok (.iconst 0, 1) := by decide +kernel
theorem dX8_count_2 : decode cX8_count 2 = .ok (.putfield 84, 3) := by decide +kernel
theorem dX8_count_5 : decode cX8_count 5 = .ok (.iload_n 1, 1) := by decide +kernel
theorem dX8_count_6 : decode cX8_count 6 = .ok (.tableswitch 157 4 16 #[66, 73, 80, 88, 93, 101, 106, 111, 124, 129, 136, 143, 150], 66) := by decide +kernel
theorem dX8_count_72 : decode cX8_count 72 = .ok (.aload_n 0, 1) := by decide +kernel
theorem dX8_count_73 : decode cX8_count 73 = .ok (.getfield 13, 3) := by decide +kernel
theorem dX8_count_76 : decode cX8_count 76 = .ok (.iconst 4, 1) := by decide +kernel
theorem dX8_count_77 : decode cX8_count 77 = .ok (.iaload, 1) := by decide +kernel
theorem dX8_count_78 : decode cX8_count 78 = .ok (.ireturn, 1) := by decide +kernel
theorem dX8_count_79 : decode cX8_count 79 = .ok (.aload_n 0, 1) := by decide +kernel
theorem dX8_count_80 : decode cX8_count 80 = .ok (.getfield 13, 3) := by decide +kernel
theorem dX8_count_83 : decode cX8_count 83 = .ok (.iconst 5, 1) := by decide +kernel
theorem dX8_count_84 : decode cX8_count 84 = .ok (.iaload, 1) := by decide +kernel
theorem dX8_count_85 : decode cX8_count 85 = .ok (.ireturn, 1) := by decide +kernel
theorem dX8_count_86 : decode cX8_count 86 = .ok (.aload_n 0, 1) := by decide +kernel
theorem dX8_count_87 : decode cX8_count 87 = .ok (.getfield 13, 3) := by decide +kernel
theorem dX8_count_90 : decode cX8_count 90 = .ok (.bipush 6, 2) := by decide +kernel
theorem dX8_count_92 : decode cX8_count 92 = .ok (.iaload, 1) := by decide +kernel
theorem dX8_count_93 : decode cX8_count 93 = .ok (.ireturn, 1) := by decide +kernel
theorem dX8_count_94 : decode cX8_count 94 = .ok (.aload_n 0, 1) := by decide +kernel
theorem dX8_count_95 : decode cX8_count 95 = .ok (.invokevirtual 320, 3) := by decide +kernel
theorem dX8_count_98 : decode cX8_count 98 = .ok (.ireturn, 1) := by decide +kernel
theorem dX8_count_99 : decode cX8_count 99 = .ok (.aload_n 0, 1) := by decide +kernel
theorem dX8_count_100 : decode cX8_count 100 = .ok (.getfield 13, 3) := by decide +kernel
theorem dX8_count_103 : decode cX8_count 103 = .ok (.bipush 7, 2) := by decide +kernel
theorem dX8_count_105 : decode cX8_count 105 = .ok (.iaload, 1) := by decide +kernel
theorem dX8_count_106 : decode cX8_count 106 = .ok (.ireturn, 1) := by decide +kernel
theorem dX8_count_107 : decode cX8_count 107 = .ok (.aload_n 0, 1) := by decide +kernel
theorem dX8_count_108 : decode cX8_count 108 = .ok (.getfield 91, 3) := by decide +kernel
theorem dX8_count_111 : decode cX8_count 111 = .ok (.ireturn, 1) := by decide +kernel
theorem dX8_count_112 : decode cX8_count 112 = .ok (.aload_n 0, 1) := by decide +kernel
theorem dX8_count_113 : decode cX8_count 113 = .ok (.invokevirtual 375, 3) := by decide +kernel
theorem dX8_count_116 : decode cX8_count 116 = .ok (.ireturn, 1) := by decide +kernel
theorem dX8_count_117 : decode cX8_count 117 = .ok (.aload_n 0, 1) := by decide +kernel
theorem dX8_count_118 : decode cX8_count 118 = .ok (.invokevirtual 254, 3) := by decide +kernel
theorem dX8_count_121 : decode cX8_count 121 = .ok (.ifCond .eq 7, 3) := by decide +kernel
theorem dX8_count_124 : decode cX8_count 124 = .ok (.iconst 0, 1) := by decide +kernel
theorem dX8_count_125 : decode cX8_count 125 = .ok (.goto 4, 3) := by decide +kernel
theorem dX8_count_128 : decode cX8_count 128 = .ok (.iconst 1, 1) := by decide +kernel
theorem dX8_count_129 : decode cX8_count 129 = .ok (.ireturn, 1) := by decide +kernel
theorem dX8_count_130 : decode cX8_count 130 = .ok (.aload_n 0, 1) := by decide +kernel
theorem dX8_count_131 : decode cX8_count 131 = .ok (.invokevirtual 378, 3) := by decide +kernel
theorem dX8_count_134 : decode cX8_count 134 = .ok (.ireturn, 1) := by decide +kernel
theorem dX8_count_135 : decode cX8_count 135 = .ok (.aload_n 0, 1) := by decide +kernel
theorem dX8_count_136 : decode cX8_count 136 = .ok (.getfield 7, 3) := by decide +kernel
theorem dX8_count_139 : decode cX8_count 139 = .ok (.iconst 1, 1) := by decide +kernel
theorem dX8_count_140 : decode cX8_count 140 = .ok (.iaload, 1) := by decide +kernel
theorem dX8_count_141 : decode cX8_count 141 = .ok (.ireturn, 1) := by decide +kernel
theorem dX8_count_142 : decode cX8_count 142 = .ok (.aload_n 0, 1) := by decide +kernel
theorem dX8_count_143 : decode cX8_count 143 = .ok (.getfield 7, 3) := by decide +kernel
theorem dX8_count_146 : decode cX8_count 146 = .ok (.iconst 2, 1) := by decide +kernel
theorem dX8_count_147 : decode cX8_count 147 = .ok (.iaload, 1) := by decide +kernel
theorem dX8_count_148 : decode cX8_count 148 = .ok (.ireturn, 1) := by decide +kernel
theorem dX8_count_149 : decode cX8_count 149 = .ok (.aload_n 0, 1) := by decide +kernel
theorem dX8_count_150 : decode cX8_count 150 = .ok (.getfield 7, 3) := by decide +kernel
theorem dX8_count_153 : decode cX8_count 153 = .ok (.iconst 4, 1) := by decide +kernel
theorem dX8_count_154 : decode cX8_count 154 = .ok (.iaload, 1) := by decide +kernel
theorem dX8_count_155 : decode cX8_count 155 = .ok (.ireturn, 1) := by decide +kernel
theorem dX8_count_156 : decode cX8_count 156 = .ok (.aload_n 0, 1) := by decide +kernel
theorem dX8_count_157 : decode cX8_count 157 = .ok (.getfield 7, 3) := by decide +kernel
theorem dX8_count_160 : decode cX8_count 160 = .ok (.iconst 5, 1) := by decide +kernel
theorem dX8_count_161 : decode cX8_count 161 = .ok (.iaload, 1) := by decide +kernel
theorem dX8_count_162 : decode cX8_count 162 = .ok (.ireturn, 1) := by decide +kernel
theorem dX8_count_163 : decode cX8_count 163 = .ok (.iload_n 1, 1) := by decide +kernel
theorem dX8_count_164 : decode cX8_count 164 = .ok (.i2l, 1) := by decide +kernel
theorem dX8_count_165 : decode cX8_count 165 = .ok (.lconst 0, 1) := by decide +kernel
theorem dX8_count_166 : decode cX8_count 166 = .ok (.ldc2_w 371, 3) := by decide +kernel
theorem dX8_count_169 : decode cX8_count 169 = .ok (.invokestatic 105, 3) := by decide +kernel
theorem dX8_count_172 : decode cX8_count 172 = .ok (.ifCond .eq 12, 3) := by decide +kernel
theorem dX8_count_175 : decode cX8_count 175 = .ok (.aload_n 0, 1) := by decide +kernel
theorem dX8_count_176 : decode cX8_count 176 = .ok (.getfield 13, 3) := by decide +kernel
theorem dX8_count_179 : decode cX8_count 179 = .ok (.iload_n 1, 1) := by decide +kernel
theorem dX8_count_180 : decode cX8_count 180 = .ok (.iaload, 1) := by decide +kernel
theorem dX8_count_181 : decode cX8_count 181 = .ok (.goto 4, 3) := by decide +kernel
theorem dX8_count_184 : decode cX8_count 184 = .ok (.iconst (-1), 1) := by decide +kernel
theorem dX8_count_185 : decode cX8_count 185 = .ok (.ireturn, 1) := by decide +kernel
noncomputable def EX8_count : Sx := (sseq (fpi 7 0 (rl 0) (ik 0)) (ssw (il 1) [(4, (sret (iald (fgr 7 3 (rl 0)) (ik 4)))), (5, (sret (iald (fgr 7 3 (rl 0)) (ik 5)))), (6, (sret (iald (fgr 7 3 (rl 0)) (ik 6)))), (7, (sret (cvi 7 DX8_notedOnes (rl 0) anil))), (8, (sret (iald (fgr 7 3 (rl 0)) (ik 7)))), (9, (sret (fgi 7 6 (rl 0)))), (10, (sret (cvi 7 DX8_netMany (rl 0) anil))), (11, (sret (ic (bz cne (cvz 7 DX8_reckonNow (rl 0) anil)) (ik 0) (ik 1)))), (12, (sret (cvi 7 DX8_agreeing (rl 0) anil))), (13, (sret (iald (fgr 7 2 (rl 0)) (ik 1)))), (14, (sret (iald (fgr 7 2 (rl 0)) (ik 2)))), (15, (sret (iald (fgr 7 2 (rl 0)) (ik 4)))), (16, (sret (iald (fgr 7 2 (rl 0)) (ik 5))))] (sret (ic (bz cne (csz DX8_in (aj (i2l (il 1)) (aj (jk 0) (aj (jk 3) anil))))) (iald (fgr 7 3 (rl 0)) (il 1)) (ik (-1))))))
noncomputable def DX8_count : Fi := mfi 2 EX8_count
set_option maxRecDepth 4000 in
theorem BX8_count : Vs RX8 cX8_count 2 (rmk 6 134) 0 0 EX8_count := (v_seq (v_fpi kX8 lk995 (by decide) rfl rfl (by decide +kernel) (v_aload_n (i := 0) dX8_count_0 rfl (rfl : 0 + 1 = 1)) (v_iconst (v := 0) dX8_count_1 (by decide) (rfl : 1 + 1 = 2)) dX8_count_2 (rfl : 2 + 3 = 5)) (v_sw (v_iload_n (i := 1) dX8_count_5 rfl (rfl : 5 + 1 = 6)) dX8_count_6 (fun j hj => match j, hj with
  | 0, _ => ⟨66, 72, rfl, (rfl : ((6 : Nat) : Int) + 66 = ((72 : Nat) : Int)), (v_ret (v_iald (v_gfr kX8 lk998 (by decide) rfl (v_aload_n (i := 0) dX8_count_72 rfl (rfl : 72 + 1 = 73)) dX8_count_73 (rfl : 73 + 3 = 76)) (v_iconst (v := 4) dX8_count_76 (by decide) (rfl : 76 + 1 = 77)) dX8_count_77 (rfl : 77 + 1 = 78)) dX8_count_78)⟩
  | 1, _ => ⟨73, 79, rfl, (rfl : ((6 : Nat) : Int) + 73 = ((79 : Nat) : Int)), (v_ret (v_iald (v_gfr kX8 lk998 (by decide) rfl (v_aload_n (i := 0) dX8_count_79 rfl (rfl : 79 + 1 = 80)) dX8_count_80 (rfl : 80 + 3 = 83)) (v_iconst (v := 5) dX8_count_83 (by decide) (rfl : 83 + 1 = 84)) dX8_count_84 (rfl : 84 + 1 = 85)) dX8_count_85)⟩
  | 2, _ => ⟨80, 86, rfl, (rfl : ((6 : Nat) : Int) + 80 = ((86 : Nat) : Int)), (v_ret (v_iald (v_gfr kX8 lk998 (by decide) rfl (v_aload_n (i := 0) dX8_count_86 rfl (rfl : 86 + 1 = 87)) dX8_count_87 (rfl : 87 + 3 = 90)) (v_bipush (v := 6) dX8_count_90 (by decide) (rfl : 90 + 2 = 92)) dX8_count_92 (rfl : 92 + 1 = 93)) dX8_count_93)⟩
  | 3, _ => ⟨88, 94, rfl, (rfl : ((6 : Nat) : Int) + 88 = ((94 : Nat) : Int)), (v_ret (v_cvi kX8 IX8_notedOnes hX8_notedOnes lk1405 ⟨by decide, by decide⟩ (by decide) (v_aload_n (i := 0) dX8_count_94 rfl (rfl : 94 + 1 = 95)) v_anil dX8_count_95 (rfl : 95 + 3 = 98)) dX8_count_98)⟩
  | 4, _ => ⟨93, 99, rfl, (rfl : ((6 : Nat) : Int) + 93 = ((99 : Nat) : Int)), (v_ret (v_iald (v_gfr kX8 lk998 (by decide) rfl (v_aload_n (i := 0) dX8_count_99 rfl (rfl : 99 + 1 = 100)) dX8_count_100 (rfl : 100 + 3 = 103)) (v_bipush (v := 7) dX8_count_103 (by decide) (rfl : 103 + 2 = 105)) dX8_count_105 (rfl : 105 + 1 = 106)) dX8_count_106)⟩
  | 5, _ => ⟨101, 107, rfl, (rfl : ((6 : Nat) : Int) + 101 = ((107 : Nat) : Int)), (v_ret (v_gfi kX8 lk1001 (by decide) rfl (v_aload_n (i := 0) dX8_count_107 rfl (rfl : 107 + 1 = 108)) dX8_count_108 (rfl : 108 + 3 = 111)) dX8_count_111)⟩
  | 6, _ => ⟨106, 112, rfl, (rfl : ((6 : Nat) : Int) + 106 = ((112 : Nat) : Int)), (v_ret (v_cvi kX8 IX8_netMany hX8_netMany lk1542 ⟨by decide, by decide⟩ (by decide) (v_aload_n (i := 0) dX8_count_112 rfl (rfl : 112 + 1 = 113)) v_anil dX8_count_113 (rfl : 113 + 3 = 116)) dX8_count_116)⟩
  | 7, _ => ⟨111, 117, rfl, (rfl : ((6 : Nat) : Int) + 111 = ((117 : Nat) : Int)), (v_ret (v_ic (v_zne_f (v_cvz kX8 IX8_reckonNow hX8_reckonNow lk1241 ⟨by decide, by decide⟩ (by decide) (v_aload_n (i := 0) dX8_count_117 rfl (rfl : 117 + 1 = 118)) v_anil dX8_count_118 (rfl : 118 + 3 = 121)) dX8_count_121 (rfl : ((121 : Nat) : Int) + 7 = ((128 : Nat) : Int)) (rfl : 121 + 3 = 124)) (vi_goto (v_iconst (v := 0) dX8_count_124 (by decide) (rfl : 124 + 1 = 125)) dX8_count_125 (rfl : ((125 : Nat) : Int) + 4 = ((129 : Nat) : Int))) (v_iconst (v := 1) dX8_count_128 (by decide) (rfl : 128 + 1 = 129))) dX8_count_129)⟩
  | 8, _ => ⟨124, 130, rfl, (rfl : ((6 : Nat) : Int) + 124 = ((130 : Nat) : Int)), (v_ret (v_cvi kX8 IX8_agreeing hX8_agreeing lk1546 ⟨by decide, by decide⟩ (by decide) (v_aload_n (i := 0) dX8_count_130 rfl (rfl : 130 + 1 = 131)) v_anil dX8_count_131 (rfl : 131 + 3 = 134)) dX8_count_134)⟩
  | 9, _ => ⟨129, 135, rfl, (rfl : ((6 : Nat) : Int) + 129 = ((135 : Nat) : Int)), (v_ret (v_iald (v_gfr kX8 lk997 (by decide) rfl (v_aload_n (i := 0) dX8_count_135 rfl (rfl : 135 + 1 = 136)) dX8_count_136 (rfl : 136 + 3 = 139)) (v_iconst (v := 1) dX8_count_139 (by decide) (rfl : 139 + 1 = 140)) dX8_count_140 (rfl : 140 + 1 = 141)) dX8_count_141)⟩
  | 10, _ => ⟨136, 142, rfl, (rfl : ((6 : Nat) : Int) + 136 = ((142 : Nat) : Int)), (v_ret (v_iald (v_gfr kX8 lk997 (by decide) rfl (v_aload_n (i := 0) dX8_count_142 rfl (rfl : 142 + 1 = 143)) dX8_count_143 (rfl : 143 + 3 = 146)) (v_iconst (v := 2) dX8_count_146 (by decide) (rfl : 146 + 1 = 147)) dX8_count_147 (rfl : 147 + 1 = 148)) dX8_count_148)⟩
  | 11, _ => ⟨143, 149, rfl, (rfl : ((6 : Nat) : Int) + 143 = ((149 : Nat) : Int)), (v_ret (v_iald (v_gfr kX8 lk997 (by decide) rfl (v_aload_n (i := 0) dX8_count_149 rfl (rfl : 149 + 1 = 150)) dX8_count_150 (rfl : 150 + 3 = 153)) (v_iconst (v := 4) dX8_count_153 (by decide) (rfl : 153 + 1 = 154)) dX8_count_154 (rfl : 154 + 1 = 155)) dX8_count_155)⟩
  | 12, _ => ⟨150, 156, rfl, (rfl : ((6 : Nat) : Int) + 150 = ((156 : Nat) : Int)), (v_ret (v_iald (v_gfr kX8 lk997 (by decide) rfl (v_aload_n (i := 0) dX8_count_156 rfl (rfl : 156 + 1 = 157)) dX8_count_157 (rfl : 157 + 3 = 160)) (v_iconst (v := 5) dX8_count_160 (by decide) (rfl : 160 + 1 = 161)) dX8_count_161 (rfl : 161 + 1 = 162)) dX8_count_162)⟩
  | j + 13, hj => absurd hj (by omega)) ⟨163, (rfl : ((6 : Nat) : Int) + 157 = ((163 : Nat) : Int)), fun x hx => by
    have e0 : sel [(4, (sret (iald (fgr 7 3 (rl 0)) (ik 4)))), (5, (sret (iald (fgr 7 3 (rl 0)) (ik 5)))), (6, (sret (iald (fgr 7 3 (rl 0)) (ik 6)))), (7, (sret (cvi 7 DX8_notedOnes (rl 0) anil))), (8, (sret (iald (fgr 7 3 (rl 0)) (ik 7)))), (9, (sret (fgi 7 6 (rl 0)))), (10, (sret (cvi 7 DX8_netMany (rl 0) anil))), (11, (sret (ic (bz cne (cvz 7 DX8_reckonNow (rl 0) anil)) (ik 0) (ik 1)))), (12, (sret (cvi 7 DX8_agreeing (rl 0) anil))), (13, (sret (iald (fgr 7 2 (rl 0)) (ik 1)))), (14, (sret (iald (fgr 7 2 (rl 0)) (ik 2)))), (15, (sret (iald (fgr 7 2 (rl 0)) (ik 4)))), (16, (sret (iald (fgr 7 2 (rl 0)) (ik 5))))] (sret (ic (bz cne (csz DX8_in (aj (i2l (il 1)) (aj (jk 0) (aj (jk 3) anil))))) (iald (fgr 7 3 (rl 0)) (il 1)) (ik (-1)))) x = (sret (ic (bz cne (csz DX8_in (aj (i2l (il 1)) (aj (jk 0) (aj (jk 3) anil))))) (iald (fgr 7 3 (rl 0)) (il 1)) (ik (-1)))) := by simp only [sel]; rw [if_neg (by omega)]; rw [if_neg (by omega)]; rw [if_neg (by omega)]; rw [if_neg (by omega)]; rw [if_neg (by omega)]; rw [if_neg (by omega)]; rw [if_neg (by omega)]; rw [if_neg (by omega)]; rw [if_neg (by omega)]; rw [if_neg (by omega)]; rw [if_neg (by omega)]; rw [if_neg (by omega)]; rw [if_neg (by omega)]
    rw [e0]; exact (v_ret (v_ic (v_zne_f (v_csz IX8_in hX8_in lk1120 ⟨by decide, by decide⟩ (by decide) (v_aj (v_i2l (v_iload_n (i := 1) dX8_count_163 rfl (rfl : 163 + 1 = 164)) dX8_count_164 (rfl : 164 + 1 = 165)) (v_aj (v_lconst (v := 0) dX8_count_165 (by decide) (rfl : 165 + 1 = 166)) (v_aj (v_ldc2 (v := 3) lk1528 dX8_count_166 (rfl : 166 + 3 = 169)) v_anil))) dX8_count_169 (rfl : 169 + 3 = 172)) dX8_count_172 (rfl : ((172 : Nat) : Int) + 12 = ((184 : Nat) : Int)) (rfl : 172 + 3 = 175)) (vi_goto (v_iald (v_gfr kX8 lk998 (by decide) rfl (v_aload_n (i := 0) dX8_count_175 rfl (rfl : 175 + 1 = 176)) dX8_count_176 (rfl : 176 + 3 = 179)) (v_iload_n (i := 1) dX8_count_179 rfl (rfl : 179 + 1 = 180)) dX8_count_180 (rfl : 180 + 1 = 181)) dX8_count_181 (rfl : ((181 : Nat) : Int) + 4 = ((185 : Nat) : Int))) (v_iconst (v := (-1)) dX8_count_184 (by decide) (rfl : 184 + 1 = 185))) dX8_count_185)⟩))
theorem IX8_count : Mi yX8_count cX8_count 2 (rmk 6 134) DX8_count := mk_i (by decide +kernel) BX8_count

theorem dX8_greatestSpeed_0 : decode cX8_greatestSpeed 0 = .ok (.iconst 0, 1) := by decide +kernel
theorem dX8_greatestSpeed_1 : decode cX8_greatestSpeed 1 = .ok (.istore_n 2, 1) := by decide +kernel
theorem dX8_greatestSpeed_2 : decode cX8_greatestSpeed 2 = .ok (.iconst 0, 1) := by decide +kernel
theorem dX8_greatestSpeed_3 : decode cX8_greatestSpeed 3 = .ok (.istore_n 3, 1) := by decide +kernel
theorem dX8_greatestSpeed_4 : decode cX8_greatestSpeed 4 = .ok (.iload_n 3, 1) := by decide +kernel
theorem dX8_greatestSpeed_5 : decode cX8_greatestSpeed 5 = .ok (.iconst 3, 1) := by decide +kernel
theorem dX8_greatestSpeed_6 : decode cX8_greatestSpeed 6 = .ok (.if_icmp .ge 37, 3) := by decide +kernel
theorem dX8_greatestSpeed_9 : decode cX8_greatestSpeed 9 = .ok (.aload_n 0, 1) := by decide +kernel
theorem dX8_greatestSpeed_10 : decode cX8_greatestSpeed 10 = .ok (.getfield 13, 3) := by decide +kernel
theorem dX8_greatestSpeed_13 : decode cX8_greatestSpeed 13 = .ok (.iload_n 1, 1) := by decide +kernel
theorem dX8_greatestSpeed_14 : decode cX8_greatestSpeed 14 = .ok (.invokestatic 119, 3) := by decide +kernel
theorem dX8_greatestSpeed_17 : decode cX8_greatestSpeed 17 = .ok (.iconst 2, 1) := by decide +kernel
theorem dX8_greatestSpeed_18 : decode cX8_greatestSpeed 18 = .ok (.iadd, 1) := by decide +kernel
theorem dX8_greatestSpeed_19 : decode cX8_greatestSpeed 19 = .ok (.iload_n 3, 1) := by decide +kernel
theorem dX8_greatestSpeed_20 : decode cX8_greatestSpeed 20 = .ok (.iadd, 1) := by decide +kernel
theorem dX8_greatestSpeed_21 : decode cX8_greatestSpeed 21 = .ok (.iaload, 1) := by decide +kernel
theorem dX8_greatestSpeed_22 : decode cX8_greatestSpeed 22 = .ok (.istore 4, 2) := by decide +kernel
theorem dX8_greatestSpeed_24 : decode cX8_greatestSpeed 24 = .ok (.iload 4, 2) := by decide +kernel
theorem dX8_greatestSpeed_26 : decode cX8_greatestSpeed 26 = .ok (.iload_n 2, 1) := by decide +kernel
theorem dX8_greatestSpeed_27 : decode cX8_greatestSpeed 27 = .ok (.if_icmp .le 8, 3) := by decide +kernel
theorem dX8_greatestSpeed_30 : decode cX8_greatestSpeed 30 = .ok (.iload 4, 2) := by decide +kernel
theorem dX8_greatestSpeed_32 : decode cX8_greatestSpeed 32 = .ok (.goto 4, 3) := by decide +kernel
theorem dX8_greatestSpeed_35 : decode cX8_greatestSpeed 35 = .ok (.iload_n 2, 1) := by decide +kernel
theorem dX8_greatestSpeed_36 : decode cX8_greatestSpeed 36 = .ok (.istore_n 2, 1) := by decide +kernel
theorem dX8_greatestSpeed_37 : decode cX8_greatestSpeed 37 = .ok (.iinc 3 1, 3) := by decide +kernel
theorem dX8_greatestSpeed_40 : decode cX8_greatestSpeed 40 = .ok (.goto (-36), 3) := by decide +kernel
theorem dX8_greatestSpeed_43 : decode cX8_greatestSpeed 43 = .ok (.iload_n 2, 1) := by decide +kernel
theorem dX8_greatestSpeed_44 : decode cX8_greatestSpeed 44 = .ok (.ireturn, 1) := by decide +kernel
noncomputable def qX8_greatestSpeed_1 : Bx := (bc clt (il 3) (ik 3))
noncomputable def wX8_greatestSpeed_1 : Sx := (sseq (scut 4 (sseq (ssi 4 (iald (fgr 7 3 (rl 0)) (i2 (· + ·) (i2 (· + ·) (csi DX8_pumpAt (ai (il 1) anil)) (ik 2)) (il 3)))) (ssi 2 (ic (bc cgt (il 4) (il 2)) (il 4) (il 2))))) (sinc 3 1))
noncomputable def EX8_greatestSpeed : Sx := (sseq (ssi 2 (ik 0)) (sseq (scut 3 (sseq (ssi 3 (ik 0)) (swh qX8_greatestSpeed_1 wX8_greatestSpeed_1))) (sret (il 2))))
noncomputable def DX8_greatestSpeed : Fi := mfi 5 EX8_greatestSpeed
set_option maxRecDepth 4000 in
theorem BX8_greatestSpeed : Vs RX8 cX8_greatestSpeed 5 (rmk 1 20) 0 0 EX8_greatestSpeed := (v_seq (v_istore_n (i := 2) (v_iconst (v := 0) dX8_greatestSpeed_0 (by decide) (rfl : 0 + 1 = 1)) dX8_greatestSpeed_1 rfl (by decide) (rfl : 1 + 1 = 2)) (v_seq (v_cut (n := 3) (v_seq (v_istore_n (i := 3) (v_iconst (v := 0) dX8_greatestSpeed_2 (by decide) (rfl : 2 + 1 = 3)) dX8_greatestSpeed_3 rfl (by decide) (rfl : 3 + 1 = 4)) (v_wh (v_ilt_f (v_iload_n (i := 3) dX8_greatestSpeed_4 rfl (rfl : 4 + 1 = 5)) (v_iconst (v := 3) dX8_greatestSpeed_5 (by decide) (rfl : 5 + 1 = 6)) dX8_greatestSpeed_6 (rfl : ((6 : Nat) : Int) + 37 = ((43 : Nat) : Int)) (rfl : 6 + 3 = 9)) (vs_goto (v_seq (v_cut (n := 4) (v_seq (v_istore (i := 4) (v_iald (v_gfr kX8 lk998 (by decide) rfl (v_aload_n (i := 0) dX8_greatestSpeed_9 rfl (rfl : 9 + 1 = 10)) dX8_greatestSpeed_10 (rfl : 10 + 3 = 13)) (v_iadd (v_iadd (v_csi IX8_pumpAt hX8_pumpAt lk1163 ⟨by decide, by decide⟩ (by decide) (v_ai (v_iload_n (i := 1) dX8_greatestSpeed_13 rfl (rfl : 13 + 1 = 14)) v_anil) dX8_greatestSpeed_14 (rfl : 14 + 3 = 17)) (v_iconst (v := 2) dX8_greatestSpeed_17 (by decide) (rfl : 17 + 1 = 18)) dX8_greatestSpeed_18 (rfl : 18 + 1 = 19)) (v_iload_n (i := 3) dX8_greatestSpeed_19 rfl (rfl : 19 + 1 = 20)) dX8_greatestSpeed_20 (rfl : 20 + 1 = 21)) dX8_greatestSpeed_21 (rfl : 21 + 1 = 22)) dX8_greatestSpeed_22 (by decide) (rfl : 22 + 2 = 24)) (v_istore_n (i := 2) (v_ic (v_igt_f (v_iload (i := 4) dX8_greatestSpeed_24 (rfl : 24 + 2 = 26)) (v_iload_n (i := 2) dX8_greatestSpeed_26 rfl (rfl : 26 + 1 = 27)) dX8_greatestSpeed_27 (rfl : ((27 : Nat) : Int) + 8 = ((35 : Nat) : Int)) (rfl : 27 + 3 = 30)) (vi_goto (v_iload (i := 4) dX8_greatestSpeed_30 (rfl : 30 + 2 = 32)) dX8_greatestSpeed_32 (rfl : ((32 : Nat) : Int) + 4 = ((36 : Nat) : Int))) (v_iload_n (i := 2) dX8_greatestSpeed_35 rfl (rfl : 35 + 1 = 36))) dX8_greatestSpeed_36 rfl (by decide) (rfl : 36 + 1 = 37)))) (v_iinc (v := 1) dX8_greatestSpeed_37 (by decide) (by decide) (rfl : 37 + 3 = 40))) dX8_greatestSpeed_40 (rfl : ((40 : Nat) : Int) + (-36) = ((4 : Nat) : Int)))))) (v_ret (v_iload_n (i := 2) dX8_greatestSpeed_43 rfl (rfl : 43 + 1 = 44)) dX8_greatestSpeed_44)))
theorem IX8_greatestSpeed : Mi yX8_greatestSpeed cX8_greatestSpeed 5 (rmk 1 20) DX8_greatestSpeed := mk_i (by decide +kernel) BX8_greatestSpeed

theorem dX8_isAt_0 : decode cX8_isAt 0 = .ok (.aload_n 0, 1) := by decide +kernel
theorem dX8_isAt_1 : decode cX8_isAt 1 = .ok (.getfield 13, 3) := by decide +kernel
theorem dX8_isAt_4 : decode cX8_isAt 4 = .ok (.iload_n 1, 1) := by decide +kernel
theorem dX8_isAt_5 : decode cX8_isAt 5 = .ok (.invokestatic 116, 3) := by decide +kernel
theorem dX8_isAt_8 : decode cX8_isAt 8 = .ok (.iaload, 1) := by decide +kernel
theorem dX8_isAt_9 : decode cX8_isAt 9 = .ok (.iload_n 2, 1) := by decide +kernel
theorem dX8_isAt_10 : decode cX8_isAt 10 = .ok (.if_icmp .eq 18, 3) := by decide +kernel
theorem dX8_isAt_13 : decode cX8_isAt 13 = .ok (.aload_n 0, 1) := by decide +kernel
theorem dX8_isAt_14 : decode cX8_isAt 14 = .ok (.getfield 13, 3) := by decide +kernel
theorem dX8_isAt_17 : decode cX8_isAt 17 = .ok (.iload_n 1, 1) := by decide +kernel
theorem dX8_isAt_18 : decode cX8_isAt 18 = .ok (.invokestatic 116, 3) := by decide +kernel
theorem dX8_isAt_21 : decode cX8_isAt 21 = .ok (.iconst 1, 1) := by decide +kernel
theorem dX8_isAt_22 : decode cX8_isAt 22 = .ok (.iadd, 1) := by decide +kernel
theorem dX8_isAt_23 : decode cX8_isAt 23 = .ok (.iaload, 1) := by decide +kernel
theorem dX8_isAt_24 : decode cX8_isAt 24 = .ok (.iload_n 2, 1) := by decide +kernel
theorem dX8_isAt_25 : decode cX8_isAt 25 = .ok (.if_icmp .ne 7, 3) := by decide +kernel
theorem dX8_isAt_28 : decode cX8_isAt 28 = .ok (.iconst 1, 1) := by decide +kernel
theorem dX8_isAt_29 : decode cX8_isAt 29 = .ok (.goto 4, 3) := by decide +kernel
theorem dX8_isAt_32 : decode cX8_isAt 32 = .ok (.iconst 0, 1) := by decide +kernel
theorem dX8_isAt_33 : decode cX8_isAt 33 = .ok (.ireturn, 1) := by decide +kernel
noncomputable def EX8_isAt : Sx := (sret (ic (bor (bc ceq (iald (fgr 7 3 (rl 0)) (csi DX8_tubeAt (ai (il 1) anil))) (il 2)) (bc ceq (iald (fgr 7 3 (rl 0)) (i2 (· + ·) (csi DX8_tubeAt (ai (il 1) anil)) (ik 1))) (il 2))) (ik 1) (ik 0)))
noncomputable def DX8_isAt : Fz := mfz 3 EX8_isAt
set_option maxRecDepth 4000 in
theorem BX8_isAt : Vs RX8 cX8_isAt 3 (rmk 1 20) 0 0 EX8_isAt := (v_ret (v_ic (v_or (v_ieq_t (v_iald (v_gfr kX8 lk998 (by decide) rfl (v_aload_n (i := 0) dX8_isAt_0 rfl (rfl : 0 + 1 = 1)) dX8_isAt_1 (rfl : 1 + 3 = 4)) (v_csi IX8_tubeAt hX8_tubeAt lk1160 ⟨by decide, by decide⟩ (by decide) (v_ai (v_iload_n (i := 1) dX8_isAt_4 rfl (rfl : 4 + 1 = 5)) v_anil) dX8_isAt_5 (rfl : 5 + 3 = 8)) dX8_isAt_8 (rfl : 8 + 1 = 9)) (v_iload_n (i := 2) dX8_isAt_9 rfl (rfl : 9 + 1 = 10)) dX8_isAt_10 (rfl : ((10 : Nat) : Int) + 18 = ((28 : Nat) : Int)) (rfl : 10 + 3 = 13)) (v_ieq_f (v_iald (v_gfr kX8 lk998 (by decide) rfl (v_aload_n (i := 0) dX8_isAt_13 rfl (rfl : 13 + 1 = 14)) dX8_isAt_14 (rfl : 14 + 3 = 17)) (v_iadd (v_csi IX8_tubeAt hX8_tubeAt lk1160 ⟨by decide, by decide⟩ (by decide) (v_ai (v_iload_n (i := 1) dX8_isAt_17 rfl (rfl : 17 + 1 = 18)) v_anil) dX8_isAt_18 (rfl : 18 + 3 = 21)) (v_iconst (v := 1) dX8_isAt_21 (by decide) (rfl : 21 + 1 = 22)) dX8_isAt_22 (rfl : 22 + 1 = 23)) dX8_isAt_23 (rfl : 23 + 1 = 24)) (v_iload_n (i := 2) dX8_isAt_24 rfl (rfl : 24 + 1 = 25)) dX8_isAt_25 (rfl : ((25 : Nat) : Int) + 7 = ((32 : Nat) : Int)) (rfl : 25 + 3 = 28))) (vi_goto (v_iconst (v := 1) dX8_isAt_28 (by decide) (rfl : 28 + 1 = 29)) dX8_isAt_29 (rfl : ((29 : Nat) : Int) + 4 = ((33 : Nat) : Int))) (v_iconst (v := 0) dX8_isAt_32 (by decide) (rfl : 32 + 1 = 33))) dX8_isAt_33)
theorem IX8_isAt : Mz yX8_isAt cX8_isAt 3 (rmk 1 20) DX8_isAt := mk_z (by decide +kernel) BX8_isAt

theorem dX8_weight_0 : decode cX8_weight 0 = .ok (.iconst 0, 1) := by decide +kernel
theorem dX8_weight_1 : decode cX8_weight 1 = .ok (.istore_n 2, 1) := by decide +kernel
theorem dX8_weight_2 : decode cX8_weight 2 = .ok (.iconst 0, 1) := by decide +kernel
theorem dX8_weight_3 : decode cX8_weight 3 = .ok (.istore_n 3, 1) := by decide +kernel
theorem dX8_weight_4 : decode cX8_weight 4 = .ok (.iload_n 3, 1) := by decide +kernel
theorem dX8_weight_5 : decode cX8_weight 5 = .ok (.aload_n 0, 1) := by decide +kernel
theorem dX8_weight_6 : decode cX8_weight 6 = .ok (.getfield 13, 3) := by decide +kernel
theorem dX8_weight_9 : decode cX8_weight 9 = .ok (.iconst 1, 1) := by decide +kernel
theorem dX8_weight_10 : decode cX8_weight 10 = .ok (.iaload, 1) := by decide +kernel
theorem dX8_weight_11 : decode cX8_weight 11 = .ok (.if_icmp .ge 36, 3) := by decide +kernel
theorem dX8_weight_14 : decode cX8_weight 14 = .ok (.iload_n 2, 1) := by decide +kernel
theorem dX8_weight_15 : decode cX8_weight 15 = .ok (.aload_n 0, 1) := by decide +kernel
theorem dX8_weight_16 : decode cX8_weight 16 = .ok (.iload_n 3, 1) := by decide +kernel
theorem dX8_weight_17 : decode cX8_weight 17 = .ok (.iload_n 1, 1) := by decide +kernel
theorem dX8_weight_18 : decode cX8_weight 18 = .ok (.invokevirtual 125, 3) := by decide +kernel
theorem dX8_weight_21 : decode cX8_weight 21 = .ok (.ifCond .eq 17, 3) := by decide +kernel
theorem dX8_weight_24 : decode cX8_weight 24 = .ok (.aload_n 0, 1) := by decide +kernel
theorem dX8_weight_25 : decode cX8_weight 25 = .ok (.getfield 13, 3) := by decide +kernel
theorem dX8_weight_28 : decode cX8_weight 28 = .ok (.iload_n 3, 1) := by decide +kernel
theorem dX8_weight_29 : decode cX8_weight 29 = .ok (.invokestatic 116, 3) := by decide +kernel
theorem dX8_weight_32 : decode cX8_weight 32 = .ok (.iconst 2, 1) := by decide +kernel
theorem dX8_weight_33 : decode cX8_weight 33 = .ok (.iadd, 1) := by decide +kernel
theorem dX8_weight_34 : decode cX8_weight 34 = .ok (.iaload, 1) := by decide +kernel
theorem dX8_weight_35 : decode cX8_weight 35 = .ok (.goto 4, 3) := by decide +kernel
theorem dX8_weight_38 : decode cX8_weight 38 = .ok (.iconst 0, 1) := by decide +kernel
theorem dX8_weight_39 : decode cX8_weight 39 = .ok (.iadd, 1) := by decide +kernel
theorem dX8_weight_40 : decode cX8_weight 40 = .ok (.istore_n 2, 1) := by decide +kernel
theorem dX8_weight_41 : decode cX8_weight 41 = .ok (.iinc 3 1, 3) := by decide +kernel
theorem dX8_weight_44 : decode cX8_weight 44 = .ok (.goto (-40), 3) := by decide +kernel
theorem dX8_weight_47 : decode cX8_weight 47 = .ok (.iconst 0, 1) := by decide +kernel
theorem dX8_weight_48 : decode cX8_weight 48 = .ok (.istore_n 3, 1) := by decide +kernel
theorem dX8_weight_49 : decode cX8_weight 49 = .ok (.iload_n 3, 1) := by decide +kernel
theorem dX8_weight_50 : decode cX8_weight 50 = .ok (.aload_n 0, 1) := by decide +kernel
theorem dX8_weight_51 : decode cX8_weight 51 = .ok (.getfield 13, 3) := by decide +kernel
theorem dX8_weight_54 : decode cX8_weight 54 = .ok (.iconst 2, 1) := by decide +kernel
theorem dX8_weight_55 : decode cX8_weight 55 = .ok (.iaload, 1) := by decide +kernel
theorem dX8_weight_56 : decode cX8_weight 56 = .ok (.if_icmp .ge 34, 3) := by decide +kernel
theorem dX8_weight_59 : decode cX8_weight 59 = .ok (.iload_n 2, 1) := by decide +kernel
theorem dX8_weight_60 : decode cX8_weight 60 = .ok (.aload_n 0, 1) := by decide +kernel
theorem dX8_weight_61 : decode cX8_weight 61 = .ok (.getfield 13, 3) := by decide +kernel
theorem dX8_weight_64 : decode cX8_weight 64 = .ok (.iload_n 3, 1) := by decide +kernel
theorem dX8_weight_65 : decode cX8_weight 65 = .ok (.invokestatic 119, 3) := by decide +kernel
theorem dX8_weight_68 : decode cX8_weight 68 = .ok (.iaload, 1) := by decide +kernel
theorem dX8_weight_69 : decode cX8_weight 69 = .ok (.iload_n 1, 1) := by decide +kernel
theorem dX8_weight_70 : decode cX8_weight 70 = .ok (.if_icmp .ne 11, 3) := by decide +kernel
theorem dX8_weight_73 : decode cX8_weight 73 = .ok (.aload_n 0, 1) := by decide +kernel
theorem dX8_weight_74 : decode cX8_weight 74 = .ok (.iload_n 3, 1) := by decide +kernel
theorem dX8_weight_75 : decode cX8_weight 75 = .ok (.invokevirtual 129, 3) := by decide +kernel
theorem dX8_weight_78 : decode cX8_weight 78 = .ok (.goto 4, 3) := by decide +kernel
theorem dX8_weight_81 : decode cX8_weight 81 = .ok (.iconst 0, 1) := by decide +kernel
theorem dX8_weight_82 : decode cX8_weight 82 = .ok (.iadd, 1) := by decide +kernel
theorem dX8_weight_83 : decode cX8_weight 83 = .ok (.istore_n 2, 1) := by decide +kernel
theorem dX8_weight_84 : decode cX8_weight 84 = .ok (.iinc 3 1, 3) := by decide +kernel
theorem dX8_weight_87 : decode cX8_weight 87 = .ok (.goto (-38), 3) := by decide +kernel
theorem dX8_weight_90 : decode cX8_weight 90 = .ok (.iload_n 2, 1) := by decide +kernel
theorem dX8_weight_91 : decode cX8_weight 91 = .ok (.ireturn, 1) := by decide +kernel
noncomputable def qX8_weight_1 : Bx := (bc clt (il 3) (iald (fgr 7 3 (rl 0)) (ik 1)))
noncomputable def wX8_weight_1 : Sx := (sseq (ssi 2 (i2 (· + ·) (il 2) (ic (bz cne (cvz 7 DX8_isAt (rl 0) (ai (il 3) (ai (il 1) anil)))) (iald (fgr 7 3 (rl 0)) (i2 (· + ·) (csi DX8_tubeAt (ai (il 3) anil)) (ik 2))) (ik 0)))) (sinc 3 1))
noncomputable def qX8_weight_2 : Bx := (bc clt (il 3) (iald (fgr 7 3 (rl 0)) (ik 2)))
noncomputable def wX8_weight_2 : Sx := (sseq (ssi 2 (i2 (· + ·) (il 2) (ic (bc ceq (iald (fgr 7 3 (rl 0)) (csi DX8_pumpAt (ai (il 3) anil))) (il 1)) (cvi 7 DX8_greatestSpeed (rl 0) (ai (il 3) anil)) (ik 0)))) (sinc 3 1))
noncomputable def EX8_weight : Sx := (sseq (ssi 2 (ik 0)) (sseq (scut 3 (sseq (ssi 3 (ik 0)) (swh qX8_weight_1 wX8_weight_1))) (sseq (scut 3 (sseq (ssi 3 (ik 0)) (swh qX8_weight_2 wX8_weight_2))) (sret (il 2)))))
noncomputable def DX8_weight : Fi := mfi 4 EX8_weight
set_option maxRecDepth 4000 in
theorem BX8_weight : Vs RX8 cX8_weight 4 (rmk 2 44) 0 0 EX8_weight := (v_seq (v_istore_n (i := 2) (v_iconst (v := 0) dX8_weight_0 (by decide) (rfl : 0 + 1 = 1)) dX8_weight_1 rfl (by decide) (rfl : 1 + 1 = 2)) (v_seq (v_cut (n := 3) (v_seq (v_istore_n (i := 3) (v_iconst (v := 0) dX8_weight_2 (by decide) (rfl : 2 + 1 = 3)) dX8_weight_3 rfl (by decide) (rfl : 3 + 1 = 4)) (v_wh (v_ilt_f (v_iload_n (i := 3) dX8_weight_4 rfl (rfl : 4 + 1 = 5)) (v_iald (v_gfr kX8 lk998 (by decide) rfl (v_aload_n (i := 0) dX8_weight_5 rfl (rfl : 5 + 1 = 6)) dX8_weight_6 (rfl : 6 + 3 = 9)) (v_iconst (v := 1) dX8_weight_9 (by decide) (rfl : 9 + 1 = 10)) dX8_weight_10 (rfl : 10 + 1 = 11)) dX8_weight_11 (rfl : ((11 : Nat) : Int) + 36 = ((47 : Nat) : Int)) (rfl : 11 + 3 = 14)) (vs_goto (v_seq (v_istore_n (i := 2) (v_iadd (v_iload_n (i := 2) dX8_weight_14 rfl (rfl : 14 + 1 = 15)) (v_ic (v_zne_f (v_cvz kX8 IX8_isAt hX8_isAt lk1156 ⟨by decide, by decide⟩ (by decide) (v_aload_n (i := 0) dX8_weight_15 rfl (rfl : 15 + 1 = 16)) (v_ai (v_iload_n (i := 3) dX8_weight_16 rfl (rfl : 16 + 1 = 17)) (v_ai (v_iload_n (i := 1) dX8_weight_17 rfl (rfl : 17 + 1 = 18)) v_anil)) dX8_weight_18 (rfl : 18 + 3 = 21)) dX8_weight_21 (rfl : ((21 : Nat) : Int) + 17 = ((38 : Nat) : Int)) (rfl : 21 + 3 = 24)) (vi_goto (v_iald (v_gfr kX8 lk998 (by decide) rfl (v_aload_n (i := 0) dX8_weight_24 rfl (rfl : 24 + 1 = 25)) dX8_weight_25 (rfl : 25 + 3 = 28)) (v_iadd (v_csi IX8_tubeAt hX8_tubeAt lk1160 ⟨by decide, by decide⟩ (by decide) (v_ai (v_iload_n (i := 3) dX8_weight_28 rfl (rfl : 28 + 1 = 29)) v_anil) dX8_weight_29 (rfl : 29 + 3 = 32)) (v_iconst (v := 2) dX8_weight_32 (by decide) (rfl : 32 + 1 = 33)) dX8_weight_33 (rfl : 33 + 1 = 34)) dX8_weight_34 (rfl : 34 + 1 = 35)) dX8_weight_35 (rfl : ((35 : Nat) : Int) + 4 = ((39 : Nat) : Int))) (v_iconst (v := 0) dX8_weight_38 (by decide) (rfl : 38 + 1 = 39))) dX8_weight_39 (rfl : 39 + 1 = 40)) dX8_weight_40 rfl (by decide) (rfl : 40 + 1 = 41)) (v_iinc (v := 1) dX8_weight_41 (by decide) (by decide) (rfl : 41 + 3 = 44))) dX8_weight_44 (rfl : ((44 : Nat) : Int) + (-40) = ((4 : Nat) : Int)))))) (v_seq (v_cut (n := 3) (v_seq (v_istore_n (i := 3) (v_iconst (v := 0) dX8_weight_47 (by decide) (rfl : 47 + 1 = 48)) dX8_weight_48 rfl (by decide) (rfl : 48 + 1 = 49)) (v_wh (v_ilt_f (v_iload_n (i := 3) dX8_weight_49 rfl (rfl : 49 + 1 = 50)) (v_iald (v_gfr kX8 lk998 (by decide) rfl (v_aload_n (i := 0) dX8_weight_50 rfl (rfl : 50 + 1 = 51)) dX8_weight_51 (rfl : 51 + 3 = 54)) (v_iconst (v := 2) dX8_weight_54 (by decide) (rfl : 54 + 1 = 55)) dX8_weight_55 (rfl : 55 + 1 = 56)) dX8_weight_56 (rfl : ((56 : Nat) : Int) + 34 = ((90 : Nat) : Int)) (rfl : 56 + 3 = 59)) (vs_goto (v_seq (v_istore_n (i := 2) (v_iadd (v_iload_n (i := 2) dX8_weight_59 rfl (rfl : 59 + 1 = 60)) (v_ic (v_ieq_f (v_iald (v_gfr kX8 lk998 (by decide) rfl (v_aload_n (i := 0) dX8_weight_60 rfl (rfl : 60 + 1 = 61)) dX8_weight_61 (rfl : 61 + 3 = 64)) (v_csi IX8_pumpAt hX8_pumpAt lk1163 ⟨by decide, by decide⟩ (by decide) (v_ai (v_iload_n (i := 3) dX8_weight_64 rfl (rfl : 64 + 1 = 65)) v_anil) dX8_weight_65 (rfl : 65 + 3 = 68)) dX8_weight_68 (rfl : 68 + 1 = 69)) (v_iload_n (i := 1) dX8_weight_69 rfl (rfl : 69 + 1 = 70)) dX8_weight_70 (rfl : ((70 : Nat) : Int) + 11 = ((81 : Nat) : Int)) (rfl : 70 + 3 = 73)) (vi_goto (v_cvi kX8 IX8_greatestSpeed hX8_greatestSpeed lk1166 ⟨by decide, by decide⟩ (by decide) (v_aload_n (i := 0) dX8_weight_73 rfl (rfl : 73 + 1 = 74)) (v_ai (v_iload_n (i := 3) dX8_weight_74 rfl (rfl : 74 + 1 = 75)) v_anil) dX8_weight_75 (rfl : 75 + 3 = 78)) dX8_weight_78 (rfl : ((78 : Nat) : Int) + 4 = ((82 : Nat) : Int))) (v_iconst (v := 0) dX8_weight_81 (by decide) (rfl : 81 + 1 = 82))) dX8_weight_82 (rfl : 82 + 1 = 83)) dX8_weight_83 rfl (by decide) (rfl : 83 + 1 = 84)) (v_iinc (v := 1) dX8_weight_84 (by decide) (by decide) (rfl : 84 + 3 = 87))) dX8_weight_87 (rfl : ((87 : Nat) : Int) + (-38) = ((49 : Nat) : Int)))))) (v_ret (v_iload_n (i := 2) dX8_weight_90 rfl (rfl : 90 + 1 = 91)) dX8_weight_91))))
theorem IX8_weight : Mi yX8_weight cX8_weight 4 (rmk 2 44) DX8_weight := mk_i (by decide +kernel) BX8_weight

theorem dX8_curve_0 : decode cX8_curve 0 = .ok (.aload_n 0, 1) := by decide +kernel
theorem dX8_curve_1 : decode cX8_curve 1 = .ok (.iconst 0, 1) := by decide +kernel
theorem dX8_curve_2 : decode cX8_curve 2 = .ok (.putfield 84, 3) := by decide +kernel
theorem dX8_curve_5 : decode cX8_curve 5 = .ok (.iload_n 2, 1) := by decide +kernel
theorem dX8_curve_6 : decode cX8_curve 6 = .ok (.iconst 3, 1) := by decide +kernel
theorem dX8_curve_7 : decode cX8_curve 7 = .ok (.if_icmp .ge 7, 3) := by decide +kernel
theorem dX8_curve_10 : decode cX8_curve 10 = .ok (.iconst 1, 1) := by decide +kernel
theorem dX8_curve_11 : decode cX8_curve 11 = .ok (.goto 4, 3) := by decide +kernel
theorem dX8_curve_14 : decode cX8_curve 14 = .ok (.iconst 0, 1) := by decide +kernel
theorem dX8_curve_15 : decode cX8_curve 15 = .ok (.istore 4, 2) := by decide +kernel
theorem dX8_curve_17 : decode cX8_curve 17 = .ok (.iload_n 2, 1) := by decide +kernel
theorem dX8_curve_18 : decode cX8_curve 18 = .ok (.i2l, 1) := by decide +kernel
theorem dX8_curve_19 : decode cX8_curve 19 = .ok (.lconst 0, 1) := by decide +kernel
theorem dX8_curve_20 : decode cX8_curve 20 = .ok (.ldc2_w 151, 3) := by decide +kernel
theorem dX8_curve_23 : decode cX8_curve 23 = .ok (.invokestatic 105, 3) := by decide +kernel
theorem dX8_curve_26 : decode cX8_curve 26 = .ok (.ifCond .eq 40, 3) := by decide +kernel
theorem dX8_curve_29 : decode cX8_curve 29 = .ok (.iload_n 3, 1) := by decide +kernel
theorem dX8_curve_30 : decode cX8_curve 30 = .ok (.i2l, 1) := by decide +kernel
theorem dX8_curve_31 : decode cX8_curve 31 = .ok (.iload_n 2, 1) := by decide +kernel
theorem dX8_curve_32 : decode cX8_curve 32 = .ok (.iconst 3, 1) := by decide +kernel
theorem dX8_curve_33 : decode cX8_curve 33 = .ok (.if_icmp .eq 8, 3) := by decide +kernel
theorem dX8_curve_36 : decode cX8_curve 36 = .ok (.iload_n 2, 1) := by decide +kernel
theorem dX8_curve_37 : decode cX8_curve 37 = .ok (.iconst 4, 1) := by decide +kernel
theorem dX8_curve_38 : decode cX8_curve 38 = .ok (.if_icmp .ne 7, 3) := by decide +kernel
theorem dX8_curve_41 : decode cX8_curve 41 = .ok (.lconst 1, 1) := by decide +kernel
theorem dX8_curve_42 : decode cX8_curve 42 = .ok (.goto 4, 3) := by decide +kernel
theorem dX8_curve_45 : decode cX8_curve 45 = .ok (.lconst 0, 1) := by decide +kernel
theorem dX8_curve_46 : decode cX8_curve 46 = .ok (.iload 4, 2) := by decide +kernel
theorem dX8_curve_48 : decode cX8_curve 48 = .ok (.ifCond .eq 9, 3) := by decide +kernel
theorem dX8_curve_51 : decode cX8_curve 51 = .ok (.ldc2_w 149, 3) := by decide +kernel
theorem dX8_curve_54 : decode cX8_curve 54 = .ok (.goto 6, 3) := by decide +kernel
theorem dX8_curve_57 : decode cX8_curve 57 = .ok (.ldc2_w 153, 3) := by decide +kernel
theorem dX8_curve_60 : decode cX8_curve 60 = .ok (.invokestatic 105, 3) := by decide +kernel
theorem dX8_curve_63 : decode cX8_curve 63 = .ok (.ifCond .ne 9, 3) := by decide +kernel
theorem dX8_curve_66 : decode cX8_curve 66 = .ok (.aload_n 0, 1) := by decide +kernel
theorem dX8_curve_67 : decode cX8_curve 67 = .ok (.iconst (-1), 1) := by decide +kernel
theorem dX8_curve_68 : decode cX8_curve 68 = .ok (.invokevirtual 98, 3) := by decide +kernel
theorem dX8_curve_71 : decode cX8_curve 71 = .ok (.ireturn, 1) := by decide +kernel
theorem dX8_curve_72 : decode cX8_curve 72 = .ok (.aload_n 0, 1) := by decide +kernel
theorem dX8_curve_73 : decode cX8_curve 73 = .ok (.iload_n 1, 1) := by decide +kernel
theorem dX8_curve_74 : decode cX8_curve 74 = .ok (.invokevirtual 155, 3) := by decide +kernel
theorem dX8_curve_77 : decode cX8_curve 77 = .ok (.ifCond .ne 10, 3) := by decide +kernel
theorem dX8_curve_80 : decode cX8_curve 80 = .ok (.aload_n 0, 1) := by decide +kernel
theorem dX8_curve_81 : decode cX8_curve 81 = .ok (.bipush (-2), 2) := by decide +kernel
theorem dX8_curve_83 : decode cX8_curve 83 = .ok (.invokevirtual 98, 3) := by decide +kernel
theorem dX8_curve_86 : decode cX8_curve 86 = .ok (.ireturn, 1) := by decide +kernel
theorem dX8_curve_87 : decode cX8_curve 87 = .ok (.iload_n 1, 1) := by decide +kernel
theorem dX8_curve_88 : decode cX8_curve 88 = .ok (.invokestatic 119, 3) := by decide +kernel
theorem dX8_curve_91 : decode cX8_curve 91 = .ok (.iconst 2, 1) := by decide +kernel
theorem dX8_curve_92 : decode cX8_curve 92 = .ok (.iadd, 1) := by decide +kernel
theorem dX8_curve_93 : decode cX8_curve 93 = .ok (.istore 5, 2) := by decide +kernel
theorem dX8_curve_95 : decode cX8_curve 95 = .ok (.aload_n 0, 1) := by decide +kernel
theorem dX8_curve_96 : decode cX8_curve 96 = .ok (.getfield 13, 3) := by decide +kernel
theorem dX8_curve_99 : decode cX8_curve 99 = .ok (.iload 5, 2) := by decide +kernel
theorem dX8_curve_101 : decode cX8_curve 101 = .ok (.iload_n 2, 1) := by decide +kernel
theorem dX8_curve_102 : decode cX8_curve 102 = .ok (.iadd, 1) := by decide +kernel
theorem dX8_curve_103 : decode cX8_curve 103 = .ok (.iaload, 1) := by decide +kernel
theorem dX8_curve_104 : decode cX8_curve 104 = .ok (.istore 6, 2) := by decide +kernel
theorem dX8_curve_106 : decode cX8_curve 106 = .ok (.aload_n 0, 1) := by decide +kernel
theorem dX8_curve_107 : decode cX8_curve 107 = .ok (.getfield 13, 3) := by decide +kernel
theorem dX8_curve_110 : decode cX8_curve 110 = .ok (.iload 5, 2) := by decide +kernel
theorem dX8_curve_112 : decode cX8_curve 112 = .ok (.iload_n 2, 1) := by decide +kernel
theorem dX8_curve_113 : decode cX8_curve 113 = .ok (.iadd, 1) := by decide +kernel
theorem dX8_curve_114 : decode cX8_curve 114 = .ok (.iload_n 3, 1) := by decide +kernel
theorem dX8_curve_115 : decode cX8_curve 115 = .ok (.iastore, 1) := by decide +kernel
theorem dX8_curve_116 : decode cX8_curve 116 = .ok (.aload_n 0, 1) := by decide +kernel
theorem dX8_curve_117 : decode cX8_curve 117 = .ok (.iload_n 1, 1) := by decide +kernel
theorem dX8_curve_118 : decode cX8_curve 118 = .ok (.invokevirtual 129, 3) := by decide +kernel
theorem dX8_curve_121 : decode cX8_curve 121 = .ok (.ifCond .le 28, 3) := by decide +kernel
theorem dX8_curve_124 : decode cX8_curve 124 = .ok (.aload_n 0, 1) := by decide +kernel
theorem dX8_curve_125 : decode cX8_curve 125 = .ok (.getfield 13, 3) := by decide +kernel
theorem dX8_curve_128 : decode cX8_curve 128 = .ok (.iload 5, 2) := by decide +kernel
theorem dX8_curve_130 : decode cX8_curve 130 = .ok (.iconst 3, 1) := by decide +kernel
theorem dX8_curve_131 : decode cX8_curve 131 = .ok (.iadd, 1) := by decide +kernel
theorem dX8_curve_132 : decode cX8_curve 132 = .ok (.iaload, 1) := by decide +kernel
theorem dX8_curve_133 : decode cX8_curve 133 = .ok (.aload_n 0, 1) := by decide +kernel
theorem dX8_curve_134 : decode cX8_curve 134 = .ok (.getfield 13, 3) := by decide +kernel
theorem dX8_curve_137 : decode cX8_curve 137 = .ok (.iload 5, 2) := by decide +kernel
theorem dX8_curve_139 : decode cX8_curve 139 = .ok (.iconst 4, 1) := by decide +kernel
theorem dX8_curve_140 : decode cX8_curve 140 = .ok (.iadd, 1) := by decide +kernel
theorem dX8_curve_141 : decode cX8_curve 141 = .ok (.iaload, 1) := by decide +kernel
theorem dX8_curve_142 : decode cX8_curve 142 = .ok (.if_icmp .ge 7, 3) := by decide +kernel
theorem dX8_curve_145 : decode cX8_curve 145 = .ok (.iconst 1, 1) := by decide +kernel
theorem dX8_curve_146 : decode cX8_curve 146 = .ok (.goto 4, 3) := by decide +kernel
theorem dX8_curve_149 : decode cX8_curve 149 = .ok (.iconst 0, 1) := by decide +kernel
theorem dX8_curve_150 : decode cX8_curve 150 = .ok (.istore 7, 2) := by decide +kernel
theorem dX8_curve_152 : decode cX8_curve 152 = .ok (.aload_n 0, 1) := by decide +kernel
theorem dX8_curve_153 : decode cX8_curve 153 = .ok (.aload_n 0, 1) := by decide +kernel
theorem dX8_curve_154 : decode cX8_curve 154 = .ok (.getfield 13, 3) := by decide +kernel
theorem dX8_curve_157 : decode cX8_curve 157 = .ok (.iload_n 1, 1) := by decide +kernel
theorem dX8_curve_158 : decode cX8_curve 158 = .ok (.invokestatic 119, 3) := by decide +kernel
theorem dX8_curve_161 : decode cX8_curve 161 = .ok (.iaload, 1) := by decide +kernel
theorem dX8_curve_162 : decode cX8_curve 162 = .ok (.invokevirtual 146, 3) := by decide +kernel
theorem dX8_curve_165 : decode cX8_curve 165 = .ok (.bipush 120, 2) := by decide +kernel
theorem dX8_curve_167 : decode cX8_curve 167 = .ok (.if_icmp .gt 7, 3) := by decide +kernel
theorem dX8_curve_170 : decode cX8_curve 170 = .ok (.iconst 1, 1) := by decide +kernel
theorem dX8_curve_171 : decode cX8_curve 171 = .ok (.goto 4, 3) := by decide +kernel
theorem dX8_curve_174 : decode cX8_curve 174 = .ok (.iconst 0, 1) := by decide +kernel
theorem dX8_curve_175 : decode cX8_curve 175 = .ok (.istore 8, 2) := by decide +kernel
theorem dX8_curve_177 : decode cX8_curve 177 = .ok (.aload_n 0, 1) := by decide +kernel
theorem dX8_curve_178 : decode cX8_curve 178 = .ok (.getfield 13, 3) := by decide +kernel
theorem dX8_curve_181 : decode cX8_curve 181 = .ok (.iload 5, 2) := by decide +kernel
theorem dX8_curve_183 : decode cX8_curve 183 = .ok (.iload_n 2, 1) := by decide +kernel
theorem dX8_curve_184 : decode cX8_curve 184 = .ok (.iadd, 1) := by decide +kernel
theorem dX8_curve_185 : decode cX8_curve 185 = .ok (.iload 6, 2) := by decide +kernel
theorem dX8_curve_187 : decode cX8_curve 187 = .ok (.iastore, 1) := by decide +kernel
theorem dX8_curve_188 : decode cX8_curve 188 = .ok (.iload 7, 2) := by decide +kernel
theorem dX8_curve_190 : decode cX8_curve 190 = .ok (.ifCond .eq 8, 3) := by decide +kernel
theorem dX8_curve_193 : decode cX8_curve 193 = .ok (.iload 8, 2) := by decide +kernel
theorem dX8_curve_195 : decode cX8_curve 195 = .ok (.ifCond .ne 20, 3) := by decide +kernel
theorem dX8_curve_198 : decode cX8_curve 198 = .ok (.aload_n 0, 1) := by decide +kernel
theorem dX8_curve_199 : decode cX8_curve 199 = .ok (.iload 7, 2) := by decide +kernel
theorem dX8_curve_201 : decode cX8_curve 201 = .ok (.ifCond .eq 8, 3) := by decide +kernel
theorem dX8_curve_204 : decode cX8_curve 204 = .ok (.bipush (-5), 2) := by decide +kernel
theorem dX8_curve_206 : decode cX8_curve 206 = .ok (.goto 5, 3) := by decide +kernel
theorem dX8_curve_209 : decode cX8_curve 209 = .ok (.bipush (-4), 2) := by decide +kernel
theorem dX8_curve_211 : decode cX8_curve 211 = .ok (.invokevirtual 98, 3) := by decide +kernel
theorem dX8_curve_214 : decode cX8_curve 214 = .ok (.ireturn, 1) := by decide +kernel
theorem dX8_curve_215 : decode cX8_curve 215 = .ok (.aload_n 0, 1) := by decide +kernel
theorem dX8_curve_216 : decode cX8_curve 216 = .ok (.iconst 3, 1) := by decide +kernel
theorem dX8_curve_217 : decode cX8_curve 217 = .ok (.invokevirtual 136, 3) := by decide +kernel
theorem dX8_curve_220 : decode cX8_curve 220 = .ok (.aload_n 0, 1) := by decide +kernel
theorem dX8_curve_221 : decode cX8_curve 221 = .ok (.getfield 13, 3) := by decide +kernel
theorem dX8_curve_224 : decode cX8_curve 224 = .ok (.iload 5, 2) := by decide +kernel
theorem dX8_curve_226 : decode cX8_curve 226 = .ok (.iload_n 2, 1) := by decide +kernel
theorem dX8_curve_227 : decode cX8_curve 227 = .ok (.iadd, 1) := by decide +kernel
theorem dX8_curve_228 : decode cX8_curve 228 = .ok (.iload_n 3, 1) := by decide +kernel
theorem dX8_curve_229 : decode cX8_curve 229 = .ok (.iastore, 1) := by decide +kernel
theorem dX8_curve_230 : decode cX8_curve 230 = .ok (.aload_n 0, 1) := by decide +kernel
theorem dX8_curve_231 : decode cX8_curve 231 = .ok (.iload 6, 2) := by decide +kernel
theorem dX8_curve_233 : decode cX8_curve 233 = .ok (.invokevirtual 102, 3) := by decide +kernel
theorem dX8_curve_236 : decode cX8_curve 236 = .ok (.ireturn, 1) := by decide +kernel
noncomputable def EX8_curve : Sx := (sseq (fpi 7 0 (rl 0) (ik 0)) (sseq (ssi 4 (ic (bc clt (il 2) (ik 3)) (ik 1) (ik 0))) (sseq (sif (bor (bnot (bz cne (csz DX8_in (aj (i2l (il 2)) (aj (jk 0) (aj (jk 5) anil)))))) (bnot (bz cne (csz DX8_in (aj (i2l (il 3)) (aj (jc (bor (bc ceq (il 2) (ik 3)) (bc ceq (il 2) (ik 4))) (jk 1) (jk 0)) (aj (jc (bz cne (il 4)) (jk 40) (jk 9999)) anil))))))) (sret (cvi 7 DX8_refuse (rl 0) (ai (ik (-1)) anil))) snop) (sseq (sif (bnot (bz cne (cvz 7 DX8_isPump (rl 0) (ai (il 1) anil)))) (sret (cvi 7 DX8_refuse (rl 0) (ai (ik (-2)) anil))) snop) (sseq (ssi 5 (i2 (· + ·) (csi DX8_pumpAt (ai (il 1) anil)) (ik 2))) (sseq (ssi 6 (iald (fgr 7 3 (rl 0)) (i2 (· + ·) (il 5) (il 2)))) (sseq (aii (fgr 7 3 (rl 0)) (i2 (· + ·) (il 5) (il 2)) (il 3)) (sseq (ssi 7 (ic (band (bz cgt (cvi 7 DX8_greatestSpeed (rl 0) (ai (il 1) anil))) (bc clt (iald (fgr 7 3 (rl 0)) (i2 (· + ·) (il 5) (ik 3))) (iald (fgr 7 3 (rl 0)) (i2 (· + ·) (il 5) (ik 4))))) (ik 1) (ik 0))) (sseq (ssi 8 (ic (bc cle (cvi 7 DX8_weight (rl 0) (ai (iald (fgr 7 3 (rl 0)) (csi DX8_pumpAt (ai (il 1) anil))) anil)) (ik 120)) (ik 1) (ik 0))) (sseq (aii (fgr 7 3 (rl 0)) (i2 (· + ·) (il 5) (il 2)) (il 6)) (sseq (sif (bor (bnot (bz cne (il 7))) (bnot (bz cne (il 8)))) (sret (cvi 7 DX8_refuse (rl 0) (ai (ic (bz cne (il 7)) (ik (-5)) (ik (-4))) anil))) snop) (sseq (scv 7 DX8_remember (rl 0) (ai (ik 3) anil)) (sseq (aii (fgr 7 3 (rl 0)) (i2 (· + ·) (il 5) (il 2)) (il 3)) (sret (cvi 7 DX8_tell (rl 0) (ai (il 6) anil))))))))))))))))
noncomputable def DX8_curve : Fi := mfi 9 EX8_curve
set_option maxRecDepth 4000 in
theorem BX8_curve : Vs RX8 cX8_curve 9 (rmk 3 67) 0 0 EX8_curve := (v_seq (v_fpi kX8 lk995 (by decide) rfl rfl (by decide +kernel) (v_aload_n (i := 0) dX8_curve_0 rfl (rfl : 0 + 1 = 1)) (v_iconst (v := 0) dX8_curve_1 (by decide) (rfl : 1 + 1 = 2)) dX8_curve_2 (rfl : 2 + 3 = 5)) (v_seq (v_istore (i := 4) (v_ic (v_ilt_f (v_iload_n (i := 2) dX8_curve_5 rfl (rfl : 5 + 1 = 6)) (v_iconst (v := 3) dX8_curve_6 (by decide) (rfl : 6 + 1 = 7)) dX8_curve_7 (rfl : ((7 : Nat) : Int) + 7 = ((14 : Nat) : Int)) (rfl : 7 + 3 = 10)) (vi_goto (v_iconst (v := 1) dX8_curve_10 (by decide) (rfl : 10 + 1 = 11)) dX8_curve_11 (rfl : ((11 : Nat) : Int) + 4 = ((15 : Nat) : Int))) (v_iconst (v := 0) dX8_curve_14 (by decide) (rfl : 14 + 1 = 15))) dX8_curve_15 (by decide) (rfl : 15 + 2 = 17)) (v_seq (v_if (v_or (v_not (v_zne_f (v_csz IX8_in hX8_in lk1120 ⟨by decide, by decide⟩ (by decide) (v_aj (v_i2l (v_iload_n (i := 2) dX8_curve_17 rfl (rfl : 17 + 1 = 18)) dX8_curve_18 (rfl : 18 + 1 = 19)) (v_aj (v_lconst (v := 0) dX8_curve_19 (by decide) (rfl : 19 + 1 = 20)) (v_aj (v_ldc2 (v := 5) lk1179 dX8_curve_20 (rfl : 20 + 3 = 23)) v_anil))) dX8_curve_23 (rfl : 23 + 3 = 26)) dX8_curve_26 (rfl : ((26 : Nat) : Int) + 40 = ((66 : Nat) : Int)) (rfl : 26 + 3 = 29))) (v_not (v_zne_t (v_csz IX8_in hX8_in lk1120 ⟨by decide, by decide⟩ (by decide) (v_aj (v_i2l (v_iload_n (i := 3) dX8_curve_29 rfl (rfl : 29 + 1 = 30)) dX8_curve_30 (rfl : 30 + 1 = 31)) (v_aj (v_jc (v_or (v_ieq_t (v_iload_n (i := 2) dX8_curve_31 rfl (rfl : 31 + 1 = 32)) (v_iconst (v := 3) dX8_curve_32 (by decide) (rfl : 32 + 1 = 33)) dX8_curve_33 (rfl : ((33 : Nat) : Int) + 8 = ((41 : Nat) : Int)) (rfl : 33 + 3 = 36)) (v_ieq_f (v_iload_n (i := 2) dX8_curve_36 rfl (rfl : 36 + 1 = 37)) (v_iconst (v := 4) dX8_curve_37 (by decide) (rfl : 37 + 1 = 38)) dX8_curve_38 (rfl : ((38 : Nat) : Int) + 7 = ((45 : Nat) : Int)) (rfl : 38 + 3 = 41))) (vj_goto (v_lconst (v := 1) dX8_curve_41 (by decide) (rfl : 41 + 1 = 42)) dX8_curve_42 (rfl : ((42 : Nat) : Int) + 4 = ((46 : Nat) : Int))) (v_lconst (v := 0) dX8_curve_45 (by decide) (rfl : 45 + 1 = 46))) (v_aj (v_jc (v_zne_f (v_iload (i := 4) dX8_curve_46 (rfl : 46 + 2 = 48)) dX8_curve_48 (rfl : ((48 : Nat) : Int) + 9 = ((57 : Nat) : Int)) (rfl : 48 + 3 = 51)) (vj_goto (v_ldc2 (v := 40) lk1174 dX8_curve_51 (rfl : 51 + 3 = 54)) dX8_curve_54 (rfl : ((54 : Nat) : Int) + 6 = ((60 : Nat) : Int))) (v_ldc2 (v := 9999) lk1180 dX8_curve_57 (rfl : 57 + 3 = 60))) v_anil))) dX8_curve_60 (rfl : 60 + 3 = 63)) dX8_curve_63 (rfl : ((63 : Nat) : Int) + 9 = ((72 : Nat) : Int)) (rfl : 63 + 3 = 66)))) (v_ret (v_cvi kX8 IX8_refuse hX8_refuse lk1105 ⟨by decide, by decide⟩ (by decide) (v_aload_n (i := 0) dX8_curve_66 rfl (rfl : 66 + 1 = 67)) (v_ai (v_iconst (v := (-1)) dX8_curve_67 (by decide) (rfl : 67 + 1 = 68)) v_anil) dX8_curve_68 (rfl : 68 + 3 = 71)) dX8_curve_71) v_nop) (v_seq (v_if (v_not (v_zne_t (v_cvz kX8 IX8_isPump hX8_isPump lk1181 ⟨by decide, by decide⟩ (by decide) (v_aload_n (i := 0) dX8_curve_72 rfl (rfl : 72 + 1 = 73)) (v_ai (v_iload_n (i := 1) dX8_curve_73 rfl (rfl : 73 + 1 = 74)) v_anil) dX8_curve_74 (rfl : 74 + 3 = 77)) dX8_curve_77 (rfl : ((77 : Nat) : Int) + 10 = ((87 : Nat) : Int)) (rfl : 77 + 3 = 80))) (v_ret (v_cvi kX8 IX8_refuse hX8_refuse lk1105 ⟨by decide, by decide⟩ (by decide) (v_aload_n (i := 0) dX8_curve_80 rfl (rfl : 80 + 1 = 81)) (v_ai (v_bipush (v := (-2)) dX8_curve_81 (by decide) (rfl : 81 + 2 = 83)) v_anil) dX8_curve_83 (rfl : 83 + 3 = 86)) dX8_curve_86) v_nop) (v_seq (v_istore (i := 5) (v_iadd (v_csi IX8_pumpAt hX8_pumpAt lk1163 ⟨by decide, by decide⟩ (by decide) (v_ai (v_iload_n (i := 1) dX8_curve_87 rfl (rfl : 87 + 1 = 88)) v_anil) dX8_curve_88 (rfl : 88 + 3 = 91)) (v_iconst (v := 2) dX8_curve_91 (by decide) (rfl : 91 + 1 = 92)) dX8_curve_92 (rfl : 92 + 1 = 93)) dX8_curve_93 (by decide) (rfl : 93 + 2 = 95)) (v_seq (v_istore (i := 6) (v_iald (v_gfr kX8 lk998 (by decide) rfl (v_aload_n (i := 0) dX8_curve_95 rfl (rfl : 95 + 1 = 96)) dX8_curve_96 (rfl : 96 + 3 = 99)) (v_iadd (v_iload (i := 5) dX8_curve_99 (rfl : 99 + 2 = 101)) (v_iload_n (i := 2) dX8_curve_101 rfl (rfl : 101 + 1 = 102)) dX8_curve_102 (rfl : 102 + 1 = 103)) dX8_curve_103 (rfl : 103 + 1 = 104)) dX8_curve_104 (by decide) (rfl : 104 + 2 = 106)) (v_seq (v_aii (v_gfr kX8 lk998 (by decide) rfl (v_aload_n (i := 0) dX8_curve_106 rfl (rfl : 106 + 1 = 107)) dX8_curve_107 (rfl : 107 + 3 = 110)) (v_iadd (v_iload (i := 5) dX8_curve_110 (rfl : 110 + 2 = 112)) (v_iload_n (i := 2) dX8_curve_112 rfl (rfl : 112 + 1 = 113)) dX8_curve_113 (rfl : 113 + 1 = 114)) (v_iload_n (i := 3) dX8_curve_114 rfl (rfl : 114 + 1 = 115)) dX8_curve_115 (rfl : 115 + 1 = 116)) (v_seq (v_istore (i := 7) (v_ic (v_and (v_zgt_f (v_cvi kX8 IX8_greatestSpeed hX8_greatestSpeed lk1166 ⟨by decide, by decide⟩ (by decide) (v_aload_n (i := 0) dX8_curve_116 rfl (rfl : 116 + 1 = 117)) (v_ai (v_iload_n (i := 1) dX8_curve_117 rfl (rfl : 117 + 1 = 118)) v_anil) dX8_curve_118 (rfl : 118 + 3 = 121)) dX8_curve_121 (rfl : ((121 : Nat) : Int) + 28 = ((149 : Nat) : Int)) (rfl : 121 + 3 = 124)) (v_ilt_f (v_iald (v_gfr kX8 lk998 (by decide) rfl (v_aload_n (i := 0) dX8_curve_124 rfl (rfl : 124 + 1 = 125)) dX8_curve_125 (rfl : 125 + 3 = 128)) (v_iadd (v_iload (i := 5) dX8_curve_128 (rfl : 128 + 2 = 130)) (v_iconst (v := 3) dX8_curve_130 (by decide) (rfl : 130 + 1 = 131)) dX8_curve_131 (rfl : 131 + 1 = 132)) dX8_curve_132 (rfl : 132 + 1 = 133)) (v_iald (v_gfr kX8 lk998 (by decide) rfl (v_aload_n (i := 0) dX8_curve_133 rfl (rfl : 133 + 1 = 134)) dX8_curve_134 (rfl : 134 + 3 = 137)) (v_iadd (v_iload (i := 5) dX8_curve_137 (rfl : 137 + 2 = 139)) (v_iconst (v := 4) dX8_curve_139 (by decide) (rfl : 139 + 1 = 140)) dX8_curve_140 (rfl : 140 + 1 = 141)) dX8_curve_141 (rfl : 141 + 1 = 142)) dX8_curve_142 (rfl : ((142 : Nat) : Int) + 7 = ((149 : Nat) : Int)) (rfl : 142 + 3 = 145))) (vi_goto (v_iconst (v := 1) dX8_curve_145 (by decide) (rfl : 145 + 1 = 146)) dX8_curve_146 (rfl : ((146 : Nat) : Int) + 4 = ((150 : Nat) : Int))) (v_iconst (v := 0) dX8_curve_149 (by decide) (rfl : 149 + 1 = 150))) dX8_curve_150 (by decide) (rfl : 150 + 2 = 152)) (v_seq (v_istore (i := 8) (v_ic (v_ile_f (v_cvi kX8 IX8_weight hX8_weight lk1152 ⟨by decide, by decide⟩ (by decide) (v_aload_n (i := 0) dX8_curve_152 rfl (rfl : 152 + 1 = 153)) (v_ai (v_iald (v_gfr kX8 lk998 (by decide) rfl (v_aload_n (i := 0) dX8_curve_153 rfl (rfl : 153 + 1 = 154)) dX8_curve_154 (rfl : 154 + 3 = 157)) (v_csi IX8_pumpAt hX8_pumpAt lk1163 ⟨by decide, by decide⟩ (by decide) (v_ai (v_iload_n (i := 1) dX8_curve_157 rfl (rfl : 157 + 1 = 158)) v_anil) dX8_curve_158 (rfl : 158 + 3 = 161)) dX8_curve_161 (rfl : 161 + 1 = 162)) v_anil) dX8_curve_162 (rfl : 162 + 3 = 165)) (v_bipush (v := 120) dX8_curve_165 (by decide) (rfl : 165 + 2 = 167)) dX8_curve_167 (rfl : ((167 : Nat) : Int) + 7 = ((174 : Nat) : Int)) (rfl : 167 + 3 = 170)) (vi_goto (v_iconst (v := 1) dX8_curve_170 (by decide) (rfl : 170 + 1 = 171)) dX8_curve_171 (rfl : ((171 : Nat) : Int) + 4 = ((175 : Nat) : Int))) (v_iconst (v := 0) dX8_curve_174 (by decide) (rfl : 174 + 1 = 175))) dX8_curve_175 (by decide) (rfl : 175 + 2 = 177)) (v_seq (v_aii (v_gfr kX8 lk998 (by decide) rfl (v_aload_n (i := 0) dX8_curve_177 rfl (rfl : 177 + 1 = 178)) dX8_curve_178 (rfl : 178 + 3 = 181)) (v_iadd (v_iload (i := 5) dX8_curve_181 (rfl : 181 + 2 = 183)) (v_iload_n (i := 2) dX8_curve_183 rfl (rfl : 183 + 1 = 184)) dX8_curve_184 (rfl : 184 + 1 = 185)) (v_iload (i := 6) dX8_curve_185 (rfl : 185 + 2 = 187)) dX8_curve_187 (rfl : 187 + 1 = 188)) (v_seq (v_if (v_or (v_not (v_zne_f (v_iload (i := 7) dX8_curve_188 (rfl : 188 + 2 = 190)) dX8_curve_190 (rfl : ((190 : Nat) : Int) + 8 = ((198 : Nat) : Int)) (rfl : 190 + 3 = 193))) (v_not (v_zne_t (v_iload (i := 8) dX8_curve_193 (rfl : 193 + 2 = 195)) dX8_curve_195 (rfl : ((195 : Nat) : Int) + 20 = ((215 : Nat) : Int)) (rfl : 195 + 3 = 198)))) (v_ret (v_cvi kX8 IX8_refuse hX8_refuse lk1105 ⟨by decide, by decide⟩ (by decide) (v_aload_n (i := 0) dX8_curve_198 rfl (rfl : 198 + 1 = 199)) (v_ai (v_ic (v_zne_f (v_iload (i := 7) dX8_curve_199 (rfl : 199 + 2 = 201)) dX8_curve_201 (rfl : ((201 : Nat) : Int) + 8 = ((209 : Nat) : Int)) (rfl : 201 + 3 = 204)) (vi_goto (v_bipush (v := (-5)) dX8_curve_204 (by decide) (rfl : 204 + 2 = 206)) dX8_curve_206 (rfl : ((206 : Nat) : Int) + 5 = ((211 : Nat) : Int))) (v_bipush (v := (-4)) dX8_curve_209 (by decide) (rfl : 209 + 2 = 211))) v_anil) dX8_curve_211 (rfl : 211 + 3 = 214)) dX8_curve_214) v_nop) (v_seq (v_scv kX8 IX8_remember hX8_remember lk1133 ⟨by decide, by decide⟩ (v_aload_n (i := 0) dX8_curve_215 rfl (rfl : 215 + 1 = 216)) (v_ai (v_iconst (v := 3) dX8_curve_216 (by decide) (rfl : 216 + 1 = 217)) v_anil) dX8_curve_217 (rfl : 217 + 3 = 220)) (v_seq (v_aii (v_gfr kX8 lk998 (by decide) rfl (v_aload_n (i := 0) dX8_curve_220 rfl (rfl : 220 + 1 = 221)) dX8_curve_221 (rfl : 221 + 3 = 224)) (v_iadd (v_iload (i := 5) dX8_curve_224 (rfl : 224 + 2 = 226)) (v_iload_n (i := 2) dX8_curve_226 rfl (rfl : 226 + 1 = 227)) dX8_curve_227 (rfl : 227 + 1 = 228)) (v_iload_n (i := 3) dX8_curve_228 rfl (rfl : 228 + 1 = 229)) dX8_curve_229 (rfl : 229 + 1 = 230)) (v_ret (v_cvi kX8 IX8_tell hX8_tell lk1112 ⟨by decide, by decide⟩ (by decide) (v_aload_n (i := 0) dX8_curve_230 rfl (rfl : 230 + 1 = 231)) (v_ai (v_iload (i := 6) dX8_curve_231 (rfl : 231 + 2 = 233)) v_anil) dX8_curve_233 (rfl : 233 + 3 = 236)) dX8_curve_236))))))))))))))
theorem IX8_curve : Mi yX8_curve cX8_curve 9 (rmk 3 67) DX8_curve := mk_i (by decide +kernel) BX8_curve

theorem dX8_drawn_0 : decode cX8_drawn 0 = .ok (.aload_n 0, 1) := by decide +kernel
theorem dX8_drawn_1 : decode cX8_drawn 1 = .ok (.iconst 0, 1) := by decide +kernel
theorem dX8_drawn_2 : decode cX8_drawn 2 = .ok (.putfield 84, 3) := by decide +kernel
theorem dX8_drawn_5 : decode cX8_drawn 5 = .ok (.aload_n 0, 1) := by decide +kernel
theorem dX8_drawn_6 : decode cX8_drawn 6 = .ok (.iload_n 1, 1) := by decide +kernel
theorem dX8_drawn_7 : decode cX8_drawn 7 = .ok (.invokevirtual 155, 3) := by decide +kernel
theorem dX8_drawn_10 : decode cX8_drawn 10 = .ok (.ifCond .eq 13, 3) := by decide +kernel
theorem dX8_drawn_13 : decode cX8_drawn 13 = .ok (.iload_n 2, 1) := by decide +kernel
theorem dX8_drawn_14 : decode cX8_drawn 14 = .ok (.i2l, 1) := by decide +kernel
theorem dX8_drawn_15 : decode cX8_drawn 15 = .ok (.lconst 0, 1) := by decide +kernel
theorem dX8_drawn_16 : decode cX8_drawn 16 = .ok (.lconst 1, 1) := by decide +kernel
theorem dX8_drawn_17 : decode cX8_drawn 17 = .ok (.invokestatic 105, 3) := by decide +kernel
theorem dX8_drawn_20 : decode cX8_drawn 20 = .ok (.ifCond .ne 7, 3) := by decide +kernel
theorem dX8_drawn_23 : decode cX8_drawn 23 = .ok (.ldc2_w 279, 3) := by decide +kernel
theorem dX8_drawn_26 : decode cX8_drawn 26 = .ok (.lreturn, 1) := by decide +kernel
theorem dX8_drawn_27 : decode cX8_drawn 27 = .ok (.iload_n 1, 1) := by decide +kernel
theorem dX8_drawn_28 : decode cX8_drawn 28 = .ok (.invokestatic 119, 3) := by decide +kernel
theorem dX8_drawn_31 : decode cX8_drawn 31 = .ok (.istore_n 3, 1) := by decide +kernel
theorem dX8_drawn_32 : decode cX8_drawn 32 = .ok (.aload_n 0, 1) := by decide +kernel
theorem dX8_drawn_33 : decode cX8_drawn 33 = .ok (.invokevirtual 254, 3) := by decide +kernel
theorem dX8_drawn_36 : decode cX8_drawn 36 = .ok (.ifCond .ne 7, 3) := by decide +kernel
theorem dX8_drawn_39 : decode cX8_drawn 39 = .ok (.ldc2_w 285, 3) := by decide +kernel
theorem dX8_drawn_42 : decode cX8_drawn 42 = .ok (.lreturn, 1) := by decide +kernel
theorem dX8_drawn_43 : decode cX8_drawn 43 = .ok (.aload_n 0, 1) := by decide +kernel
theorem dX8_drawn_44 : decode cX8_drawn 44 = .ok (.iload_n 1, 1) := by decide +kernel
theorem dX8_drawn_45 : decode cX8_drawn 45 = .ok (.invokevirtual 207, 3) := by decide +kernel
theorem dX8_drawn_48 : decode cX8_drawn 48 = .ok (.ifCond .ne 6, 3) := by decide +kernel
theorem dX8_drawn_51 : decode cX8_drawn 51 = .ok (.iload_n 2, 1) := by decide +kernel
theorem dX8_drawn_52 : decode cX8_drawn 52 = .ok (.i2l, 1) := by decide +kernel
theorem dX8_drawn_53 : decode cX8_drawn 53 = .ok (.lreturn, 1) := by decide +kernel
theorem dX8_drawn_54 : decode cX8_drawn 54 = .ok (.aload_n 0, 1) := by decide +kernel
theorem dX8_drawn_55 : decode cX8_drawn 55 = .ok (.getfield 54, 3) := by decide +kernel
theorem dX8_drawn_58 : decode cX8_drawn 58 = .ok (.aload_n 0, 1) := by decide +kernel
theorem dX8_drawn_59 : decode cX8_drawn 59 = .ok (.getfield 13, 3) := by decide +kernel
theorem dX8_drawn_62 : decode cX8_drawn 62 = .ok (.iload_n 3, 1) := by decide +kernel
theorem dX8_drawn_63 : decode cX8_drawn 63 = .ok (.iaload, 1) := by decide +kernel
theorem dX8_drawn_64 : decode cX8_drawn 64 = .ok (.baload, 1) := by decide +kernel
theorem dX8_drawn_65 : decode cX8_drawn 65 = .ok (.ifCond .eq 9, 3) := by decide +kernel
theorem dX8_drawn_68 : decode cX8_drawn 68 = .ok (.ldc2_w 287, 3) := by decide +kernel
theorem dX8_drawn_71 : decode cX8_drawn 71 = .ok (.goto 39, 3) := by decide +kernel
theorem dX8_drawn_74 : decode cX8_drawn 74 = .ok (.aload_n 0, 1) := by decide +kernel
theorem dX8_drawn_75 : decode cX8_drawn 75 = .ok (.getfield 13, 3) := by decide +kernel
theorem dX8_drawn_78 : decode cX8_drawn 78 = .ok (.iload_n 3, 1) := by decide +kernel
theorem dX8_drawn_79 : decode cX8_drawn 79 = .ok (.iconst 2, 1) := by decide +kernel
theorem dX8_drawn_80 : decode cX8_drawn 80 = .ok (.iadd, 1) := by decide +kernel
theorem dX8_drawn_81 : decode cX8_drawn 81 = .ok (.aload_n 0, 1) := by decide +kernel
theorem dX8_drawn_82 : decode cX8_drawn 82 = .ok (.getfield 57, 3) := by decide +kernel
theorem dX8_drawn_85 : decode cX8_drawn 85 = .ok (.iload_n 1, 1) := by decide +kernel
theorem dX8_drawn_86 : decode cX8_drawn 86 = .ok (.iaload, 1) := by decide +kernel
theorem dX8_drawn_87 : decode cX8_drawn 87 = .ok (.iadd, 1) := by decide +kernel
theorem dX8_drawn_88 : decode cX8_drawn 88 = .ok (.iaload, 1) := by decide +kernel
theorem dX8_drawn_89 : decode cX8_drawn 89 = .ok (.i2l, 1) := by decide +kernel
theorem dX8_drawn_90 : decode cX8_drawn 90 = .ok (.aload_n 0, 1) := by decide +kernel
theorem dX8_drawn_91 : decode cX8_drawn 91 = .ok (.getfield 51, 3) := by decide +kernel
theorem dX8_drawn_94 : decode cX8_drawn 94 = .ok (.aload_n 0, 1) := by decide +kernel
theorem dX8_drawn_95 : decode cX8_drawn 95 = .ok (.getfield 13, 3) := by decide +kernel
theorem dX8_drawn_98 : decode cX8_drawn 98 = .ok (.iload_n 3, 1) := by decide +kernel
theorem dX8_drawn_99 : decode cX8_drawn 99 = .ok (.iaload, 1) := by decide +kernel
theorem dX8_drawn_100 : decode cX8_drawn 100 = .ok (.laload, 1) := by decide +kernel
theorem dX8_drawn_101 : decode cX8_drawn 101 = .ok (.lmul, 1) := by decide +kernel
theorem dX8_drawn_102 : decode cX8_drawn 102 = .ok (.aload_n 0, 1) := by decide +kernel
theorem dX8_drawn_103 : decode cX8_drawn 103 = .ok (.getfield 219, 3) := by decide +kernel
theorem dX8_drawn_106 : decode cX8_drawn 106 = .ok (.iload_n 2, 1) := by decide +kernel
theorem dX8_drawn_107 : decode cX8_drawn 107 = .ok (.invokestatic 289, 3) := by decide +kernel
theorem dX8_drawn_110 : decode cX8_drawn 110 = .ok (.lreturn, 1) := by decide +kernel
noncomputable def EX8_drawn : Sx := (sseq (fpi 7 0 (rl 0) (ik 0)) (sseq (sif (bor (bnot (bz cne (cvz 7 DX8_isPump (rl 0) (ai (il 1) anil)))) (bnot (bz cne (csz DX8_in (aj (i2l (il 2)) (aj (jk 0) (aj (jk 1) anil))))))) (sretj (jk (-1))) snop) (sseq (ssi 3 (csi DX8_pumpAt (ai (il 1) anil))) (sseq (sif (bnot (bz cne (cvz 7 DX8_reckonNow (rl 0) anil))) (sretj (jk (-3))) snop) (sseq (sif (bnot (bz cne (cvz 7 DX8_runs (rl 0) (ai (il 1) anil)))) (sretj (i2l (il 2))) snop) (sretj (jc (bz cne (zald (fgr 7 19 (rl 0)) (iald (fgr 7 3 (rl 0)) (il 3)))) (jk (-2)) (csj DX8_lowest (aj (j2 (· * ·) (i2l (iald (fgr 7 3 (rl 0)) (i2 (· + ·) (i2 (· + ·) (il 3) (ik 2)) (iald (fgr 7 20 (rl 0)) (il 1))))) (jald (fgr 7 17 (rl 0)) (iald (fgr 7 3 (rl 0)) (il 3)))) (aj (fgj 7 18 (rl 0)) (ai (il 2) anil)))))))))))
noncomputable def DX8_drawn : Fj := mfj 4 EX8_drawn
set_option maxRecDepth 4000 in
theorem BX8_drawn : Vs RX8 cX8_drawn 4 (rmk 6 134) 0 0 EX8_drawn := (v_seq (v_fpi kX8 lk995 (by decide) rfl rfl (by decide +kernel) (v_aload_n (i := 0) dX8_drawn_0 rfl (rfl : 0 + 1 = 1)) (v_iconst (v := 0) dX8_drawn_1 (by decide) (rfl : 1 + 1 = 2)) dX8_drawn_2 (rfl : 2 + 3 = 5)) (v_seq (v_if (v_or (v_not (v_zne_f (v_cvz kX8 IX8_isPump hX8_isPump lk1181 ⟨by decide, by decide⟩ (by decide) (v_aload_n (i := 0) dX8_drawn_5 rfl (rfl : 5 + 1 = 6)) (v_ai (v_iload_n (i := 1) dX8_drawn_6 rfl (rfl : 6 + 1 = 7)) v_anil) dX8_drawn_7 (rfl : 7 + 3 = 10)) dX8_drawn_10 (rfl : ((10 : Nat) : Int) + 13 = ((23 : Nat) : Int)) (rfl : 10 + 3 = 13))) (v_not (v_zne_t (v_csz IX8_in hX8_in lk1120 ⟨by decide, by decide⟩ (by decide) (v_aj (v_i2l (v_iload_n (i := 2) dX8_drawn_13 rfl (rfl : 13 + 1 = 14)) dX8_drawn_14 (rfl : 14 + 1 = 15)) (v_aj (v_lconst (v := 0) dX8_drawn_15 (by decide) (rfl : 15 + 1 = 16)) (v_aj (v_lconst (v := 1) dX8_drawn_16 (by decide) (rfl : 16 + 1 = 17)) v_anil))) dX8_drawn_17 (rfl : 17 + 3 = 20)) dX8_drawn_20 (rfl : ((20 : Nat) : Int) + 7 = ((27 : Nat) : Int)) (rfl : 20 + 3 = 23)))) (v_retj (v_ldc2 (v := (-1)) lk1335 dX8_drawn_23 (rfl : 23 + 3 = 26)) dX8_drawn_26) v_nop) (v_seq (v_istore_n (i := 3) (v_csi IX8_pumpAt hX8_pumpAt lk1163 ⟨by decide, by decide⟩ (by decide) (v_ai (v_iload_n (i := 1) dX8_drawn_27 rfl (rfl : 27 + 1 = 28)) v_anil) dX8_drawn_28 (rfl : 28 + 3 = 31)) dX8_drawn_31 rfl (by decide) (rfl : 31 + 1 = 32)) (v_seq (v_if (v_not (v_zne_t (v_cvz kX8 IX8_reckonNow hX8_reckonNow lk1241 ⟨by decide, by decide⟩ (by decide) (v_aload_n (i := 0) dX8_drawn_32 rfl (rfl : 32 + 1 = 33)) v_anil dX8_drawn_33 (rfl : 33 + 3 = 36)) dX8_drawn_36 (rfl : ((36 : Nat) : Int) + 7 = ((43 : Nat) : Int)) (rfl : 36 + 3 = 39))) (v_retj (v_ldc2 (v := (-3)) lk1344 dX8_drawn_39 (rfl : 39 + 3 = 42)) dX8_drawn_42) v_nop) (v_seq (v_if (v_not (v_zne_t (v_cvz kX8 IX8_runs hX8_runs lk1273 ⟨by decide, by decide⟩ (by decide) (v_aload_n (i := 0) dX8_drawn_43 rfl (rfl : 43 + 1 = 44)) (v_ai (v_iload_n (i := 1) dX8_drawn_44 rfl (rfl : 44 + 1 = 45)) v_anil) dX8_drawn_45 (rfl : 45 + 3 = 48)) dX8_drawn_48 (rfl : ((48 : Nat) : Int) + 6 = ((54 : Nat) : Int)) (rfl : 48 + 3 = 51))) (v_retj (v_i2l (v_iload_n (i := 2) dX8_drawn_51 rfl (rfl : 51 + 1 = 52)) dX8_drawn_52 (rfl : 52 + 1 = 53)) dX8_drawn_53) v_nop) (v_retj (v_jc (v_zne_f (v_zald (v_gfr kX8 lk1014 (by decide) rfl (v_aload_n (i := 0) dX8_drawn_54 rfl (rfl : 54 + 1 = 55)) dX8_drawn_55 (rfl : 55 + 3 = 58)) (v_iald (v_gfr kX8 lk998 (by decide) rfl (v_aload_n (i := 0) dX8_drawn_58 rfl (rfl : 58 + 1 = 59)) dX8_drawn_59 (rfl : 59 + 3 = 62)) (v_iload_n (i := 3) dX8_drawn_62 rfl (rfl : 62 + 1 = 63)) dX8_drawn_63 (rfl : 63 + 1 = 64)) dX8_drawn_64 (rfl : 64 + 1 = 65)) dX8_drawn_65 (rfl : ((65 : Nat) : Int) + 9 = ((74 : Nat) : Int)) (rfl : 65 + 3 = 68)) (vj_goto (v_ldc2 (v := (-2)) lk1345 dX8_drawn_68 (rfl : 68 + 3 = 71)) dX8_drawn_71 (rfl : ((71 : Nat) : Int) + 39 = ((110 : Nat) : Int))) (v_csj IX8_lowest hX8_lowest lk1346 ⟨by decide, by decide⟩ (by decide) (v_aj (v_lmul (v_i2l (v_iald (v_gfr kX8 lk998 (by decide) rfl (v_aload_n (i := 0) dX8_drawn_74 rfl (rfl : 74 + 1 = 75)) dX8_drawn_75 (rfl : 75 + 3 = 78)) (v_iadd (v_iadd (v_iload_n (i := 3) dX8_drawn_78 rfl (rfl : 78 + 1 = 79)) (v_iconst (v := 2) dX8_drawn_79 (by decide) (rfl : 79 + 1 = 80)) dX8_drawn_80 (rfl : 80 + 1 = 81)) (v_iald (v_gfr kX8 lk1015 (by decide) rfl (v_aload_n (i := 0) dX8_drawn_81 rfl (rfl : 81 + 1 = 82)) dX8_drawn_82 (rfl : 82 + 3 = 85)) (v_iload_n (i := 1) dX8_drawn_85 rfl (rfl : 85 + 1 = 86)) dX8_drawn_86 (rfl : 86 + 1 = 87)) dX8_drawn_87 (rfl : 87 + 1 = 88)) dX8_drawn_88 (rfl : 88 + 1 = 89)) dX8_drawn_89 (rfl : 89 + 1 = 90)) (v_jald (v_gfr kX8 lk1012 (by decide) rfl (v_aload_n (i := 0) dX8_drawn_90 rfl (rfl : 90 + 1 = 91)) dX8_drawn_91 (rfl : 91 + 3 = 94)) (v_iald (v_gfr kX8 lk998 (by decide) rfl (v_aload_n (i := 0) dX8_drawn_94 rfl (rfl : 94 + 1 = 95)) dX8_drawn_95 (rfl : 95 + 3 = 98)) (v_iload_n (i := 3) dX8_drawn_98 rfl (rfl : 98 + 1 = 99)) dX8_drawn_99 (rfl : 99 + 1 = 100)) dX8_drawn_100 (rfl : 100 + 1 = 101)) dX8_drawn_101 (rfl : 101 + 1 = 102)) (v_aj (v_gfj kX8 lk1013 (by decide) rfl (v_aload_n (i := 0) dX8_drawn_102 rfl (rfl : 102 + 1 = 103)) dX8_drawn_103 (rfl : 103 + 3 = 106)) (v_ai (v_iload_n (i := 2) dX8_drawn_106 rfl (rfl : 106 + 1 = 107)) v_anil))) dX8_drawn_107 (rfl : 107 + 3 = 110))) dX8_drawn_110))))))
theorem IX8_drawn : Mj yX8_drawn cX8_drawn 4 (rmk 6 134) DX8_drawn := mk_j (by decide +kernel) BX8_drawn

theorem dX8_isWatch_0 : decode cX8_isWatch 0 = .ok (.iload_n 1, 1) := by decide +kernel
theorem dX8_isWatch_1 : decode cX8_isWatch 1 = .ok (.i2l, 1) := by decide +kernel
theorem dX8_isWatch_2 : decode cX8_isWatch 2 = .ok (.lconst 0, 1) := by decide +kernel
theorem dX8_isWatch_3 : decode cX8_isWatch 3 = .ok (.aload_n 0, 1) := by decide +kernel
theorem dX8_isWatch_4 : decode cX8_isWatch 4 = .ok (.getfield 13, 3) := by decide +kernel
theorem dX8_isWatch_7 : decode cX8_isWatch 7 = .ok (.iconst 3, 1) := by decide +kernel
theorem dX8_isWatch_8 : decode cX8_isWatch 8 = .ok (.iaload, 1) := by decide +kernel
theorem dX8_isWatch_9 : decode cX8_isWatch 9 = .ok (.i2l, 1) := by decide +kernel
theorem dX8_isWatch_10 : decode cX8_isWatch 10 = .ok (.lconst 1, 1) := by decide +kernel
theorem dX8_isWatch_11 : decode cX8_isWatch 11 = .ok (.lsub, 1) := by decide +kernel
theorem dX8_isWatch_12 : decode cX8_isWatch 12 = .ok (.invokestatic 105, 3) := by decide +kernel
theorem dX8_isWatch_15 : decode cX8_isWatch 15 = .ok (.ireturn, 1) := by decide +kernel
noncomputable def EX8_isWatch : Sx := (sret (csz DX8_in (aj (i2l (il 1)) (aj (jk 0) (aj (j2 (· - ·) (i2l (iald (fgr 7 3 (rl 0)) (ik 3))) (jk 1)) anil)))))
noncomputable def DX8_isWatch : Fz := mfz 2 EX8_isWatch
set_option maxRecDepth 4000 in
theorem BX8_isWatch : Vs RX8 cX8_isWatch 2 (rmk 1 25) 0 0 EX8_isWatch := (v_ret (v_csz IX8_in hX8_in lk1120 ⟨by decide, by decide⟩ (by decide) (v_aj (v_i2l (v_iload_n (i := 1) dX8_isWatch_0 rfl (rfl : 0 + 1 = 1)) dX8_isWatch_1 (rfl : 1 + 1 = 2)) (v_aj (v_lconst (v := 0) dX8_isWatch_2 (by decide) (rfl : 2 + 1 = 3)) (v_aj (v_lsub (v_i2l (v_iald (v_gfr kX8 lk998 (by decide) rfl (v_aload_n (i := 0) dX8_isWatch_3 rfl (rfl : 3 + 1 = 4)) dX8_isWatch_4 (rfl : 4 + 3 = 7)) (v_iconst (v := 3) dX8_isWatch_7 (by decide) (rfl : 7 + 1 = 8)) dX8_isWatch_8 (rfl : 8 + 1 = 9)) dX8_isWatch_9 (rfl : 9 + 1 = 10)) (v_lconst (v := 1) dX8_isWatch_10 (by decide) (rfl : 10 + 1 = 11)) dX8_isWatch_11 (rfl : 11 + 1 = 12)) v_anil))) dX8_isWatch_12 (rfl : 12 + 3 = 15)) dX8_isWatch_15)
theorem IX8_isWatch : Mz yX8_isWatch cX8_isWatch 2 (rmk 1 25) DX8_isWatch := mk_z (by decide +kernel) BX8_isWatch

theorem dX8_watchAt_0 : decode cX8_watchAt 0 = .ok (.bipush 95, 2) := by decide +kernel
theorem dX8_watchAt_2 : decode cX8_watchAt 2 = .ok (.bipush 6, 2) := by decide +kernel
theorem dX8_watchAt_4 : decode cX8_watchAt 4 = .ok (.iload_n 0, 1) := by decide +kernel
theorem dX8_watchAt_5 : decode cX8_watchAt 5 = .ok (.imul, 1) := by decide +kernel
theorem dX8_watchAt_6 : decode cX8_watchAt 6 = .ok (.iadd, 1) := by decide +kernel
theorem dX8_watchAt_7 : decode cX8_watchAt 7 = .ok (.ireturn, 1) := by decide +kernel
noncomputable def EX8_watchAt : Sx := (sret (i2 (· + ·) (ik 95) (i2 (· * ·) (ik 6) (il 0))))
noncomputable def DX8_watchAt : Fi := mfi 1 EX8_watchAt
set_option maxRecDepth 4000 in
theorem BX8_watchAt : Vs RX8 cX8_watchAt 1 (rmk 0 0) 0 0 EX8_watchAt := (v_ret (v_iadd (v_bipush (v := 95) dX8_watchAt_0 (by decide) (rfl : 0 + 2 = 2)) (v_imul (v_bipush (v := 6) dX8_watchAt_2 (by decide) (rfl : 2 + 2 = 4)) (v_iload_n (i := 0) dX8_watchAt_4 rfl (rfl : 4 + 1 = 5)) dX8_watchAt_5 (rfl : 5 + 1 = 6)) dX8_watchAt_6 (rfl : 6 + 1 = 7)) dX8_watchAt_7)
theorem IX8_watchAt : Mi yX8_watchAt cX8_watchAt 1 (rmk 0 0) DX8_watchAt := mk_i (by decide +kernel) BX8_watchAt

theorem dX8_drop_0 : decode cX8_drop 0 = .ok (.aload_n 0, 1) := by decide +kernel
theorem dX8_drop_1 : decode cX8_drop 1 = .ok (.iconst 0, 1) := by decide +kernel
theorem dX8_drop_2 : decode cX8_drop 2 = .ok (.putfield 84, 3) := by decide +kernel
theorem dX8_drop_5 : decode cX8_drop 5 = .ok (.aload_n 0, 1) := by decide +kernel
theorem dX8_drop_6 : decode cX8_drop 6 = .ok (.iload_n 1, 1) := by decide +kernel
theorem dX8_drop_7 : decode cX8_drop 7 = .ok (.invokevirtual 174, 3) := by decide +kernel
theorem dX8_drop_10 : decode cX8_drop 10 = .ok (.ifCond .ne 10, 3) := by decide +kernel
theorem dX8_drop_13 : decode cX8_drop 13 = .ok (.aload_n 0, 1) := by decide +kernel
theorem dX8_drop_14 : decode cX8_drop 14 = .ok (.bipush (-2), 2) := by decide +kernel
theorem dX8_drop_16 : decode cX8_drop 16 = .ok (.invokevirtual 98, 3) := by decide +kernel
theorem dX8_drop_19 : decode cX8_drop 19 = .ok (.ireturn, 1) := by decide +kernel
theorem dX8_drop_20 : decode cX8_drop 20 = .ok (.aload_n 0, 1) := by decide +kernel
theorem dX8_drop_21 : decode cX8_drop 21 = .ok (.bipush 9, 2) := by decide +kernel
theorem dX8_drop_23 : decode cX8_drop 23 = .ok (.invokevirtual 136, 3) := by decide +kernel
theorem dX8_drop_26 : decode cX8_drop 26 = .ok (.aload_n 0, 1) := by decide +kernel
theorem dX8_drop_27 : decode cX8_drop 27 = .ok (.getfield 13, 3) := by decide +kernel
theorem dX8_drop_30 : decode cX8_drop 30 = .ok (.iconst 3, 1) := by decide +kernel
theorem dX8_drop_31 : decode cX8_drop 31 = .ok (.dup2, 1) := by decide +kernel
theorem dX8_drop_32 : decode cX8_drop 32 = .ok (.iaload, 1) := by decide +kernel
theorem dX8_drop_33 : decode cX8_drop 33 = .ok (.iconst 1, 1) := by decide +kernel
theorem dX8_drop_34 : decode cX8_drop 34 = .ok (.isub, 1) := by decide +kernel
theorem dX8_drop_35 : decode cX8_drop 35 = .ok (.iastore, 1) := by decide +kernel
theorem dX8_drop_36 : decode cX8_drop 36 = .ok (.iload_n 1, 1) := by decide +kernel
theorem dX8_drop_37 : decode cX8_drop 37 = .ok (.invokestatic 171, 3) := by decide +kernel
theorem dX8_drop_40 : decode cX8_drop 40 = .ok (.istore_n 2, 1) := by decide +kernel
theorem dX8_drop_41 : decode cX8_drop 41 = .ok (.iload_n 2, 1) := by decide +kernel
theorem dX8_drop_42 : decode cX8_drop 42 = .ok (.aload_n 0, 1) := by decide +kernel
theorem dX8_drop_43 : decode cX8_drop 43 = .ok (.getfield 13, 3) := by decide +kernel
theorem dX8_drop_46 : decode cX8_drop 46 = .ok (.iconst 3, 1) := by decide +kernel
theorem dX8_drop_47 : decode cX8_drop 47 = .ok (.iaload, 1) := by decide +kernel
theorem dX8_drop_48 : decode cX8_drop 48 = .ok (.invokestatic 171, 3) := by decide +kernel
theorem dX8_drop_51 : decode cX8_drop 51 = .ok (.if_icmp .ge 24, 3) := by decide +kernel
theorem dX8_drop_54 : decode cX8_drop 54 = .ok (.aload_n 0, 1) := by decide +kernel
theorem dX8_drop_55 : decode cX8_drop 55 = .ok (.getfield 13, 3) := by decide +kernel
theorem dX8_drop_58 : decode cX8_drop 58 = .ok (.iload_n 2, 1) := by decide +kernel
theorem dX8_drop_59 : decode cX8_drop 59 = .ok (.aload_n 0, 1) := by decide +kernel
theorem dX8_drop_60 : decode cX8_drop 60 = .ok (.getfield 13, 3) := by decide +kernel
theorem dX8_drop_63 : decode cX8_drop 63 = .ok (.iload_n 2, 1) := by decide +kernel
theorem dX8_drop_64 : decode cX8_drop 64 = .ok (.bipush 6, 2) := by decide +kernel
theorem dX8_drop_66 : decode cX8_drop 66 = .ok (.iadd, 1) := by decide +kernel
theorem dX8_drop_67 : decode cX8_drop 67 = .ok (.iaload, 1) := by decide +kernel
theorem dX8_drop_68 : decode cX8_drop 68 = .ok (.iastore, 1) := by decide +kernel
theorem dX8_drop_69 : decode cX8_drop 69 = .ok (.iinc 2 1, 3) := by decide +kernel
theorem dX8_drop_72 : decode cX8_drop 72 = .ok (.goto (-31), 3) := by decide +kernel
theorem dX8_drop_75 : decode cX8_drop 75 = .ok (.aload_n 0, 1) := by decide +kernel
theorem dX8_drop_76 : decode cX8_drop 76 = .ok (.aload_n 0, 1) := by decide +kernel
theorem dX8_drop_77 : decode cX8_drop 77 = .ok (.getfield 13, 3) := by decide +kernel
theorem dX8_drop_80 : decode cX8_drop 80 = .ok (.iconst 3, 1) := by decide +kernel
theorem dX8_drop_81 : decode cX8_drop 81 = .ok (.iaload, 1) := by decide +kernel
theorem dX8_drop_82 : decode cX8_drop 82 = .ok (.invokevirtual 102, 3) := by decide +kernel
theorem dX8_drop_85 : decode cX8_drop 85 = .ok (.ireturn, 1) := by decide +kernel
noncomputable def qX8_drop_1 : Bx := (bc clt (il 2) (csi DX8_watchAt (ai (iald (fgr 7 3 (rl 0)) (ik 3)) anil)))
noncomputable def wX8_drop_1 : Sx := (sseq (aii (fgr 7 3 (rl 0)) (il 2) (iald (fgr 7 3 (rl 0)) (i2 (· + ·) (il 2) (ik 6)))) (sinc 2 1))
noncomputable def EX8_drop : Sx := (sseq (fpi 7 0 (rl 0) (ik 0)) (sseq (sif (bnot (bz cne (cvz 7 DX8_isWatch (rl 0) (ai (il 1) anil)))) (sret (cvi 7 DX8_refuse (rl 0) (ai (ik (-2)) anil))) snop) (sseq (scv 7 DX8_remember (rl 0) (ai (ik 9) anil)) (sseq (aoi (· - ·) (fgr 7 3 (rl 0)) (ik 3) (ik 1)) (sseq (scut 2 (sseq (ssi 2 (csi DX8_watchAt (ai (il 1) anil))) (swh qX8_drop_1 wX8_drop_1))) (sret (cvi 7 DX8_tell (rl 0) (ai (iald (fgr 7 3 (rl 0)) (ik 3)) anil))))))))
noncomputable def DX8_drop : Fi := mfi 3 EX8_drop
set_option maxRecDepth 4000 in
theorem BX8_drop : Vs RX8 cX8_drop 3 (rmk 2 46) 0 0 EX8_drop := (v_seq (v_fpi kX8 lk995 (by decide) rfl rfl (by decide +kernel) (v_aload_n (i := 0) dX8_drop_0 rfl (rfl : 0 + 1 = 1)) (v_iconst (v := 0) dX8_drop_1 (by decide) (rfl : 1 + 1 = 2)) dX8_drop_2 (rfl : 2 + 3 = 5)) (v_seq (v_if (v_not (v_zne_t (v_cvz kX8 IX8_isWatch hX8_isWatch lk1225 ⟨by decide, by decide⟩ (by decide) (v_aload_n (i := 0) dX8_drop_5 rfl (rfl : 5 + 1 = 6)) (v_ai (v_iload_n (i := 1) dX8_drop_6 rfl (rfl : 6 + 1 = 7)) v_anil) dX8_drop_7 (rfl : 7 + 3 = 10)) dX8_drop_10 (rfl : ((10 : Nat) : Int) + 10 = ((20 : Nat) : Int)) (rfl : 10 + 3 = 13))) (v_ret (v_cvi kX8 IX8_refuse hX8_refuse lk1105 ⟨by decide, by decide⟩ (by decide) (v_aload_n (i := 0) dX8_drop_13 rfl (rfl : 13 + 1 = 14)) (v_ai (v_bipush (v := (-2)) dX8_drop_14 (by decide) (rfl : 14 + 2 = 16)) v_anil) dX8_drop_16 (rfl : 16 + 3 = 19)) dX8_drop_19) v_nop) (v_seq (v_scv kX8 IX8_remember hX8_remember lk1133 ⟨by decide, by decide⟩ (v_aload_n (i := 0) dX8_drop_20 rfl (rfl : 20 + 1 = 21)) (v_ai (v_bipush (v := 9) dX8_drop_21 (by decide) (rfl : 21 + 2 = 23)) v_anil) dX8_drop_23 (rfl : 23 + 3 = 26)) (v_seq (v_aoi_isub (v_gfr kX8 lk998 (by decide) rfl (v_aload_n (i := 0) dX8_drop_26 rfl (rfl : 26 + 1 = 27)) dX8_drop_27 (rfl : 27 + 3 = 30)) (v_iconst (v := 3) dX8_drop_30 (by decide) (rfl : 30 + 1 = 31)) dX8_drop_31 dX8_drop_32 (rfl : 31 + 1 + 1 = 33) (v_iconst (v := 1) dX8_drop_33 (by decide) (rfl : 33 + 1 = 34)) dX8_drop_34 dX8_drop_35 (rfl : 34 + 1 + 1 = 36)) (v_seq (v_cut (n := 2) (v_seq (v_istore_n (i := 2) (v_csi IX8_watchAt hX8_watchAt lk1218 ⟨by decide, by decide⟩ (by decide) (v_ai (v_iload_n (i := 1) dX8_drop_36 rfl (rfl : 36 + 1 = 37)) v_anil) dX8_drop_37 (rfl : 37 + 3 = 40)) dX8_drop_40 rfl (by decide) (rfl : 40 + 1 = 41)) (v_wh (v_ilt_f (v_iload_n (i := 2) dX8_drop_41 rfl (rfl : 41 + 1 = 42)) (v_csi IX8_watchAt hX8_watchAt lk1218 ⟨by decide, by decide⟩ (by decide) (v_ai (v_iald (v_gfr kX8 lk998 (by decide) rfl (v_aload_n (i := 0) dX8_drop_42 rfl (rfl : 42 + 1 = 43)) dX8_drop_43 (rfl : 43 + 3 = 46)) (v_iconst (v := 3) dX8_drop_46 (by decide) (rfl : 46 + 1 = 47)) dX8_drop_47 (rfl : 47 + 1 = 48)) v_anil) dX8_drop_48 (rfl : 48 + 3 = 51)) dX8_drop_51 (rfl : ((51 : Nat) : Int) + 24 = ((75 : Nat) : Int)) (rfl : 51 + 3 = 54)) (vs_goto (v_seq (v_aii (v_gfr kX8 lk998 (by decide) rfl (v_aload_n (i := 0) dX8_drop_54 rfl (rfl : 54 + 1 = 55)) dX8_drop_55 (rfl : 55 + 3 = 58)) (v_iload_n (i := 2) dX8_drop_58 rfl (rfl : 58 + 1 = 59)) (v_iald (v_gfr kX8 lk998 (by decide) rfl (v_aload_n (i := 0) dX8_drop_59 rfl (rfl : 59 + 1 = 60)) dX8_drop_60 (rfl : 60 + 3 = 63)) (v_iadd (v_iload_n (i := 2) dX8_drop_63 rfl (rfl : 63 + 1 = 64)) (v_bipush (v := 6) dX8_drop_64 (by decide) (rfl : 64 + 2 = 66)) dX8_drop_66 (rfl : 66 + 1 = 67)) dX8_drop_67 (rfl : 67 + 1 = 68)) dX8_drop_68 (rfl : 68 + 1 = 69)) (v_iinc (v := 1) dX8_drop_69 (by decide) (by decide) (rfl : 69 + 3 = 72))) dX8_drop_72 (rfl : ((72 : Nat) : Int) + (-31) = ((41 : Nat) : Int)))))) (v_ret (v_cvi kX8 IX8_tell hX8_tell lk1112 ⟨by decide, by decide⟩ (by decide) (v_aload_n (i := 0) dX8_drop_75 rfl (rfl : 75 + 1 = 76)) (v_ai (v_iald (v_gfr kX8 lk998 (by decide) rfl (v_aload_n (i := 0) dX8_drop_76 rfl (rfl : 76 + 1 = 77)) dX8_drop_77 (rfl : 77 + 3 = 80)) (v_iconst (v := 3) dX8_drop_80 (by decide) (rfl : 80 + 1 = 81)) dX8_drop_81 (rfl : 81 + 1 = 82)) v_anil) dX8_drop_82 (rfl : 82 + 3 = 85)) dX8_drop_85))))))
theorem IX8_drop : Mi yX8_drop cX8_drop 3 (rmk 2 46) DX8_drop := mk_i (by decide +kernel) BX8_drop

theorem dX8_fed_0 : decode cX8_fed 0 = .ok (.aload_n 0, 1) := by decide +kernel
theorem dX8_fed_1 : decode cX8_fed 1 = .ok (.iconst 0, 1) := by decide +kernel
theorem dX8_fed_2 : decode cX8_fed 2 = .ok (.putfield 84, 3) := by decide +kernel
theorem dX8_fed_5 : decode cX8_fed 5 = .ok (.aload_n 0, 1) := by decide +kernel
theorem dX8_fed_6 : decode cX8_fed 6 = .ok (.iload_n 1, 1) := by decide +kernel
theorem dX8_fed_7 : decode cX8_fed 7 = .ok (.invokevirtual 109, 3) := by decide +kernel
theorem dX8_fed_10 : decode cX8_fed 10 = .ok (.ifCond .eq 7, 3) := by decide +kernel
theorem dX8_fed_13 : decode cX8_fed 13 = .ok (.iload_n 2, 1) := by decide +kernel
theorem dX8_fed_14 : decode cX8_fed 14 = .ok (.ifCond .ge 5, 3) := by decide +kernel
theorem dX8_fed_17 : decode cX8_fed 17 = .ok (.iconst (-1), 1) := by decide +kernel
theorem dX8_fed_18 : decode cX8_fed 18 = .ok (.ireturn, 1) := by decide +kernel
theorem dX8_fed_19 : decode cX8_fed 19 = .ok (.iload_n 1, 1) := by decide +kernel
theorem dX8_fed_20 : decode cX8_fed 20 = .ok (.invokestatic 122, 3) := by decide +kernel
theorem dX8_fed_23 : decode cX8_fed 23 = .ok (.iconst 0, 1) := by decide +kernel
theorem dX8_fed_24 : decode cX8_fed 24 = .ok (.iadd, 1) := by decide +kernel
theorem dX8_fed_25 : decode cX8_fed 25 = .ok (.istore_n 3, 1) := by decide +kernel
theorem dX8_fed_26 : decode cX8_fed 26 = .ok (.aload_n 0, 1) := by decide +kernel
theorem dX8_fed_27 : decode cX8_fed 27 = .ok (.getfield 13, 3) := by decide +kernel
theorem dX8_fed_30 : decode cX8_fed 30 = .ok (.iload_n 3, 1) := by decide +kernel
theorem dX8_fed_31 : decode cX8_fed 31 = .ok (.iaload, 1) := by decide +kernel
theorem dX8_fed_32 : decode cX8_fed 32 = .ok (.istore 4, 2) := by decide +kernel
theorem dX8_fed_34 : decode cX8_fed 34 = .ok (.iconst (-1), 1) := by decide +kernel
theorem dX8_fed_35 : decode cX8_fed 35 = .ok (.istore 5, 2) := by decide +kernel
theorem dX8_fed_37 : decode cX8_fed 37 = .ok (.iconst 0, 1) := by decide +kernel
theorem dX8_fed_38 : decode cX8_fed 38 = .ok (.istore 6, 2) := by decide +kernel
theorem dX8_fed_40 : decode cX8_fed 40 = .ok (.iload 6, 2) := by decide +kernel
theorem dX8_fed_42 : decode cX8_fed 42 = .ok (.bipush 100, 2) := by decide +kernel
theorem dX8_fed_44 : decode cX8_fed 44 = .ok (.if_icmp .ge 34, 3) := by decide +kernel
theorem dX8_fed_47 : decode cX8_fed 47 = .ok (.aload_n 0, 1) := by decide +kernel
theorem dX8_fed_48 : decode cX8_fed 48 = .ok (.getfield 13, 3) := by decide +kernel
theorem dX8_fed_51 : decode cX8_fed 51 = .ok (.iload_n 3, 1) := by decide +kernel
theorem dX8_fed_52 : decode cX8_fed 52 = .ok (.iload 6, 2) := by decide +kernel
theorem dX8_fed_54 : decode cX8_fed 54 = .ok (.iastore, 1) := by decide +kernel
theorem dX8_fed_55 : decode cX8_fed 55 = .ok (.aload_n 0, 1) := by decide +kernel
theorem dX8_fed_56 : decode cX8_fed 56 = .ok (.iload_n 2, 1) := by decide +kernel
theorem dX8_fed_57 : decode cX8_fed 57 = .ok (.invokevirtual 355, 3) := by decide +kernel
theorem dX8_fed_60 : decode cX8_fed 60 = .ok (.ifCond .eq 8, 3) := by decide +kernel
theorem dX8_fed_63 : decode cX8_fed 63 = .ok (.iload 6, 2) := by decide +kernel
theorem dX8_fed_65 : decode cX8_fed 65 = .ok (.goto 5, 3) := by decide +kernel
theorem dX8_fed_68 : decode cX8_fed 68 = .ok (.iload 5, 2) := by decide +kernel
theorem dX8_fed_70 : decode cX8_fed 70 = .ok (.istore 5, 2) := by decide +kernel
theorem dX8_fed_72 : decode cX8_fed 72 = .ok (.iinc 6 1, 3) := by decide +kernel
theorem dX8_fed_75 : decode cX8_fed 75 = .ok (.goto (-35), 3) := by decide +kernel
theorem dX8_fed_78 : decode cX8_fed 78 = .ok (.aload_n 0, 1) := by decide +kernel
theorem dX8_fed_79 : decode cX8_fed 79 = .ok (.getfield 13, 3) := by decide +kernel
theorem dX8_fed_82 : decode cX8_fed 82 = .ok (.iload_n 3, 1) := by decide +kernel
theorem dX8_fed_83 : decode cX8_fed 83 = .ok (.iload 4, 2) := by decide +kernel
theorem dX8_fed_85 : decode cX8_fed 85 = .ok (.iastore, 1) := by decide +kernel
theorem dX8_fed_86 : decode cX8_fed 86 = .ok (.iload 5, 2) := by decide +kernel
theorem dX8_fed_88 : decode cX8_fed 88 = .ok (.ireturn, 1) := by decide +kernel
noncomputable def qX8_fed_1 : Bx := (bc clt (il 6) (ik 100))
noncomputable def wX8_fed_1 : Sx := (sseq (sseq (aii (fgr 7 3 (rl 0)) (il 3) (il 6)) (ssi 5 (ic (bz cne (cvz 7 DX8_areBelow (rl 0) (ai (il 2) anil))) (il 6) (il 5)))) (sinc 6 1))
noncomputable def EX8_fed : Sx := (sseq (fpi 7 0 (rl 0) (ik 0)) (sseq (sif (bor (bnot (bz cne (cvz 7 DX8_isChamber (rl 0) (ai (il 1) anil)))) (bz clt (il 2))) (sret (ik (-1))) snop) (sseq (ssi 3 (i2 (· + ·) (csi DX8_chamberAt (ai (il 1) anil)) (ik 0))) (sseq (ssi 4 (iald (fgr 7 3 (rl 0)) (il 3))) (sseq (ssi 5 (ik (-1))) (sseq (scut 6 (sseq (ssi 6 (ik 0)) (swh qX8_fed_1 wX8_fed_1))) (sseq (aii (fgr 7 3 (rl 0)) (il 3) (il 4)) (sret (il 5)))))))))
noncomputable def DX8_fed : Fi := mfi 7 EX8_fed
set_option maxRecDepth 4000 in
theorem BX8_fed : Vs RX8 cX8_fed 7 (rmk 7 155) 0 0 EX8_fed := (v_seq (v_fpi kX8 lk995 (by decide) rfl rfl (by decide +kernel) (v_aload_n (i := 0) dX8_fed_0 rfl (rfl : 0 + 1 = 1)) (v_iconst (v := 0) dX8_fed_1 (by decide) (rfl : 1 + 1 = 2)) dX8_fed_2 (rfl : 2 + 3 = 5)) (v_seq (v_if (v_or (v_not (v_zne_f (v_cvz kX8 IX8_isChamber hX8_isChamber lk1145 ⟨by decide, by decide⟩ (by decide) (v_aload_n (i := 0) dX8_fed_5 rfl (rfl : 5 + 1 = 6)) (v_ai (v_iload_n (i := 1) dX8_fed_6 rfl (rfl : 6 + 1 = 7)) v_anil) dX8_fed_7 (rfl : 7 + 3 = 10)) dX8_fed_10 (rfl : ((10 : Nat) : Int) + 7 = ((17 : Nat) : Int)) (rfl : 10 + 3 = 13))) (v_zlt_f (v_iload_n (i := 2) dX8_fed_13 rfl (rfl : 13 + 1 = 14)) dX8_fed_14 (rfl : ((14 : Nat) : Int) + 5 = ((19 : Nat) : Int)) (rfl : 14 + 3 = 17))) (v_ret (v_iconst (v := (-1)) dX8_fed_17 (by decide) (rfl : 17 + 1 = 18)) dX8_fed_18) v_nop) (v_seq (v_istore_n (i := 3) (v_iadd (v_csi IX8_chamberAt hX8_chamberAt lk1137 ⟨by decide, by decide⟩ (by decide) (v_ai (v_iload_n (i := 1) dX8_fed_19 rfl (rfl : 19 + 1 = 20)) v_anil) dX8_fed_20 (rfl : 20 + 3 = 23)) (v_iconst (v := 0) dX8_fed_23 (by decide) (rfl : 23 + 1 = 24)) dX8_fed_24 (rfl : 24 + 1 = 25)) dX8_fed_25 rfl (by decide) (rfl : 25 + 1 = 26)) (v_seq (v_istore (i := 4) (v_iald (v_gfr kX8 lk998 (by decide) rfl (v_aload_n (i := 0) dX8_fed_26 rfl (rfl : 26 + 1 = 27)) dX8_fed_27 (rfl : 27 + 3 = 30)) (v_iload_n (i := 3) dX8_fed_30 rfl (rfl : 30 + 1 = 31)) dX8_fed_31 (rfl : 31 + 1 = 32)) dX8_fed_32 (by decide) (rfl : 32 + 2 = 34)) (v_seq (v_istore (i := 5) (v_iconst (v := (-1)) dX8_fed_34 (by decide) (rfl : 34 + 1 = 35)) dX8_fed_35 (by decide) (rfl : 35 + 2 = 37)) (v_seq (v_cut (n := 6) (v_seq (v_istore (i := 6) (v_iconst (v := 0) dX8_fed_37 (by decide) (rfl : 37 + 1 = 38)) dX8_fed_38 (by decide) (rfl : 38 + 2 = 40)) (v_wh (v_ilt_f (v_iload (i := 6) dX8_fed_40 (rfl : 40 + 2 = 42)) (v_bipush (v := 100) dX8_fed_42 (by decide) (rfl : 42 + 2 = 44)) dX8_fed_44 (rfl : ((44 : Nat) : Int) + 34 = ((78 : Nat) : Int)) (rfl : 44 + 3 = 47)) (vs_goto (v_seq (v_seq (v_aii (v_gfr kX8 lk998 (by decide) rfl (v_aload_n (i := 0) dX8_fed_47 rfl (rfl : 47 + 1 = 48)) dX8_fed_48 (rfl : 48 + 3 = 51)) (v_iload_n (i := 3) dX8_fed_51 rfl (rfl : 51 + 1 = 52)) (v_iload (i := 6) dX8_fed_52 (rfl : 52 + 2 = 54)) dX8_fed_54 (rfl : 54 + 1 = 55)) (v_istore (i := 5) (v_ic (v_zne_f (v_cvz kX8 IX8_areBelow hX8_areBelow lk1464 ⟨by decide, by decide⟩ (by decide) (v_aload_n (i := 0) dX8_fed_55 rfl (rfl : 55 + 1 = 56)) (v_ai (v_iload_n (i := 2) dX8_fed_56 rfl (rfl : 56 + 1 = 57)) v_anil) dX8_fed_57 (rfl : 57 + 3 = 60)) dX8_fed_60 (rfl : ((60 : Nat) : Int) + 8 = ((68 : Nat) : Int)) (rfl : 60 + 3 = 63)) (vi_goto (v_iload (i := 6) dX8_fed_63 (rfl : 63 + 2 = 65)) dX8_fed_65 (rfl : ((65 : Nat) : Int) + 5 = ((70 : Nat) : Int))) (v_iload (i := 5) dX8_fed_68 (rfl : 68 + 2 = 70))) dX8_fed_70 (by decide) (rfl : 70 + 2 = 72))) (v_iinc (v := 1) dX8_fed_72 (by decide) (by decide) (rfl : 72 + 3 = 75))) dX8_fed_75 (rfl : ((75 : Nat) : Int) + (-35) = ((40 : Nat) : Int)))))) (v_seq (v_aii (v_gfr kX8 lk998 (by decide) rfl (v_aload_n (i := 0) dX8_fed_78 rfl (rfl : 78 + 1 = 79)) dX8_fed_79 (rfl : 79 + 3 = 82)) (v_iload_n (i := 3) dX8_fed_82 rfl (rfl : 82 + 1 = 83)) (v_iload (i := 4) dX8_fed_83 (rfl : 83 + 2 = 85)) dX8_fed_85 (rfl : 85 + 1 = 86)) (v_ret (v_iload (i := 5) dX8_fed_86 (rfl : 86 + 2 = 88)) dX8_fed_88))))))))
theorem IX8_fed : Mi yX8_fed cX8_fed 7 (rmk 7 155) DX8_fed := mk_i (by decide +kernel) BX8_fed

theorem dX8_firstTripped_0 : decode cX8_firstTripped 0 = .ok (.iconst (-1), 1) := by decide +kernel
theorem dX8_firstTripped_1 : decode cX8_firstTripped 1 = .ok (.istore_n 1, 1) := by decide +kernel
theorem dX8_firstTripped_2 : decode cX8_firstTripped 2 = .ok (.aload_n 0, 1) := by decide +kernel
theorem dX8_firstTripped_3 : decode cX8_firstTripped 3 = .ok (.getfield 13, 3) := by decide +kernel
theorem dX8_firstTripped_6 : decode cX8_firstTripped 6 = .ok (.iconst 2, 1) := by decide +kernel
theorem dX8_firstTripped_7 : decode cX8_firstTripped 7 = .ok (.iaload, 1) := by decide +kernel
theorem dX8_firstTripped_8 : decode cX8_firstTripped 8 = .ok (.iconst 1, 1) := by decide +kernel
theorem dX8_firstTripped_9 : decode cX8_firstTripped 9 = .ok (.isub, 1) := by decide +kernel
theorem dX8_firstTripped_10 : decode cX8_firstTripped 10 = .ok (.istore_n 2, 1) := by decide +kernel
theorem dX8_firstTripped_11 : decode cX8_firstTripped 11 = .ok (.iload_n 2, 1) := by decide +kernel
theorem dX8_firstTripped_12 : decode cX8_firstTripped 12 = .ok (.ifCond .lt 42, 3) := by decide +kernel
theorem dX8_firstTripped_15 : decode cX8_firstTripped 15 = .ok (.aload_n 0, 1) := by decide +kernel
theorem dX8_firstTripped_16 : decode cX8_firstTripped 16 = .ok (.getfield 13, 3) := by decide +kernel
theorem dX8_firstTripped_19 : decode cX8_firstTripped 19 = .ok (.iload_n 2, 1) := by decide +kernel
theorem dX8_firstTripped_20 : decode cX8_firstTripped 20 = .ok (.invokestatic 119, 3) := by decide +kernel
theorem dX8_firstTripped_23 : decode cX8_firstTripped 23 = .ok (.bipush 8, 2) := by decide +kernel
theorem dX8_firstTripped_25 : decode cX8_firstTripped 25 = .ok (.iadd, 1) := by decide +kernel
theorem dX8_firstTripped_26 : decode cX8_firstTripped 26 = .ok (.iaload, 1) := by decide +kernel
theorem dX8_firstTripped_27 : decode cX8_firstTripped 27 = .ok (.aload_n 0, 1) := by decide +kernel
theorem dX8_firstTripped_28 : decode cX8_firstTripped 28 = .ok (.getfield 29, 3) := by decide +kernel
theorem dX8_firstTripped_31 : decode cX8_firstTripped 31 = .ok (.iload_n 2, 1) := by decide +kernel
theorem dX8_firstTripped_32 : decode cX8_firstTripped 32 = .ok (.invokestatic 119, 3) := by decide +kernel
theorem dX8_firstTripped_35 : decode cX8_firstTripped 35 = .ok (.bipush 8, 2) := by decide +kernel
theorem dX8_firstTripped_37 : decode cX8_firstTripped 37 = .ok (.iadd, 1) := by decide +kernel
theorem dX8_firstTripped_38 : decode cX8_firstTripped 38 = .ok (.iaload, 1) := by decide +kernel
theorem dX8_firstTripped_39 : decode cX8_firstTripped 39 = .ok (.if_icmp .le 7, 3) := by decide +kernel
theorem dX8_firstTripped_42 : decode cX8_firstTripped 42 = .ok (.iload_n 2, 1) := by decide +kernel
theorem dX8_firstTripped_43 : decode cX8_firstTripped 43 = .ok (.goto 4, 3) := by decide +kernel
theorem dX8_firstTripped_46 : decode cX8_firstTripped 46 = .ok (.iload_n 1, 1) := by decide +kernel
theorem dX8_firstTripped_47 : decode cX8_firstTripped 47 = .ok (.istore_n 1, 1) := by decide +kernel
theorem dX8_firstTripped_48 : decode cX8_firstTripped 48 = .ok (.iinc 2 (-1), 3) := by decide +kernel
theorem dX8_firstTripped_51 : decode cX8_firstTripped 51 = .ok (.goto (-40), 3) := by decide +kernel
theorem dX8_firstTripped_54 : decode cX8_firstTripped 54 = .ok (.iload_n 1, 1) := by decide +kernel
theorem dX8_firstTripped_55 : decode cX8_firstTripped 55 = .ok (.ireturn, 1) := by decide +kernel
noncomputable def qX8_firstTripped_1 : Bx := (bz cge (il 2))
noncomputable def wX8_firstTripped_1 : Sx := (sseq (ssi 1 (ic (bc cgt (iald (fgr 7 3 (rl 0)) (i2 (· + ·) (csi DX8_pumpAt (ai (il 2) anil)) (ik 8))) (iald (fgr 7 9 (rl 0)) (i2 (· + ·) (csi DX8_pumpAt (ai (il 2) anil)) (ik 8)))) (il 2) (il 1))) (sinc 2 (-1)))
noncomputable def EX8_firstTripped : Sx := (sseq (ssi 1 (ik (-1))) (sseq (scut 2 (sseq (ssi 2 (i2 (· - ·) (iald (fgr 7 3 (rl 0)) (ik 2)) (ik 1))) (swh qX8_firstTripped_1 wX8_firstTripped_1))) (sret (il 1))))
noncomputable def DX8_firstTripped : Fi := mfi 3 EX8_firstTripped
set_option maxRecDepth 4000 in
theorem BX8_firstTripped : Vs RX8 cX8_firstTripped 3 (rmk 1 20) 0 0 EX8_firstTripped := (v_seq (v_istore_n (i := 1) (v_iconst (v := (-1)) dX8_firstTripped_0 (by decide) (rfl : 0 + 1 = 1)) dX8_firstTripped_1 rfl (by decide) (rfl : 1 + 1 = 2)) (v_seq (v_cut (n := 2) (v_seq (v_istore_n (i := 2) (v_isub (v_iald (v_gfr kX8 lk998 (by decide) rfl (v_aload_n (i := 0) dX8_firstTripped_2 rfl (rfl : 2 + 1 = 3)) dX8_firstTripped_3 (rfl : 3 + 3 = 6)) (v_iconst (v := 2) dX8_firstTripped_6 (by decide) (rfl : 6 + 1 = 7)) dX8_firstTripped_7 (rfl : 7 + 1 = 8)) (v_iconst (v := 1) dX8_firstTripped_8 (by decide) (rfl : 8 + 1 = 9)) dX8_firstTripped_9 (rfl : 9 + 1 = 10)) dX8_firstTripped_10 rfl (by decide) (rfl : 10 + 1 = 11)) (v_wh (v_zge_f (v_iload_n (i := 2) dX8_firstTripped_11 rfl (rfl : 11 + 1 = 12)) dX8_firstTripped_12 (rfl : ((12 : Nat) : Int) + 42 = ((54 : Nat) : Int)) (rfl : 12 + 3 = 15)) (vs_goto (v_seq (v_istore_n (i := 1) (v_ic (v_igt_f (v_iald (v_gfr kX8 lk998 (by decide) rfl (v_aload_n (i := 0) dX8_firstTripped_15 rfl (rfl : 15 + 1 = 16)) dX8_firstTripped_16 (rfl : 16 + 3 = 19)) (v_iadd (v_csi IX8_pumpAt hX8_pumpAt lk1163 ⟨by decide, by decide⟩ (by decide) (v_ai (v_iload_n (i := 2) dX8_firstTripped_19 rfl (rfl : 19 + 1 = 20)) v_anil) dX8_firstTripped_20 (rfl : 20 + 3 = 23)) (v_bipush (v := 8) dX8_firstTripped_23 (by decide) (rfl : 23 + 2 = 25)) dX8_firstTripped_25 (rfl : 25 + 1 = 26)) dX8_firstTripped_26 (rfl : 26 + 1 = 27)) (v_iald (v_gfr kX8 lk1004 (by decide) rfl (v_aload_n (i := 0) dX8_firstTripped_27 rfl (rfl : 27 + 1 = 28)) dX8_firstTripped_28 (rfl : 28 + 3 = 31)) (v_iadd (v_csi IX8_pumpAt hX8_pumpAt lk1163 ⟨by decide, by decide⟩ (by decide) (v_ai (v_iload_n (i := 2) dX8_firstTripped_31 rfl (rfl : 31 + 1 = 32)) v_anil) dX8_firstTripped_32 (rfl : 32 + 3 = 35)) (v_bipush (v := 8) dX8_firstTripped_35 (by decide) (rfl : 35 + 2 = 37)) dX8_firstTripped_37 (rfl : 37 + 1 = 38)) dX8_firstTripped_38 (rfl : 38 + 1 = 39)) dX8_firstTripped_39 (rfl : ((39 : Nat) : Int) + 7 = ((46 : Nat) : Int)) (rfl : 39 + 3 = 42)) (vi_goto (v_iload_n (i := 2) dX8_firstTripped_42 rfl (rfl : 42 + 1 = 43)) dX8_firstTripped_43 (rfl : ((43 : Nat) : Int) + 4 = ((47 : Nat) : Int))) (v_iload_n (i := 1) dX8_firstTripped_46 rfl (rfl : 46 + 1 = 47))) dX8_firstTripped_47 rfl (by decide) (rfl : 47 + 1 = 48)) (v_iinc (v := (-1)) dX8_firstTripped_48 (by decide) (by decide) (rfl : 48 + 3 = 51))) dX8_firstTripped_51 (rfl : ((51 : Nat) : Int) + (-40) = ((11 : Nat) : Int)))))) (v_ret (v_iload_n (i := 1) dX8_firstTripped_54 rfl (rfl : 54 + 1 = 55)) dX8_firstTripped_55)))
theorem IX8_firstTripped : Mi yX8_firstTripped cX8_firstTripped 3 (rmk 1 20) DX8_firstTripped := mk_i (by decide +kernel) BX8_firstTripped

theorem dX8_flow_0 : decode cX8_flow 0 = .ok (.aload_n 0, 1) := by decide +kernel
theorem dX8_flow_1 : decode cX8_flow 1 = .ok (.iconst 0, 1) := by decide +kernel
theorem dX8_flow_2 : decode cX8_flow 2 = .ok (.putfield 84, 3) := by decide +kernel
theorem dX8_flow_5 : decode cX8_flow 5 = .ok (.aload_n 0, 1) := by decide +kernel
theorem dX8_flow_6 : decode cX8_flow 6 = .ok (.iload_n 1, 1) := by decide +kernel
theorem dX8_flow_7 : decode cX8_flow 7 = .ok (.invokevirtual 113, 3) := by decide +kernel
theorem dX8_flow_10 : decode cX8_flow 10 = .ok (.ifCond .eq 13, 3) := by decide +kernel
theorem dX8_flow_13 : decode cX8_flow 13 = .ok (.iload_n 2, 1) := by decide +kernel
theorem dX8_flow_14 : decode cX8_flow 14 = .ok (.i2l, 1) := by decide +kernel
theorem dX8_flow_15 : decode cX8_flow 15 = .ok (.lconst 0, 1) := by decide +kernel
theorem dX8_flow_16 : decode cX8_flow 16 = .ok (.lconst 1, 1) := by decide +kernel
theorem dX8_flow_17 : decode cX8_flow 17 = .ok (.invokestatic 105, 3) := by decide +kernel
theorem dX8_flow_20 : decode cX8_flow 20 = .ok (.ifCond .ne 7, 3) := by decide +kernel
theorem dX8_flow_23 : decode cX8_flow 23 = .ok (.ldc2_w 295, 3) := by decide +kernel
theorem dX8_flow_26 : decode cX8_flow 26 = .ok (.lreturn, 1) := by decide +kernel
theorem dX8_flow_27 : decode cX8_flow 27 = .ok (.iload_n 1, 1) := by decide +kernel
theorem dX8_flow_28 : decode cX8_flow 28 = .ok (.invokestatic 116, 3) := by decide +kernel
theorem dX8_flow_31 : decode cX8_flow 31 = .ok (.istore_n 3, 1) := by decide +kernel
theorem dX8_flow_32 : decode cX8_flow 32 = .ok (.aload_n 0, 1) := by decide +kernel
theorem dX8_flow_33 : decode cX8_flow 33 = .ok (.invokevirtual 254, 3) := by decide +kernel
theorem dX8_flow_36 : decode cX8_flow 36 = .ok (.istore 4, 2) := by decide +kernel
theorem dX8_flow_38 : decode cX8_flow 38 = .ok (.iload 4, 2) := by decide +kernel
theorem dX8_flow_40 : decode cX8_flow 40 = .ok (.ifCond .eq 14, 3) := by decide +kernel
theorem dX8_flow_43 : decode cX8_flow 43 = .ok (.aload_n 0, 1) := by decide +kernel
theorem dX8_flow_44 : decode cX8_flow 44 = .ok (.iload_n 1, 1) := by decide +kernel
theorem dX8_flow_45 : decode cX8_flow 45 = .ok (.invokevirtual 177, 3) := by decide +kernel
theorem dX8_flow_48 : decode cX8_flow 48 = .ok (.ifCond .ne 6, 3) := by decide +kernel
theorem dX8_flow_51 : decode cX8_flow 51 = .ok (.iload_n 2, 1) := by decide +kernel
theorem dX8_flow_52 : decode cX8_flow 52 = .ok (.i2l, 1) := by decide +kernel
theorem dX8_flow_53 : decode cX8_flow 53 = .ok (.lreturn, 1) := by decide +kernel
theorem dX8_flow_54 : decode cX8_flow 54 = .ok (.iload 4, 2) := by decide +kernel
theorem dX8_flow_56 : decode cX8_flow 56 = .ok (.ifCond .eq 17, 3) := by decide +kernel
theorem dX8_flow_59 : decode cX8_flow 59 = .ok (.aload_n 0, 1) := by decide +kernel
theorem dX8_flow_60 : decode cX8_flow 60 = .ok (.getfield 54, 3) := by decide +kernel
theorem dX8_flow_63 : decode cX8_flow 63 = .ok (.aload_n 0, 1) := by decide +kernel
theorem dX8_flow_64 : decode cX8_flow 64 = .ok (.getfield 13, 3) := by decide +kernel
theorem dX8_flow_67 : decode cX8_flow 67 = .ok (.iload_n 3, 1) := by decide +kernel
theorem dX8_flow_68 : decode cX8_flow 68 = .ok (.iaload, 1) := by decide +kernel
theorem dX8_flow_69 : decode cX8_flow 69 = .ok (.baload, 1) := by decide +kernel
theorem dX8_flow_70 : decode cX8_flow 70 = .ok (.ifCond .eq 7, 3) := by decide +kernel
theorem dX8_flow_73 : decode cX8_flow 73 = .ok (.ldc2_w 295, 3) := by decide +kernel
theorem dX8_flow_76 : decode cX8_flow 76 = .ok (.lreturn, 1) := by decide +kernel
theorem dX8_flow_77 : decode cX8_flow 77 = .ok (.aload_n 0, 1) := by decide +kernel
theorem dX8_flow_78 : decode cX8_flow 78 = .ok (.getfield 13, 3) := by decide +kernel
theorem dX8_flow_81 : decode cX8_flow 81 = .ok (.iload_n 3, 1) := by decide +kernel
theorem dX8_flow_82 : decode cX8_flow 82 = .ok (.iconst 2, 1) := by decide +kernel
theorem dX8_flow_83 : decode cX8_flow 83 = .ok (.iadd, 1) := by decide +kernel
theorem dX8_flow_84 : decode cX8_flow 84 = .ok (.iaload, 1) := by decide +kernel
theorem dX8_flow_85 : decode cX8_flow 85 = .ok (.i2l, 1) := by decide +kernel
theorem dX8_flow_86 : decode cX8_flow 86 = .ok (.aload_n 0, 1) := by decide +kernel
theorem dX8_flow_87 : decode cX8_flow 87 = .ok (.getfield 51, 3) := by decide +kernel
theorem dX8_flow_90 : decode cX8_flow 90 = .ok (.aload_n 0, 1) := by decide +kernel
theorem dX8_flow_91 : decode cX8_flow 91 = .ok (.getfield 13, 3) := by decide +kernel
theorem dX8_flow_94 : decode cX8_flow 94 = .ok (.iload_n 3, 1) := by decide +kernel
theorem dX8_flow_95 : decode cX8_flow 95 = .ok (.iaload, 1) := by decide +kernel
theorem dX8_flow_96 : decode cX8_flow 96 = .ok (.laload, 1) := by decide +kernel
theorem dX8_flow_97 : decode cX8_flow 97 = .ok (.aload_n 0, 1) := by decide +kernel
theorem dX8_flow_98 : decode cX8_flow 98 = .ok (.getfield 51, 3) := by decide +kernel
theorem dX8_flow_101 : decode cX8_flow 101 = .ok (.aload_n 0, 1) := by decide +kernel
theorem dX8_flow_102 : decode cX8_flow 102 = .ok (.getfield 13, 3) := by decide +kernel
theorem dX8_flow_105 : decode cX8_flow 105 = .ok (.iload_n 3, 1) := by decide +kernel
theorem dX8_flow_106 : decode cX8_flow 106 = .ok (.iconst 1, 1) := by decide +kernel
theorem dX8_flow_107 : decode cX8_flow 107 = .ok (.iadd, 1) := by decide +kernel
theorem dX8_flow_108 : decode cX8_flow 108 = .ok (.iaload, 1) := by decide +kernel
theorem dX8_flow_109 : decode cX8_flow 109 = .ok (.laload, 1) := by decide +kernel
theorem dX8_flow_110 : decode cX8_flow 110 = .ok (.lsub, 1) := by decide +kernel
theorem dX8_flow_111 : decode cX8_flow 111 = .ok (.lmul, 1) := by decide +kernel
theorem dX8_flow_112 : decode cX8_flow 112 = .ok (.aload_n 0, 1) := by decide +kernel
theorem dX8_flow_113 : decode cX8_flow 113 = .ok (.getfield 219, 3) := by decide +kernel
theorem dX8_flow_116 : decode cX8_flow 116 = .ok (.iload_n 2, 1) := by decide +kernel
theorem dX8_flow_117 : decode cX8_flow 117 = .ok (.invokestatic 289, 3) := by decide +kernel
theorem dX8_flow_120 : decode cX8_flow 120 = .ok (.lreturn, 1) := by decide +kernel
noncomputable def EX8_flow : Sx := (sseq (fpi 7 0 (rl 0) (ik 0)) (sseq (sif (bor (bnot (bz cne (cvz 7 DX8_isTube (rl 0) (ai (il 1) anil)))) (bnot (bz cne (csz DX8_in (aj (i2l (il 2)) (aj (jk 0) (aj (jk 1) anil))))))) (sretj (jk (-2147483648))) snop) (sseq (ssi 3 (csi DX8_tubeAt (ai (il 1) anil))) (sseq (ssi 4 (cvz 7 DX8_reckonNow (rl 0) anil)) (sseq (sif (band (bz cne (il 4)) (bnot (bz cne (cvz 7 DX8_isOpen (rl 0) (ai (il 1) anil))))) (sretj (i2l (il 2))) snop) (sseq (sif (bor (bnot (bz cne (il 4))) (bz cne (zald (fgr 7 19 (rl 0)) (iald (fgr 7 3 (rl 0)) (il 3))))) (sretj (jk (-2147483648))) snop) (sretj (csj DX8_lowest (aj (j2 (· * ·) (i2l (iald (fgr 7 3 (rl 0)) (i2 (· + ·) (il 3) (ik 2)))) (j2 (· - ·) (jald (fgr 7 17 (rl 0)) (iald (fgr 7 3 (rl 0)) (il 3))) (jald (fgr 7 17 (rl 0)) (iald (fgr 7 3 (rl 0)) (i2 (· + ·) (il 3) (ik 1)))))) (aj (fgj 7 18 (rl 0)) (ai (il 2) anil)))))))))))
noncomputable def DX8_flow : Fj := mfj 5 EX8_flow
set_option maxRecDepth 4000 in
theorem BX8_flow : Vs RX8 cX8_flow 5 (rmk 6 134) 0 0 EX8_flow := (v_seq (v_fpi kX8 lk995 (by decide) rfl rfl (by decide +kernel) (v_aload_n (i := 0) dX8_flow_0 rfl (rfl : 0 + 1 = 1)) (v_iconst (v := 0) dX8_flow_1 (by decide) (rfl : 1 + 1 = 2)) dX8_flow_2 (rfl : 2 + 3 = 5)) (v_seq (v_if (v_or (v_not (v_zne_f (v_cvz kX8 IX8_isTube hX8_isTube lk1195 ⟨by decide, by decide⟩ (by decide) (v_aload_n (i := 0) dX8_flow_5 rfl (rfl : 5 + 1 = 6)) (v_ai (v_iload_n (i := 1) dX8_flow_6 rfl (rfl : 6 + 1 = 7)) v_anil) dX8_flow_7 (rfl : 7 + 3 = 10)) dX8_flow_10 (rfl : ((10 : Nat) : Int) + 13 = ((23 : Nat) : Int)) (rfl : 10 + 3 = 13))) (v_not (v_zne_t (v_csz IX8_in hX8_in lk1120 ⟨by decide, by decide⟩ (by decide) (v_aj (v_i2l (v_iload_n (i := 2) dX8_flow_13 rfl (rfl : 13 + 1 = 14)) dX8_flow_14 (rfl : 14 + 1 = 15)) (v_aj (v_lconst (v := 0) dX8_flow_15 (by decide) (rfl : 15 + 1 = 16)) (v_aj (v_lconst (v := 1) dX8_flow_16 (by decide) (rfl : 16 + 1 = 17)) v_anil))) dX8_flow_17 (rfl : 17 + 3 = 20)) dX8_flow_20 (rfl : ((20 : Nat) : Int) + 7 = ((27 : Nat) : Int)) (rfl : 20 + 3 = 23)))) (v_retj (v_ldc2 (v := (-2147483648)) lk1360 dX8_flow_23 (rfl : 23 + 3 = 26)) dX8_flow_26) v_nop) (v_seq (v_istore_n (i := 3) (v_csi IX8_tubeAt hX8_tubeAt lk1160 ⟨by decide, by decide⟩ (by decide) (v_ai (v_iload_n (i := 1) dX8_flow_27 rfl (rfl : 27 + 1 = 28)) v_anil) dX8_flow_28 (rfl : 28 + 3 = 31)) dX8_flow_31 rfl (by decide) (rfl : 31 + 1 = 32)) (v_seq (v_istore (i := 4) (v_cvz kX8 IX8_reckonNow hX8_reckonNow lk1241 ⟨by decide, by decide⟩ (by decide) (v_aload_n (i := 0) dX8_flow_32 rfl (rfl : 32 + 1 = 33)) v_anil dX8_flow_33 (rfl : 33 + 3 = 36)) dX8_flow_36 (by decide) (rfl : 36 + 2 = 38)) (v_seq (v_if (v_and (v_zne_f (v_iload (i := 4) dX8_flow_38 (rfl : 38 + 2 = 40)) dX8_flow_40 (rfl : ((40 : Nat) : Int) + 14 = ((54 : Nat) : Int)) (rfl : 40 + 3 = 43)) (v_not (v_zne_t (v_cvz kX8 IX8_isOpen hX8_isOpen lk1257 ⟨by decide, by decide⟩ (by decide) (v_aload_n (i := 0) dX8_flow_43 rfl (rfl : 43 + 1 = 44)) (v_ai (v_iload_n (i := 1) dX8_flow_44 rfl (rfl : 44 + 1 = 45)) v_anil) dX8_flow_45 (rfl : 45 + 3 = 48)) dX8_flow_48 (rfl : ((48 : Nat) : Int) + 6 = ((54 : Nat) : Int)) (rfl : 48 + 3 = 51)))) (v_retj (v_i2l (v_iload_n (i := 2) dX8_flow_51 rfl (rfl : 51 + 1 = 52)) dX8_flow_52 (rfl : 52 + 1 = 53)) dX8_flow_53) v_nop) (v_seq (v_if (v_or (v_not (v_zne_f (v_iload (i := 4) dX8_flow_54 (rfl : 54 + 2 = 56)) dX8_flow_56 (rfl : ((56 : Nat) : Int) + 17 = ((73 : Nat) : Int)) (rfl : 56 + 3 = 59))) (v_zne_f (v_zald (v_gfr kX8 lk1014 (by decide) rfl (v_aload_n (i := 0) dX8_flow_59 rfl (rfl : 59 + 1 = 60)) dX8_flow_60 (rfl : 60 + 3 = 63)) (v_iald (v_gfr kX8 lk998 (by decide) rfl (v_aload_n (i := 0) dX8_flow_63 rfl (rfl : 63 + 1 = 64)) dX8_flow_64 (rfl : 64 + 3 = 67)) (v_iload_n (i := 3) dX8_flow_67 rfl (rfl : 67 + 1 = 68)) dX8_flow_68 (rfl : 68 + 1 = 69)) dX8_flow_69 (rfl : 69 + 1 = 70)) dX8_flow_70 (rfl : ((70 : Nat) : Int) + 7 = ((77 : Nat) : Int)) (rfl : 70 + 3 = 73))) (v_retj (v_ldc2 (v := (-2147483648)) lk1360 dX8_flow_73 (rfl : 73 + 3 = 76)) dX8_flow_76) v_nop) (v_retj (v_csj IX8_lowest hX8_lowest lk1346 ⟨by decide, by decide⟩ (by decide) (v_aj (v_lmul (v_i2l (v_iald (v_gfr kX8 lk998 (by decide) rfl (v_aload_n (i := 0) dX8_flow_77 rfl (rfl : 77 + 1 = 78)) dX8_flow_78 (rfl : 78 + 3 = 81)) (v_iadd (v_iload_n (i := 3) dX8_flow_81 rfl (rfl : 81 + 1 = 82)) (v_iconst (v := 2) dX8_flow_82 (by decide) (rfl : 82 + 1 = 83)) dX8_flow_83 (rfl : 83 + 1 = 84)) dX8_flow_84 (rfl : 84 + 1 = 85)) dX8_flow_85 (rfl : 85 + 1 = 86)) (v_lsub (v_jald (v_gfr kX8 lk1012 (by decide) rfl (v_aload_n (i := 0) dX8_flow_86 rfl (rfl : 86 + 1 = 87)) dX8_flow_87 (rfl : 87 + 3 = 90)) (v_iald (v_gfr kX8 lk998 (by decide) rfl (v_aload_n (i := 0) dX8_flow_90 rfl (rfl : 90 + 1 = 91)) dX8_flow_91 (rfl : 91 + 3 = 94)) (v_iload_n (i := 3) dX8_flow_94 rfl (rfl : 94 + 1 = 95)) dX8_flow_95 (rfl : 95 + 1 = 96)) dX8_flow_96 (rfl : 96 + 1 = 97)) (v_jald (v_gfr kX8 lk1012 (by decide) rfl (v_aload_n (i := 0) dX8_flow_97 rfl (rfl : 97 + 1 = 98)) dX8_flow_98 (rfl : 98 + 3 = 101)) (v_iald (v_gfr kX8 lk998 (by decide) rfl (v_aload_n (i := 0) dX8_flow_101 rfl (rfl : 101 + 1 = 102)) dX8_flow_102 (rfl : 102 + 3 = 105)) (v_iadd (v_iload_n (i := 3) dX8_flow_105 rfl (rfl : 105 + 1 = 106)) (v_iconst (v := 1) dX8_flow_106 (by decide) (rfl : 106 + 1 = 107)) dX8_flow_107 (rfl : 107 + 1 = 108)) dX8_flow_108 (rfl : 108 + 1 = 109)) dX8_flow_109 (rfl : 109 + 1 = 110)) dX8_flow_110 (rfl : 110 + 1 = 111)) dX8_flow_111 (rfl : 111 + 1 = 112)) (v_aj (v_gfj kX8 lk1013 (by decide) rfl (v_aload_n (i := 0) dX8_flow_112 rfl (rfl : 112 + 1 = 113)) dX8_flow_113 (rfl : 113 + 3 = 116)) (v_ai (v_iload_n (i := 2) dX8_flow_116 rfl (rfl : 116 + 1 = 117)) v_anil))) dX8_flow_117 (rfl : 117 + 3 = 120)) dX8_flow_120)))))))
theorem IX8_flow : Mj yX8_flow cX8_flow 5 (rmk 6 134) DX8_flow := mk_j (by decide +kernel) BX8_flow

theorem dX8_greatestReading_0 : decode cX8_greatestReading 0 = .ok (.iconst (-1), 1) := by decide +kernel
theorem dX8_greatestReading_1 : decode cX8_greatestReading 1 = .ok (.istore_n 1, 1) := by decide +kernel
theorem dX8_greatestReading_2 : decode cX8_greatestReading 2 = .ok (.iconst 0, 1) := by decide +kernel
theorem dX8_greatestReading_3 : decode cX8_greatestReading 3 = .ok (.istore_n 2, 1) := by decide +kernel
theorem dX8_greatestReading_4 : decode cX8_greatestReading 4 = .ok (.iload_n 2, 1) := by decide +kernel
theorem dX8_greatestReading_5 : decode cX8_greatestReading 5 = .ok (.aload_n 0, 1) := by decide +kernel
theorem dX8_greatestReading_6 : decode cX8_greatestReading 6 = .ok (.getfield 13, 3) := by decide +kernel
theorem dX8_greatestReading_9 : decode cX8_greatestReading 9 = .ok (.iconst 0, 1) := by decide +kernel
theorem dX8_greatestReading_10 : decode cX8_greatestReading 10 = .ok (.iaload, 1) := by decide +kernel
theorem dX8_greatestReading_11 : decode cX8_greatestReading 11 = .ok (.if_icmp .ge 26, 3) := by decide +kernel
theorem dX8_greatestReading_14 : decode cX8_greatestReading 14 = .ok (.aload_n 0, 1) := by decide +kernel
theorem dX8_greatestReading_15 : decode cX8_greatestReading 15 = .ok (.iload_n 2, 1) := by decide +kernel
theorem dX8_greatestReading_16 : decode cX8_greatestReading 16 = .ok (.invokevirtual 257, 3) := by decide +kernel
theorem dX8_greatestReading_19 : decode cX8_greatestReading 19 = .ok (.istore_n 3, 1) := by decide +kernel
theorem dX8_greatestReading_20 : decode cX8_greatestReading 20 = .ok (.iload_n 3, 1) := by decide +kernel
theorem dX8_greatestReading_21 : decode cX8_greatestReading 21 = .ok (.iload_n 1, 1) := by decide +kernel
theorem dX8_greatestReading_22 : decode cX8_greatestReading 22 = .ok (.if_icmp .le 7, 3) := by decide +kernel
theorem dX8_greatestReading_25 : decode cX8_greatestReading 25 = .ok (.iload_n 3, 1) := by decide +kernel
theorem dX8_greatestReading_26 : decode cX8_greatestReading 26 = .ok (.goto 4, 3) := by decide +kernel
theorem dX8_greatestReading_29 : decode cX8_greatestReading 29 = .ok (.iload_n 1, 1) := by decide +kernel
theorem dX8_greatestReading_30 : decode cX8_greatestReading 30 = .ok (.istore_n 1, 1) := by decide +kernel
theorem dX8_greatestReading_31 : decode cX8_greatestReading 31 = .ok (.iinc 2 1, 3) := by decide +kernel
theorem dX8_greatestReading_34 : decode cX8_greatestReading 34 = .ok (.goto (-30), 3) := by decide +kernel
theorem dX8_greatestReading_37 : decode cX8_greatestReading 37 = .ok (.iload_n 1, 1) := by decide +kernel
theorem dX8_greatestReading_38 : decode cX8_greatestReading 38 = .ok (.ireturn, 1) := by decide +kernel
noncomputable def qX8_greatestReading_1 : Bx := (bc clt (il 2) (iald (fgr 7 3 (rl 0)) (ik 0)))
noncomputable def wX8_greatestReading_1 : Sx := (sseq (scut 3 (sseq (ssi 3 (cvi 7 DX8_readingOf (rl 0) (ai (il 2) anil))) (ssi 1 (ic (bc cgt (il 3) (il 1)) (il 3) (il 1))))) (sinc 2 1))
noncomputable def EX8_greatestReading : Sx := (sseq (ssi 1 (ik (-1))) (sseq (scut 2 (sseq (ssi 2 (ik 0)) (swh qX8_greatestReading_1 wX8_greatestReading_1))) (sret (il 1))))
noncomputable def DX8_greatestReading : Fi := mfi 4 EX8_greatestReading
set_option maxRecDepth 4000 in
theorem BX8_greatestReading : Vs RX8 cX8_greatestReading 4 (rmk 1 23) 0 0 EX8_greatestReading := (v_seq (v_istore_n (i := 1) (v_iconst (v := (-1)) dX8_greatestReading_0 (by decide) (rfl : 0 + 1 = 1)) dX8_greatestReading_1 rfl (by decide) (rfl : 1 + 1 = 2)) (v_seq (v_cut (n := 2) (v_seq (v_istore_n (i := 2) (v_iconst (v := 0) dX8_greatestReading_2 (by decide) (rfl : 2 + 1 = 3)) dX8_greatestReading_3 rfl (by decide) (rfl : 3 + 1 = 4)) (v_wh (v_ilt_f (v_iload_n (i := 2) dX8_greatestReading_4 rfl (rfl : 4 + 1 = 5)) (v_iald (v_gfr kX8 lk998 (by decide) rfl (v_aload_n (i := 0) dX8_greatestReading_5 rfl (rfl : 5 + 1 = 6)) dX8_greatestReading_6 (rfl : 6 + 3 = 9)) (v_iconst (v := 0) dX8_greatestReading_9 (by decide) (rfl : 9 + 1 = 10)) dX8_greatestReading_10 (rfl : 10 + 1 = 11)) dX8_greatestReading_11 (rfl : ((11 : Nat) : Int) + 26 = ((37 : Nat) : Int)) (rfl : 11 + 3 = 14)) (vs_goto (v_seq (v_cut (n := 3) (v_seq (v_istore_n (i := 3) (v_cvi kX8 IX8_readingOf hX8_readingOf lk1309 ⟨by decide, by decide⟩ (by decide) (v_aload_n (i := 0) dX8_greatestReading_14 rfl (rfl : 14 + 1 = 15)) (v_ai (v_iload_n (i := 2) dX8_greatestReading_15 rfl (rfl : 15 + 1 = 16)) v_anil) dX8_greatestReading_16 (rfl : 16 + 3 = 19)) dX8_greatestReading_19 rfl (by decide) (rfl : 19 + 1 = 20)) (v_istore_n (i := 1) (v_ic (v_igt_f (v_iload_n (i := 3) dX8_greatestReading_20 rfl (rfl : 20 + 1 = 21)) (v_iload_n (i := 1) dX8_greatestReading_21 rfl (rfl : 21 + 1 = 22)) dX8_greatestReading_22 (rfl : ((22 : Nat) : Int) + 7 = ((29 : Nat) : Int)) (rfl : 22 + 3 = 25)) (vi_goto (v_iload_n (i := 3) dX8_greatestReading_25 rfl (rfl : 25 + 1 = 26)) dX8_greatestReading_26 (rfl : ((26 : Nat) : Int) + 4 = ((30 : Nat) : Int))) (v_iload_n (i := 1) dX8_greatestReading_29 rfl (rfl : 29 + 1 = 30))) dX8_greatestReading_30 rfl (by decide) (rfl : 30 + 1 = 31)))) (v_iinc (v := 1) dX8_greatestReading_31 (by decide) (by decide) (rfl : 31 + 3 = 34))) dX8_greatestReading_34 (rfl : ((34 : Nat) : Int) + (-30) = ((4 : Nat) : Int)))))) (v_ret (v_iload_n (i := 1) dX8_greatestReading_37 rfl (rfl : 37 + 1 = 38)) dX8_greatestReading_38)))
theorem IX8_greatestReading : Mi yX8_greatestReading cX8_greatestReading 4 (rmk 1 23) DX8_greatestReading := mk_i (by decide +kernel) BX8_greatestReading

theorem dX8_hangs_0 : decode cX8_hangs 0 = .ok (.iconst 1, 1) := by decide +kernel
theorem dX8_hangs_1 : decode cX8_hangs 1 = .ok (.iload_n 1, 1) := by decide +kernel
theorem dX8_hangs_2 : decode cX8_hangs 2 = .ok (.ishl, 1) := by decide +kernel
theorem dX8_hangs_3 : decode cX8_hangs 3 = .ok (.istore 4, 2) := by decide +kernel
theorem dX8_hangs_5 : decode cX8_hangs 5 = .ok (.iconst 0, 1) := by decide +kernel
theorem dX8_hangs_6 : decode cX8_hangs 6 = .ok (.istore 5, 2) := by decide +kernel
theorem dX8_hangs_8 : decode cX8_hangs 8 = .ok (.iload 5, 2) := by decide +kernel
theorem dX8_hangs_10 : decode cX8_hangs 10 = .ok (.iconst 5, 1) := by decide +kernel
theorem dX8_hangs_11 : decode cX8_hangs 11 = .ok (.if_icmp .ge 107, 3) := by decide +kernel
theorem dX8_hangs_14 : decode cX8_hangs 14 = .ok (.iconst 0, 1) := by decide +kernel
theorem dX8_hangs_15 : decode cX8_hangs 15 = .ok (.istore 6, 2) := by decide +kernel
theorem dX8_hangs_17 : decode cX8_hangs 17 = .ok (.iload 6, 2) := by decide +kernel
theorem dX8_hangs_19 : decode cX8_hangs 19 = .ok (.aload_n 0, 1) := by decide +kernel
theorem dX8_hangs_20 : decode cX8_hangs 20 = .ok (.getfield 13, 3) := by decide +kernel
theorem dX8_hangs_23 : decode cX8_hangs 23 = .ok (.iconst 1, 1) := by decide +kernel
theorem dX8_hangs_24 : decode cX8_hangs 24 = .ok (.iaload, 1) := by decide +kernel
theorem dX8_hangs_25 : decode cX8_hangs 25 = .ok (.if_icmp .ge 87, 3) := by decide +kernel
theorem dX8_hangs_28 : decode cX8_hangs 28 = .ok (.iconst 1, 1) := by decide +kernel
theorem dX8_hangs_29 : decode cX8_hangs 29 = .ok (.aload_n 0, 1) := by decide +kernel
theorem dX8_hangs_30 : decode cX8_hangs 30 = .ok (.getfield 13, 3) := by decide +kernel
theorem dX8_hangs_33 : decode cX8_hangs 33 = .ok (.iload 6, 2) := by decide +kernel
theorem dX8_hangs_35 : decode cX8_hangs 35 = .ok (.invokestatic 116, 3) := by decide +kernel
theorem dX8_hangs_38 : decode cX8_hangs 38 = .ok (.iaload, 1) := by decide +kernel
theorem dX8_hangs_39 : decode cX8_hangs 39 = .ok (.ishl, 1) := by decide +kernel
theorem dX8_hangs_40 : decode cX8_hangs 40 = .ok (.iconst 1, 1) := by decide +kernel
theorem dX8_hangs_41 : decode cX8_hangs 41 = .ok (.aload_n 0, 1) := by decide +kernel
theorem dX8_hangs_42 : decode cX8_hangs 42 = .ok (.getfield 13, 3) := by decide +kernel
theorem dX8_hangs_45 : decode cX8_hangs 45 = .ok (.iload 6, 2) := by decide +kernel
theorem dX8_hangs_47 : decode cX8_hangs 47 = .ok (.invokestatic 116, 3) := by decide +kernel
theorem dX8_hangs_50 : decode cX8_hangs 50 = .ok (.iconst 1, 1) := by decide +kernel
theorem dX8_hangs_51 : decode cX8_hangs 51 = .ok (.iadd, 1) := by decide +kernel
theorem dX8_hangs_52 : decode cX8_hangs 52 = .ok (.iaload, 1) := by decide +kernel
theorem dX8_hangs_53 : decode cX8_hangs 53 = .ok (.ishl, 1) := by decide +kernel
theorem dX8_hangs_54 : decode cX8_hangs 54 = .ok (.ior, 1) := by decide +kernel
theorem dX8_hangs_55 : decode cX8_hangs 55 = .ok (.istore 7, 2) := by decide +kernel
theorem dX8_hangs_57 : decode cX8_hangs 57 = .ok (.aload_n 0, 1) := by decide +kernel
theorem dX8_hangs_58 : decode cX8_hangs 58 = .ok (.iload 6, 2) := by decide +kernel
theorem dX8_hangs_60 : decode cX8_hangs 60 = .ok (.invokevirtual 177, 3) := by decide +kernel
theorem dX8_hangs_63 : decode cX8_hangs 63 = .ok (.ifCond .eq 24, 3) := by decide +kernel
theorem dX8_hangs_66 : decode cX8_hangs 66 = .ok (.iload_n 3, 1) := by decide +kernel
theorem dX8_hangs_67 : decode cX8_hangs 67 = .ok (.iload 6, 2) := by decide +kernel
theorem dX8_hangs_69 : decode cX8_hangs 69 = .ok (.ishr, 1) := by decide +kernel
theorem dX8_hangs_70 : decode cX8_hangs 70 = .ok (.iconst 1, 1) := by decide +kernel
theorem dX8_hangs_71 : decode cX8_hangs 71 = .ok (.iand, 1) := by decide +kernel
theorem dX8_hangs_72 : decode cX8_hangs 72 = .ok (.ifCond .ne 15, 3) := by decide +kernel
theorem dX8_hangs_75 : decode cX8_hangs 75 = .ok (.iload 7, 2) := by decide +kernel
theorem dX8_hangs_77 : decode cX8_hangs 77 = .ok (.iload 4, 2) := by decide +kernel
theorem dX8_hangs_79 : decode cX8_hangs 79 = .ok (.iand, 1) := by decide +kernel
theorem dX8_hangs_80 : decode cX8_hangs 80 = .ok (.ifCond .eq 7, 3) := by decide +kernel
theorem dX8_hangs_83 : decode cX8_hangs 83 = .ok (.iconst 1, 1) := by decide +kernel
theorem dX8_hangs_84 : decode cX8_hangs 84 = .ok (.goto 4, 3) := by decide +kernel
theorem dX8_hangs_87 : decode cX8_hangs 87 = .ok (.iconst 0, 1) := by decide +kernel
theorem dX8_hangs_88 : decode cX8_hangs 88 = .ok (.istore 8, 2) := by decide +kernel
theorem dX8_hangs_90 : decode cX8_hangs 90 = .ok (.iload 4, 2) := by decide +kernel
theorem dX8_hangs_92 : decode cX8_hangs 92 = .ok (.iload 8, 2) := by decide +kernel
theorem dX8_hangs_94 : decode cX8_hangs 94 = .ok (.ifCond .eq 8, 3) := by decide +kernel
theorem dX8_hangs_97 : decode cX8_hangs 97 = .ok (.iload 7, 2) := by decide +kernel
theorem dX8_hangs_99 : decode cX8_hangs 99 = .ok (.goto 4, 3) := by decide +kernel
theorem dX8_hangs_102 : decode cX8_hangs 102 = .ok (.iconst 0, 1) := by decide +kernel
theorem dX8_hangs_103 : decode cX8_hangs 103 = .ok (.ior, 1) := by decide +kernel
theorem dX8_hangs_104 : decode cX8_hangs 104 = .ok (.istore 4, 2) := by decide +kernel
theorem dX8_hangs_106 : decode cX8_hangs 106 = .ok (.iinc 6 1, 3) := by decide +kernel
theorem dX8_hangs_109 : decode cX8_hangs 109 = .ok (.goto (-92), 3) := by decide +kernel
theorem dX8_hangs_112 : decode cX8_hangs 112 = .ok (.iinc 5 1, 3) := by decide +kernel
theorem dX8_hangs_115 : decode cX8_hangs 115 = .ok (.goto (-107), 3) := by decide +kernel
theorem dX8_hangs_118 : decode cX8_hangs 118 = .ok (.iload 4, 2) := by decide +kernel
theorem dX8_hangs_120 : decode cX8_hangs 120 = .ok (.iload_n 2, 1) := by decide +kernel
theorem dX8_hangs_121 : decode cX8_hangs 121 = .ok (.ishr, 1) := by decide +kernel
theorem dX8_hangs_122 : decode cX8_hangs 122 = .ok (.iconst 1, 1) := by decide +kernel
theorem dX8_hangs_123 : decode cX8_hangs 123 = .ok (.iand, 1) := by decide +kernel
theorem dX8_hangs_124 : decode cX8_hangs 124 = .ok (.iconst 1, 1) := by decide +kernel
theorem dX8_hangs_125 : decode cX8_hangs 125 = .ok (.if_icmp .ne 7, 3) := by decide +kernel
theorem dX8_hangs_128 : decode cX8_hangs 128 = .ok (.iconst 1, 1) := by decide +kernel
theorem dX8_hangs_129 : decode cX8_hangs 129 = .ok (.goto 4, 3) := by decide +kernel
theorem dX8_hangs_132 : decode cX8_hangs 132 = .ok (.iconst 0, 1) := by decide +kernel
theorem dX8_hangs_133 : decode cX8_hangs 133 = .ok (.ireturn, 1) := by decide +kernel
noncomputable def qX8_hangs_1 : Bx := (bc clt (il 6) (iald (fgr 7 3 (rl 0)) (ik 1)))
noncomputable def wX8_hangs_1 : Sx := (sseq (scut 7 (sseq (ssi 7 (i2 (· ||| ·) (i2 oshl (ik 1) (iald (fgr 7 3 (rl 0)) (csi DX8_tubeAt (ai (il 6) anil)))) (i2 oshl (ik 1) (iald (fgr 7 3 (rl 0)) (i2 (· + ·) (csi DX8_tubeAt (ai (il 6) anil)) (ik 1)))))) (sseq (ssi 8 (ic (band (band (bz cne (cvz 7 DX8_isOpen (rl 0) (ai (il 6) anil))) (bz ceq (i2 (· &&& ·) (i2 oshr (il 3) (il 6)) (ik 1)))) (bz cne (i2 (· &&& ·) (il 7) (il 4)))) (ik 1) (ik 0))) (ssi 4 (i2 (· ||| ·) (il 4) (ic (bz cne (il 8)) (il 7) (ik 0))))))) (sinc 6 1))
noncomputable def qX8_hangs_2 : Bx := (bc clt (il 5) (ik 5))
noncomputable def wX8_hangs_2 : Sx := (sseq (scut 6 (sseq (ssi 6 (ik 0)) (swh qX8_hangs_1 wX8_hangs_1))) (sinc 5 1))
noncomputable def EX8_hangs : Sx := (sseq (ssi 4 (i2 oshl (ik 1) (il 1))) (sseq (scut 5 (sseq (ssi 5 (ik 0)) (swh qX8_hangs_2 wX8_hangs_2))) (sret (ic (bc ceq (i2 (· &&& ·) (i2 oshr (il 4) (il 2)) (ik 1)) (ik 1)) (ik 1) (ik 0)))))
noncomputable def DX8_hangs : Fz := mfz 9 EX8_hangs
set_option maxRecDepth 4000 in
theorem BX8_hangs : Vs RX8 cX8_hangs 9 (rmk 2 41) 0 0 EX8_hangs := (v_seq (v_istore (i := 4) (v_ishl (v_iconst (v := 1) dX8_hangs_0 (by decide) (rfl : 0 + 1 = 1)) (v_iload_n (i := 1) dX8_hangs_1 rfl (rfl : 1 + 1 = 2)) dX8_hangs_2 (rfl : 2 + 1 = 3)) dX8_hangs_3 (by decide) (rfl : 3 + 2 = 5)) (v_seq (v_cut (n := 5) (v_seq (v_istore (i := 5) (v_iconst (v := 0) dX8_hangs_5 (by decide) (rfl : 5 + 1 = 6)) dX8_hangs_6 (by decide) (rfl : 6 + 2 = 8)) (v_wh (v_ilt_f (v_iload (i := 5) dX8_hangs_8 (rfl : 8 + 2 = 10)) (v_iconst (v := 5) dX8_hangs_10 (by decide) (rfl : 10 + 1 = 11)) dX8_hangs_11 (rfl : ((11 : Nat) : Int) + 107 = ((118 : Nat) : Int)) (rfl : 11 + 3 = 14)) (vs_goto (v_seq (v_cut (n := 6) (v_seq (v_istore (i := 6) (v_iconst (v := 0) dX8_hangs_14 (by decide) (rfl : 14 + 1 = 15)) dX8_hangs_15 (by decide) (rfl : 15 + 2 = 17)) (v_wh (v_ilt_f (v_iload (i := 6) dX8_hangs_17 (rfl : 17 + 2 = 19)) (v_iald (v_gfr kX8 lk998 (by decide) rfl (v_aload_n (i := 0) dX8_hangs_19 rfl (rfl : 19 + 1 = 20)) dX8_hangs_20 (rfl : 20 + 3 = 23)) (v_iconst (v := 1) dX8_hangs_23 (by decide) (rfl : 23 + 1 = 24)) dX8_hangs_24 (rfl : 24 + 1 = 25)) dX8_hangs_25 (rfl : ((25 : Nat) : Int) + 87 = ((112 : Nat) : Int)) (rfl : 25 + 3 = 28)) (vs_goto (v_seq (v_cut (n := 7) (v_seq (v_istore (i := 7) (v_ior (v_ishl (v_iconst (v := 1) dX8_hangs_28 (by decide) (rfl : 28 + 1 = 29)) (v_iald (v_gfr kX8 lk998 (by decide) rfl (v_aload_n (i := 0) dX8_hangs_29 rfl (rfl : 29 + 1 = 30)) dX8_hangs_30 (rfl : 30 + 3 = 33)) (v_csi IX8_tubeAt hX8_tubeAt lk1160 ⟨by decide, by decide⟩ (by decide) (v_ai (v_iload (i := 6) dX8_hangs_33 (rfl : 33 + 2 = 35)) v_anil) dX8_hangs_35 (rfl : 35 + 3 = 38)) dX8_hangs_38 (rfl : 38 + 1 = 39)) dX8_hangs_39 (rfl : 39 + 1 = 40)) (v_ishl (v_iconst (v := 1) dX8_hangs_40 (by decide) (rfl : 40 + 1 = 41)) (v_iald (v_gfr kX8 lk998 (by decide) rfl (v_aload_n (i := 0) dX8_hangs_41 rfl (rfl : 41 + 1 = 42)) dX8_hangs_42 (rfl : 42 + 3 = 45)) (v_iadd (v_csi IX8_tubeAt hX8_tubeAt lk1160 ⟨by decide, by decide⟩ (by decide) (v_ai (v_iload (i := 6) dX8_hangs_45 (rfl : 45 + 2 = 47)) v_anil) dX8_hangs_47 (rfl : 47 + 3 = 50)) (v_iconst (v := 1) dX8_hangs_50 (by decide) (rfl : 50 + 1 = 51)) dX8_hangs_51 (rfl : 51 + 1 = 52)) dX8_hangs_52 (rfl : 52 + 1 = 53)) dX8_hangs_53 (rfl : 53 + 1 = 54)) dX8_hangs_54 (rfl : 54 + 1 = 55)) dX8_hangs_55 (by decide) (rfl : 55 + 2 = 57)) (v_seq (v_istore (i := 8) (v_ic (v_and (v_and (v_zne_f (v_cvz kX8 IX8_isOpen hX8_isOpen lk1257 ⟨by decide, by decide⟩ (by decide) (v_aload_n (i := 0) dX8_hangs_57 rfl (rfl : 57 + 1 = 58)) (v_ai (v_iload (i := 6) dX8_hangs_58 (rfl : 58 + 2 = 60)) v_anil) dX8_hangs_60 (rfl : 60 + 3 = 63)) dX8_hangs_63 (rfl : ((63 : Nat) : Int) + 24 = ((87 : Nat) : Int)) (rfl : 63 + 3 = 66)) (v_zeq_f (v_iand (v_ishr (v_iload_n (i := 3) dX8_hangs_66 rfl (rfl : 66 + 1 = 67)) (v_iload (i := 6) dX8_hangs_67 (rfl : 67 + 2 = 69)) dX8_hangs_69 (rfl : 69 + 1 = 70)) (v_iconst (v := 1) dX8_hangs_70 (by decide) (rfl : 70 + 1 = 71)) dX8_hangs_71 (rfl : 71 + 1 = 72)) dX8_hangs_72 (rfl : ((72 : Nat) : Int) + 15 = ((87 : Nat) : Int)) (rfl : 72 + 3 = 75))) (v_zne_f (v_iand (v_iload (i := 7) dX8_hangs_75 (rfl : 75 + 2 = 77)) (v_iload (i := 4) dX8_hangs_77 (rfl : 77 + 2 = 79)) dX8_hangs_79 (rfl : 79 + 1 = 80)) dX8_hangs_80 (rfl : ((80 : Nat) : Int) + 7 = ((87 : Nat) : Int)) (rfl : 80 + 3 = 83))) (vi_goto (v_iconst (v := 1) dX8_hangs_83 (by decide) (rfl : 83 + 1 = 84)) dX8_hangs_84 (rfl : ((84 : Nat) : Int) + 4 = ((88 : Nat) : Int))) (v_iconst (v := 0) dX8_hangs_87 (by decide) (rfl : 87 + 1 = 88))) dX8_hangs_88 (by decide) (rfl : 88 + 2 = 90)) (v_istore (i := 4) (v_ior (v_iload (i := 4) dX8_hangs_90 (rfl : 90 + 2 = 92)) (v_ic (v_zne_f (v_iload (i := 8) dX8_hangs_92 (rfl : 92 + 2 = 94)) dX8_hangs_94 (rfl : ((94 : Nat) : Int) + 8 = ((102 : Nat) : Int)) (rfl : 94 + 3 = 97)) (vi_goto (v_iload (i := 7) dX8_hangs_97 (rfl : 97 + 2 = 99)) dX8_hangs_99 (rfl : ((99 : Nat) : Int) + 4 = ((103 : Nat) : Int))) (v_iconst (v := 0) dX8_hangs_102 (by decide) (rfl : 102 + 1 = 103))) dX8_hangs_103 (rfl : 103 + 1 = 104)) dX8_hangs_104 (by decide) (rfl : 104 + 2 = 106))))) (v_iinc (v := 1) dX8_hangs_106 (by decide) (by decide) (rfl : 106 + 3 = 109))) dX8_hangs_109 (rfl : ((109 : Nat) : Int) + (-92) = ((17 : Nat) : Int)))))) (v_iinc (v := 1) dX8_hangs_112 (by decide) (by decide) (rfl : 112 + 3 = 115))) dX8_hangs_115 (rfl : ((115 : Nat) : Int) + (-107) = ((8 : Nat) : Int)))))) (v_ret (v_ic (v_ieq_f (v_iand (v_ishr (v_iload (i := 4) dX8_hangs_118 (rfl : 118 + 2 = 120)) (v_iload_n (i := 2) dX8_hangs_120 rfl (rfl : 120 + 1 = 121)) dX8_hangs_121 (rfl : 121 + 1 = 122)) (v_iconst (v := 1) dX8_hangs_122 (by decide) (rfl : 122 + 1 = 123)) dX8_hangs_123 (rfl : 123 + 1 = 124)) (v_iconst (v := 1) dX8_hangs_124 (by decide) (rfl : 124 + 1 = 125)) dX8_hangs_125 (rfl : ((125 : Nat) : Int) + 7 = ((132 : Nat) : Int)) (rfl : 125 + 3 = 128)) (vi_goto (v_iconst (v := 1) dX8_hangs_128 (by decide) (rfl : 128 + 1 = 129)) dX8_hangs_129 (rfl : ((129 : Nat) : Int) + 4 = ((133 : Nat) : Int))) (v_iconst (v := 0) dX8_hangs_132 (by decide) (rfl : 132 + 1 = 133))) dX8_hangs_133)))
theorem IX8_hangs : Mz yX8_hangs cX8_hangs 9 (rmk 2 41) DX8_hangs := mk_z (by decide +kernel) BX8_hangs

theorem dX8_reckonMore_0 : decode cX8_reckonMore 0 = .ok (.aload_n 0, 1) := by decide +kernel
theorem dX8_reckonMore_1 : decode cX8_reckonMore 1 = .ok (.invokevirtual 244, 3) := by decide +kernel
theorem dX8_reckonMore_4 : decode cX8_reckonMore 4 = .ok (.aload_n 0, 1) := by decide +kernel
theorem dX8_reckonMore_5 : decode cX8_reckonMore 5 = .ok (.iload_n 1, 1) := by decide +kernel
theorem dX8_reckonMore_6 : decode cX8_reckonMore 6 = .ok (.putfield 198, 3) := by decide +kernel
theorem dX8_reckonMore_9 : decode cX8_reckonMore 9 = .ok (.aload_n 0, 1) := by decide +kernel
theorem dX8_reckonMore_10 : decode cX8_reckonMore 10 = .ok (.iload_n 2, 1) := by decide +kernel
theorem dX8_reckonMore_11 : decode cX8_reckonMore 11 = .ok (.putfield 201, 3) := by decide +kernel
theorem dX8_reckonMore_14 : decode cX8_reckonMore 14 = .ok (.aload_n 0, 1) := by decide +kernel
theorem dX8_reckonMore_15 : decode cX8_reckonMore 15 = .ok (.iconst 0, 1) := by decide +kernel
theorem dX8_reckonMore_16 : decode cX8_reckonMore 16 = .ok (.invokevirtual 247, 3) := by decide +kernel
theorem dX8_reckonMore_19 : decode cX8_reckonMore 19 = .ok (.ireturn, 1) := by decide +kernel
noncomputable def EX8_reckonMore : Sx := (sseq (scv 7 DX8_asItIs (rl 0) anil) (sseq (fpi 7 24 (rl 0) (il 1)) (sseq (fpi 7 25 (rl 0) (il 2)) (sret (cvz 7 DX8_reckon (rl 0) (ai (ik 0) anil))))))
noncomputable def DX8_reckonMore : Fz := mfz 3 EX8_reckonMore
set_option maxRecDepth 4000 in
theorem BX8_reckonMore : Vs RX8 cX8_reckonMore 3 (rmk 5 114) 0 0 EX8_reckonMore := (v_seq (v_scv kX8 IX8_asItIs hX8_asItIs lk1245 ⟨by decide, by decide⟩ (v_aload_n (i := 0) dX8_reckonMore_0 rfl (rfl : 0 + 1 = 1)) v_anil dX8_reckonMore_1 (rfl : 1 + 3 = 4)) (v_seq (v_fpi kX8 lk1019 (by decide) rfl rfl (by decide +kernel) (v_aload_n (i := 0) dX8_reckonMore_4 rfl (rfl : 4 + 1 = 5)) (v_iload_n (i := 1) dX8_reckonMore_5 rfl (rfl : 5 + 1 = 6)) dX8_reckonMore_6 (rfl : 6 + 3 = 9)) (v_seq (v_fpi kX8 lk1020 (by decide) rfl rfl (by decide +kernel) (v_aload_n (i := 0) dX8_reckonMore_9 rfl (rfl : 9 + 1 = 10)) (v_iload_n (i := 2) dX8_reckonMore_10 rfl (rfl : 10 + 1 = 11)) dX8_reckonMore_11 (rfl : 11 + 3 = 14)) (v_ret (v_cvz kX8 IX8_reckon hX8_reckon lk1249 ⟨by decide, by decide⟩ (by decide) (v_aload_n (i := 0) dX8_reckonMore_14 rfl (rfl : 14 + 1 = 15)) (v_ai (v_iconst (v := 0) dX8_reckonMore_15 (by decide) (rfl : 15 + 1 = 16)) v_anil) dX8_reckonMore_16 (rfl : 16 + 3 = 19)) dX8_reckonMore_19))))
theorem IX8_reckonMore : Mz yX8_reckonMore cX8_reckonMore 3 (rmk 5 114) DX8_reckonMore := mk_z (by decide +kernel) BX8_reckonMore

theorem dX8_helped_0 : decode cX8_helped 0 = .ok (.aload_n 0, 1) := by decide +kernel
theorem dX8_helped_1 : decode cX8_helped 1 = .ok (.iconst 0, 1) := by decide +kernel
theorem dX8_helped_2 : decode cX8_helped 2 = .ok (.putfield 84, 3) := by decide +kernel
theorem dX8_helped_5 : decode cX8_helped 5 = .ok (.aload_n 0, 1) := by decide +kernel
theorem dX8_helped_6 : decode cX8_helped 6 = .ok (.iload_n 1, 1) := by decide +kernel
theorem dX8_helped_7 : decode cX8_helped 7 = .ok (.invokevirtual 109, 3) := by decide +kernel
theorem dX8_helped_10 : decode cX8_helped 10 = .ok (.ifCond .eq 36, 3) := by decide +kernel
theorem dX8_helped_13 : decode cX8_helped 13 = .ok (.iload_n 2, 1) := by decide +kernel
theorem dX8_helped_14 : decode cX8_helped 14 = .ok (.i2l, 1) := by decide +kernel
theorem dX8_helped_15 : decode cX8_helped 15 = .ok (.lconst 1, 1) := by decide +kernel
theorem dX8_helped_16 : decode cX8_helped 16 = .ok (.ldc2_w 149, 3) := by decide +kernel
theorem dX8_helped_19 : decode cX8_helped 19 = .ok (.invokestatic 105, 3) := by decide +kernel
theorem dX8_helped_22 : decode cX8_helped 22 = .ok (.ifCond .eq 24, 3) := by decide +kernel
theorem dX8_helped_25 : decode cX8_helped 25 = .ok (.aload_n 0, 1) := by decide +kernel
theorem dX8_helped_26 : decode cX8_helped 26 = .ok (.iload_n 3, 1) := by decide +kernel
theorem dX8_helped_27 : decode cX8_helped 27 = .ok (.invokevirtual 109, 3) := by decide +kernel
theorem dX8_helped_30 : decode cX8_helped 30 = .ok (.ifCond .eq 16, 3) := by decide +kernel
theorem dX8_helped_33 : decode cX8_helped 33 = .ok (.aload_n 0, 1) := by decide +kernel
theorem dX8_helped_34 : decode cX8_helped 34 = .ok (.iload_n 1, 1) := by decide +kernel
theorem dX8_helped_35 : decode cX8_helped 35 = .ok (.invokevirtual 146, 3) := by decide +kernel
theorem dX8_helped_38 : decode cX8_helped 38 = .ok (.iload_n 2, 1) := by decide +kernel
theorem dX8_helped_39 : decode cX8_helped 39 = .ok (.iadd, 1) := by decide +kernel
theorem dX8_helped_40 : decode cX8_helped 40 = .ok (.sipush 160, 3) := by decide +kernel
theorem dX8_helped_43 : decode cX8_helped 43 = .ok (.if_icmp .le 5, 3) := by decide +kernel
theorem dX8_helped_46 : decode cX8_helped 46 = .ok (.iconst (-1), 1) := by decide +kernel
theorem dX8_helped_47 : decode cX8_helped 47 = .ok (.ireturn, 1) := by decide +kernel
theorem dX8_helped_48 : decode cX8_helped 48 = .ok (.aload_n 0, 1) := by decide +kernel
theorem dX8_helped_49 : decode cX8_helped 49 = .ok (.iload_n 1, 1) := by decide +kernel
theorem dX8_helped_50 : decode cX8_helped 50 = .ok (.iload_n 2, 1) := by decide +kernel
theorem dX8_helped_51 : decode cX8_helped 51 = .ok (.invokevirtual 349, 3) := by decide +kernel
theorem dX8_helped_54 : decode cX8_helped 54 = .ok (.ifCond .eq 11, 3) := by decide +kernel
theorem dX8_helped_57 : decode cX8_helped 57 = .ok (.aload_n 0, 1) := by decide +kernel
theorem dX8_helped_58 : decode cX8_helped 58 = .ok (.iload_n 3, 1) := by decide +kernel
theorem dX8_helped_59 : decode cX8_helped 59 = .ok (.invokevirtual 257, 3) := by decide +kernel
theorem dX8_helped_62 : decode cX8_helped 62 = .ok (.goto 5, 3) := by decide +kernel
theorem dX8_helped_65 : decode cX8_helped 65 = .ok (.bipush (-3), 2) := by decide +kernel
theorem dX8_helped_67 : decode cX8_helped 67 = .ok (.ireturn, 1) := by decide +kernel
noncomputable def EX8_helped : Sx := (sseq (fpi 7 0 (rl 0) (ik 0)) (sseq (sif (bor (bor (bor (bnot (bz cne (cvz 7 DX8_isChamber (rl 0) (ai (il 1) anil)))) (bnot (bz cne (csz DX8_in (aj (i2l (il 2)) (aj (jk 1) (aj (jk 40) anil))))))) (bnot (bz cne (cvz 7 DX8_isChamber (rl 0) (ai (il 3) anil))))) (bc cgt (i2 (· + ·) (cvi 7 DX8_weight (rl 0) (ai (il 1) anil)) (il 2)) (ik 160))) (sret (ik (-1))) snop) (sret (ic (bz cne (cvz 7 DX8_reckonMore (rl 0) (ai (il 1) (ai (il 2) anil)))) (cvi 7 DX8_readingOf (rl 0) (ai (il 3) anil)) (ik (-3))))))
noncomputable def DX8_helped : Fi := mfi 4 EX8_helped
set_option maxRecDepth 4000 in
theorem BX8_helped : Vs RX8 cX8_helped 4 (rmk 6 136) 0 0 EX8_helped := (v_seq (v_fpi kX8 lk995 (by decide) rfl rfl (by decide +kernel) (v_aload_n (i := 0) dX8_helped_0 rfl (rfl : 0 + 1 = 1)) (v_iconst (v := 0) dX8_helped_1 (by decide) (rfl : 1 + 1 = 2)) dX8_helped_2 (rfl : 2 + 3 = 5)) (v_seq (v_if (v_or (v_or (v_or (v_not (v_zne_f (v_cvz kX8 IX8_isChamber hX8_isChamber lk1145 ⟨by decide, by decide⟩ (by decide) (v_aload_n (i := 0) dX8_helped_5 rfl (rfl : 5 + 1 = 6)) (v_ai (v_iload_n (i := 1) dX8_helped_6 rfl (rfl : 6 + 1 = 7)) v_anil) dX8_helped_7 (rfl : 7 + 3 = 10)) dX8_helped_10 (rfl : ((10 : Nat) : Int) + 36 = ((46 : Nat) : Int)) (rfl : 10 + 3 = 13))) (v_not (v_zne_f (v_csz IX8_in hX8_in lk1120 ⟨by decide, by decide⟩ (by decide) (v_aj (v_i2l (v_iload_n (i := 2) dX8_helped_13 rfl (rfl : 13 + 1 = 14)) dX8_helped_14 (rfl : 14 + 1 = 15)) (v_aj (v_lconst (v := 1) dX8_helped_15 (by decide) (rfl : 15 + 1 = 16)) (v_aj (v_ldc2 (v := 40) lk1174 dX8_helped_16 (rfl : 16 + 3 = 19)) v_anil))) dX8_helped_19 (rfl : 19 + 3 = 22)) dX8_helped_22 (rfl : ((22 : Nat) : Int) + 24 = ((46 : Nat) : Int)) (rfl : 22 + 3 = 25)))) (v_not (v_zne_f (v_cvz kX8 IX8_isChamber hX8_isChamber lk1145 ⟨by decide, by decide⟩ (by decide) (v_aload_n (i := 0) dX8_helped_25 rfl (rfl : 25 + 1 = 26)) (v_ai (v_iload_n (i := 3) dX8_helped_26 rfl (rfl : 26 + 1 = 27)) v_anil) dX8_helped_27 (rfl : 27 + 3 = 30)) dX8_helped_30 (rfl : ((30 : Nat) : Int) + 16 = ((46 : Nat) : Int)) (rfl : 30 + 3 = 33)))) (v_igt_f (v_iadd (v_cvi kX8 IX8_weight hX8_weight lk1152 ⟨by decide, by decide⟩ (by decide) (v_aload_n (i := 0) dX8_helped_33 rfl (rfl : 33 + 1 = 34)) (v_ai (v_iload_n (i := 1) dX8_helped_34 rfl (rfl : 34 + 1 = 35)) v_anil) dX8_helped_35 (rfl : 35 + 3 = 38)) (v_iload_n (i := 2) dX8_helped_38 rfl (rfl : 38 + 1 = 39)) dX8_helped_39 (rfl : 39 + 1 = 40)) (v_sipush (v := 160) dX8_helped_40 (by decide) (rfl : 40 + 3 = 43)) dX8_helped_43 (rfl : ((43 : Nat) : Int) + 5 = ((48 : Nat) : Int)) (rfl : 43 + 3 = 46))) (v_ret (v_iconst (v := (-1)) dX8_helped_46 (by decide) (rfl : 46 + 1 = 47)) dX8_helped_47) v_nop) (v_ret (v_ic (v_zne_f (v_cvz kX8 IX8_reckonMore hX8_reckonMore lk1452 ⟨by decide, by decide⟩ (by decide) (v_aload_n (i := 0) dX8_helped_48 rfl (rfl : 48 + 1 = 49)) (v_ai (v_iload_n (i := 1) dX8_helped_49 rfl (rfl : 49 + 1 = 50)) (v_ai (v_iload_n (i := 2) dX8_helped_50 rfl (rfl : 50 + 1 = 51)) v_anil)) dX8_helped_51 (rfl : 51 + 3 = 54)) dX8_helped_54 (rfl : ((54 : Nat) : Int) + 11 = ((65 : Nat) : Int)) (rfl : 54 + 3 = 57)) (vi_goto (v_cvi kX8 IX8_readingOf hX8_readingOf lk1309 ⟨by decide, by decide⟩ (by decide) (v_aload_n (i := 0) dX8_helped_57 rfl (rfl : 57 + 1 = 58)) (v_ai (v_iload_n (i := 3) dX8_helped_58 rfl (rfl : 58 + 1 = 59)) v_anil) dX8_helped_59 (rfl : 59 + 3 = 62)) dX8_helped_62 (rfl : ((62 : Nat) : Int) + 5 = ((67 : Nat) : Int))) (v_bipush (v := (-3)) dX8_helped_65 (by decide) (rfl : 65 + 2 = 67))) dX8_helped_67)))
theorem IX8_helped : Mi yX8_helped cX8_helped 4 (rmk 6 136) DX8_helped := mk_i (by decide +kernel) BX8_helped

theorem dX8_hottest_0 : decode cX8_hottest 0 = .ok (.aload_n 0, 1) := by decide +kernel
theorem dX8_hottest_1 : decode cX8_hottest 1 = .ok (.iconst 0, 1) := by decide +kernel
theorem dX8_hottest_2 : decode cX8_hottest 2 = .ok (.putfield 84, 3) := by decide +kernel
theorem dX8_hottest_5 : decode cX8_hottest 5 = .ok (.iload_n 1, 1) := by decide +kernel
theorem dX8_hottest_6 : decode cX8_hottest 6 = .ok (.ifCond .ge 5, 3) := by decide +kernel
theorem dX8_hottest_9 : decode cX8_hottest 9 = .ok (.iconst (-1), 1) := by decide +kernel
theorem dX8_hottest_10 : decode cX8_hottest 10 = .ok (.ireturn, 1) := by decide +kernel
theorem dX8_hottest_11 : decode cX8_hottest 11 = .ok (.aload_n 0, 1) := by decide +kernel
theorem dX8_hottest_12 : decode cX8_hottest 12 = .ok (.getfield 13, 3) := by decide +kernel
theorem dX8_hottest_15 : decode cX8_hottest 15 = .ok (.iconst 0, 1) := by decide +kernel
theorem dX8_hottest_16 : decode cX8_hottest 16 = .ok (.aload_n 0, 1) := by decide +kernel
theorem dX8_hottest_17 : decode cX8_hottest 17 = .ok (.getfield 29, 3) := by decide +kernel
theorem dX8_hottest_20 : decode cX8_hottest 20 = .ok (.iconst 0, 1) := by decide +kernel
theorem dX8_hottest_21 : decode cX8_hottest 21 = .ok (.invokestatic 94, 3) := by decide +kernel
theorem dX8_hottest_24 : decode cX8_hottest 24 = .ok (.iconst (-1), 1) := by decide +kernel
theorem dX8_hottest_25 : decode cX8_hottest 25 = .ok (.istore_n 2, 1) := by decide +kernel
theorem dX8_hottest_26 : decode cX8_hottest 26 = .ok (.iconst 0, 1) := by decide +kernel
theorem dX8_hottest_27 : decode cX8_hottest 27 = .ok (.istore_n 3, 1) := by decide +kernel
theorem dX8_hottest_28 : decode cX8_hottest 28 = .ok (.iload_n 3, 1) := by decide +kernel
theorem dX8_hottest_29 : decode cX8_hottest 29 = .ok (.bipush 10, 2) := by decide +kernel
theorem dX8_hottest_31 : decode cX8_hottest 31 = .ok (.if_icmp .ge 56, 3) := by decide +kernel
theorem dX8_hottest_34 : decode cX8_hottest 34 = .ok (.iconst 0, 1) := by decide +kernel
theorem dX8_hottest_35 : decode cX8_hottest 35 = .ok (.istore 4, 2) := by decide +kernel
theorem dX8_hottest_37 : decode cX8_hottest 37 = .ok (.iload 4, 2) := by decide +kernel
theorem dX8_hottest_39 : decode cX8_hottest 39 = .ok (.aload_n 0, 1) := by decide +kernel
theorem dX8_hottest_40 : decode cX8_hottest 40 = .ok (.getfield 13, 3) := by decide +kernel
theorem dX8_hottest_43 : decode cX8_hottest 43 = .ok (.iconst 0, 1) := by decide +kernel
theorem dX8_hottest_44 : decode cX8_hottest 44 = .ok (.iaload, 1) := by decide +kernel
theorem dX8_hottest_45 : decode cX8_hottest 45 = .ok (.if_icmp .ge 22, 3) := by decide +kernel
theorem dX8_hottest_48 : decode cX8_hottest 48 = .ok (.aload_n 0, 1) := by decide +kernel
theorem dX8_hottest_49 : decode cX8_hottest 49 = .ok (.getfield 13, 3) := by decide +kernel
theorem dX8_hottest_52 : decode cX8_hottest 52 = .ok (.iload 4, 2) := by decide +kernel
theorem dX8_hottest_54 : decode cX8_hottest 54 = .ok (.invokestatic 122, 3) := by decide +kernel
theorem dX8_hottest_57 : decode cX8_hottest 57 = .ok (.iconst 2, 1) := by decide +kernel
theorem dX8_hottest_58 : decode cX8_hottest 58 = .ok (.iadd, 1) := by decide +kernel
theorem dX8_hottest_59 : decode cX8_hottest 59 = .ok (.iload_n 3, 1) := by decide +kernel
theorem dX8_hottest_60 : decode cX8_hottest 60 = .ok (.iastore, 1) := by decide +kernel
theorem dX8_hottest_61 : decode cX8_hottest 61 = .ok (.iinc 4 1, 3) := by decide +kernel
theorem dX8_hottest_64 : decode cX8_hottest 64 = .ok (.goto (-27), 3) := by decide +kernel
theorem dX8_hottest_67 : decode cX8_hottest 67 = .ok (.aload_n 0, 1) := by decide +kernel
theorem dX8_hottest_68 : decode cX8_hottest 68 = .ok (.iload_n 1, 1) := by decide +kernel
theorem dX8_hottest_69 : decode cX8_hottest 69 = .ok (.invokevirtual 355, 3) := by decide +kernel
theorem dX8_hottest_72 : decode cX8_hottest 72 = .ok (.ifCond .eq 7, 3) := by decide +kernel
theorem dX8_hottest_75 : decode cX8_hottest 75 = .ok (.iload_n 3, 1) := by decide +kernel
theorem dX8_hottest_76 : decode cX8_hottest 76 = .ok (.goto 4, 3) := by decide +kernel
theorem dX8_hottest_79 : decode cX8_hottest 79 = .ok (.iload_n 2, 1) := by decide +kernel
theorem dX8_hottest_80 : decode cX8_hottest 80 = .ok (.istore_n 2, 1) := by decide +kernel
theorem dX8_hottest_81 : decode cX8_hottest 81 = .ok (.iinc 3 1, 3) := by decide +kernel
theorem dX8_hottest_84 : decode cX8_hottest 84 = .ok (.goto (-56), 3) := by decide +kernel
theorem dX8_hottest_87 : decode cX8_hottest 87 = .ok (.aload_n 0, 1) := by decide +kernel
theorem dX8_hottest_88 : decode cX8_hottest 88 = .ok (.getfield 29, 3) := by decide +kernel
theorem dX8_hottest_91 : decode cX8_hottest 91 = .ok (.iconst 0, 1) := by decide +kernel
theorem dX8_hottest_92 : decode cX8_hottest 92 = .ok (.aload_n 0, 1) := by decide +kernel
theorem dX8_hottest_93 : decode cX8_hottest 93 = .ok (.getfield 13, 3) := by decide +kernel
theorem dX8_hottest_96 : decode cX8_hottest 96 = .ok (.iconst 0, 1) := by decide +kernel
theorem dX8_hottest_97 : decode cX8_hottest 97 = .ok (.invokestatic 94, 3) := by decide +kernel
theorem dX8_hottest_100 : decode cX8_hottest 100 = .ok (.iload_n 2, 1) := by decide +kernel
theorem dX8_hottest_101 : decode cX8_hottest 101 = .ok (.ireturn, 1) := by decide +kernel
noncomputable def qX8_hottest_1 : Bx := (bc clt (il 4) (iald (fgr 7 3 (rl 0)) (ik 0)))
noncomputable def wX8_hottest_1 : Sx := (sseq (aii (fgr 7 3 (rl 0)) (i2 (· + ·) (csi DX8_chamberAt (ai (il 4) anil)) (ik 2)) (il 3)) (sinc 4 1))
noncomputable def qX8_hottest_2 : Bx := (bc clt (il 3) (ik 10))
noncomputable def wX8_hottest_2 : Sx := (sseq (sseq (scut 4 (sseq (ssi 4 (ik 0)) (swh qX8_hottest_1 wX8_hottest_1))) (ssi 2 (ic (bz cne (cvz 7 DX8_areBelow (rl 0) (ai (il 1) anil))) (il 3) (il 2)))) (sinc 3 1))
noncomputable def EX8_hottest : Sx := (sseq (fpi 7 0 (rl 0) (ik 0)) (sseq (sif (bz clt (il 1)) (sret (ik (-1))) snop) (sseq (scs DX8_copy (ar (fgr 7 3 (rl 0)) (ai (ik 0) (ar (fgr 7 9 (rl 0)) (ai (ik 0) anil))))) (sseq (ssi 2 (ik (-1))) (sseq (scut 3 (sseq (ssi 3 (ik 0)) (swh qX8_hottest_2 wX8_hottest_2))) (sseq (scs DX8_copy (ar (fgr 7 9 (rl 0)) (ai (ik 0) (ar (fgr 7 3 (rl 0)) (ai (ik 0) anil))))) (sret (il 2))))))))
noncomputable def DX8_hottest : Fi := mfi 5 EX8_hottest
set_option maxRecDepth 4000 in
theorem BX8_hottest : Vs RX8 cX8_hottest 5 (rmk 7 155) 0 0 EX8_hottest := (v_seq (v_fpi kX8 lk995 (by decide) rfl rfl (by decide +kernel) (v_aload_n (i := 0) dX8_hottest_0 rfl (rfl : 0 + 1 = 1)) (v_iconst (v := 0) dX8_hottest_1 (by decide) (rfl : 1 + 1 = 2)) dX8_hottest_2 (rfl : 2 + 3 = 5)) (v_seq (v_if (v_zlt_f (v_iload_n (i := 1) dX8_hottest_5 rfl (rfl : 5 + 1 = 6)) dX8_hottest_6 (rfl : ((6 : Nat) : Int) + 5 = ((11 : Nat) : Int)) (rfl : 6 + 3 = 9)) (v_ret (v_iconst (v := (-1)) dX8_hottest_9 (by decide) (rfl : 9 + 1 = 10)) dX8_hottest_10) v_nop) (v_seq (v_scs IX8_copy hX8_copy lk1109 ⟨by decide, by decide⟩ (v_ar (v_gfr kX8 lk998 (by decide) rfl (v_aload_n (i := 0) dX8_hottest_11 rfl (rfl : 11 + 1 = 12)) dX8_hottest_12 (rfl : 12 + 3 = 15)) (v_ai (v_iconst (v := 0) dX8_hottest_15 (by decide) (rfl : 15 + 1 = 16)) (v_ar (v_gfr kX8 lk1004 (by decide) rfl (v_aload_n (i := 0) dX8_hottest_16 rfl (rfl : 16 + 1 = 17)) dX8_hottest_17 (rfl : 17 + 3 = 20)) (v_ai (v_iconst (v := 0) dX8_hottest_20 (by decide) (rfl : 20 + 1 = 21)) v_anil)))) dX8_hottest_21 (rfl : 21 + 3 = 24)) (v_seq (v_istore_n (i := 2) (v_iconst (v := (-1)) dX8_hottest_24 (by decide) (rfl : 24 + 1 = 25)) dX8_hottest_25 rfl (by decide) (rfl : 25 + 1 = 26)) (v_seq (v_cut (n := 3) (v_seq (v_istore_n (i := 3) (v_iconst (v := 0) dX8_hottest_26 (by decide) (rfl : 26 + 1 = 27)) dX8_hottest_27 rfl (by decide) (rfl : 27 + 1 = 28)) (v_wh (v_ilt_f (v_iload_n (i := 3) dX8_hottest_28 rfl (rfl : 28 + 1 = 29)) (v_bipush (v := 10) dX8_hottest_29 (by decide) (rfl : 29 + 2 = 31)) dX8_hottest_31 (rfl : ((31 : Nat) : Int) + 56 = ((87 : Nat) : Int)) (rfl : 31 + 3 = 34)) (vs_goto (v_seq (v_seq (v_cut (n := 4) (v_seq (v_istore (i := 4) (v_iconst (v := 0) dX8_hottest_34 (by decide) (rfl : 34 + 1 = 35)) dX8_hottest_35 (by decide) (rfl : 35 + 2 = 37)) (v_wh (v_ilt_f (v_iload (i := 4) dX8_hottest_37 (rfl : 37 + 2 = 39)) (v_iald (v_gfr kX8 lk998 (by decide) rfl (v_aload_n (i := 0) dX8_hottest_39 rfl (rfl : 39 + 1 = 40)) dX8_hottest_40 (rfl : 40 + 3 = 43)) (v_iconst (v := 0) dX8_hottest_43 (by decide) (rfl : 43 + 1 = 44)) dX8_hottest_44 (rfl : 44 + 1 = 45)) dX8_hottest_45 (rfl : ((45 : Nat) : Int) + 22 = ((67 : Nat) : Int)) (rfl : 45 + 3 = 48)) (vs_goto (v_seq (v_aii (v_gfr kX8 lk998 (by decide) rfl (v_aload_n (i := 0) dX8_hottest_48 rfl (rfl : 48 + 1 = 49)) dX8_hottest_49 (rfl : 49 + 3 = 52)) (v_iadd (v_csi IX8_chamberAt hX8_chamberAt lk1137 ⟨by decide, by decide⟩ (by decide) (v_ai (v_iload (i := 4) dX8_hottest_52 (rfl : 52 + 2 = 54)) v_anil) dX8_hottest_54 (rfl : 54 + 3 = 57)) (v_iconst (v := 2) dX8_hottest_57 (by decide) (rfl : 57 + 1 = 58)) dX8_hottest_58 (rfl : 58 + 1 = 59)) (v_iload_n (i := 3) dX8_hottest_59 rfl (rfl : 59 + 1 = 60)) dX8_hottest_60 (rfl : 60 + 1 = 61)) (v_iinc (v := 1) dX8_hottest_61 (by decide) (by decide) (rfl : 61 + 3 = 64))) dX8_hottest_64 (rfl : ((64 : Nat) : Int) + (-27) = ((37 : Nat) : Int)))))) (v_istore_n (i := 2) (v_ic (v_zne_f (v_cvz kX8 IX8_areBelow hX8_areBelow lk1464 ⟨by decide, by decide⟩ (by decide) (v_aload_n (i := 0) dX8_hottest_67 rfl (rfl : 67 + 1 = 68)) (v_ai (v_iload_n (i := 1) dX8_hottest_68 rfl (rfl : 68 + 1 = 69)) v_anil) dX8_hottest_69 (rfl : 69 + 3 = 72)) dX8_hottest_72 (rfl : ((72 : Nat) : Int) + 7 = ((79 : Nat) : Int)) (rfl : 72 + 3 = 75)) (vi_goto (v_iload_n (i := 3) dX8_hottest_75 rfl (rfl : 75 + 1 = 76)) dX8_hottest_76 (rfl : ((76 : Nat) : Int) + 4 = ((80 : Nat) : Int))) (v_iload_n (i := 2) dX8_hottest_79 rfl (rfl : 79 + 1 = 80))) dX8_hottest_80 rfl (by decide) (rfl : 80 + 1 = 81))) (v_iinc (v := 1) dX8_hottest_81 (by decide) (by decide) (rfl : 81 + 3 = 84))) dX8_hottest_84 (rfl : ((84 : Nat) : Int) + (-56) = ((28 : Nat) : Int)))))) (v_seq (v_scs IX8_copy hX8_copy lk1109 ⟨by decide, by decide⟩ (v_ar (v_gfr kX8 lk1004 (by decide) rfl (v_aload_n (i := 0) dX8_hottest_87 rfl (rfl : 87 + 1 = 88)) dX8_hottest_88 (rfl : 88 + 3 = 91)) (v_ai (v_iconst (v := 0) dX8_hottest_91 (by decide) (rfl : 91 + 1 = 92)) (v_ar (v_gfr kX8 lk998 (by decide) rfl (v_aload_n (i := 0) dX8_hottest_92 rfl (rfl : 92 + 1 = 93)) dX8_hottest_93 (rfl : 93 + 3 = 96)) (v_ai (v_iconst (v := 0) dX8_hottest_96 (by decide) (rfl : 96 + 1 = 97)) v_anil)))) dX8_hottest_97 (rfl : 97 + 3 = 100)) (v_ret (v_iload_n (i := 2) dX8_hottest_100 rfl (rfl : 100 + 1 = 101)) dX8_hottest_101)))))))
theorem IX8_hottest : Mi yX8_hottest cX8_hottest 5 (rmk 7 155) DX8_hottest := mk_i (by decide +kernel) BX8_hottest

theorem dX8_image_0 : decode cX8_image 0 = .ok (.aload_n 0, 1) := by decide +kernel
theorem dX8_image_1 : decode cX8_image 1 = .ok (.iconst 0, 1) := by decide +kernel
theorem dX8_image_2 : decode cX8_image 2 = .ok (.putfield 84, 3) := by decide +kernel
theorem dX8_image_5 : decode cX8_image 5 = .ok (.iload_n 1, 1) := by decide +kernel
theorem dX8_image_6 : decode cX8_image 6 = .ok (.i2l, 1) := by decide +kernel
theorem dX8_image_7 : decode cX8_image 7 = .ok (.lconst 0, 1) := by decide +kernel
theorem dX8_image_8 : decode cX8_image 8 = .ok (.lconst 1, 1) := by decide +kernel
theorem dX8_image_9 : decode cX8_image 9 = .ok (.invokestatic 105, 3) := by decide +kernel
theorem dX8_image_12 : decode cX8_image 12 = .ok (.ifCond .ne 9, 3) := by decide +kernel
theorem dX8_image_15 : decode cX8_image 15 = .ok (.aload_n 0, 1) := by decide +kernel
theorem dX8_image_16 : decode cX8_image 16 = .ok (.iconst (-1), 1) := by decide +kernel
theorem dX8_image_17 : decode cX8_image 17 = .ok (.invokevirtual 98, 3) := by decide +kernel
theorem dX8_image_20 : decode cX8_image 20 = .ok (.ireturn, 1) := by decide +kernel
theorem dX8_image_21 : decode cX8_image 21 = .ok (.aload_n 0, 1) := by decide +kernel
theorem dX8_image_22 : decode cX8_image 22 = .ok (.getfield 13, 3) := by decide +kernel
theorem dX8_image_25 : decode cX8_image 25 = .ok (.iconst 0, 1) := by decide +kernel
theorem dX8_image_26 : decode cX8_image 26 = .ok (.aload_n 0, 1) := by decide +kernel
theorem dX8_image_27 : decode cX8_image 27 = .ok (.getfield 22, 3) := by decide +kernel
theorem dX8_image_30 : decode cX8_image 30 = .ok (.sipush 331, 3) := by decide +kernel
theorem dX8_image_33 : decode cX8_image 33 = .ok (.iload_n 1, 1) := by decide +kernel
theorem dX8_image_34 : decode cX8_image 34 = .ok (.imul, 1) := by decide +kernel
theorem dX8_image_35 : decode cX8_image 35 = .ok (.invokestatic 94, 3) := by decide +kernel
theorem dX8_image_38 : decode cX8_image 38 = .ok (.aload_n 0, 1) := by decide +kernel
theorem dX8_image_39 : decode cX8_image 39 = .ok (.getfield 25, 3) := by decide +kernel
theorem dX8_image_42 : decode cX8_image 42 = .ok (.iload_n 1, 1) := by decide +kernel
theorem dX8_image_43 : decode cX8_image 43 = .ok (.iconst 1, 1) := by decide +kernel
theorem dX8_image_44 : decode cX8_image 44 = .ok (.bastore, 1) := by decide +kernel
theorem dX8_image_45 : decode cX8_image 45 = .ok (.aload_n 0, 1) := by decide +kernel
theorem dX8_image_46 : decode cX8_image 46 = .ok (.aload_n 0, 1) := by decide +kernel
theorem dX8_image_47 : decode cX8_image 47 = .ok (.getfield 13, 3) := by decide +kernel
theorem dX8_image_50 : decode cX8_image 50 = .ok (.iconst 4, 1) := by decide +kernel
theorem dX8_image_51 : decode cX8_image 51 = .ok (.iaload, 1) := by decide +kernel
theorem dX8_image_52 : decode cX8_image 52 = .ok (.invokevirtual 102, 3) := by decide +kernel
theorem dX8_image_55 : decode cX8_image 55 = .ok (.ireturn, 1) := by decide +kernel
noncomputable def EX8_image : Sx := (sseq (fpi 7 0 (rl 0) (ik 0)) (sseq (sif (bnot (bz cne (csz DX8_in (aj (i2l (il 1)) (aj (jk 0) (aj (jk 1) anil)))))) (sret (cvi 7 DX8_refuse (rl 0) (ai (ik (-1)) anil))) snop) (sseq (scs DX8_copy (ar (fgr 7 3 (rl 0)) (ai (ik 0) (ar (fgr 7 7 (rl 0)) (ai (i2 (· * ·) (ik 331) (il 1)) anil))))) (sseq (aiz (fgr 7 8 (rl 0)) (il 1) (ik 1)) (sret (cvi 7 DX8_tell (rl 0) (ai (iald (fgr 7 3 (rl 0)) (ik 4)) anil)))))))
noncomputable def DX8_image : Fi := mfi 2 EX8_image
set_option maxRecDepth 4000 in
theorem BX8_image : Vs RX8 cX8_image 2 (rmk 1 25) 0 0 EX8_image := (v_seq (v_fpi kX8 lk995 (by decide) rfl rfl (by decide +kernel) (v_aload_n (i := 0) dX8_image_0 rfl (rfl : 0 + 1 = 1)) (v_iconst (v := 0) dX8_image_1 (by decide) (rfl : 1 + 1 = 2)) dX8_image_2 (rfl : 2 + 3 = 5)) (v_seq (v_if (v_not (v_zne_t (v_csz IX8_in hX8_in lk1120 ⟨by decide, by decide⟩ (by decide) (v_aj (v_i2l (v_iload_n (i := 1) dX8_image_5 rfl (rfl : 5 + 1 = 6)) dX8_image_6 (rfl : 6 + 1 = 7)) (v_aj (v_lconst (v := 0) dX8_image_7 (by decide) (rfl : 7 + 1 = 8)) (v_aj (v_lconst (v := 1) dX8_image_8 (by decide) (rfl : 8 + 1 = 9)) v_anil))) dX8_image_9 (rfl : 9 + 3 = 12)) dX8_image_12 (rfl : ((12 : Nat) : Int) + 9 = ((21 : Nat) : Int)) (rfl : 12 + 3 = 15))) (v_ret (v_cvi kX8 IX8_refuse hX8_refuse lk1105 ⟨by decide, by decide⟩ (by decide) (v_aload_n (i := 0) dX8_image_15 rfl (rfl : 15 + 1 = 16)) (v_ai (v_iconst (v := (-1)) dX8_image_16 (by decide) (rfl : 16 + 1 = 17)) v_anil) dX8_image_17 (rfl : 17 + 3 = 20)) dX8_image_20) v_nop) (v_seq (v_scs IX8_copy hX8_copy lk1109 ⟨by decide, by decide⟩ (v_ar (v_gfr kX8 lk998 (by decide) rfl (v_aload_n (i := 0) dX8_image_21 rfl (rfl : 21 + 1 = 22)) dX8_image_22 (rfl : 22 + 3 = 25)) (v_ai (v_iconst (v := 0) dX8_image_25 (by decide) (rfl : 25 + 1 = 26)) (v_ar (v_gfr kX8 lk1002 (by decide) rfl (v_aload_n (i := 0) dX8_image_26 rfl (rfl : 26 + 1 = 27)) dX8_image_27 (rfl : 27 + 3 = 30)) (v_ai (v_imul (v_sipush (v := 331) dX8_image_30 (by decide) (rfl : 30 + 3 = 33)) (v_iload_n (i := 1) dX8_image_33 rfl (rfl : 33 + 1 = 34)) dX8_image_34 (rfl : 34 + 1 = 35)) v_anil)))) dX8_image_35 (rfl : 35 + 3 = 38)) (v_seq (v_aiz (v_gfr kX8 lk1003 (by decide) rfl (v_aload_n (i := 0) dX8_image_38 rfl (rfl : 38 + 1 = 39)) dX8_image_39 (rfl : 39 + 3 = 42)) (v_iload_n (i := 1) dX8_image_42 rfl (rfl : 42 + 1 = 43)) (v_iconst (v := 1) dX8_image_43 (by decide) (rfl : 43 + 1 = 44)) dX8_image_44 (rfl : 44 + 1 = 45)) (v_ret (v_cvi kX8 IX8_tell hX8_tell lk1112 ⟨by decide, by decide⟩ (by decide) (v_aload_n (i := 0) dX8_image_45 rfl (rfl : 45 + 1 = 46)) (v_ai (v_iald (v_gfr kX8 lk998 (by decide) rfl (v_aload_n (i := 0) dX8_image_46 rfl (rfl : 46 + 1 = 47)) dX8_image_47 (rfl : 47 + 3 = 50)) (v_iconst (v := 4) dX8_image_50 (by decide) (rfl : 50 + 1 = 51)) dX8_image_51 (rfl : 51 + 1 = 52)) v_anil) dX8_image_52 (rfl : 52 + 3 = 55)) dX8_image_55)))))
theorem IX8_image : Mi yX8_image cX8_image 2 (rmk 1 25) DX8_image := mk_i (by decide +kernel) BX8_image

theorem dX8_inSeries_0 : decode cX8_inSeries 0 = .ok (.iload_n 0, 1) := by decide +kernel
theorem dX8_inSeries_1 : decode cX8_inSeries 1 = .ok (.istore_n 3, 1) := by decide +kernel
theorem dX8_inSeries_2 : decode cX8_inSeries 2 = .ok (.iconst 1, 1) := by decide +kernel
theorem dX8_inSeries_3 : decode cX8_inSeries 3 = .ok (.istore 4, 2) := by decide +kernel
theorem dX8_inSeries_5 : decode cX8_inSeries 5 = .ok (.iload_n 1, 1) := by decide +kernel
theorem dX8_inSeries_6 : decode cX8_inSeries 6 = .ok (.ifCond .le 12, 3) := by decide +kernel
theorem dX8_inSeries_9 : decode cX8_inSeries 9 = .ok (.iload_n 0, 1) := by decide +kernel
theorem dX8_inSeries_10 : decode cX8_inSeries 10 = .ok (.iload_n 1, 1) := by decide +kernel
theorem dX8_inSeries_11 : decode cX8_inSeries 11 = .ok (.imul, 1) := by decide +kernel
theorem dX8_inSeries_12 : decode cX8_inSeries 12 = .ok (.istore_n 3, 1) := by decide +kernel
theorem dX8_inSeries_13 : decode cX8_inSeries 13 = .ok (.iload_n 0, 1) := by decide +kernel
theorem dX8_inSeries_14 : decode cX8_inSeries 14 = .ok (.iload_n 1, 1) := by decide +kernel
theorem dX8_inSeries_15 : decode cX8_inSeries 15 = .ok (.iadd, 1) := by decide +kernel
theorem dX8_inSeries_16 : decode cX8_inSeries 16 = .ok (.istore 4, 2) := by decide +kernel
theorem dX8_inSeries_18 : decode cX8_inSeries 18 = .ok (.iload_n 2, 1) := by decide +kernel
theorem dX8_inSeries_19 : decode cX8_inSeries 19 = .ok (.ifCond .le 15, 3) := by decide +kernel
theorem dX8_inSeries_22 : decode cX8_inSeries 22 = .ok (.iload_n 3, 1) := by decide +kernel
theorem dX8_inSeries_23 : decode cX8_inSeries 23 = .ok (.iload_n 2, 1) := by decide +kernel
theorem dX8_inSeries_24 : decode cX8_inSeries 24 = .ok (.iload 4, 2) := by decide +kernel
theorem dX8_inSeries_26 : decode cX8_inSeries 26 = .ok (.imul, 1) := by decide +kernel
theorem dX8_inSeries_27 : decode cX8_inSeries 27 = .ok (.iadd, 1) := by decide +kernel
theorem dX8_inSeries_28 : decode cX8_inSeries 28 = .ok (.istore 4, 2) := by decide +kernel
theorem dX8_inSeries_30 : decode cX8_inSeries 30 = .ok (.iload_n 3, 1) := by decide +kernel
theorem dX8_inSeries_31 : decode cX8_inSeries 31 = .ok (.iload_n 2, 1) := by decide +kernel
theorem dX8_inSeries_32 : decode cX8_inSeries 32 = .ok (.imul, 1) := by decide +kernel
theorem dX8_inSeries_33 : decode cX8_inSeries 33 = .ok (.istore_n 3, 1) := by decide +kernel
theorem dX8_inSeries_34 : decode cX8_inSeries 34 = .ok (.iload_n 3, 1) := by decide +kernel
theorem dX8_inSeries_35 : decode cX8_inSeries 35 = .ok (.iload 4, 2) := by decide +kernel
theorem dX8_inSeries_37 : decode cX8_inSeries 37 = .ok (.idiv, 1) := by decide +kernel
theorem dX8_inSeries_38 : decode cX8_inSeries 38 = .ok (.istore 5, 2) := by decide +kernel
theorem dX8_inSeries_40 : decode cX8_inSeries 40 = .ok (.iload 5, 2) := by decide +kernel
theorem dX8_inSeries_42 : decode cX8_inSeries 42 = .ok (.iconst 1, 1) := by decide +kernel
theorem dX8_inSeries_43 : decode cX8_inSeries 43 = .ok (.if_icmp .ge 7, 3) := by decide +kernel
theorem dX8_inSeries_46 : decode cX8_inSeries 46 = .ok (.iconst 1, 1) := by decide +kernel
theorem dX8_inSeries_47 : decode cX8_inSeries 47 = .ok (.goto 5, 3) := by decide +kernel
theorem dX8_inSeries_50 : decode cX8_inSeries 50 = .ok (.iload 5, 2) := by decide +kernel
theorem dX8_inSeries_52 : decode cX8_inSeries 52 = .ok (.ireturn, 1) := by decide +kernel
noncomputable def EX8_inSeries : Sx := (sseq (ssi 3 (il 0)) (sseq (ssi 4 (ik 1)) (sseq (sif (bz cgt (il 1)) (sseq (ssi 3 (i2 (· * ·) (il 0) (il 1))) (ssi 4 (i2 (· + ·) (il 0) (il 1)))) snop) (sseq (sif (bz cgt (il 2)) (sseq (ssi 4 (i2 (· + ·) (il 3) (i2 (· * ·) (il 2) (il 4)))) (ssi 3 (i2 (· * ·) (il 3) (il 2)))) snop) (sseq (ssi 5 (i2d (· / ·) (il 3) (il 4))) (sret (ic (bc clt (il 5) (ik 1)) (ik 1) (il 5))))))))
noncomputable def DX8_inSeries : Fi := mfi 6 EX8_inSeries
set_option maxRecDepth 4000 in
theorem BX8_inSeries : Vs RX8 cX8_inSeries 6 (rmk 0 0) 0 0 EX8_inSeries := (v_seq (v_istore_n (i := 3) (v_iload_n (i := 0) dX8_inSeries_0 rfl (rfl : 0 + 1 = 1)) dX8_inSeries_1 rfl (by decide) (rfl : 1 + 1 = 2)) (v_seq (v_istore (i := 4) (v_iconst (v := 1) dX8_inSeries_2 (by decide) (rfl : 2 + 1 = 3)) dX8_inSeries_3 (by decide) (rfl : 3 + 2 = 5)) (v_seq (v_if (v_zgt_f (v_iload_n (i := 1) dX8_inSeries_5 rfl (rfl : 5 + 1 = 6)) dX8_inSeries_6 (rfl : ((6 : Nat) : Int) + 12 = ((18 : Nat) : Int)) (rfl : 6 + 3 = 9)) (v_seq (v_istore_n (i := 3) (v_imul (v_iload_n (i := 0) dX8_inSeries_9 rfl (rfl : 9 + 1 = 10)) (v_iload_n (i := 1) dX8_inSeries_10 rfl (rfl : 10 + 1 = 11)) dX8_inSeries_11 (rfl : 11 + 1 = 12)) dX8_inSeries_12 rfl (by decide) (rfl : 12 + 1 = 13)) (v_istore (i := 4) (v_iadd (v_iload_n (i := 0) dX8_inSeries_13 rfl (rfl : 13 + 1 = 14)) (v_iload_n (i := 1) dX8_inSeries_14 rfl (rfl : 14 + 1 = 15)) dX8_inSeries_15 (rfl : 15 + 1 = 16)) dX8_inSeries_16 (by decide) (rfl : 16 + 2 = 18))) v_nop) (v_seq (v_if (v_zgt_f (v_iload_n (i := 2) dX8_inSeries_18 rfl (rfl : 18 + 1 = 19)) dX8_inSeries_19 (rfl : ((19 : Nat) : Int) + 15 = ((34 : Nat) : Int)) (rfl : 19 + 3 = 22)) (v_seq (v_istore (i := 4) (v_iadd (v_iload_n (i := 3) dX8_inSeries_22 rfl (rfl : 22 + 1 = 23)) (v_imul (v_iload_n (i := 2) dX8_inSeries_23 rfl (rfl : 23 + 1 = 24)) (v_iload (i := 4) dX8_inSeries_24 (rfl : 24 + 2 = 26)) dX8_inSeries_26 (rfl : 26 + 1 = 27)) dX8_inSeries_27 (rfl : 27 + 1 = 28)) dX8_inSeries_28 (by decide) (rfl : 28 + 2 = 30)) (v_istore_n (i := 3) (v_imul (v_iload_n (i := 3) dX8_inSeries_30 rfl (rfl : 30 + 1 = 31)) (v_iload_n (i := 2) dX8_inSeries_31 rfl (rfl : 31 + 1 = 32)) dX8_inSeries_32 (rfl : 32 + 1 = 33)) dX8_inSeries_33 rfl (by decide) (rfl : 33 + 1 = 34))) v_nop) (v_seq (v_istore (i := 5) (v_idiv (v_iload_n (i := 3) dX8_inSeries_34 rfl (rfl : 34 + 1 = 35)) (v_iload (i := 4) dX8_inSeries_35 (rfl : 35 + 2 = 37)) dX8_inSeries_37 (rfl : 37 + 1 = 38)) dX8_inSeries_38 (by decide) (rfl : 38 + 2 = 40)) (v_ret (v_ic (v_ilt_f (v_iload (i := 5) dX8_inSeries_40 (rfl : 40 + 2 = 42)) (v_iconst (v := 1) dX8_inSeries_42 (by decide) (rfl : 42 + 1 = 43)) dX8_inSeries_43 (rfl : ((43 : Nat) : Int) + 7 = ((50 : Nat) : Int)) (rfl : 43 + 3 = 46)) (vi_goto (v_iconst (v := 1) dX8_inSeries_46 (by decide) (rfl : 46 + 1 = 47)) dX8_inSeries_47 (rfl : ((47 : Nat) : Int) + 5 = ((52 : Nat) : Int))) (v_iload (i := 5) dX8_inSeries_50 (rfl : 50 + 2 = 52))) dX8_inSeries_52))))))
theorem IX8_inSeries : Mi yX8_inSeries cX8_inSeries 6 (rmk 0 0) DX8_inSeries := mk_i (by decide +kernel) BX8_inSeries
