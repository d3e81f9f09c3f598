theorem dX5_add_0 : decode cX5_add 0 = .ok (.aload_n 0, 1) := by decide +kernel
theorem dX5_add_1 : decode cX5_add 1 = .ok (.getfield 27, 3) := by decide +kernel
theorem dX5_add_4 : decode cX5_add 4 = .ok (.ifCond .ne 13, 3) := by decide +kernel
theorem dX5_add_7 : decode cX5_add 7 = .ok (.aload_n 0, 1) := by decide +kernel
theorem dX5_add_8 : decode cX5_add 8 = .ok (.iload_n 1, 1) := by decide +kernel
theorem dX5_add_9 : decode cX5_add 9 = .ok (.putfield 31, 3) := by decide +kernel
theorem dX5_add_12 : decode cX5_add 12 = .ok (.aload_n 0, 1) := by decide +kernel
theorem dX5_add_13 : decode cX5_add 13 = .ok (.iload_n 2, 1) := by decide +kernel
theorem dX5_add_14 : decode cX5_add 14 = .ok (.putfield 34, 3) := by decide +kernel
theorem dX5_add_17 : decode cX5_add 17 = .ok (.aload_n 0, 1) := by decide +kernel
theorem dX5_add_18 : decode cX5_add 18 = .ok (.getfield 27, 3) := by decide +kernel
theorem dX5_add_21 : decode cX5_add 21 = .ok (.bipush 20, 2) := by decide +kernel
theorem dX5_add_23 : decode cX5_add 23 = .ok (.if_icmp .ge 23, 3) := by decide +kernel
theorem dX5_add_26 : decode cX5_add 26 = .ok (.aload_n 0, 1) := by decide +kernel
theorem dX5_add_27 : decode cX5_add 27 = .ok (.getfield 15, 3) := by decide +kernel
theorem dX5_add_30 : decode cX5_add 30 = .ok (.aload_n 0, 1) := by decide +kernel
theorem dX5_add_31 : decode cX5_add 31 = .ok (.getfield 27, 3) := by decide +kernel
theorem dX5_add_34 : decode cX5_add 34 = .ok (.iload_n 1, 1) := by decide +kernel
theorem dX5_add_35 : decode cX5_add 35 = .ok (.iastore, 1) := by decide +kernel
theorem dX5_add_36 : decode cX5_add 36 = .ok (.aload_n 0, 1) := by decide +kernel
theorem dX5_add_37 : decode cX5_add 37 = .ok (.getfield 19, 3) := by decide +kernel
theorem dX5_add_40 : decode cX5_add 40 = .ok (.aload_n 0, 1) := by decide +kernel
theorem dX5_add_41 : decode cX5_add 41 = .ok (.getfield 27, 3) := by decide +kernel
theorem dX5_add_44 : decode cX5_add 44 = .ok (.iload_n 2, 1) := by decide +kernel
theorem dX5_add_45 : decode cX5_add 45 = .ok (.iastore, 1) := by decide +kernel
theorem dX5_add_46 : decode cX5_add 46 = .ok (.aload_n 0, 1) := by decide +kernel
theorem dX5_add_47 : decode cX5_add 47 = .ok (.dup, 1) := by decide +kernel
theorem dX5_add_48 : decode cX5_add 48 = .ok (.getfield 27, 3) := by decide +kernel
theorem dX5_add_51 : decode cX5_add 51 = .ok (.iconst 1, 1) := by decide +kernel
theorem dX5_add_52 : decode cX5_add 52 = .ok (.iadd, 1) := by decide +kernel
theorem dX5_add_53 : decode cX5_add 53 = .ok (.putfield 27, 3) := by decide +kernel
theorem dX5_add_56 : decode cX5_add 56 = .ok (.return_, 1) := by decide +kernel
noncomputable def EX5_add : Sx := (sseq (sseq (sif (bz ceq (fgi 4 4 (rl 0))) (sseq (fpi 4 5 (rl 0) (il 1)) (fpi 4 6 (rl 0) (il 2))) snop) (sseq (sif (bc clt (fgi 4 4 (rl 0)) (ik 20)) (sseq (aii (fgr 4 1 (rl 0)) (fgi 4 4 (rl 0)) (il 1)) (aii (fgr 4 2 (rl 0)) (fgi 4 4 (rl 0)) (il 2))) snop) (foi (· + ·) 4 4 (rl 0) (ik 1)))) sretv)
noncomputable def DX5_add : Fu := mfv 3 EX5_add
set_option maxRecDepth 4000 in
theorem BX5_add : Vs RX5 cX5_add 3 (rmk 0 0) 0 0 EX5_add := (v_seq (v_seq (v_if (v_zeq_f (v_gfi kX5 lk271 (by decide) rfl (v_aload_n (i := 0) dX5_add_0 rfl (rfl : 0 + 1 = 1)) dX5_add_1 (rfl : 1 + 3 = 4)) dX5_add_4 (rfl : ((4 : Nat) : Int) + 13 = ((17 : Nat) : Int)) (rfl : 4 + 3 = 7)) (v_seq (v_fpi kX5 lk273 (by decide) rfl rfl (by decide +kernel) (v_aload_n (i := 0) dX5_add_7 rfl (rfl : 7 + 1 = 8)) (v_iload_n (i := 1) dX5_add_8 rfl (rfl : 8 + 1 = 9)) dX5_add_9 (rfl : 9 + 3 = 12)) (v_fpi kX5 lk275 (by decide) rfl rfl (by decide +kernel) (v_aload_n (i := 0) dX5_add_12 rfl (rfl : 12 + 1 = 13)) (v_iload_n (i := 2) dX5_add_13 rfl (rfl : 13 + 1 = 14)) dX5_add_14 (rfl : 14 + 3 = 17))) v_nop) (v_seq (v_if (v_ilt_f (v_gfi kX5 lk271 (by decide) rfl (v_aload_n (i := 0) dX5_add_17 rfl (rfl : 17 + 1 = 18)) dX5_add_18 (rfl : 18 + 3 = 21)) (v_bipush (v := 20) dX5_add_21 (by decide) (rfl : 21 + 2 = 23)) dX5_add_23 (rfl : ((23 : Nat) : Int) + 23 = ((46 : Nat) : Int)) (rfl : 23 + 3 = 26)) (v_seq (v_aii (v_gfr kX5 lk268 (by decide) rfl (v_aload_n (i := 0) dX5_add_26 rfl (rfl : 26 + 1 = 27)) dX5_add_27 (rfl : 27 + 3 = 30)) (v_gfi kX5 lk271 (by decide) rfl (v_aload_n (i := 0) dX5_add_30 rfl (rfl : 30 + 1 = 31)) dX5_add_31 (rfl : 31 + 3 = 34)) (v_iload_n (i := 1) dX5_add_34 rfl (rfl : 34 + 1 = 35)) dX5_add_35 (rfl : 35 + 1 = 36)) (v_aii (v_gfr kX5 lk269 (by decide) rfl (v_aload_n (i := 0) dX5_add_36 rfl (rfl : 36 + 1 = 37)) dX5_add_37 (rfl : 37 + 3 = 40)) (v_gfi kX5 lk271 (by decide) rfl (v_aload_n (i := 0) dX5_add_40 rfl (rfl : 40 + 1 = 41)) dX5_add_41 (rfl : 41 + 3 = 44)) (v_iload_n (i := 2) dX5_add_44 rfl (rfl : 44 + 1 = 45)) dX5_add_45 (rfl : 45 + 1 = 46))) v_nop) (v_foi_iadd kX5 lk271 (by decide) rfl rfl (by decide +kernel) (v_aload_n (i := 0) dX5_add_46 rfl (rfl : 46 + 1 = 47)) dX5_add_47 dX5_add_48 (rfl : 47 + 1 + 3 = 51) (v_iconst (v := 1) dX5_add_51 (by decide) (rfl : 51 + 1 = 52)) dX5_add_52 dX5_add_53 (rfl : 52 + 1 + 3 = 56)))) (v_retv dX5_add_56))
theorem IX5_add : Mv yX5_add cX5_add 3 (rmk 0 0) DX5_add := mk_v (by decide +kernel) BX5_add

theorem dX5_alike_0 : decode cX5_alike 0 = .ok (.iconst 0, 1) := by decide +kernel
theorem dX5_alike_1 : decode cX5_alike 1 = .ok (.istore_n 2, 1) := by decide +kernel
theorem dX5_alike_2 : decode cX5_alike 2 = .ok (.iconst 0, 1) := by decide +kernel
theorem dX5_alike_3 : decode cX5_alike 3 = .ok (.istore_n 3, 1) := by decide +kernel
theorem dX5_alike_4 : decode cX5_alike 4 = .ok (.iload_n 3, 1) := by decide +kernel
theorem dX5_alike_5 : decode cX5_alike 5 = .ok (.aload_n 1, 1) := by decide +kernel
theorem dX5_alike_6 : decode cX5_alike 6 = .ok (.getfield 87, 3) := by decide +kernel
theorem dX5_alike_9 : decode cX5_alike 9 = .ok (.if_icmp .ge 41, 3) := by decide +kernel
theorem dX5_alike_12 : decode cX5_alike 12 = .ok (.aload_n 1, 1) := by decide +kernel
theorem dX5_alike_13 : decode cX5_alike 13 = .ok (.getfield 90, 3) := by decide +kernel
theorem dX5_alike_16 : decode cX5_alike 16 = .ok (.iload_n 3, 1) := by decide +kernel
theorem dX5_alike_17 : decode cX5_alike 17 = .ok (.aaload, 1) := by decide +kernel
theorem dX5_alike_18 : decode cX5_alike 18 = .ok (.iconst 3, 1) := by decide +kernel
theorem dX5_alike_19 : decode cX5_alike 19 = .ok (.iaload, 1) := by decide +kernel
theorem dX5_alike_20 : decode cX5_alike 20 = .ok (.istore 4, 2) := by decide +kernel
theorem dX5_alike_22 : decode cX5_alike 22 = .ok (.iload 4, 2) := by decide +kernel
theorem dX5_alike_24 : decode cX5_alike 24 = .ok (.iconst (-1), 1) := by decide +kernel
theorem dX5_alike_25 : decode cX5_alike 25 = .ok (.if_icmp .eq 19, 3) := by decide +kernel
theorem dX5_alike_28 : decode cX5_alike 28 = .ok (.iload 4, 2) := by decide +kernel
theorem dX5_alike_30 : decode cX5_alike 30 = .ok (.aload_n 0, 1) := by decide +kernel
theorem dX5_alike_31 : decode cX5_alike 31 = .ok (.getfield 9, 3) := by decide +kernel
theorem dX5_alike_34 : decode cX5_alike 34 = .ok (.iload_n 3, 1) := by decide +kernel
theorem dX5_alike_35 : decode cX5_alike 35 = .ok (.invokevirtual 93, 3) := by decide +kernel
theorem dX5_alike_38 : decode cX5_alike 38 = .ok (.if_icmp .ne 6, 3) := by decide +kernel
theorem dX5_alike_41 : decode cX5_alike 41 = .ok (.iinc 2 1, 3) := by decide +kernel
theorem dX5_alike_44 : decode cX5_alike 44 = .ok (.iinc 3 1, 3) := by decide +kernel
theorem dX5_alike_47 : decode cX5_alike 47 = .ok (.goto (-43), 3) := by decide +kernel
theorem dX5_alike_50 : decode cX5_alike 50 = .ok (.iload_n 2, 1) := by decide +kernel
theorem dX5_alike_51 : decode cX5_alike 51 = .ok (.ireturn, 1) := by decide +kernel
noncomputable def qX5_alike_1 : Bx := (bc clt (il 3) (fgi 1 0 (rl 1)))
noncomputable def wX5_alike_1 : Sx := (sseq (scut 4 (sseq (ssi 4 (iald (rald 12 (fgr 1 9 (rl 1)) (il 3)) (ik 3))) (sif (band (bc cne (il 4) (ik (-1))) (bc ceq (il 4) (cvi 0 DX0_gauge (fgr 4 0 (rl 0)) (ai (il 3) anil)))) (sinc 2 1) snop))) (sinc 3 1))
noncomputable def EX5_alike : Sx := (sseq (ssi 2 (ik 0)) (sseq (scut 3 (sseq (ssi 3 (ik 0)) (swh qX5_alike_1 wX5_alike_1))) (sret (il 2))))
noncomputable def DX5_alike : Fi := mfi 5 EX5_alike
set_option maxRecDepth 4000 in
theorem BX5_alike : Vs RX5 cX5_alike 5 (rmk 2 61) 0 0 EX5_alike := (v_seq (v_istore_n (i := 2) (v_iconst (v := 0) dX5_alike_0 (by decide) (rfl : 0 + 1 = 1)) dX5_alike_1 rfl (by decide) (rfl : 1 + 1 = 2)) (v_seq (v_cut (n := 3) (v_seq (v_istore_n (i := 3) (v_iconst (v := 0) dX5_alike_2 (by decide) (rfl : 2 + 1 = 3)) dX5_alike_3 rfl (by decide) (rfl : 3 + 1 = 4)) (v_wh (v_ilt_f (v_iload_n (i := 3) dX5_alike_4 rfl (rfl : 4 + 1 = 5)) (v_gfi kX1 lk127 (by decide) rfl (v_aload_n (i := 1) dX5_alike_5 rfl (rfl : 5 + 1 = 6)) dX5_alike_6 (rfl : 6 + 3 = 9)) dX5_alike_9 (rfl : ((9 : Nat) : Int) + 41 = ((50 : Nat) : Int)) (rfl : 9 + 3 = 12)) (vs_goto (v_seq (v_cut (n := 4) (v_seq (v_istore (i := 4) (v_iald (v_rald (q := 12) (t0 := 4) (ty0 := .array .int) ⟨by decide, by decide⟩ (fun _ => rfl) rfl (v_gfr kX1 lk152 (by decide) rfl (v_aload_n (i := 1) dX5_alike_12 rfl (rfl : 12 + 1 = 13)) dX5_alike_13 (rfl : 13 + 3 = 16)) (v_iload_n (i := 3) dX5_alike_16 rfl (rfl : 16 + 1 = 17)) dX5_alike_17 (rfl : 17 + 1 = 18)) (v_iconst (v := 3) dX5_alike_18 (by decide) (rfl : 18 + 1 = 19)) dX5_alike_19 (rfl : 19 + 1 = 20)) dX5_alike_20 (by decide) (rfl : 20 + 2 = 22)) (v_if (v_and (v_ine_f (v_iload (i := 4) dX5_alike_22 (rfl : 22 + 2 = 24)) (v_iconst (v := (-1)) dX5_alike_24 (by decide) (rfl : 24 + 1 = 25)) dX5_alike_25 (rfl : ((25 : Nat) : Int) + 19 = ((44 : Nat) : Int)) (rfl : 25 + 3 = 28)) (v_ieq_f (v_iload (i := 4) dX5_alike_28 (rfl : 28 + 2 = 30)) (v_cvi kX0 IX0_gauge hX0_gauge lk858 ⟨by decide, by decide⟩ (by decide) (v_gfr kX5 lk267 (by decide) rfl (v_aload_n (i := 0) dX5_alike_30 rfl (rfl : 30 + 1 = 31)) dX5_alike_31 (rfl : 31 + 3 = 34)) (v_ai (v_iload_n (i := 3) dX5_alike_34 rfl (rfl : 34 + 1 = 35)) v_anil) dX5_alike_35 (rfl : 35 + 3 = 38)) dX5_alike_38 (rfl : ((38 : Nat) : Int) + 6 = ((44 : Nat) : Int)) (rfl : 38 + 3 = 41))) (v_iinc (v := 1) dX5_alike_41 (by decide) (by decide) (rfl : 41 + 3 = 44)) v_nop))) (v_iinc (v := 1) dX5_alike_44 (by decide) (by decide) (rfl : 44 + 3 = 47))) dX5_alike_47 (rfl : ((47 : Nat) : Int) + (-43) = ((4 : Nat) : Int)))))) (v_ret (v_iload_n (i := 2) dX5_alike_50 rfl (rfl : 50 + 1 = 51)) dX5_alike_51)))
theorem IX5_alike : Mi yX5_alike cX5_alike 5 (rmk 2 61) DX5_alike := mk_i (by decide +kernel) BX5_alike

theorem dX5_look_0 : decode cX5_look 0 = .ok (.iconst 0, 1) := by decide +kernel
theorem dX5_look_1 : decode cX5_look 1 = .ok (.istore_n 3, 1) := by decide +kernel
theorem dX5_look_2 : decode cX5_look 2 = .ok (.iload_n 3, 1) := by decide +kernel
theorem dX5_look_3 : decode cX5_look 3 = .ok (.iconst 5, 1) := by decide +kernel
theorem dX5_look_4 : decode cX5_look 4 = .ok (.if_icmp .ge 56, 3) := by decide +kernel
theorem dX5_look_7 : decode cX5_look 7 = .ok (.iload_n 3, 1) := by decide +kernel
theorem dX5_look_8 : decode cX5_look 8 = .ok (.aload_n 1, 1) := by decide +kernel
theorem dX5_look_9 : decode cX5_look 9 = .ok (.getfield 87, 3) := by decide +kernel
theorem dX5_look_12 : decode cX5_look 12 = .ok (.if_icmp .ge 19, 3) := by decide +kernel
theorem dX5_look_15 : decode cX5_look 15 = .ok (.aload_n 1, 1) := by decide +kernel
theorem dX5_look_16 : decode cX5_look 16 = .ok (.getfield 90, 3) := by decide +kernel
theorem dX5_look_19 : decode cX5_look 19 = .ok (.iload_n 3, 1) := by decide +kernel
theorem dX5_look_20 : decode cX5_look 20 = .ok (.aaload, 1) := by decide +kernel
theorem dX5_look_21 : decode cX5_look 21 = .ok (.iconst 3, 1) := by decide +kernel
theorem dX5_look_22 : decode cX5_look 22 = .ok (.iaload, 1) := by decide +kernel
theorem dX5_look_23 : decode cX5_look 23 = .ok (.iconst (-1), 1) := by decide +kernel
theorem dX5_look_24 : decode cX5_look 24 = .ok (.if_icmp .eq 7, 3) := by decide +kernel
theorem dX5_look_27 : decode cX5_look 27 = .ok (.iconst 1, 1) := by decide +kernel
theorem dX5_look_28 : decode cX5_look 28 = .ok (.goto 4, 3) := by decide +kernel
theorem dX5_look_31 : decode cX5_look 31 = .ok (.iconst 0, 1) := by decide +kernel
theorem dX5_look_32 : decode cX5_look 32 = .ok (.istore 4, 2) := by decide +kernel
theorem dX5_look_34 : decode cX5_look 34 = .ok (.aload_n 2, 1) := by decide +kernel
theorem dX5_look_35 : decode cX5_look 35 = .ok (.iload_n 3, 1) := by decide +kernel
theorem dX5_look_36 : decode cX5_look 36 = .ok (.iload 4, 2) := by decide +kernel
theorem dX5_look_38 : decode cX5_look 38 = .ok (.ifCond .eq 14, 3) := by decide +kernel
theorem dX5_look_41 : decode cX5_look 41 = .ok (.aload_n 0, 1) := by decide +kernel
theorem dX5_look_42 : decode cX5_look 42 = .ok (.getfield 9, 3) := by decide +kernel
theorem dX5_look_45 : decode cX5_look 45 = .ok (.iload_n 3, 1) := by decide +kernel
theorem dX5_look_46 : decode cX5_look 46 = .ok (.invokevirtual 93, 3) := by decide +kernel
theorem dX5_look_49 : decode cX5_look 49 = .ok (.goto 4, 3) := by decide +kernel
theorem dX5_look_52 : decode cX5_look 52 = .ok (.iconst (-1), 1) := by decide +kernel
theorem dX5_look_53 : decode cX5_look 53 = .ok (.iastore, 1) := by decide +kernel
theorem dX5_look_54 : decode cX5_look 54 = .ok (.iinc 3 1, 3) := by decide +kernel
theorem dX5_look_57 : decode cX5_look 57 = .ok (.goto (-55), 3) := by decide +kernel
theorem dX5_look_60 : decode cX5_look 60 = .ok (.aload_n 2, 1) := by decide +kernel
theorem dX5_look_61 : decode cX5_look 61 = .ok (.iconst 5, 1) := by decide +kernel
theorem dX5_look_62 : decode cX5_look 62 = .ok (.aload_n 0, 1) := by decide +kernel
theorem dX5_look_63 : decode cX5_look 63 = .ok (.getfield 9, 3) := by decide +kernel
theorem dX5_look_66 : decode cX5_look 66 = .ok (.invokevirtual 70, 3) := by decide +kernel
theorem dX5_look_69 : decode cX5_look 69 = .ok (.ifCond .eq 7, 3) := by decide +kernel
theorem dX5_look_72 : decode cX5_look 72 = .ok (.iconst 1, 1) := by decide +kernel
theorem dX5_look_73 : decode cX5_look 73 = .ok (.goto 4, 3) := by decide +kernel
theorem dX5_look_76 : decode cX5_look 76 = .ok (.iconst 0, 1) := by decide +kernel
theorem dX5_look_77 : decode cX5_look 77 = .ok (.iastore, 1) := by decide +kernel
theorem dX5_look_78 : decode cX5_look 78 = .ok (.return_, 1) := by decide +kernel
noncomputable def qX5_look_1 : Bx := (bc clt (il 3) (ik 5))
noncomputable def wX5_look_1 : Sx := (sseq (scut 4 (sseq (ssi 4 (ic (band (bc clt (il 3) (fgi 1 0 (rl 1))) (bc cne (iald (rald 12 (fgr 1 9 (rl 1)) (il 3)) (ik 3)) (ik (-1)))) (ik 1) (ik 0))) (aii (rl 2) (il 3) (ic (bz cne (il 4)) (cvi 0 DX0_gauge (fgr 4 0 (rl 0)) (ai (il 3) anil)) (ik (-1)))))) (sinc 3 1))
noncomputable def EX5_look : Sx := (sseq (sseq (scut 3 (sseq (ssi 3 (ik 0)) (swh qX5_look_1 wX5_look_1))) (aii (rl 2) (ik 5) (ic (bz cne (cvz 0 DX0_hunts (fgr 4 0 (rl 0)) anil)) (ik 1) (ik 0)))) sretv)
noncomputable def DX5_look : Fu := mfv 5 EX5_look
set_option maxRecDepth 4000 in
theorem BX5_look : Vs RX5 cX5_look 5 (rmk 2 61) 0 0 EX5_look := (v_seq (v_seq (v_cut (n := 3) (v_seq (v_istore_n (i := 3) (v_iconst (v := 0) dX5_look_0 (by decide) (rfl : 0 + 1 = 1)) dX5_look_1 rfl (by decide) (rfl : 1 + 1 = 2)) (v_wh (v_ilt_f (v_iload_n (i := 3) dX5_look_2 rfl (rfl : 2 + 1 = 3)) (v_iconst (v := 5) dX5_look_3 (by decide) (rfl : 3 + 1 = 4)) dX5_look_4 (rfl : ((4 : Nat) : Int) + 56 = ((60 : Nat) : Int)) (rfl : 4 + 3 = 7)) (vs_goto (v_seq (v_cut (n := 4) (v_seq (v_istore (i := 4) (v_ic (v_and (v_ilt_f (v_iload_n (i := 3) dX5_look_7 rfl (rfl : 7 + 1 = 8)) (v_gfi kX1 lk127 (by decide) rfl (v_aload_n (i := 1) dX5_look_8 rfl (rfl : 8 + 1 = 9)) dX5_look_9 (rfl : 9 + 3 = 12)) dX5_look_12 (rfl : ((12 : Nat) : Int) + 19 = ((31 : Nat) : Int)) (rfl : 12 + 3 = 15)) (v_ine_f (v_iald (v_rald (q := 12) (t0 := 4) (ty0 := .array .int) ⟨by decide, by decide⟩ (fun _ => rfl) rfl (v_gfr kX1 lk152 (by decide) rfl (v_aload_n (i := 1) dX5_look_15 rfl (rfl : 15 + 1 = 16)) dX5_look_16 (rfl : 16 + 3 = 19)) (v_iload_n (i := 3) dX5_look_19 rfl (rfl : 19 + 1 = 20)) dX5_look_20 (rfl : 20 + 1 = 21)) (v_iconst (v := 3) dX5_look_21 (by decide) (rfl : 21 + 1 = 22)) dX5_look_22 (rfl : 22 + 1 = 23)) (v_iconst (v := (-1)) dX5_look_23 (by decide) (rfl : 23 + 1 = 24)) dX5_look_24 (rfl : ((24 : Nat) : Int) + 7 = ((31 : Nat) : Int)) (rfl : 24 + 3 = 27))) (vi_goto (v_iconst (v := 1) dX5_look_27 (by decide) (rfl : 27 + 1 = 28)) dX5_look_28 (rfl : ((28 : Nat) : Int) + 4 = ((32 : Nat) : Int))) (v_iconst (v := 0) dX5_look_31 (by decide) (rfl : 31 + 1 = 32))) dX5_look_32 (by decide) (rfl : 32 + 2 = 34)) (v_aii (v_aload_n (i := 2) dX5_look_34 rfl (rfl : 34 + 1 = 35)) (v_iload_n (i := 3) dX5_look_35 rfl (rfl : 35 + 1 = 36)) (v_ic (v_zne_f (v_iload (i := 4) dX5_look_36 (rfl : 36 + 2 = 38)) dX5_look_38 (rfl : ((38 : Nat) : Int) + 14 = ((52 : Nat) : Int)) (rfl : 38 + 3 = 41)) (vi_goto (v_cvi kX0 IX0_gauge hX0_gauge lk858 ⟨by decide, by decide⟩ (by decide) (v_gfr kX5 lk267 (by decide) rfl (v_aload_n (i := 0) dX5_look_41 rfl (rfl : 41 + 1 = 42)) dX5_look_42 (rfl : 42 + 3 = 45)) (v_ai (v_iload_n (i := 3) dX5_look_45 rfl (rfl : 45 + 1 = 46)) v_anil) dX5_look_46 (rfl : 46 + 3 = 49)) dX5_look_49 (rfl : ((49 : Nat) : Int) + 4 = ((53 : Nat) : Int))) (v_iconst (v := (-1)) dX5_look_52 (by decide) (rfl : 52 + 1 = 53))) dX5_look_53 (rfl : 53 + 1 = 54)))) (v_iinc (v := 1) dX5_look_54 (by decide) (by decide) (rfl : 54 + 3 = 57))) dX5_look_57 (rfl : ((57 : Nat) : Int) + (-55) = ((2 : Nat) : Int)))))) (v_aii (v_aload_n (i := 2) dX5_look_60 rfl (rfl : 60 + 1 = 61)) (v_iconst (v := 5) dX5_look_61 (by decide) (rfl : 61 + 1 = 62)) (v_ic (v_zne_f (v_cvz kX0 IX0_hunts hX0_hunts lk853 ⟨by decide, by decide⟩ (by decide) (v_gfr kX5 lk267 (by decide) rfl (v_aload_n (i := 0) dX5_look_62 rfl (rfl : 62 + 1 = 63)) dX5_look_63 (rfl : 63 + 3 = 66)) v_anil dX5_look_66 (rfl : 66 + 3 = 69)) dX5_look_69 (rfl : ((69 : Nat) : Int) + 7 = ((76 : Nat) : Int)) (rfl : 69 + 3 = 72)) (vi_goto (v_iconst (v := 1) dX5_look_72 (by decide) (rfl : 72 + 1 = 73)) dX5_look_73 (rfl : ((73 : Nat) : Int) + 4 = ((77 : Nat) : Int))) (v_iconst (v := 0) dX5_look_76 (by decide) (rfl : 76 + 1 = 77))) dX5_look_77 (rfl : 77 + 1 = 78))) (v_retv dX5_look_78))
theorem IX5_look : Mv yX5_look cX5_look 5 (rmk 2 61) DX5_look := mk_v (by decide +kernel) BX5_look

theorem dX5_same_0 : decode cX5_same 0 = .ok (.iconst 0, 1) := by decide +kernel
theorem dX5_same_1 : decode cX5_same 1 = .ok (.istore_n 2, 1) := by decide +kernel
theorem dX5_same_2 : decode cX5_same 2 = .ok (.iload_n 2, 1) := by decide +kernel
theorem dX5_same_3 : decode cX5_same 3 = .ok (.iconst 5, 1) := by decide +kernel
theorem dX5_same_4 : decode cX5_same 4 = .ok (.if_icmp .gt 20, 3) := by decide +kernel
theorem dX5_same_7 : decode cX5_same 7 = .ok (.aload_n 0, 1) := by decide +kernel
theorem dX5_same_8 : decode cX5_same 8 = .ok (.iload_n 2, 1) := by decide +kernel
theorem dX5_same_9 : decode cX5_same 9 = .ok (.iaload, 1) := by decide +kernel
theorem dX5_same_10 : decode cX5_same 10 = .ok (.aload_n 1, 1) := by decide +kernel
theorem dX5_same_11 : decode cX5_same 11 = .ok (.iload_n 2, 1) := by decide +kernel
theorem dX5_same_12 : decode cX5_same 12 = .ok (.iaload, 1) := by decide +kernel
theorem dX5_same_13 : decode cX5_same 13 = .ok (.if_icmp .eq 5, 3) := by decide +kernel
theorem dX5_same_16 : decode cX5_same 16 = .ok (.iconst 0, 1) := by decide +kernel
theorem dX5_same_17 : decode cX5_same 17 = .ok (.ireturn, 1) := by decide +kernel
theorem dX5_same_18 : decode cX5_same 18 = .ok (.iinc 2 1, 3) := by decide +kernel
theorem dX5_same_21 : decode cX5_same 21 = .ok (.goto (-19), 3) := by decide +kernel
theorem dX5_same_24 : decode cX5_same 24 = .ok (.iconst 1, 1) := by decide +kernel
theorem dX5_same_25 : decode cX5_same 25 = .ok (.ireturn, 1) := by decide +kernel
noncomputable def qX5_same_1 : Bx := (bc cle (il 2) (ik 5))
noncomputable def wX5_same_1 : Sx := (sseq (sif (bc cne (iald (rl 0) (il 2)) (iald (rl 1) (il 2))) (sret (ik 0)) snop) (sinc 2 1))
noncomputable def EX5_same : Sx := (sseq (scut 2 (sseq (ssi 2 (ik 0)) (swh qX5_same_1 wX5_same_1))) (sret (ik 1)))
noncomputable def DX5_same : Fz := mfz 3 EX5_same
set_option maxRecDepth 4000 in
theorem BX5_same : Vs RX5 cX5_same 3 (rmk 0 0) 0 0 EX5_same := (v_seq (v_cut (n := 2) (v_seq (v_istore_n (i := 2) (v_iconst (v := 0) dX5_same_0 (by decide) (rfl : 0 + 1 = 1)) dX5_same_1 rfl (by decide) (rfl : 1 + 1 = 2)) (v_wh (v_ile_f (v_iload_n (i := 2) dX5_same_2 rfl (rfl : 2 + 1 = 3)) (v_iconst (v := 5) dX5_same_3 (by decide) (rfl : 3 + 1 = 4)) dX5_same_4 (rfl : ((4 : Nat) : Int) + 20 = ((24 : Nat) : Int)) (rfl : 4 + 3 = 7)) (vs_goto (v_seq (v_if (v_ine_f (v_iald (v_aload_n (i := 0) dX5_same_7 rfl (rfl : 7 + 1 = 8)) (v_iload_n (i := 2) dX5_same_8 rfl (rfl : 8 + 1 = 9)) dX5_same_9 (rfl : 9 + 1 = 10)) (v_iald (v_aload_n (i := 1) dX5_same_10 rfl (rfl : 10 + 1 = 11)) (v_iload_n (i := 2) dX5_same_11 rfl (rfl : 11 + 1 = 12)) dX5_same_12 (rfl : 12 + 1 = 13)) dX5_same_13 (rfl : ((13 : Nat) : Int) + 5 = ((18 : Nat) : Int)) (rfl : 13 + 3 = 16)) (v_ret (v_iconst (v := 0) dX5_same_16 (by decide) (rfl : 16 + 1 = 17)) dX5_same_17) v_nop) (v_iinc (v := 1) dX5_same_18 (by decide) (by decide) (rfl : 18 + 3 = 21))) dX5_same_21 (rfl : ((21 : Nat) : Int) + (-19) = ((2 : Nat) : Int)))))) (v_ret (v_iconst (v := 1) dX5_same_24 (by decide) (rfl : 24 + 1 = 25)) dX5_same_25))
theorem IX5_same : Mz yX5_same cX5_same 3 (rmk 0 0) DX5_same := mk_z (by decide +kernel) BX5_same

theorem dX5_leaves_0 : decode cX5_leaves 0 = .ok (.aload_n 0, 1) := by decide +kernel
theorem dX5_leaves_1 : decode cX5_leaves 1 = .ok (.getfield 27, 3) := by decide +kernel
theorem dX5_leaves_4 : decode cX5_leaves 4 = .ok (.bipush 20, 2) := by decide +kernel
theorem dX5_leaves_6 : decode cX5_leaves 6 = .ok (.invokestatic 97, 3) := by decide +kernel
theorem dX5_leaves_9 : decode cX5_leaves 9 = .ok (.istore_n 2, 1) := by decide +kernel
theorem dX5_leaves_10 : decode cX5_leaves 10 = .ok (.iconst 0, 1) := by decide +kernel
theorem dX5_leaves_11 : decode cX5_leaves 11 = .ok (.istore_n 3, 1) := by decide +kernel
theorem dX5_leaves_12 : decode cX5_leaves 12 = .ok (.iload_n 3, 1) := by decide +kernel
theorem dX5_leaves_13 : decode cX5_leaves 13 = .ok (.iload_n 2, 1) := by decide +kernel
theorem dX5_leaves_14 : decode cX5_leaves 14 = .ok (.if_icmp .ge 44, 3) := by decide +kernel
theorem dX5_leaves_17 : decode cX5_leaves 17 = .ok (.aload_n 1, 1) := by decide +kernel
theorem dX5_leaves_18 : decode cX5_leaves 18 = .ok (.aload_n 0, 1) := by decide +kernel
theorem dX5_leaves_19 : decode cX5_leaves 19 = .ok (.getfield 15, 3) := by decide +kernel
theorem dX5_leaves_22 : decode cX5_leaves 22 = .ok (.iload_n 3, 1) := by decide +kernel
theorem dX5_leaves_23 : decode cX5_leaves 23 = .ok (.iaload, 1) := by decide +kernel
theorem dX5_leaves_24 : decode cX5_leaves 24 = .ok (.aload_n 0, 1) := by decide +kernel
theorem dX5_leaves_25 : decode cX5_leaves 25 = .ok (.getfield 19, 3) := by decide +kernel
theorem dX5_leaves_28 : decode cX5_leaves 28 = .ok (.iload_n 3, 1) := by decide +kernel
theorem dX5_leaves_29 : decode cX5_leaves 29 = .ok (.iaload, 1) := by decide +kernel
theorem dX5_leaves_30 : decode cX5_leaves 30 = .ok (.invokevirtual 60, 3) := by decide +kernel
theorem dX5_leaves_33 : decode cX5_leaves 33 = .ok (.aload_n 0, 1) := by decide +kernel
theorem dX5_leaves_34 : decode cX5_leaves 34 = .ok (.getfield 9, 3) := by decide +kernel
theorem dX5_leaves_37 : decode cX5_leaves 37 = .ok (.aload_n 1, 1) := by decide +kernel
theorem dX5_leaves_38 : decode cX5_leaves 38 = .ok (.invokevirtual 64, 3) := by decide +kernel
theorem dX5_leaves_41 : decode cX5_leaves 41 = .ok (.aload_n 0, 1) := by decide +kernel
theorem dX5_leaves_42 : decode cX5_leaves 42 = .ok (.aload_n 1, 1) := by decide +kernel
theorem dX5_leaves_43 : decode cX5_leaves 43 = .ok (.aload_n 0, 1) := by decide +kernel
theorem dX5_leaves_44 : decode cX5_leaves 44 = .ok (.getfield 24, 3) := by decide +kernel
theorem dX5_leaves_47 : decode cX5_leaves 47 = .ok (.iload_n 3, 1) := by decide +kernel
theorem dX5_leaves_48 : decode cX5_leaves 48 = .ok (.aaload, 1) := by decide +kernel
theorem dX5_leaves_49 : decode cX5_leaves 49 = .ok (.invokevirtual 100, 3) := by decide +kernel
theorem dX5_leaves_52 : decode cX5_leaves 52 = .ok (.iinc 3 1, 3) := by decide +kernel
theorem dX5_leaves_55 : decode cX5_leaves 55 = .ok (.goto (-43), 3) := by decide +kernel
theorem dX5_leaves_58 : decode cX5_leaves 58 = .ok (.iconst 0, 1) := by decide +kernel
theorem dX5_leaves_59 : decode cX5_leaves 59 = .ok (.istore_n 3, 1) := by decide +kernel
theorem dX5_leaves_60 : decode cX5_leaves 60 = .ok (.iconst 0, 1) := by decide +kernel
theorem dX5_leaves_61 : decode cX5_leaves 61 = .ok (.istore 4, 2) := by decide +kernel
theorem dX5_leaves_63 : decode cX5_leaves 63 = .ok (.iload 4, 2) := by decide +kernel
theorem dX5_leaves_65 : decode cX5_leaves 65 = .ok (.iload_n 2, 1) := by decide +kernel
theorem dX5_leaves_66 : decode cX5_leaves 66 = .ok (.if_icmp .ge 58, 3) := by decide +kernel
theorem dX5_leaves_69 : decode cX5_leaves 69 = .ok (.iconst 0, 1) := by decide +kernel
theorem dX5_leaves_70 : decode cX5_leaves 70 = .ok (.istore 5, 2) := by decide +kernel
theorem dX5_leaves_72 : decode cX5_leaves 72 = .ok (.iload 4, 2) := by decide +kernel
theorem dX5_leaves_74 : decode cX5_leaves 74 = .ok (.istore 6, 2) := by decide +kernel
theorem dX5_leaves_76 : decode cX5_leaves 76 = .ok (.iload 6, 2) := by decide +kernel
theorem dX5_leaves_78 : decode cX5_leaves 78 = .ok (.iload_n 2, 1) := by decide +kernel
theorem dX5_leaves_79 : decode cX5_leaves 79 = .ok (.if_icmp .ge 32, 3) := by decide +kernel
theorem dX5_leaves_82 : decode cX5_leaves 82 = .ok (.aload_n 0, 1) := by decide +kernel
theorem dX5_leaves_83 : decode cX5_leaves 83 = .ok (.getfield 24, 3) := by decide +kernel
theorem dX5_leaves_86 : decode cX5_leaves 86 = .ok (.iload 4, 2) := by decide +kernel
theorem dX5_leaves_88 : decode cX5_leaves 88 = .ok (.aaload, 1) := by decide +kernel
theorem dX5_leaves_89 : decode cX5_leaves 89 = .ok (.aload_n 0, 1) := by decide +kernel
theorem dX5_leaves_90 : decode cX5_leaves 90 = .ok (.getfield 24, 3) := by decide +kernel
theorem dX5_leaves_93 : decode cX5_leaves 93 = .ok (.iload 6, 2) := by decide +kernel
theorem dX5_leaves_95 : decode cX5_leaves 95 = .ok (.aaload, 1) := by decide +kernel
theorem dX5_leaves_96 : decode cX5_leaves 96 = .ok (.invokestatic 104, 3) := by decide +kernel
theorem dX5_leaves_99 : decode cX5_leaves 99 = .ok (.ifCond .eq 6, 3) := by decide +kernel
theorem dX5_leaves_102 : decode cX5_leaves 102 = .ok (.iinc 5 1, 3) := by decide +kernel
theorem dX5_leaves_105 : decode cX5_leaves 105 = .ok (.iinc 6 1, 3) := by decide +kernel
theorem dX5_leaves_108 : decode cX5_leaves 108 = .ok (.goto (-32), 3) := by decide +kernel
theorem dX5_leaves_111 : decode cX5_leaves 111 = .ok (.iload_n 3, 1) := by decide +kernel
theorem dX5_leaves_112 : decode cX5_leaves 112 = .ok (.iload 5, 2) := by decide +kernel
theorem dX5_leaves_114 : decode cX5_leaves 114 = .ok (.invokestatic 78, 3) := by decide +kernel
theorem dX5_leaves_117 : decode cX5_leaves 117 = .ok (.istore_n 3, 1) := by decide +kernel
theorem dX5_leaves_118 : decode cX5_leaves 118 = .ok (.iinc 4 1, 3) := by decide +kernel
theorem dX5_leaves_121 : decode cX5_leaves 121 = .ok (.goto (-58), 3) := by decide +kernel
theorem dX5_leaves_124 : decode cX5_leaves 124 = .ok (.iload_n 3, 1) := by decide +kernel
theorem dX5_leaves_125 : decode cX5_leaves 125 = .ok (.ireturn, 1) := by decide +kernel
noncomputable def qX5_leaves_1 : Bx := (bc clt (il 3) (il 2))
noncomputable def wX5_leaves_1 : Sx := (sseq (sseq (scv 1 DX1_putLeak (rl 1) (ai (iald (fgr 4 1 (rl 0)) (il 3)) (ai (iald (fgr 4 2 (rl 0)) (il 3)) anil))) (sseq (scv 0 DX0_solve (fgr 4 0 (rl 0)) (ar (rl 1) anil)) (scv 4 DX5_look (rl 0) (ar (rl 1) (ar (rald 12 (fgr 4 3 (rl 0)) (il 3)) anil))))) (sinc 3 1))
noncomputable def qX5_leaves_2 : Bx := (bc clt (il 6) (il 2))
noncomputable def wX5_leaves_2 : Sx := (sseq (sif (bz cne (csz DX5_same (ar (rald 12 (fgr 4 3 (rl 0)) (il 4)) (ar (rald 12 (fgr 4 3 (rl 0)) (il 6)) anil)))) (sinc 5 1) snop) (sinc 6 1))
noncomputable def qX5_leaves_3 : Bx := (bc clt (il 4) (il 2))
noncomputable def wX5_leaves_3 : Sx := (sseq (scut 5 (sseq (ssi 5 (ik 0)) (sseq (scut 6 (sseq (ssi 6 (il 4)) (swh qX5_leaves_2 wX5_leaves_2))) (ssi 3 (i2 mxi (il 3) (il 5)))))) (sinc 4 1))
noncomputable def EX5_leaves : Sx := (sseq (ssi 2 (i2 mni (fgi 4 4 (rl 0)) (ik 20))) (sseq (scut 3 (sseq (ssi 3 (ik 0)) (swh qX5_leaves_1 wX5_leaves_1))) (sseq (ssi 3 (ik 0)) (sseq (scut 4 (sseq (ssi 4 (ik 0)) (swh qX5_leaves_3 wX5_leaves_3))) (sret (il 3))))))
noncomputable def DX5_leaves : Fi := mfi 7 EX5_leaves
set_option maxRecDepth 4000 in
theorem BX5_leaves : Vs RX5 cX5_leaves 7 (rmk 4 106) 0 0 EX5_leaves := (v_seq (v_istore_n (i := 2) (v_mni lk872 ma_mni_s lkMath ma_mni_c ⟨by decide, by decide⟩ (v_gfi kX5 lk271 (by decide) rfl (v_aload_n (i := 0) dX5_leaves_0 rfl (rfl : 0 + 1 = 1)) dX5_leaves_1 (rfl : 1 + 3 = 4)) (v_bipush (v := 20) dX5_leaves_4 (by decide) (rfl : 4 + 2 = 6)) dX5_leaves_6 (rfl : 6 + 3 = 9)) dX5_leaves_9 rfl (by decide) (rfl : 9 + 1 = 10)) (v_seq (v_cut (n := 3) (v_seq (v_istore_n (i := 3) (v_iconst (v := 0) dX5_leaves_10 (by decide) (rfl : 10 + 1 = 11)) dX5_leaves_11 rfl (by decide) (rfl : 11 + 1 = 12)) (v_wh (v_ilt_f (v_iload_n (i := 3) dX5_leaves_12 rfl (rfl : 12 + 1 = 13)) (v_iload_n (i := 2) dX5_leaves_13 rfl (rfl : 13 + 1 = 14)) dX5_leaves_14 (rfl : ((14 : Nat) : Int) + 44 = ((58 : Nat) : Int)) (rfl : 14 + 3 = 17)) (vs_goto (v_seq (v_seq (v_scv kX1 IX1_putLeak hX1_putLeak lk851 ⟨by decide, by decide⟩ (v_aload_n (i := 1) dX5_leaves_17 rfl (rfl : 17 + 1 = 18)) (v_ai (v_iald (v_gfr kX5 lk268 (by decide) rfl (v_aload_n (i := 0) dX5_leaves_18 rfl (rfl : 18 + 1 = 19)) dX5_leaves_19 (rfl : 19 + 3 = 22)) (v_iload_n (i := 3) dX5_leaves_22 rfl (rfl : 22 + 1 = 23)) dX5_leaves_23 (rfl : 23 + 1 = 24)) (v_ai (v_iald (v_gfr kX5 lk269 (by decide) rfl (v_aload_n (i := 0) dX5_leaves_24 rfl (rfl : 24 + 1 = 25)) dX5_leaves_25 (rfl : 25 + 3 = 28)) (v_iload_n (i := 3) dX5_leaves_28 rfl (rfl : 28 + 1 = 29)) dX5_leaves_29 (rfl : 29 + 1 = 30)) v_anil)) dX5_leaves_30 (rfl : 30 + 3 = 33)) (v_seq (v_scv kX0 IX0_solve hX0_solve lk852 ⟨by decide, by decide⟩ (v_gfr kX5 lk267 (by decide) rfl (v_aload_n (i := 0) dX5_leaves_33 rfl (rfl : 33 + 1 = 34)) dX5_leaves_34 (rfl : 34 + 3 = 37)) (v_ar (v_aload_n (i := 1) dX5_leaves_37 rfl (rfl : 37 + 1 = 38)) v_anil) dX5_leaves_38 (rfl : 38 + 3 = 41)) (v_scv kX5 IX5_look hX5_look lk875 ⟨by decide, by decide⟩ (v_aload_n (i := 0) dX5_leaves_41 rfl (rfl : 41 + 1 = 42)) (v_ar (v_aload_n (i := 1) dX5_leaves_42 rfl (rfl : 42 + 1 = 43)) (v_ar (v_rald (q := 12) (t0 := 4) (ty0 := .array .int) ⟨by decide, by decide⟩ (fun _ => rfl) rfl (v_gfr kX5 lk270 (by decide) rfl (v_aload_n (i := 0) dX5_leaves_43 rfl (rfl : 43 + 1 = 44)) dX5_leaves_44 (rfl : 44 + 3 = 47)) (v_iload_n (i := 3) dX5_leaves_47 rfl (rfl : 47 + 1 = 48)) dX5_leaves_48 (rfl : 48 + 1 = 49)) v_anil)) dX5_leaves_49 (rfl : 49 + 3 = 52)))) (v_iinc (v := 1) dX5_leaves_52 (by decide) (by decide) (rfl : 52 + 3 = 55))) dX5_leaves_55 (rfl : ((55 : Nat) : Int) + (-43) = ((12 : Nat) : Int)))))) (v_seq (v_istore_n (i := 3) (v_iconst (v := 0) dX5_leaves_58 (by decide) (rfl : 58 + 1 = 59)) dX5_leaves_59 rfl (by decide) (rfl : 59 + 1 = 60)) (v_seq (v_cut (n := 4) (v_seq (v_istore (i := 4) (v_iconst (v := 0) dX5_leaves_60 (by decide) (rfl : 60 + 1 = 61)) dX5_leaves_61 (by decide) (rfl : 61 + 2 = 63)) (v_wh (v_ilt_f (v_iload (i := 4) dX5_leaves_63 (rfl : 63 + 2 = 65)) (v_iload_n (i := 2) dX5_leaves_65 rfl (rfl : 65 + 1 = 66)) dX5_leaves_66 (rfl : ((66 : Nat) : Int) + 58 = ((124 : Nat) : Int)) (rfl : 66 + 3 = 69)) (vs_goto (v_seq (v_cut (n := 5) (v_seq (v_istore (i := 5) (v_iconst (v := 0) dX5_leaves_69 (by decide) (rfl : 69 + 1 = 70)) dX5_leaves_70 (by decide) (rfl : 70 + 2 = 72)) (v_seq (v_cut (n := 6) (v_seq (v_istore (i := 6) (v_iload (i := 4) dX5_leaves_72 (rfl : 72 + 2 = 74)) dX5_leaves_74 (by decide) (rfl : 74 + 2 = 76)) (v_wh (v_ilt_f (v_iload (i := 6) dX5_leaves_76 (rfl : 76 + 2 = 78)) (v_iload_n (i := 2) dX5_leaves_78 rfl (rfl : 78 + 1 = 79)) dX5_leaves_79 (rfl : ((79 : Nat) : Int) + 32 = ((111 : Nat) : Int)) (rfl : 79 + 3 = 82)) (vs_goto (v_seq (v_if (v_zne_f (v_csz IX5_same hX5_same lk879 ⟨by decide, by decide⟩ (by decide) (v_ar (v_rald (q := 12) (t0 := 4) (ty0 := .array .int) ⟨by decide, by decide⟩ (fun _ => rfl) rfl (v_gfr kX5 lk270 (by decide) rfl (v_aload_n (i := 0) dX5_leaves_82 rfl (rfl : 82 + 1 = 83)) dX5_leaves_83 (rfl : 83 + 3 = 86)) (v_iload (i := 4) dX5_leaves_86 (rfl : 86 + 2 = 88)) dX5_leaves_88 (rfl : 88 + 1 = 89)) (v_ar (v_rald (q := 12) (t0 := 4) (ty0 := .array .int) ⟨by decide, by decide⟩ (fun _ => rfl) rfl (v_gfr kX5 lk270 (by decide) rfl (v_aload_n (i := 0) dX5_leaves_89 rfl (rfl : 89 + 1 = 90)) dX5_leaves_90 (rfl : 90 + 3 = 93)) (v_iload (i := 6) dX5_leaves_93 (rfl : 93 + 2 = 95)) dX5_leaves_95 (rfl : 95 + 1 = 96)) v_anil)) dX5_leaves_96 (rfl : 96 + 3 = 99)) dX5_leaves_99 (rfl : ((99 : Nat) : Int) + 6 = ((105 : Nat) : Int)) (rfl : 99 + 3 = 102)) (v_iinc (v := 1) dX5_leaves_102 (by decide) (by decide) (rfl : 102 + 3 = 105)) v_nop) (v_iinc (v := 1) dX5_leaves_105 (by decide) (by decide) (rfl : 105 + 3 = 108))) dX5_leaves_108 (rfl : ((108 : Nat) : Int) + (-32) = ((76 : Nat) : Int)))))) (v_istore_n (i := 3) (v_mxi lk859 ma_mxi_s lkMath ma_mxi_c ⟨by decide, by decide⟩ (v_iload_n (i := 3) dX5_leaves_111 rfl (rfl : 111 + 1 = 112)) (v_iload (i := 5) dX5_leaves_112 (rfl : 112 + 2 = 114)) dX5_leaves_114 (rfl : 114 + 3 = 117)) dX5_leaves_117 rfl (by decide) (rfl : 117 + 1 = 118))))) (v_iinc (v := 1) dX5_leaves_118 (by decide) (by decide) (rfl : 118 + 3 = 121))) dX5_leaves_121 (rfl : ((121 : Nat) : Int) + (-58) = ((63 : Nat) : Int)))))) (v_ret (v_iload_n (i := 3) dX5_leaves_124 rfl (rfl : 124 + 1 = 125)) dX5_leaves_125)))))
theorem IX5_leaves : Mi yX5_leaves cX5_leaves 7 (rmk 4 106) DX5_leaves := mk_i (by decide +kernel) BX5_leaves

theorem dX5_seekAt_0 : decode cX5_seekAt 0 = .ok (.aload_n 0, 1) := by decide +kernel
theorem dX5_seekAt_1 : decode cX5_seekAt 1 = .ok (.getfield 27, 3) := by decide +kernel
theorem dX5_seekAt_4 : decode cX5_seekAt 4 = .ok (.istore 4, 2) := by decide +kernel
theorem dX5_seekAt_6 : decode cX5_seekAt 6 = .ok (.iconst 1, 1) := by decide +kernel
theorem dX5_seekAt_7 : decode cX5_seekAt 7 = .ok (.istore 5, 2) := by decide +kernel
theorem dX5_seekAt_9 : decode cX5_seekAt 9 = .ok (.iload 5, 2) := by decide +kernel
theorem dX5_seekAt_11 : decode cX5_seekAt 11 = .ok (.bipush 60, 2) := by decide +kernel
theorem dX5_seekAt_13 : decode cX5_seekAt 13 = .ok (.if_icmp .gt 67, 3) := by decide +kernel
theorem dX5_seekAt_16 : decode cX5_seekAt 16 = .ok (.aload_n 1, 1) := by decide +kernel
theorem dX5_seekAt_17 : decode cX5_seekAt 17 = .ok (.iload_n 2, 1) := by decide +kernel
theorem dX5_seekAt_18 : decode cX5_seekAt 18 = .ok (.iload 5, 2) := by decide +kernel
theorem dX5_seekAt_20 : decode cX5_seekAt 20 = .ok (.invokevirtual 60, 3) := by decide +kernel
theorem dX5_seekAt_23 : decode cX5_seekAt 23 = .ok (.aload_n 0, 1) := by decide +kernel
theorem dX5_seekAt_24 : decode cX5_seekAt 24 = .ok (.getfield 9, 3) := by decide +kernel
theorem dX5_seekAt_27 : decode cX5_seekAt 27 = .ok (.aload_n 1, 1) := by decide +kernel
theorem dX5_seekAt_28 : decode cX5_seekAt 28 = .ok (.invokevirtual 64, 3) := by decide +kernel
theorem dX5_seekAt_31 : decode cX5_seekAt 31 = .ok (.aload_n 0, 1) := by decide +kernel
theorem dX5_seekAt_32 : decode cX5_seekAt 32 = .ok (.getfield 9, 3) := by decide +kernel
theorem dX5_seekAt_35 : decode cX5_seekAt 35 = .ok (.invokevirtual 70, 3) := by decide +kernel
theorem dX5_seekAt_38 : decode cX5_seekAt 38 = .ok (.ifCond .ne 36, 3) := by decide +kernel
theorem dX5_seekAt_41 : decode cX5_seekAt 41 = .ok (.aload_n 0, 1) := by decide +kernel
theorem dX5_seekAt_42 : decode cX5_seekAt 42 = .ok (.aload_n 1, 1) := by decide +kernel
theorem dX5_seekAt_43 : decode cX5_seekAt 43 = .ok (.invokevirtual 74, 3) := by decide +kernel
theorem dX5_seekAt_46 : decode cX5_seekAt 46 = .ok (.istore 6, 2) := by decide +kernel
theorem dX5_seekAt_48 : decode cX5_seekAt 48 = .ok (.aload_n 0, 1) := by decide +kernel
theorem dX5_seekAt_49 : decode cX5_seekAt 49 = .ok (.aload_n 0, 1) := by decide +kernel
theorem dX5_seekAt_50 : decode cX5_seekAt 50 = .ok (.getfield 40, 3) := by decide +kernel
theorem dX5_seekAt_53 : decode cX5_seekAt 53 = .ok (.iload 6, 2) := by decide +kernel
theorem dX5_seekAt_55 : decode cX5_seekAt 55 = .ok (.invokestatic 78, 3) := by decide +kernel
theorem dX5_seekAt_58 : decode cX5_seekAt 58 = .ok (.putfield 40, 3) := by decide +kernel
theorem dX5_seekAt_61 : decode cX5_seekAt 61 = .ok (.iload 6, 2) := by decide +kernel
theorem dX5_seekAt_63 : decode cX5_seekAt 63 = .ok (.iload_n 3, 1) := by decide +kernel
theorem dX5_seekAt_64 : decode cX5_seekAt 64 = .ok (.if_icmp .ne 10, 3) := by decide +kernel
theorem dX5_seekAt_67 : decode cX5_seekAt 67 = .ok (.aload_n 0, 1) := by decide +kernel
theorem dX5_seekAt_68 : decode cX5_seekAt 68 = .ok (.iload_n 2, 1) := by decide +kernel
theorem dX5_seekAt_69 : decode cX5_seekAt 69 = .ok (.iload 5, 2) := by decide +kernel
theorem dX5_seekAt_71 : decode cX5_seekAt 71 = .ok (.invokevirtual 84, 3) := by decide +kernel
theorem dX5_seekAt_74 : decode cX5_seekAt 74 = .ok (.iinc 5 1, 3) := by decide +kernel
theorem dX5_seekAt_77 : decode cX5_seekAt 77 = .ok (.goto (-68), 3) := by decide +kernel
theorem dX5_seekAt_80 : decode cX5_seekAt 80 = .ok (.aload_n 0, 1) := by decide +kernel
theorem dX5_seekAt_81 : decode cX5_seekAt 81 = .ok (.getfield 27, 3) := by decide +kernel
theorem dX5_seekAt_84 : decode cX5_seekAt 84 = .ok (.iload 4, 2) := by decide +kernel
theorem dX5_seekAt_86 : decode cX5_seekAt 86 = .ok (.if_icmp .le 13, 3) := by decide +kernel
theorem dX5_seekAt_89 : decode cX5_seekAt 89 = .ok (.aload_n 0, 1) := by decide +kernel
theorem dX5_seekAt_90 : decode cX5_seekAt 90 = .ok (.dup, 1) := by decide +kernel
theorem dX5_seekAt_91 : decode cX5_seekAt 91 = .ok (.getfield 37, 3) := by decide +kernel
theorem dX5_seekAt_94 : decode cX5_seekAt 94 = .ok (.iconst 1, 1) := by decide +kernel
theorem dX5_seekAt_95 : decode cX5_seekAt 95 = .ok (.iadd, 1) := by decide +kernel
theorem dX5_seekAt_96 : decode cX5_seekAt 96 = .ok (.putfield 37, 3) := by decide +kernel
theorem dX5_seekAt_99 : decode cX5_seekAt 99 = .ok (.return_, 1) := by decide +kernel
noncomputable def qX5_seekAt_1 : Bx := (bc cle (il 5) (ik 60))
noncomputable def wX5_seekAt_1 : Sx := (sseq (sseq (scv 1 DX1_putLeak (rl 1) (ai (il 2) (ai (il 5) anil))) (sseq (scv 0 DX0_solve (fgr 4 0 (rl 0)) (ar (rl 1) anil)) (sif (bnot (bz cne (cvz 0 DX0_hunts (fgr 4 0 (rl 0)) anil))) (scut 6 (sseq (ssi 6 (cvi 4 DX5_alike (rl 0) (ar (rl 1) anil))) (sseq (fpi 4 8 (rl 0) (i2 mxi (fgi 4 8 (rl 0)) (il 6))) (sif (bc ceq (il 6) (il 3)) (scv 4 DX5_add (rl 0) (ai (il 2) (ai (il 5) anil))) snop)))) snop))) (sinc 5 1))
noncomputable def EX5_seekAt : Sx := (sseq (sseq (ssi 4 (fgi 4 4 (rl 0))) (sseq (scut 5 (sseq (ssi 5 (ik 1)) (swh qX5_seekAt_1 wX5_seekAt_1))) (sif (bc cgt (fgi 4 4 (rl 0)) (il 4)) (foi (· + ·) 4 7 (rl 0) (ik 1)) snop))) sretv)
noncomputable def DX5_seekAt : Fu := mfv 7 EX5_seekAt
set_option maxRecDepth 4000 in
theorem BX5_seekAt : Vs RX5 cX5_seekAt 7 (rmk 4 106) 0 0 EX5_seekAt := (v_seq (v_seq (v_istore (i := 4) (v_gfi kX5 lk271 (by decide) rfl (v_aload_n (i := 0) dX5_seekAt_0 rfl (rfl : 0 + 1 = 1)) dX5_seekAt_1 (rfl : 1 + 3 = 4)) dX5_seekAt_4 (by decide) (rfl : 4 + 2 = 6)) (v_seq (v_cut (n := 5) (v_seq (v_istore (i := 5) (v_iconst (v := 1) dX5_seekAt_6 (by decide) (rfl : 6 + 1 = 7)) dX5_seekAt_7 (by decide) (rfl : 7 + 2 = 9)) (v_wh (v_ile_f (v_iload (i := 5) dX5_seekAt_9 (rfl : 9 + 2 = 11)) (v_bipush (v := 60) dX5_seekAt_11 (by decide) (rfl : 11 + 2 = 13)) dX5_seekAt_13 (rfl : ((13 : Nat) : Int) + 67 = ((80 : Nat) : Int)) (rfl : 13 + 3 = 16)) (vs_goto (v_seq (v_seq (v_scv kX1 IX1_putLeak hX1_putLeak lk851 ⟨by decide, by decide⟩ (v_aload_n (i := 1) dX5_seekAt_16 rfl (rfl : 16 + 1 = 17)) (v_ai (v_iload_n (i := 2) dX5_seekAt_17 rfl (rfl : 17 + 1 = 18)) (v_ai (v_iload (i := 5) dX5_seekAt_18 (rfl : 18 + 2 = 20)) v_anil)) dX5_seekAt_20 (rfl : 20 + 3 = 23)) (v_seq (v_scv kX0 IX0_solve hX0_solve lk852 ⟨by decide, by decide⟩ (v_gfr kX5 lk267 (by decide) rfl (v_aload_n (i := 0) dX5_seekAt_23 rfl (rfl : 23 + 1 = 24)) dX5_seekAt_24 (rfl : 24 + 3 = 27)) (v_ar (v_aload_n (i := 1) dX5_seekAt_27 rfl (rfl : 27 + 1 = 28)) v_anil) dX5_seekAt_28 (rfl : 28 + 3 = 31)) (v_if (v_not (v_zne_t (v_cvz kX0 IX0_hunts hX0_hunts lk853 ⟨by decide, by decide⟩ (by decide) (v_gfr kX5 lk267 (by decide) rfl (v_aload_n (i := 0) dX5_seekAt_31 rfl (rfl : 31 + 1 = 32)) dX5_seekAt_32 (rfl : 32 + 3 = 35)) v_anil dX5_seekAt_35 (rfl : 35 + 3 = 38)) dX5_seekAt_38 (rfl : ((38 : Nat) : Int) + 36 = ((74 : Nat) : Int)) (rfl : 38 + 3 = 41))) (v_cut (n := 6) (v_seq (v_istore (i := 6) (v_cvi kX5 IX5_alike hX5_alike lk854 ⟨by decide, by decide⟩ (by decide) (v_aload_n (i := 0) dX5_seekAt_41 rfl (rfl : 41 + 1 = 42)) (v_ar (v_aload_n (i := 1) dX5_seekAt_42 rfl (rfl : 42 + 1 = 43)) v_anil) dX5_seekAt_43 (rfl : 43 + 3 = 46)) dX5_seekAt_46 (by decide) (rfl : 46 + 2 = 48)) (v_seq (v_fpi kX5 lk279 (by decide) rfl rfl (by decide +kernel) (v_aload_n (i := 0) dX5_seekAt_48 rfl (rfl : 48 + 1 = 49)) (v_mxi lk859 ma_mxi_s lkMath ma_mxi_c ⟨by decide, by decide⟩ (v_gfi kX5 lk279 (by decide) rfl (v_aload_n (i := 0) dX5_seekAt_49 rfl (rfl : 49 + 1 = 50)) dX5_seekAt_50 (rfl : 50 + 3 = 53)) (v_iload (i := 6) dX5_seekAt_53 (rfl : 53 + 2 = 55)) dX5_seekAt_55 (rfl : 55 + 3 = 58)) dX5_seekAt_58 (rfl : 58 + 3 = 61)) (v_if (v_ieq_f (v_iload (i := 6) dX5_seekAt_61 (rfl : 61 + 2 = 63)) (v_iload_n (i := 3) dX5_seekAt_63 rfl (rfl : 63 + 1 = 64)) dX5_seekAt_64 (rfl : ((64 : Nat) : Int) + 10 = ((74 : Nat) : Int)) (rfl : 64 + 3 = 67)) (v_scv kX5 IX5_add hX5_add lk860 ⟨by decide, by decide⟩ (v_aload_n (i := 0) dX5_seekAt_67 rfl (rfl : 67 + 1 = 68)) (v_ai (v_iload_n (i := 2) dX5_seekAt_68 rfl (rfl : 68 + 1 = 69)) (v_ai (v_iload (i := 5) dX5_seekAt_69 (rfl : 69 + 2 = 71)) v_anil)) dX5_seekAt_71 (rfl : 71 + 3 = 74)) v_nop)))) v_nop))) (v_iinc (v := 1) dX5_seekAt_74 (by decide) (by decide) (rfl : 74 + 3 = 77))) dX5_seekAt_77 (rfl : ((77 : Nat) : Int) + (-68) = ((9 : Nat) : Int)))))) (v_if (v_igt_f (v_gfi kX5 lk271 (by decide) rfl (v_aload_n (i := 0) dX5_seekAt_80 rfl (rfl : 80 + 1 = 81)) dX5_seekAt_81 (rfl : 81 + 3 = 84)) (v_iload (i := 4) dX5_seekAt_84 (rfl : 84 + 2 = 86)) dX5_seekAt_86 (rfl : ((86 : Nat) : Int) + 13 = ((99 : Nat) : Int)) (rfl : 86 + 3 = 89)) (v_foi_iadd kX5 lk277 (by decide) rfl rfl (by decide +kernel) (v_aload_n (i := 0) dX5_seekAt_89 rfl (rfl : 89 + 1 = 90)) dX5_seekAt_90 dX5_seekAt_91 (rfl : 90 + 1 + 3 = 94) (v_iconst (v := 1) dX5_seekAt_94 (by decide) (rfl : 94 + 1 = 95)) dX5_seekAt_95 dX5_seekAt_96 (rfl : 95 + 1 + 3 = 99)) v_nop))) (v_retv dX5_seekAt_99))
theorem IX5_seekAt : Mv yX5_seekAt cX5_seekAt 7 (rmk 4 106) DX5_seekAt := mk_v (by decide +kernel) BX5_seekAt

theorem dX5_seek_0 : decode cX5_seek 0 = .ok (.aload_n 0, 1) := by decide +kernel
theorem dX5_seek_1 : decode cX5_seek 1 = .ok (.iconst 0, 1) := by decide +kernel
theorem dX5_seek_2 : decode cX5_seek 2 = .ok (.putfield 27, 3) := by decide +kernel
theorem dX5_seek_5 : decode cX5_seek 5 = .ok (.aload_n 0, 1) := by decide +kernel
theorem dX5_seek_6 : decode cX5_seek 6 = .ok (.iconst (-1), 1) := by decide +kernel
theorem dX5_seek_7 : decode cX5_seek 7 = .ok (.putfield 31, 3) := by decide +kernel
theorem dX5_seek_10 : decode cX5_seek 10 = .ok (.aload_n 0, 1) := by decide +kernel
theorem dX5_seek_11 : decode cX5_seek 11 = .ok (.iconst (-1), 1) := by decide +kernel
theorem dX5_seek_12 : decode cX5_seek 12 = .ok (.putfield 34, 3) := by decide +kernel
theorem dX5_seek_15 : decode cX5_seek 15 = .ok (.aload_n 0, 1) := by decide +kernel
theorem dX5_seek_16 : decode cX5_seek 16 = .ok (.iconst 0, 1) := by decide +kernel
theorem dX5_seek_17 : decode cX5_seek 17 = .ok (.putfield 37, 3) := by decide +kernel
theorem dX5_seek_20 : decode cX5_seek 20 = .ok (.aload_n 0, 1) := by decide +kernel
theorem dX5_seek_21 : decode cX5_seek 21 = .ok (.iconst 0, 1) := by decide +kernel
theorem dX5_seek_22 : decode cX5_seek 22 = .ok (.putfield 40, 3) := by decide +kernel
theorem dX5_seek_25 : decode cX5_seek 25 = .ok (.aload_n 1, 1) := by decide +kernel
theorem dX5_seek_26 : decode cX5_seek 26 = .ok (.invokevirtual 43, 3) := by decide +kernel
theorem dX5_seek_29 : decode cX5_seek 29 = .ok (.istore_n 2, 1) := by decide +kernel
theorem dX5_seek_30 : decode cX5_seek 30 = .ok (.iconst 0, 1) := by decide +kernel
theorem dX5_seek_31 : decode cX5_seek 31 = .ok (.istore_n 3, 1) := by decide +kernel
theorem dX5_seek_32 : decode cX5_seek 32 = .ok (.iload_n 3, 1) := by decide +kernel
theorem dX5_seek_33 : decode cX5_seek 33 = .ok (.bipush 10, 2) := by decide +kernel
theorem dX5_seek_35 : decode cX5_seek 35 = .ok (.aload_n 1, 1) := by decide +kernel
theorem dX5_seek_36 : decode cX5_seek 36 = .ok (.getfield 49, 3) := by decide +kernel
theorem dX5_seek_39 : decode cX5_seek 39 = .ok (.iadd, 1) := by decide +kernel
theorem dX5_seek_40 : decode cX5_seek 40 = .ok (.if_icmp .ge 24, 3) := by decide +kernel
theorem dX5_seek_43 : decode cX5_seek 43 = .ok (.aload_n 1, 1) := by decide +kernel
theorem dX5_seek_44 : decode cX5_seek 44 = .ok (.iload_n 3, 1) := by decide +kernel
theorem dX5_seek_45 : decode cX5_seek 45 = .ok (.invokevirtual 52, 3) := by decide +kernel
theorem dX5_seek_48 : decode cX5_seek 48 = .ok (.ifCond .eq 10, 3) := by decide +kernel
theorem dX5_seek_51 : decode cX5_seek 51 = .ok (.aload_n 0, 1) := by decide +kernel
theorem dX5_seek_52 : decode cX5_seek 52 = .ok (.aload_n 1, 1) := by decide +kernel
theorem dX5_seek_53 : decode cX5_seek 53 = .ok (.iload_n 3, 1) := by decide +kernel
theorem dX5_seek_54 : decode cX5_seek 54 = .ok (.iload_n 2, 1) := by decide +kernel
theorem dX5_seek_55 : decode cX5_seek 55 = .ok (.invokevirtual 56, 3) := by decide +kernel
theorem dX5_seek_58 : decode cX5_seek 58 = .ok (.iinc 3 1, 3) := by decide +kernel
theorem dX5_seek_61 : decode cX5_seek 61 = .ok (.goto (-29), 3) := by decide +kernel
theorem dX5_seek_64 : decode cX5_seek 64 = .ok (.return_, 1) := by decide +kernel
noncomputable def qX5_seek_1 : Bx := (bc clt (il 3) (i2 (· + ·) (ik 10) (fgi 1 1 (rl 1))))
noncomputable def wX5_seek_1 : Sx := (sseq (sif (bz cne (cvz 1 DX1_isJoint (rl 1) (ai (il 3) anil))) (scv 4 DX5_seekAt (rl 0) (ar (rl 1) (ai (il 3) (ai (il 2) anil)))) snop) (sinc 3 1))
noncomputable def EX5_seek : Sx := (sseq (sseq (fpi 4 4 (rl 0) (ik 0)) (sseq (fpi 4 5 (rl 0) (ik (-1))) (sseq (fpi 4 6 (rl 0) (ik (-1))) (sseq (fpi 4 7 (rl 0) (ik 0)) (sseq (fpi 4 8 (rl 0) (ik 0)) (sseq (ssi 2 (cvi 1 DX1_notes (rl 1) anil)) (scut 3 (sseq (ssi 3 (ik 0)) (swh qX5_seek_1 wX5_seek_1))))))))) sretv)
noncomputable def DX5_seek : Fu := mfv 4 EX5_seek
set_option maxRecDepth 4000 in
theorem BX5_seek : Vs RX5 cX5_seek 4 (rmk 5 132) 0 0 EX5_seek := (v_seq (v_seq (v_fpi kX5 lk271 (by decide) rfl rfl (by decide +kernel) (v_aload_n (i := 0) dX5_seek_0 rfl (rfl : 0 + 1 = 1)) (v_iconst (v := 0) dX5_seek_1 (by decide) (rfl : 1 + 1 = 2)) dX5_seek_2 (rfl : 2 + 3 = 5)) (v_seq (v_fpi kX5 lk273 (by decide) rfl rfl (by decide +kernel) (v_aload_n (i := 0) dX5_seek_5 rfl (rfl : 5 + 1 = 6)) (v_iconst (v := (-1)) dX5_seek_6 (by decide) (rfl : 6 + 1 = 7)) dX5_seek_7 (rfl : 7 + 3 = 10)) (v_seq (v_fpi kX5 lk275 (by decide) rfl rfl (by decide +kernel) (v_aload_n (i := 0) dX5_seek_10 rfl (rfl : 10 + 1 = 11)) (v_iconst (v := (-1)) dX5_seek_11 (by decide) (rfl : 11 + 1 = 12)) dX5_seek_12 (rfl : 12 + 3 = 15)) (v_seq (v_fpi kX5 lk277 (by decide) rfl rfl (by decide +kernel) (v_aload_n (i := 0) dX5_seek_15 rfl (rfl : 15 + 1 = 16)) (v_iconst (v := 0) dX5_seek_16 (by decide) (rfl : 16 + 1 = 17)) dX5_seek_17 (rfl : 17 + 3 = 20)) (v_seq (v_fpi kX5 lk279 (by decide) rfl rfl (by decide +kernel) (v_aload_n (i := 0) dX5_seek_20 rfl (rfl : 20 + 1 = 21)) (v_iconst (v := 0) dX5_seek_21 (by decide) (rfl : 21 + 1 = 22)) dX5_seek_22 (rfl : 22 + 3 = 25)) (v_seq (v_istore_n (i := 2) (v_cvi kX1 IX1_notes hX1_notes lk842 ⟨by decide, by decide⟩ (by decide) (v_aload_n (i := 1) dX5_seek_25 rfl (rfl : 25 + 1 = 26)) v_anil dX5_seek_26 (rfl : 26 + 3 = 29)) dX5_seek_29 rfl (by decide) (rfl : 29 + 1 = 30)) (v_cut (n := 3) (v_seq (v_istore_n (i := 3) (v_iconst (v := 0) dX5_seek_30 (by decide) (rfl : 30 + 1 = 31)) dX5_seek_31 rfl (by decide) (rfl : 31 + 1 = 32)) (v_wh (v_ilt_f (v_iload_n (i := 3) dX5_seek_32 rfl (rfl : 32 + 1 = 33)) (v_iadd (v_bipush (v := 10) dX5_seek_33 (by decide) (rfl : 33 + 2 = 35)) (v_gfi kX1 lk129 (by decide) rfl (v_aload_n (i := 1) dX5_seek_35 rfl (rfl : 35 + 1 = 36)) dX5_seek_36 (rfl : 36 + 3 = 39)) dX5_seek_39 (rfl : 39 + 1 = 40)) dX5_seek_40 (rfl : ((40 : Nat) : Int) + 24 = ((64 : Nat) : Int)) (rfl : 40 + 3 = 43)) (vs_goto (v_seq (v_if (v_zne_f (v_cvz kX1 IX1_isJoint hX1_isJoint lk846 ⟨by decide, by decide⟩ (by decide) (v_aload_n (i := 1) dX5_seek_43 rfl (rfl : 43 + 1 = 44)) (v_ai (v_iload_n (i := 3) dX5_seek_44 rfl (rfl : 44 + 1 = 45)) v_anil) dX5_seek_45 (rfl : 45 + 3 = 48)) dX5_seek_48 (rfl : ((48 : Nat) : Int) + 10 = ((58 : Nat) : Int)) (rfl : 48 + 3 = 51)) (v_scv kX5 IX5_seekAt hX5_seekAt lk847 ⟨by decide, by decide⟩ (v_aload_n (i := 0) dX5_seek_51 rfl (rfl : 51 + 1 = 52)) (v_ar (v_aload_n (i := 1) dX5_seek_52 rfl (rfl : 52 + 1 = 53)) (v_ai (v_iload_n (i := 3) dX5_seek_53 rfl (rfl : 53 + 1 = 54)) (v_ai (v_iload_n (i := 2) dX5_seek_54 rfl (rfl : 54 + 1 = 55)) v_anil))) dX5_seek_55 (rfl : 55 + 3 = 58)) v_nop) (v_iinc (v := 1) dX5_seek_58 (by decide) (by decide) (rfl : 58 + 3 = 61))) dX5_seek_61 (rfl : ((61 : Nat) : Int) + (-29) = ((32 : Nat) : Int)))))))))))) (v_retv dX5_seek_64))
theorem IX5_seek : Mv yX5_seek cX5_seek 4 (rmk 5 132) DX5_seek := mk_v (by decide +kernel) BX5_seek

theorem dX6_isSo_0 : decode cX6_isSo 0 = .ok (.aload_n 1, 1) := by decide +kernel
theorem dX6_isSo_1 : decode cX6_isSo 1 = .ok (.getfield 41, 3) := by decide +kernel
theorem dX6_isSo_4 : decode cX6_isSo 4 = .ok (.iload_n 2, 1) := by decide +kernel
theorem dX6_isSo_5 : decode cX6_isSo 5 = .ok (.aaload, 1) := by decide +kernel
theorem dX6_isSo_6 : decode cX6_isSo 6 = .ok (.astore_n 3, 1) := by decide +kernel
theorem dX6_isSo_7 : decode cX6_isSo 7 = .ok (.aload_n 3, 1) := by decide +kernel
theorem dX6_isSo_8 : decode cX6_isSo 8 = .ok (.iconst 2, 1) := by decide +kernel
theorem dX6_isSo_9 : decode cX6_isSo 9 = .ok (.iaload, 1) := by decide +kernel
theorem dX6_isSo_10 : decode cX6_isSo 10 = .ok (.istore 4, 2) := by decide +kernel
theorem dX6_isSo_12 : decode cX6_isSo 12 = .ok (.aload_n 3, 1) := by decide +kernel
theorem dX6_isSo_13 : decode cX6_isSo 13 = .ok (.iconst 1, 1) := by decide +kernel
theorem dX6_isSo_14 : decode cX6_isSo 14 = .ok (.iaload, 1) := by decide +kernel
theorem dX6_isSo_15 : decode cX6_isSo 15 = .ok (.istore 5, 2) := by decide +kernel
theorem dX6_isSo_17 : decode cX6_isSo 17 = .ok (.aload_n 3, 1) := by decide +kernel
theorem dX6_isSo_18 : decode cX6_isSo 18 = .ok (.iconst 0, 1) := by decide +kernel
theorem dX6_isSo_19 : decode cX6_isSo 19 = .ok (.iaload, 1) := by decide +kernel
theorem dX6_isSo_20 : decode cX6_isSo 20 = .ok (.iconst 2, 1) := by decide +kernel
theorem dX6_isSo_21 : decode cX6_isSo 21 = .ok (.if_icmp .ne 18, 3) := by decide +kernel
theorem dX6_isSo_24 : decode cX6_isSo 24 = .ok (.aload_n 1, 1) := by decide +kernel
theorem dX6_isSo_25 : decode cX6_isSo 25 = .ok (.getfield 45, 3) := by decide +kernel
theorem dX6_isSo_28 : decode cX6_isSo 28 = .ok (.iload 4, 2) := by decide +kernel
theorem dX6_isSo_30 : decode cX6_isSo 30 = .ok (.if_icmp .lt 7, 3) := by decide +kernel
theorem dX6_isSo_33 : decode cX6_isSo 33 = .ok (.iconst 1, 1) := by decide +kernel
theorem dX6_isSo_34 : decode cX6_isSo 34 = .ok (.goto 4, 3) := by decide +kernel
theorem dX6_isSo_37 : decode cX6_isSo 37 = .ok (.iconst 0, 1) := by decide +kernel
theorem dX6_isSo_38 : decode cX6_isSo 38 = .ok (.ireturn, 1) := by decide +kernel
theorem dX6_isSo_39 : decode cX6_isSo 39 = .ok (.aload_n 0, 1) := by decide +kernel
theorem dX6_isSo_40 : decode cX6_isSo 40 = .ok (.getfield 9, 3) := by decide +kernel
theorem dX6_isSo_43 : decode cX6_isSo 43 = .ok (.invokevirtual 48, 3) := by decide +kernel
theorem dX6_isSo_46 : decode cX6_isSo 46 = .ok (.ifCond .ne 12, 3) := by decide +kernel
theorem dX6_isSo_49 : decode cX6_isSo 49 = .ok (.iload 5, 2) := by decide +kernel
theorem dX6_isSo_51 : decode cX6_isSo 51 = .ok (.aload_n 1, 1) := by decide +kernel
theorem dX6_isSo_52 : decode cX6_isSo 52 = .ok (.getfield 54, 3) := by decide +kernel
theorem dX6_isSo_55 : decode cX6_isSo 55 = .ok (.if_icmp .lt 5, 3) := by decide +kernel
theorem dX6_isSo_58 : decode cX6_isSo 58 = .ok (.iconst 0, 1) := by decide +kernel
theorem dX6_isSo_59 : decode cX6_isSo 59 = .ok (.ireturn, 1) := by decide +kernel
theorem dX6_isSo_60 : decode cX6_isSo 60 = .ok (.aload_n 0, 1) := by decide +kernel
theorem dX6_isSo_61 : decode cX6_isSo 61 = .ok (.getfield 9, 3) := by decide +kernel
theorem dX6_isSo_64 : decode cX6_isSo 64 = .ok (.iload 5, 2) := by decide +kernel
theorem dX6_isSo_66 : decode cX6_isSo 66 = .ok (.invokevirtual 57, 3) := by decide +kernel
theorem dX6_isSo_69 : decode cX6_isSo 69 = .ok (.istore 6, 2) := by decide +kernel
theorem dX6_isSo_71 : decode cX6_isSo 71 = .ok (.aload_n 3, 1) := by decide +kernel
theorem dX6_isSo_72 : decode cX6_isSo 72 = .ok (.iconst 0, 1) := by decide +kernel
theorem dX6_isSo_73 : decode cX6_isSo 73 = .ok (.iaload, 1) := by decide +kernel
theorem dX6_isSo_74 : decode cX6_isSo 74 = .ok (.ifCond .ne 18, 3) := by decide +kernel
theorem dX6_isSo_77 : decode cX6_isSo 77 = .ok (.iload 6, 2) := by decide +kernel
theorem dX6_isSo_79 : decode cX6_isSo 79 = .ok (.iload 4, 2) := by decide +kernel
theorem dX6_isSo_81 : decode cX6_isSo 81 = .ok (.if_icmp .le 7, 3) := by decide +kernel
theorem dX6_isSo_84 : decode cX6_isSo 84 = .ok (.iconst 1, 1) := by decide +kernel
theorem dX6_isSo_85 : decode cX6_isSo 85 = .ok (.goto 19, 3) := by decide +kernel
theorem dX6_isSo_88 : decode cX6_isSo 88 = .ok (.iconst 0, 1) := by decide +kernel
theorem dX6_isSo_89 : decode cX6_isSo 89 = .ok (.goto 15, 3) := by decide +kernel
theorem dX6_isSo_92 : decode cX6_isSo 92 = .ok (.iload 6, 2) := by decide +kernel
theorem dX6_isSo_94 : decode cX6_isSo 94 = .ok (.iload 4, 2) := by decide +kernel
theorem dX6_isSo_96 : decode cX6_isSo 96 = .ok (.if_icmp .ge 7, 3) := by decide +kernel
theorem dX6_isSo_99 : decode cX6_isSo 99 = .ok (.iconst 1, 1) := by decide +kernel
theorem dX6_isSo_100 : decode cX6_isSo 100 = .ok (.goto 4, 3) := by decide +kernel
theorem dX6_isSo_103 : decode cX6_isSo 103 = .ok (.iconst 0, 1) := by decide +kernel
theorem dX6_isSo_104 : decode cX6_isSo 104 = .ok (.ireturn, 1) := by decide +kernel
noncomputable def EX6_isSo : Sx := (sseq (ssr 3 (rald 12 (fgr 1 12 (rl 1)) (il 2))) (sseq (ssi 4 (iald (rl 3) (ik 2))) (sseq (ssi 5 (iald (rl 3) (ik 1))) (sseq (sif (bc ceq (iald (rl 3) (ik 0)) (ik 2)) (sret (ic (bc cge (fgi 1 4 (rl 1)) (il 4)) (ik 1) (ik 0))) snop) (sseq (sif (bor (bz cne (cvz 0 DX0_hunts (fgr 5 0 (rl 0)) anil)) (bc cge (il 5) (fgi 1 0 (rl 1)))) (sret (ik 0)) snop) (sseq (ssi 6 (cvi 0 DX0_gauge (fgr 5 0 (rl 0)) (ai (il 5) anil))) (sret (ic (bz ceq (iald (rl 3) (ik 0))) (ic (bc cgt (il 6) (il 4)) (ik 1) (ik 0)) (ic (bc clt (il 6) (il 4)) (ik 1) (ik 0))))))))))
noncomputable def DX6_isSo : Fz := mfz 7 EX6_isSo
set_option maxRecDepth 4000 in
theorem BX6_isSo : Vs RX6 cX6_isSo 7 (rmk 2 61) 0 0 EX6_isSo := (v_seq (v_astore_n (i := 3) (v_rald (q := 12) (t0 := 4) (ty0 := .array .int) ⟨by decide, by decide⟩ (fun _ => rfl) rfl (v_gfr kX1 lk163 (by decide) rfl (v_aload_n (i := 1) dX6_isSo_0 rfl (rfl : 0 + 1 = 1)) dX6_isSo_1 (rfl : 1 + 3 = 4)) (v_iload_n (i := 2) dX6_isSo_4 rfl (rfl : 4 + 1 = 5)) dX6_isSo_5 (rfl : 5 + 1 = 6)) dX6_isSo_6 rfl (by decide) (rfl : 6 + 1 = 7)) (v_seq (v_istore (i := 4) (v_iald (v_aload_n (i := 3) dX6_isSo_7 rfl (rfl : 7 + 1 = 8)) (v_iconst (v := 2) dX6_isSo_8 (by decide) (rfl : 8 + 1 = 9)) dX6_isSo_9 (rfl : 9 + 1 = 10)) dX6_isSo_10 (by decide) (rfl : 10 + 2 = 12)) (v_seq (v_istore (i := 5) (v_iald (v_aload_n (i := 3) dX6_isSo_12 rfl (rfl : 12 + 1 = 13)) (v_iconst (v := 1) dX6_isSo_13 (by decide) (rfl : 13 + 1 = 14)) dX6_isSo_14 (rfl : 14 + 1 = 15)) dX6_isSo_15 (by decide) (rfl : 15 + 2 = 17)) (v_seq (v_if (v_ieq_f (v_iald (v_aload_n (i := 3) dX6_isSo_17 rfl (rfl : 17 + 1 = 18)) (v_iconst (v := 0) dX6_isSo_18 (by decide) (rfl : 18 + 1 = 19)) dX6_isSo_19 (rfl : 19 + 1 = 20)) (v_iconst (v := 2) dX6_isSo_20 (by decide) (rfl : 20 + 1 = 21)) dX6_isSo_21 (rfl : ((21 : Nat) : Int) + 18 = ((39 : Nat) : Int)) (rfl : 21 + 3 = 24)) (v_ret (v_ic (v_ige_f (v_gfi kX1 lk141 (by decide) rfl (v_aload_n (i := 1) dX6_isSo_24 rfl (rfl : 24 + 1 = 25)) dX6_isSo_25 (rfl : 25 + 3 = 28)) (v_iload (i := 4) dX6_isSo_28 (rfl : 28 + 2 = 30)) dX6_isSo_30 (rfl : ((30 : Nat) : Int) + 7 = ((37 : Nat) : Int)) (rfl : 30 + 3 = 33)) (vi_goto (v_iconst (v := 1) dX6_isSo_33 (by decide) (rfl : 33 + 1 = 34)) dX6_isSo_34 (rfl : ((34 : Nat) : Int) + 4 = ((38 : Nat) : Int))) (v_iconst (v := 0) dX6_isSo_37 (by decide) (rfl : 37 + 1 = 38))) dX6_isSo_38) v_nop) (v_seq (v_if (v_or (v_zne_t (v_cvz kX0 IX0_hunts hX0_hunts lk646 ⟨by decide, by decide⟩ (by decide) (v_gfr kX6 lk252 (by decide) rfl (v_aload_n (i := 0) dX6_isSo_39 rfl (rfl : 39 + 1 = 40)) dX6_isSo_40 (rfl : 40 + 3 = 43)) v_anil dX6_isSo_43 (rfl : 43 + 3 = 46)) dX6_isSo_46 (rfl : ((46 : Nat) : Int) + 12 = ((58 : Nat) : Int)) (rfl : 46 + 3 = 49)) (v_ige_f (v_iload (i := 5) dX6_isSo_49 (rfl : 49 + 2 = 51)) (v_gfi kX1 lk126 (by decide) rfl (v_aload_n (i := 1) dX6_isSo_51 rfl (rfl : 51 + 1 = 52)) dX6_isSo_52 (rfl : 52 + 3 = 55)) dX6_isSo_55 (rfl : ((55 : Nat) : Int) + 5 = ((60 : Nat) : Int)) (rfl : 55 + 3 = 58))) (v_ret (v_iconst (v := 0) dX6_isSo_58 (by decide) (rfl : 58 + 1 = 59)) dX6_isSo_59) v_nop) (v_seq (v_istore (i := 6) (v_cvi kX0 IX0_gauge hX0_gauge lk650 ⟨by decide, by decide⟩ (by decide) (v_gfr kX6 lk252 (by decide) rfl (v_aload_n (i := 0) dX6_isSo_60 rfl (rfl : 60 + 1 = 61)) dX6_isSo_61 (rfl : 61 + 3 = 64)) (v_ai (v_iload (i := 5) dX6_isSo_64 (rfl : 64 + 2 = 66)) v_anil) dX6_isSo_66 (rfl : 66 + 3 = 69)) dX6_isSo_69 (by decide) (rfl : 69 + 2 = 71)) (v_ret (v_ic (v_zeq_f (v_iald (v_aload_n (i := 3) dX6_isSo_71 rfl (rfl : 71 + 1 = 72)) (v_iconst (v := 0) dX6_isSo_72 (by decide) (rfl : 72 + 1 = 73)) dX6_isSo_73 (rfl : 73 + 1 = 74)) dX6_isSo_74 (rfl : ((74 : Nat) : Int) + 18 = ((92 : Nat) : Int)) (rfl : 74 + 3 = 77)) (v_ic (v_igt_f (v_iload (i := 6) dX6_isSo_77 (rfl : 77 + 2 = 79)) (v_iload (i := 4) dX6_isSo_79 (rfl : 79 + 2 = 81)) dX6_isSo_81 (rfl : ((81 : Nat) : Int) + 7 = ((88 : Nat) : Int)) (rfl : 81 + 3 = 84)) (vi_goto (v_iconst (v := 1) dX6_isSo_84 (by decide) (rfl : 84 + 1 = 85)) dX6_isSo_85 (rfl : ((85 : Nat) : Int) + 19 = ((104 : Nat) : Int))) (vi_goto (v_iconst (v := 0) dX6_isSo_88 (by decide) (rfl : 88 + 1 = 89)) dX6_isSo_89 (rfl : ((89 : Nat) : Int) + 15 = ((104 : Nat) : Int)))) (v_ic (v_ilt_f (v_iload (i := 6) dX6_isSo_92 (rfl : 92 + 2 = 94)) (v_iload (i := 4) dX6_isSo_94 (rfl : 94 + 2 = 96)) dX6_isSo_96 (rfl : ((96 : Nat) : Int) + 7 = ((103 : Nat) : Int)) (rfl : 96 + 3 = 99)) (vi_goto (v_iconst (v := 1) dX6_isSo_99 (by decide) (rfl : 99 + 1 = 100)) dX6_isSo_100 (rfl : ((100 : Nat) : Int) + 4 = ((104 : Nat) : Int))) (v_iconst (v := 0) dX6_isSo_103 (by decide) (rfl : 103 + 1 = 104)))) dX6_isSo_104)))))))
theorem IX6_isSo : Mz yX6_isSo cX6_isSo 7 (rmk 2 61) DX6_isSo := mk_z (by decide +kernel) BX6_isSo

theorem dX6_askWatches_0 : decode cX6_askWatches 0 = .ok (.iconst 0, 1) := by decide +kernel
theorem dX6_askWatches_1 : decode cX6_askWatches 1 = .ok (.istore_n 2, 1) := by decide +kernel
theorem dX6_askWatches_2 : decode cX6_askWatches 2 = .ok (.iconst 0, 1) := by decide +kernel
theorem dX6_askWatches_3 : decode cX6_askWatches 3 = .ok (.istore_n 3, 1) := by decide +kernel
theorem dX6_askWatches_4 : decode cX6_askWatches 4 = .ok (.iload_n 3, 1) := by decide +kernel
theorem dX6_askWatches_5 : decode cX6_askWatches 5 = .ok (.aload_n 1, 1) := by decide +kernel
theorem dX6_askWatches_6 : decode cX6_askWatches 6 = .ok (.getfield 60, 3) := by decide +kernel
theorem dX6_askWatches_9 : decode cX6_askWatches 9 = .ok (.if_icmp .ge 60, 3) := by decide +kernel
theorem dX6_askWatches_12 : decode cX6_askWatches 12 = .ok (.aload_n 1, 1) := by decide +kernel
theorem dX6_askWatches_13 : decode cX6_askWatches 13 = .ok (.getfield 41, 3) := by decide +kernel
theorem dX6_askWatches_16 : decode cX6_askWatches 16 = .ok (.iload_n 3, 1) := by decide +kernel
theorem dX6_askWatches_17 : decode cX6_askWatches 17 = .ok (.aaload, 1) := by decide +kernel
theorem dX6_askWatches_18 : decode cX6_askWatches 18 = .ok (.astore 4, 2) := by decide +kernel
theorem dX6_askWatches_20 : decode cX6_askWatches 20 = .ok (.aload_n 0, 1) := by decide +kernel
theorem dX6_askWatches_21 : decode cX6_askWatches 21 = .ok (.getfield 9, 3) := by decide +kernel
theorem dX6_askWatches_24 : decode cX6_askWatches 24 = .ok (.aload_n 1, 1) := by decide +kernel
theorem dX6_askWatches_25 : decode cX6_askWatches 25 = .ok (.invokevirtual 63, 3) := by decide +kernel
theorem dX6_askWatches_28 : decode cX6_askWatches 28 = .ok (.aload_n 0, 1) := by decide +kernel
theorem dX6_askWatches_29 : decode cX6_askWatches 29 = .ok (.aload_n 1, 1) := by decide +kernel
theorem dX6_askWatches_30 : decode cX6_askWatches 30 = .ok (.iload_n 3, 1) := by decide +kernel
theorem dX6_askWatches_31 : decode cX6_askWatches 31 = .ok (.invokevirtual 66, 3) := by decide +kernel
theorem dX6_askWatches_34 : decode cX6_askWatches 34 = .ok (.ifCond .eq 29, 3) := by decide +kernel
theorem dX6_askWatches_37 : decode cX6_askWatches 37 = .ok (.aload_n 1, 1) := by decide +kernel
theorem dX6_askWatches_38 : decode cX6_askWatches 38 = .ok (.aload 4, 2) := by decide +kernel
theorem dX6_askWatches_40 : decode cX6_askWatches 40 = .ok (.iconst 3, 1) := by decide +kernel
theorem dX6_askWatches_41 : decode cX6_askWatches 41 = .ok (.iaload, 1) := by decide +kernel
theorem dX6_askWatches_42 : decode cX6_askWatches 42 = .ok (.aload 4, 2) := by decide +kernel
theorem dX6_askWatches_44 : decode cX6_askWatches 44 = .ok (.iconst 4, 1) := by decide +kernel
theorem dX6_askWatches_45 : decode cX6_askWatches 45 = .ok (.iaload, 1) := by decide +kernel
theorem dX6_askWatches_46 : decode cX6_askWatches 46 = .ok (.invokevirtual 70, 3) := by decide +kernel
theorem dX6_askWatches_49 : decode cX6_askWatches 49 = .ok (.ifCond .eq 14, 3) := by decide +kernel
theorem dX6_askWatches_52 : decode cX6_askWatches 52 = .ok (.aload 4, 2) := by decide +kernel
theorem dX6_askWatches_54 : decode cX6_askWatches 54 = .ok (.iconst 5, 1) := by decide +kernel
theorem dX6_askWatches_55 : decode cX6_askWatches 55 = .ok (.dup2, 1) := by decide +kernel
theorem dX6_askWatches_56 : decode cX6_askWatches 56 = .ok (.iaload, 1) := by decide +kernel
theorem dX6_askWatches_57 : decode cX6_askWatches 57 = .ok (.iconst 1, 1) := by decide +kernel
theorem dX6_askWatches_58 : decode cX6_askWatches 58 = .ok (.iadd, 1) := by decide +kernel
theorem dX6_askWatches_59 : decode cX6_askWatches 59 = .ok (.iastore, 1) := by decide +kernel
theorem dX6_askWatches_60 : decode cX6_askWatches 60 = .ok (.iinc 2 1, 3) := by decide +kernel
theorem dX6_askWatches_63 : decode cX6_askWatches 63 = .ok (.iinc 3 1, 3) := by decide +kernel
theorem dX6_askWatches_66 : decode cX6_askWatches 66 = .ok (.goto (-62), 3) := by decide +kernel
theorem dX6_askWatches_69 : decode cX6_askWatches 69 = .ok (.iload_n 2, 1) := by decide +kernel
theorem dX6_askWatches_70 : decode cX6_askWatches 70 = .ok (.ireturn, 1) := by decide +kernel
noncomputable def qX6_askWatches_1 : Bx := (bc clt (il 3) (fgi 1 3 (rl 1)))
noncomputable def wX6_askWatches_1 : Sx := (sseq (scut 4 (sseq (ssr 4 (rald 12 (fgr 1 12 (rl 1)) (il 3))) (sseq (scv 0 DX0_solve (fgr 5 0 (rl 0)) (ar (rl 1) anil)) (sif (band (bz cne (cvz 5 DX6_isSo (rl 0) (ar (rl 1) (ai (il 3) anil)))) (bz cne (cvz 1 DX1_act (rl 1) (ai (iald (rl 4) (ik 3)) (ai (iald (rl 4) (ik 4)) anil))))) (sseq (aoi (· + ·) (rl 4) (ik 5) (ik 1)) (sinc 2 1)) snop)))) (sinc 3 1))
noncomputable def EX6_askWatches : Sx := (sseq (ssi 2 (ik 0)) (sseq (scut 3 (sseq (ssi 3 (ik 0)) (swh qX6_askWatches_1 wX6_askWatches_1))) (sret (il 2))))
noncomputable def DX6_askWatches : Fi := mfi 5 EX6_askWatches
set_option maxRecDepth 4000 in
theorem BX6_askWatches : Vs RX6 cX6_askWatches 5 (rmk 4 106) 0 0 EX6_askWatches := (v_seq (v_istore_n (i := 2) (v_iconst (v := 0) dX6_askWatches_0 (by decide) (rfl : 0 + 1 = 1)) dX6_askWatches_1 rfl (by decide) (rfl : 1 + 1 = 2)) (v_seq (v_cut (n := 3) (v_seq (v_istore_n (i := 3) (v_iconst (v := 0) dX6_askWatches_2 (by decide) (rfl : 2 + 1 = 3)) dX6_askWatches_3 rfl (by decide) (rfl : 3 + 1 = 4)) (v_wh (v_ilt_f (v_iload_n (i := 3) dX6_askWatches_4 rfl (rfl : 4 + 1 = 5)) (v_gfi kX1 lk138 (by decide) rfl (v_aload_n (i := 1) dX6_askWatches_5 rfl (rfl : 5 + 1 = 6)) dX6_askWatches_6 (rfl : 6 + 3 = 9)) dX6_askWatches_9 (rfl : ((9 : Nat) : Int) + 60 = ((69 : Nat) : Int)) (rfl : 9 + 3 = 12)) (vs_goto (v_seq (v_cut (n := 4) (v_seq (v_astore (i := 4) (v_rald (q := 12) (t0 := 4) (ty0 := .array .int) ⟨by decide, by decide⟩ (fun _ => rfl) rfl (v_gfr kX1 lk163 (by decide) rfl (v_aload_n (i := 1) dX6_askWatches_12 rfl (rfl : 12 + 1 = 13)) dX6_askWatches_13 (rfl : 13 + 3 = 16)) (v_iload_n (i := 3) dX6_askWatches_16 rfl (rfl : 16 + 1 = 17)) dX6_askWatches_17 (rfl : 17 + 1 = 18)) dX6_askWatches_18 (by decide) (rfl : 18 + 2 = 20)) (v_seq (v_scv kX0 IX0_solve hX0_solve lk548 ⟨by decide, by decide⟩ (v_gfr kX6 lk252 (by decide) rfl (v_aload_n (i := 0) dX6_askWatches_20 rfl (rfl : 20 + 1 = 21)) dX6_askWatches_21 (rfl : 21 + 3 = 24)) (v_ar (v_aload_n (i := 1) dX6_askWatches_24 rfl (rfl : 24 + 1 = 25)) v_anil) dX6_askWatches_25 (rfl : 25 + 3 = 28)) (v_if (v_and (v_zne_f (v_cvz kX6 IX6_isSo hX6_isSo lk642 ⟨by decide, by decide⟩ (by decide) (v_aload_n (i := 0) dX6_askWatches_28 rfl (rfl : 28 + 1 = 29)) (v_ar (v_aload_n (i := 1) dX6_askWatches_29 rfl (rfl : 29 + 1 = 30)) (v_ai (v_iload_n (i := 3) dX6_askWatches_30 rfl (rfl : 30 + 1 = 31)) v_anil)) dX6_askWatches_31 (rfl : 31 + 3 = 34)) dX6_askWatches_34 (rfl : ((34 : Nat) : Int) + 29 = ((63 : Nat) : Int)) (rfl : 34 + 3 = 37)) (v_zne_f (v_cvz kX1 IX1_act hX1_act lk665 ⟨by decide, by decide⟩ (by decide) (v_aload_n (i := 1) dX6_askWatches_37 rfl (rfl : 37 + 1 = 38)) (v_ai (v_iald (v_aload (i := 4) dX6_askWatches_38 (rfl : 38 + 2 = 40)) (v_iconst (v := 3) dX6_askWatches_40 (by decide) (rfl : 40 + 1 = 41)) dX6_askWatches_41 (rfl : 41 + 1 = 42)) (v_ai (v_iald (v_aload (i := 4) dX6_askWatches_42 (rfl : 42 + 2 = 44)) (v_iconst (v := 4) dX6_askWatches_44 (by decide) (rfl : 44 + 1 = 45)) dX6_askWatches_45 (rfl : 45 + 1 = 46)) v_anil)) dX6_askWatches_46 (rfl : 46 + 3 = 49)) dX6_askWatches_49 (rfl : ((49 : Nat) : Int) + 14 = ((63 : Nat) : Int)) (rfl : 49 + 3 = 52))) (v_seq (v_aoi_iadd (v_aload (i := 4) dX6_askWatches_52 (rfl : 52 + 2 = 54)) (v_iconst (v := 5) dX6_askWatches_54 (by decide) (rfl : 54 + 1 = 55)) dX6_askWatches_55 dX6_askWatches_56 (rfl : 55 + 1 + 1 = 57) (v_iconst (v := 1) dX6_askWatches_57 (by decide) (rfl : 57 + 1 = 58)) dX6_askWatches_58 dX6_askWatches_59 (rfl : 58 + 1 + 1 = 60)) (v_iinc (v := 1) dX6_askWatches_60 (by decide) (by decide) (rfl : 60 + 3 = 63))) v_nop)))) (v_iinc (v := 1) dX6_askWatches_63 (by decide) (by decide) (rfl : 63 + 3 = 66))) dX6_askWatches_66 (rfl : ((66 : Nat) : Int) + (-62) = ((4 : Nat) : Int)))))) (v_ret (v_iload_n (i := 2) dX6_askWatches_69 rfl (rfl : 69 + 1 = 70)) dX6_askWatches_70)))
theorem IX6_askWatches : Mi yX6_askWatches cX6_askWatches 5 (rmk 4 106) DX6_askWatches := mk_i (by decide +kernel) BX6_askWatches

theorem dX6_tripPumps_0 : decode cX6_tripPumps 0 = .ok (.aload_n 0, 1) := by decide +kernel
theorem dX6_tripPumps_1 : decode cX6_tripPumps 1 = .ok (.iconst 0, 1) := by decide +kernel
theorem dX6_tripPumps_2 : decode cX6_tripPumps 2 = .ok (.putfield 31, 3) := by decide +kernel
theorem dX6_tripPumps_5 : decode cX6_tripPumps 5 = .ok (.aload_n 0, 1) := by decide +kernel
theorem dX6_tripPumps_6 : decode cX6_tripPumps 6 = .ok (.getfield 9, 3) := by decide +kernel
theorem dX6_tripPumps_9 : decode cX6_tripPumps 9 = .ok (.aload_n 1, 1) := by decide +kernel
theorem dX6_tripPumps_10 : decode cX6_tripPumps 10 = .ok (.invokevirtual 63, 3) := by decide +kernel
theorem dX6_tripPumps_13 : decode cX6_tripPumps 13 = .ok (.iconst 0, 1) := by decide +kernel
theorem dX6_tripPumps_14 : decode cX6_tripPumps 14 = .ok (.istore_n 2, 1) := by decide +kernel
theorem dX6_tripPumps_15 : decode cX6_tripPumps 15 = .ok (.iload_n 2, 1) := by decide +kernel
theorem dX6_tripPumps_16 : decode cX6_tripPumps 16 = .ok (.aload_n 1, 1) := by decide +kernel
theorem dX6_tripPumps_17 : decode cX6_tripPumps 17 = .ok (.getfield 74, 3) := by decide +kernel
theorem dX6_tripPumps_20 : decode cX6_tripPumps 20 = .ok (.if_icmp .ge 84, 3) := by decide +kernel
theorem dX6_tripPumps_23 : decode cX6_tripPumps 23 = .ok (.aload_n 0, 1) := by decide +kernel
theorem dX6_tripPumps_24 : decode cX6_tripPumps 24 = .ok (.getfield 9, 3) := by decide +kernel
theorem dX6_tripPumps_27 : decode cX6_tripPumps 27 = .ok (.invokevirtual 48, 3) := by decide +kernel
theorem dX6_tripPumps_30 : decode cX6_tripPumps 30 = .ok (.ifCond .ne 74, 3) := by decide +kernel
theorem dX6_tripPumps_33 : decode cX6_tripPumps 33 = .ok (.aload_n 1, 1) := by decide +kernel
theorem dX6_tripPumps_34 : decode cX6_tripPumps 34 = .ok (.getfield 77, 3) := by decide +kernel
theorem dX6_tripPumps_37 : decode cX6_tripPumps 37 = .ok (.iload_n 2, 1) := by decide +kernel
theorem dX6_tripPumps_38 : decode cX6_tripPumps 38 = .ok (.aaload, 1) := by decide +kernel
theorem dX6_tripPumps_39 : decode cX6_tripPumps 39 = .ok (.astore_n 3, 1) := by decide +kernel
theorem dX6_tripPumps_40 : decode cX6_tripPumps 40 = .ok (.aload_n 3, 1) := by decide +kernel
theorem dX6_tripPumps_41 : decode cX6_tripPumps 41 = .ok (.iconst 1, 1) := by decide +kernel
theorem dX6_tripPumps_42 : decode cX6_tripPumps 42 = .ok (.iaload, 1) := by decide +kernel
theorem dX6_tripPumps_43 : decode cX6_tripPumps 43 = .ok (.ifCond .eq 55, 3) := by decide +kernel
theorem dX6_tripPumps_46 : decode cX6_tripPumps 46 = .ok (.aload_n 3, 1) := by decide +kernel
theorem dX6_tripPumps_47 : decode cX6_tripPumps 47 = .ok (.bipush 7, 2) := by decide +kernel
theorem dX6_tripPumps_49 : decode cX6_tripPumps 49 = .ok (.iaload, 1) := by decide +kernel
theorem dX6_tripPumps_50 : decode cX6_tripPumps 50 = .ok (.ifCond .le 48, 3) := by decide +kernel
theorem dX6_tripPumps_53 : decode cX6_tripPumps 53 = .ok (.aload_n 0, 1) := by decide +kernel
theorem dX6_tripPumps_54 : decode cX6_tripPumps 54 = .ok (.getfield 9, 3) := by decide +kernel
theorem dX6_tripPumps_57 : decode cX6_tripPumps 57 = .ok (.aload_n 3, 1) := by decide +kernel
theorem dX6_tripPumps_58 : decode cX6_tripPumps 58 = .ok (.iconst 0, 1) := by decide +kernel
theorem dX6_tripPumps_59 : decode cX6_tripPumps 59 = .ok (.iaload, 1) := by decide +kernel
theorem dX6_tripPumps_60 : decode cX6_tripPumps 60 = .ok (.invokevirtual 57, 3) := by decide +kernel
theorem dX6_tripPumps_63 : decode cX6_tripPumps 63 = .ok (.aload_n 3, 1) := by decide +kernel
theorem dX6_tripPumps_64 : decode cX6_tripPumps 64 = .ok (.bipush 7, 2) := by decide +kernel
theorem dX6_tripPumps_66 : decode cX6_tripPumps 66 = .ok (.iaload, 1) := by decide +kernel
theorem dX6_tripPumps_67 : decode cX6_tripPumps 67 = .ok (.sipush 1000, 3) := by decide +kernel
theorem dX6_tripPumps_70 : decode cX6_tripPumps 70 = .ok (.imul, 1) := by decide +kernel
theorem dX6_tripPumps_71 : decode cX6_tripPumps 71 = .ok (.if_icmp .lt 27, 3) := by decide +kernel
theorem dX6_tripPumps_74 : decode cX6_tripPumps 74 = .ok (.aload_n 3, 1) := by decide +kernel
theorem dX6_tripPumps_75 : decode cX6_tripPumps 75 = .ok (.iconst 1, 1) := by decide +kernel
theorem dX6_tripPumps_76 : decode cX6_tripPumps 76 = .ok (.iconst 0, 1) := by decide +kernel
theorem dX6_tripPumps_77 : decode cX6_tripPumps 77 = .ok (.iastore, 1) := by decide +kernel
theorem dX6_tripPumps_78 : decode cX6_tripPumps 78 = .ok (.aload_n 3, 1) := by decide +kernel
theorem dX6_tripPumps_79 : decode cX6_tripPumps 79 = .ok (.bipush 8, 2) := by decide +kernel
theorem dX6_tripPumps_81 : decode cX6_tripPumps 81 = .ok (.dup2, 1) := by decide +kernel
theorem dX6_tripPumps_82 : decode cX6_tripPumps 82 = .ok (.iaload, 1) := by decide +kernel
theorem dX6_tripPumps_83 : decode cX6_tripPumps 83 = .ok (.iconst 1, 1) := by decide +kernel
theorem dX6_tripPumps_84 : decode cX6_tripPumps 84 = .ok (.iadd, 1) := by decide +kernel
theorem dX6_tripPumps_85 : decode cX6_tripPumps 85 = .ok (.iastore, 1) := by decide +kernel
theorem dX6_tripPumps_86 : decode cX6_tripPumps 86 = .ok (.aload_n 0, 1) := by decide +kernel
theorem dX6_tripPumps_87 : decode cX6_tripPumps 87 = .ok (.dup, 1) := by decide +kernel
theorem dX6_tripPumps_88 : decode cX6_tripPumps 88 = .ok (.getfield 31, 3) := by decide +kernel
theorem dX6_tripPumps_91 : decode cX6_tripPumps 91 = .ok (.iconst 1, 1) := by decide +kernel
theorem dX6_tripPumps_92 : decode cX6_tripPumps 92 = .ok (.iload_n 2, 1) := by decide +kernel
theorem dX6_tripPumps_93 : decode cX6_tripPumps 93 = .ok (.ishl, 1) := by decide +kernel
theorem dX6_tripPumps_94 : decode cX6_tripPumps 94 = .ok (.ior, 1) := by decide +kernel
theorem dX6_tripPumps_95 : decode cX6_tripPumps 95 = .ok (.putfield 31, 3) := by decide +kernel
theorem dX6_tripPumps_98 : decode cX6_tripPumps 98 = .ok (.iinc 2 1, 3) := by decide +kernel
theorem dX6_tripPumps_101 : decode cX6_tripPumps 101 = .ok (.goto (-86), 3) := by decide +kernel
theorem dX6_tripPumps_104 : decode cX6_tripPumps 104 = .ok (.return_, 1) := by decide +kernel
noncomputable def qX6_tripPumps_1 : Bx := (band (bc clt (il 2) (fgi 1 2 (rl 1))) (bnot (bz cne (cvz 0 DX0_hunts (fgr 5 0 (rl 0)) anil))))
noncomputable def wX6_tripPumps_1 : Sx := (sseq (scut 3 (sseq (ssr 3 (rald 12 (fgr 1 11 (rl 1)) (il 2))) (sif (band (band (bz cne (iald (rl 3) (ik 1))) (bz cgt (iald (rl 3) (ik 7)))) (bc cge (cvi 0 DX0_gauge (fgr 5 0 (rl 0)) (ai (iald (rl 3) (ik 0)) anil)) (i2 (· * ·) (iald (rl 3) (ik 7)) (ik 1000)))) (sseq (aii (rl 3) (ik 1) (ik 0)) (sseq (aoi (· + ·) (rl 3) (ik 8) (ik 1)) (foi (· ||| ·) 5 1 (rl 0) (i2 oshl (ik 1) (il 2))))) snop))) (sinc 2 1))
noncomputable def EX6_tripPumps : Sx := (sseq (sseq (fpi 5 1 (rl 0) (ik 0)) (sseq (scv 0 DX0_solve (fgr 5 0 (rl 0)) (ar (rl 1) anil)) (scut 2 (sseq (ssi 2 (ik 0)) (swh qX6_tripPumps_1 wX6_tripPumps_1))))) sretv)
noncomputable def DX6_tripPumps : Fu := mfv 4 EX6_tripPumps
set_option maxRecDepth 4000 in
theorem BX6_tripPumps : Vs RX6 cX6_tripPumps 4 (rmk 4 106) 0 0 EX6_tripPumps := (v_seq (v_seq (v_fpi kX6 lk253 (by decide) rfl rfl (by decide +kernel) (v_aload_n (i := 0) dX6_tripPumps_0 rfl (rfl : 0 + 1 = 1)) (v_iconst (v := 0) dX6_tripPumps_1 (by decide) (rfl : 1 + 1 = 2)) dX6_tripPumps_2 (rfl : 2 + 3 = 5)) (v_seq (v_scv kX0 IX0_solve hX0_solve lk548 ⟨by decide, by decide⟩ (v_gfr kX6 lk252 (by decide) rfl (v_aload_n (i := 0) dX6_tripPumps_5 rfl (rfl : 5 + 1 = 6)) dX6_tripPumps_6 (rfl : 6 + 3 = 9)) (v_ar (v_aload_n (i := 1) dX6_tripPumps_9 rfl (rfl : 9 + 1 = 10)) v_anil) dX6_tripPumps_10 (rfl : 10 + 3 = 13)) (v_cut (n := 2) (v_seq (v_istore_n (i := 2) (v_iconst (v := 0) dX6_tripPumps_13 (by decide) (rfl : 13 + 1 = 14)) dX6_tripPumps_14 rfl (by decide) (rfl : 14 + 1 = 15)) (v_wh (v_and (v_ilt_f (v_iload_n (i := 2) dX6_tripPumps_15 rfl (rfl : 15 + 1 = 16)) (v_gfi kX1 lk135 (by decide) rfl (v_aload_n (i := 1) dX6_tripPumps_16 rfl (rfl : 16 + 1 = 17)) dX6_tripPumps_17 (rfl : 17 + 3 = 20)) dX6_tripPumps_20 (rfl : ((20 : Nat) : Int) + 84 = ((104 : Nat) : Int)) (rfl : 20 + 3 = 23)) (v_not (v_zne_t (v_cvz kX0 IX0_hunts hX0_hunts lk646 ⟨by decide, by decide⟩ (by decide) (v_gfr kX6 lk252 (by decide) rfl (v_aload_n (i := 0) dX6_tripPumps_23 rfl (rfl : 23 + 1 = 24)) dX6_tripPumps_24 (rfl : 24 + 3 = 27)) v_anil dX6_tripPumps_27 (rfl : 27 + 3 = 30)) dX6_tripPumps_30 (rfl : ((30 : Nat) : Int) + 74 = ((104 : Nat) : Int)) (rfl : 30 + 3 = 33)))) (vs_goto (v_seq (v_cut (n := 3) (v_seq (v_astore_n (i := 3) (v_rald (q := 12) (t0 := 4) (ty0 := .array .int) ⟨by decide, by decide⟩ (fun _ => rfl) rfl (v_gfr kX1 lk160 (by decide) rfl (v_aload_n (i := 1) dX6_tripPumps_33 rfl (rfl : 33 + 1 = 34)) dX6_tripPumps_34 (rfl : 34 + 3 = 37)) (v_iload_n (i := 2) dX6_tripPumps_37 rfl (rfl : 37 + 1 = 38)) dX6_tripPumps_38 (rfl : 38 + 1 = 39)) dX6_tripPumps_39 rfl (by decide) (rfl : 39 + 1 = 40)) (v_if (v_and (v_and (v_zne_f (v_iald (v_aload_n (i := 3) dX6_tripPumps_40 rfl (rfl : 40 + 1 = 41)) (v_iconst (v := 1) dX6_tripPumps_41 (by decide) (rfl : 41 + 1 = 42)) dX6_tripPumps_42 (rfl : 42 + 1 = 43)) dX6_tripPumps_43 (rfl : ((43 : Nat) : Int) + 55 = ((98 : Nat) : Int)) (rfl : 43 + 3 = 46)) (v_zgt_f (v_iald (v_aload_n (i := 3) dX6_tripPumps_46 rfl (rfl : 46 + 1 = 47)) (v_bipush (v := 7) dX6_tripPumps_47 (by decide) (rfl : 47 + 2 = 49)) dX6_tripPumps_49 (rfl : 49 + 1 = 50)) dX6_tripPumps_50 (rfl : ((50 : Nat) : Int) + 48 = ((98 : Nat) : Int)) (rfl : 50 + 3 = 53))) (v_ige_f (v_cvi kX0 IX0_gauge hX0_gauge lk650 ⟨by decide, by decide⟩ (by decide) (v_gfr kX6 lk252 (by decide) rfl (v_aload_n (i := 0) dX6_tripPumps_53 rfl (rfl : 53 + 1 = 54)) dX6_tripPumps_54 (rfl : 54 + 3 = 57)) (v_ai (v_iald (v_aload_n (i := 3) dX6_tripPumps_57 rfl (rfl : 57 + 1 = 58)) (v_iconst (v := 0) dX6_tripPumps_58 (by decide) (rfl : 58 + 1 = 59)) dX6_tripPumps_59 (rfl : 59 + 1 = 60)) v_anil) dX6_tripPumps_60 (rfl : 60 + 3 = 63)) (v_imul (v_iald (v_aload_n (i := 3) dX6_tripPumps_63 rfl (rfl : 63 + 1 = 64)) (v_bipush (v := 7) dX6_tripPumps_64 (by decide) (rfl : 64 + 2 = 66)) dX6_tripPumps_66 (rfl : 66 + 1 = 67)) (v_sipush (v := 1000) dX6_tripPumps_67 (by decide) (rfl : 67 + 3 = 70)) dX6_tripPumps_70 (rfl : 70 + 1 = 71)) dX6_tripPumps_71 (rfl : ((71 : Nat) : Int) + 27 = ((98 : Nat) : Int)) (rfl : 71 + 3 = 74))) (v_seq (v_aii (v_aload_n (i := 3) dX6_tripPumps_74 rfl (rfl : 74 + 1 = 75)) (v_iconst (v := 1) dX6_tripPumps_75 (by decide) (rfl : 75 + 1 = 76)) (v_iconst (v := 0) dX6_tripPumps_76 (by decide) (rfl : 76 + 1 = 77)) dX6_tripPumps_77 (rfl : 77 + 1 = 78)) (v_seq (v_aoi_iadd (v_aload_n (i := 3) dX6_tripPumps_78 rfl (rfl : 78 + 1 = 79)) (v_bipush (v := 8) dX6_tripPumps_79 (by decide) (rfl : 79 + 2 = 81)) dX6_tripPumps_81 dX6_tripPumps_82 (rfl : 81 + 1 + 1 = 83) (v_iconst (v := 1) dX6_tripPumps_83 (by decide) (rfl : 83 + 1 = 84)) dX6_tripPumps_84 dX6_tripPumps_85 (rfl : 84 + 1 + 1 = 86)) (v_foi_ior kX6 lk253 (by decide) rfl rfl (by decide +kernel) (v_aload_n (i := 0) dX6_tripPumps_86 rfl (rfl : 86 + 1 = 87)) dX6_tripPumps_87 dX6_tripPumps_88 (rfl : 87 + 1 + 3 = 91) (v_ishl (v_iconst (v := 1) dX6_tripPumps_91 (by decide) (rfl : 91 + 1 = 92)) (v_iload_n (i := 2) dX6_tripPumps_92 rfl (rfl : 92 + 1 = 93)) dX6_tripPumps_93 (rfl : 93 + 1 = 94)) dX6_tripPumps_94 dX6_tripPumps_95 (rfl : 94 + 1 + 3 = 98)))) v_nop))) (v_iinc (v := 1) dX6_tripPumps_98 (by decide) (by decide) (rfl : 98 + 3 = 101))) dX6_tripPumps_101 (rfl : ((101 : Nat) : Int) + (-86) = ((15 : Nat) : Int)))))))) (v_retv dX6_tripPumps_104))
theorem IX6_tripPumps : Mv yX6_tripPumps cX6_tripPumps 4 (rmk 4 106) DX6_tripPumps := mk_v (by decide +kernel) BX6_tripPumps

theorem dX6_writeLog_0 : decode cX6_writeLog 0 = .ok (.aload_n 0, 1) := by decide +kernel
theorem dX6_writeLog_1 : decode cX6_writeLog 1 = .ok (.getfield 9, 3) := by decide +kernel
theorem dX6_writeLog_4 : decode cX6_writeLog 4 = .ok (.aload_n 1, 1) := by decide +kernel
theorem dX6_writeLog_5 : decode cX6_writeLog 5 = .ok (.invokevirtual 63, 3) := by decide +kernel
theorem dX6_writeLog_8 : decode cX6_writeLog 8 = .ok (.iconst 0, 1) := by decide +kernel
theorem dX6_writeLog_9 : decode cX6_writeLog 9 = .ok (.istore_n 2, 1) := by decide +kernel
theorem dX6_writeLog_10 : decode cX6_writeLog 10 = .ok (.iload_n 2, 1) := by decide +kernel
theorem dX6_writeLog_11 : decode cX6_writeLog 11 = .ok (.iconst 5, 1) := by decide +kernel
theorem dX6_writeLog_12 : decode cX6_writeLog 12 = .ok (.if_icmp .ge 42, 3) := by decide +kernel
theorem dX6_writeLog_15 : decode cX6_writeLog 15 = .ok (.aload_n 1, 1) := by decide +kernel
theorem dX6_writeLog_16 : decode cX6_writeLog 16 = .ok (.getfield 80, 3) := by decide +kernel
theorem dX6_writeLog_19 : decode cX6_writeLog 19 = .ok (.aload_n 1, 1) := by decide +kernel
theorem dX6_writeLog_20 : decode cX6_writeLog 20 = .ok (.getfield 45, 3) := by decide +kernel
theorem dX6_writeLog_23 : decode cX6_writeLog 23 = .ok (.iload_n 2, 1) := by decide +kernel
theorem dX6_writeLog_24 : decode cX6_writeLog 24 = .ok (.invokestatic 84, 3) := by decide +kernel
theorem dX6_writeLog_27 : decode cX6_writeLog 27 = .ok (.iload_n 2, 1) := by decide +kernel
theorem dX6_writeLog_28 : decode cX6_writeLog 28 = .ok (.aload_n 1, 1) := by decide +kernel
theorem dX6_writeLog_29 : decode cX6_writeLog 29 = .ok (.getfield 54, 3) := by decide +kernel
theorem dX6_writeLog_32 : decode cX6_writeLog 32 = .ok (.if_icmp .ge 14, 3) := by decide +kernel
theorem dX6_writeLog_35 : decode cX6_writeLog 35 = .ok (.aload_n 0, 1) := by decide +kernel
theorem dX6_writeLog_36 : decode cX6_writeLog 36 = .ok (.getfield 9, 3) := by decide +kernel
theorem dX6_writeLog_39 : decode cX6_writeLog 39 = .ok (.iload_n 2, 1) := by decide +kernel
theorem dX6_writeLog_40 : decode cX6_writeLog 40 = .ok (.invokevirtual 57, 3) := by decide +kernel
theorem dX6_writeLog_43 : decode cX6_writeLog 43 = .ok (.goto 4, 3) := by decide +kernel
theorem dX6_writeLog_46 : decode cX6_writeLog 46 = .ok (.iconst (-1), 1) := by decide +kernel
theorem dX6_writeLog_47 : decode cX6_writeLog 47 = .ok (.iastore, 1) := by decide +kernel
theorem dX6_writeLog_48 : decode cX6_writeLog 48 = .ok (.iinc 2 1, 3) := by decide +kernel
theorem dX6_writeLog_51 : decode cX6_writeLog 51 = .ok (.goto (-41), 3) := by decide +kernel
theorem dX6_writeLog_54 : decode cX6_writeLog 54 = .ok (.return_, 1) := by decide +kernel
noncomputable def qX6_writeLog_1 : Bx := (bc clt (il 2) (ik 5))
noncomputable def wX6_writeLog_1 : Sx := (sseq (aii (fgr 1 13 (rl 1)) (csi DX1_logPlace (ai (fgi 1 4 (rl 1)) (ai (il 2) anil))) (ic (bc clt (il 2) (fgi 1 0 (rl 1))) (cvi 0 DX0_gauge (fgr 5 0 (rl 0)) (ai (il 2) anil)) (ik (-1)))) (sinc 2 1))
noncomputable def EX6_writeLog : Sx := (sseq (sseq (scv 0 DX0_solve (fgr 5 0 (rl 0)) (ar (rl 1) anil)) (scut 2 (sseq (ssi 2 (ik 0)) (swh qX6_writeLog_1 wX6_writeLog_1)))) sretv)
noncomputable def DX6_writeLog : Fu := mfv 3 EX6_writeLog
set_option maxRecDepth 4000 in
theorem BX6_writeLog : Vs RX6 cX6_writeLog 3 (rmk 4 106) 0 0 EX6_writeLog := (v_seq (v_seq (v_scv kX0 IX0_solve hX0_solve lk548 ⟨by decide, by decide⟩ (v_gfr kX6 lk252 (by decide) rfl (v_aload_n (i := 0) dX6_writeLog_0 rfl (rfl : 0 + 1 = 1)) dX6_writeLog_1 (rfl : 1 + 3 = 4)) (v_ar (v_aload_n (i := 1) dX6_writeLog_4 rfl (rfl : 4 + 1 = 5)) v_anil) dX6_writeLog_5 (rfl : 5 + 3 = 8)) (v_cut (n := 2) (v_seq (v_istore_n (i := 2) (v_iconst (v := 0) dX6_writeLog_8 (by decide) (rfl : 8 + 1 = 9)) dX6_writeLog_9 rfl (by decide) (rfl : 9 + 1 = 10)) (v_wh (v_ilt_f (v_iload_n (i := 2) dX6_writeLog_10 rfl (rfl : 10 + 1 = 11)) (v_iconst (v := 5) dX6_writeLog_11 (by decide) (rfl : 11 + 1 = 12)) dX6_writeLog_12 (rfl : ((12 : Nat) : Int) + 42 = ((54 : Nat) : Int)) (rfl : 12 + 3 = 15)) (vs_goto (v_seq (v_aii (v_gfr kX1 lk166 (by decide) rfl (v_aload_n (i := 1) dX6_writeLog_15 rfl (rfl : 15 + 1 = 16)) dX6_writeLog_16 (rfl : 16 + 3 = 19)) (v_csi IX1_logPlace hX1_logPlace lk680 ⟨by decide, by decide⟩ (by decide) (v_ai (v_gfi kX1 lk141 (by decide) rfl (v_aload_n (i := 1) dX6_writeLog_19 rfl (rfl : 19 + 1 = 20)) dX6_writeLog_20 (rfl : 20 + 3 = 23)) (v_ai (v_iload_n (i := 2) dX6_writeLog_23 rfl (rfl : 23 + 1 = 24)) v_anil)) dX6_writeLog_24 (rfl : 24 + 3 = 27)) (v_ic (v_ilt_f (v_iload_n (i := 2) dX6_writeLog_27 rfl (rfl : 27 + 1 = 28)) (v_gfi kX1 lk126 (by decide) rfl (v_aload_n (i := 1) dX6_writeLog_28 rfl (rfl : 28 + 1 = 29)) dX6_writeLog_29 (rfl : 29 + 3 = 32)) dX6_writeLog_32 (rfl : ((32 : Nat) : Int) + 14 = ((46 : Nat) : Int)) (rfl : 32 + 3 = 35)) (vi_goto (v_cvi kX0 IX0_gauge hX0_gauge lk650 ⟨by decide, by decide⟩ (by decide) (v_gfr kX6 lk252 (by decide) rfl (v_aload_n (i := 0) dX6_writeLog_35 rfl (rfl : 35 + 1 = 36)) dX6_writeLog_36 (rfl : 36 + 3 = 39)) (v_ai (v_iload_n (i := 2) dX6_writeLog_39 rfl (rfl : 39 + 1 = 40)) v_anil) dX6_writeLog_40 (rfl : 40 + 3 = 43)) dX6_writeLog_43 (rfl : ((43 : Nat) : Int) + 4 = ((47 : Nat) : Int))) (v_iconst (v := (-1)) dX6_writeLog_46 (by decide) (rfl : 46 + 1 = 47))) dX6_writeLog_47 (rfl : 47 + 1 = 48)) (v_iinc (v := 1) dX6_writeLog_48 (by decide) (by decide) (rfl : 48 + 3 = 51))) dX6_writeLog_51 (rfl : ((51 : Nat) : Int) + (-41) = ((10 : Nat) : Int))))))) (v_retv dX6_writeLog_54))
theorem IX6_writeLog : Mv yX6_writeLog cX6_writeLog 3 (rmk 4 106) DX6_writeLog := mk_v (by decide +kernel) BX6_writeLog

theorem dX6_step_0 : decode cX6_step 0 = .ok (.aload_n 0, 1) := by decide +kernel
theorem dX6_step_1 : decode cX6_step 1 = .ok (.aload_n 1, 1) := by decide +kernel
theorem dX6_step_2 : decode cX6_step 2 = .ok (.invokevirtual 15, 3) := by decide +kernel
theorem dX6_step_5 : decode cX6_step 5 = .ok (.istore_n 2, 1) := by decide +kernel
theorem dX6_step_6 : decode cX6_step 6 = .ok (.aload_n 0, 1) := by decide +kernel
theorem dX6_step_7 : decode cX6_step 7 = .ok (.aload_n 1, 1) := by decide +kernel
theorem dX6_step_8 : decode cX6_step 8 = .ok (.invokevirtual 19, 3) := by decide +kernel
theorem dX6_step_11 : decode cX6_step 11 = .ok (.aload_n 0, 1) := by decide +kernel
theorem dX6_step_12 : decode cX6_step 12 = .ok (.aload_n 1, 1) := by decide +kernel
theorem dX6_step_13 : decode cX6_step 13 = .ok (.invokevirtual 23, 3) := by decide +kernel
theorem dX6_step_16 : decode cX6_step 16 = .ok (.aload_n 1, 1) := by decide +kernel
theorem dX6_step_17 : decode cX6_step 17 = .ok (.invokevirtual 26, 3) := by decide +kernel
theorem dX6_step_20 : decode cX6_step 20 = .ok (.iload_n 2, 1) := by decide +kernel
theorem dX6_step_21 : decode cX6_step 21 = .ok (.aload_n 0, 1) := by decide +kernel
theorem dX6_step_22 : decode cX6_step 22 = .ok (.getfield 31, 3) := by decide +kernel
theorem dX6_step_25 : decode cX6_step 25 = .ok (.invokestatic 35, 3) := by decide +kernel
theorem dX6_step_28 : decode cX6_step 28 = .ok (.iadd, 1) := by decide +kernel
theorem dX6_step_29 : decode cX6_step 29 = .ok (.ireturn, 1) := by decide +kernel
noncomputable def EX6_step : Sx := (sseq (ssi 2 (cvi 5 DX6_askWatches (rl 0) (ar (rl 1) anil))) (sseq (scv 5 DX6_tripPumps (rl 0) (ar (rl 1) anil)) (sseq (scv 5 DX6_writeLog (rl 0) (ar (rl 1) anil)) (sseq (scv 1 DX1_bake (rl 1) anil) (sret (i2 (· + ·) (il 2) (csi DJ6_bitCount_0f7a4 (ai (fgi 5 1 (rl 0)) anil))))))))
noncomputable def DX6_step : Fi := mfi 3 EX6_step
set_option maxRecDepth 4000 in
theorem BX6_step : Vs RX6 cX6_step 3 (rmk 5 130) 0 0 EX6_step := (v_seq (v_istore_n (i := 2) (v_cvi kX6 IX6_askWatches hX6_askWatches lk544 ⟨by decide, by decide⟩ (by decide) (v_aload_n (i := 0) dX6_step_0 rfl (rfl : 0 + 1 = 1)) (v_ar (v_aload_n (i := 1) dX6_step_1 rfl (rfl : 1 + 1 = 2)) v_anil) dX6_step_2 (rfl : 2 + 3 = 5)) dX6_step_5 rfl (by decide) (rfl : 5 + 1 = 6)) (v_seq (v_scv kX6 IX6_tripPumps hX6_tripPumps lk672 ⟨by decide, by decide⟩ (v_aload_n (i := 0) dX6_step_6 rfl (rfl : 6 + 1 = 7)) (v_ar (v_aload_n (i := 1) dX6_step_7 rfl (rfl : 7 + 1 = 8)) v_anil) dX6_step_8 (rfl : 8 + 3 = 11)) (v_seq (v_scv kX6 IX6_writeLog hX6_writeLog lk676 ⟨by decide, by decide⟩ (v_aload_n (i := 0) dX6_step_11 rfl (rfl : 11 + 1 = 12)) (v_ar (v_aload_n (i := 1) dX6_step_12 rfl (rfl : 12 + 1 = 13)) v_anil) dX6_step_13 (rfl : 13 + 3 = 16)) (v_seq (v_scv kX1 IX1_bake hX1_bake lk683 ⟨by decide, by decide⟩ (v_aload_n (i := 1) dX6_step_16 rfl (rfl : 16 + 1 = 17)) v_anil dX6_step_17 (rfl : 17 + 3 = 20)) (v_ret (v_iadd (v_iload_n (i := 2) dX6_step_20 rfl (rfl : 20 + 1 = 21)) (v_csi IJ6_bitCount_0f7a4 hJ6_bitCount_0f7a4 lk687 ⟨by decide, by decide⟩ (by decide) (v_ai (v_gfi kX6 lk253 (by decide) rfl (v_aload_n (i := 0) dX6_step_21 rfl (rfl : 21 + 1 = 22)) dX6_step_22 (rfl : 22 + 3 = 25)) v_anil) dX6_step_25 (rfl : 25 + 3 = 28)) dX6_step_28 (rfl : 28 + 1 = 29)) dX6_step_29)))))
theorem IX6_step : Mi yX6_step cX6_step 3 (rmk 5 130) DX6_step := mk_i (by decide +kernel) BX6_step

theorem dX7_accept_0 : decode cX7_accept 0 = .ok (.aload_n 0, 1) := by decide +kernel
theorem dX7_accept_1 : decode cX7_accept 1 = .ok (.iconst 0, 1) := by decide +kernel
theorem dX7_accept_2 : decode cX7_accept 2 = .ok (.putfield 68, 3) := by decide +kernel
theorem dX7_accept_5 : decode cX7_accept 5 = .ok (.aload_n 0, 1) := by decide +kernel
theorem dX7_accept_6 : decode cX7_accept 6 = .ok (.getfield 52, 3) := by decide +kernel
theorem dX7_accept_9 : decode cX7_accept 9 = .ok (.aload_n 0, 1) := by decide +kernel
theorem dX7_accept_10 : decode cX7_accept 10 = .ok (.getfield 10, 3) := by decide +kernel
theorem dX7_accept_13 : decode cX7_accept 13 = .ok (.iload_n 1, 1) := by decide +kernel
theorem dX7_accept_14 : decode cX7_accept 14 = .ok (.invokevirtual 350, 3) := by decide +kernel
theorem dX7_accept_17 : decode cX7_accept 17 = .ok (.return_, 1) := by decide +kernel
noncomputable def EX7_accept : Sx := (sseq (sseq (fpi 6 10 (rl 0) (ik 0)) (scv 2 DX3_keep (fgr 6 6 (rl 0)) (ar (fgr 6 0 (rl 0)) (ai (il 1) anil)))) sretv)
noncomputable def DX7_accept : Fu := mfv 2 EX7_accept
set_option maxRecDepth 4000 in
theorem BX7_accept : Vs RX7 cX7_accept 2 (rmk 4 107) 0 0 EX7_accept := (v_seq (v_seq (v_fpi kX7 lk361 (by decide) rfl rfl (by decide +kernel) (v_aload_n (i := 0) dX7_accept_0 rfl (rfl : 0 + 1 = 1)) (v_iconst (v := 0) dX7_accept_1 (by decide) (rfl : 1 + 1 = 2)) dX7_accept_2 (rfl : 2 + 3 = 5)) (v_scv kX3 IX3_keep hX3_keep lk403 ⟨by decide, by decide⟩ (v_gfr kX7 lk357 (by decide) rfl (v_aload_n (i := 0) dX7_accept_5 rfl (rfl : 5 + 1 = 6)) dX7_accept_6 (rfl : 6 + 3 = 9)) (v_ar (v_gfr kX7 lk351 (by decide) rfl (v_aload_n (i := 0) dX7_accept_9 rfl (rfl : 9 + 1 = 10)) dX7_accept_10 (rfl : 10 + 3 = 13)) (v_ai (v_iload_n (i := 1) dX7_accept_13 rfl (rfl : 13 + 1 = 14)) v_anil)) dX7_accept_14 (rfl : 14 + 3 = 17))) (v_retv dX7_accept_17))
theorem IX7_accept : Mv yX7_accept cX7_accept 2 (rmk 4 107) DX7_accept := mk_v (by decide +kernel) BX7_accept

theorem dX7_within_0 : decode cX7_within 0 = .ok (.iload_n 0, 1) := by decide +kernel
theorem dX7_within_1 : decode cX7_within 1 = .ok (.iload_n 1, 1) := by decide +kernel
theorem dX7_within_2 : decode cX7_within 2 = .ok (.if_icmp .lt 12, 3) := by decide +kernel
theorem dX7_within_5 : decode cX7_within 5 = .ok (.iload_n 0, 1) := by decide +kernel
theorem dX7_within_6 : decode cX7_within 6 = .ok (.iload_n 2, 1) := by decide +kernel
theorem dX7_within_7 : decode cX7_within 7 = .ok (.if_icmp .gt 7, 3) := by decide +kernel
theorem dX7_within_10 : decode cX7_within 10 = .ok (.iconst 1, 1) := by decide +kernel
theorem dX7_within_11 : decode cX7_within 11 = .ok (.goto 4, 3) := by decide +kernel
theorem dX7_within_14 : decode cX7_within 14 = .ok (.iconst 0, 1) := by decide +kernel
theorem dX7_within_15 : decode cX7_within 15 = .ok (.ireturn, 1) := by decide +kernel
noncomputable def EX7_within : Sx := (sret (ic (band (bc cge (il 0) (il 1)) (bc cle (il 0) (il 2))) (ik 1) (ik 0)))
noncomputable def DX7_within : Fz := mfz 3 EX7_within
set_option maxRecDepth 4000 in
theorem BX7_within : Vs RX7 cX7_within 3 (rmk 0 0) 0 0 EX7_within := (v_ret (v_ic (v_and (v_ige_f (v_iload_n (i := 0) dX7_within_0 rfl (rfl : 0 + 1 = 1)) (v_iload_n (i := 1) dX7_within_1 rfl (rfl : 1 + 1 = 2)) dX7_within_2 (rfl : ((2 : Nat) : Int) + 12 = ((14 : Nat) : Int)) (rfl : 2 + 3 = 5)) (v_ile_f (v_iload_n (i := 0) dX7_within_5 rfl (rfl : 5 + 1 = 6)) (v_iload_n (i := 2) dX7_within_6 rfl (rfl : 6 + 1 = 7)) dX7_within_7 (rfl : ((7 : Nat) : Int) + 7 = ((14 : Nat) : Int)) (rfl : 7 + 3 = 10))) (vi_goto (v_iconst (v := 1) dX7_within_10 (by decide) (rfl : 10 + 1 = 11)) dX7_within_11 (rfl : ((11 : Nat) : Int) + 4 = ((15 : Nat) : Int))) (v_iconst (v := 0) dX7_within_14 (by decide) (rfl : 14 + 1 = 15))) dX7_within_15)
theorem IX7_within : Mz yX7_within cX7_within 3 (rmk 0 0) DX7_within := mk_z (by decide +kernel) BX7_within

theorem dX7_arePieces_0 : decode cX7_arePieces 0 = .ok (.iload_n 0, 1) := by decide +kernel
theorem dX7_arePieces_1 : decode cX7_arePieces 1 = .ok (.iconst 1, 1) := by decide +kernel
theorem dX7_arePieces_2 : decode cX7_arePieces 2 = .ok (.bipush 12, 2) := by decide +kernel
theorem dX7_arePieces_4 : decode cX7_arePieces 4 = .ok (.invokestatic 75, 3) := by decide +kernel
theorem dX7_arePieces_7 : decode cX7_arePieces 7 = .ok (.ifCond .eq 35, 3) := by decide +kernel
theorem dX7_arePieces_10 : decode cX7_arePieces 10 = .ok (.iload_n 1, 1) := by decide +kernel
theorem dX7_arePieces_11 : decode cX7_arePieces 11 = .ok (.iconst 0, 1) := by decide +kernel
theorem dX7_arePieces_12 : decode cX7_arePieces 12 = .ok (.bipush 12, 2) := by decide +kernel
theorem dX7_arePieces_14 : decode cX7_arePieces 14 = .ok (.invokestatic 75, 3) := by decide +kernel
theorem dX7_arePieces_17 : decode cX7_arePieces 17 = .ok (.ifCond .eq 25, 3) := by decide +kernel
theorem dX7_arePieces_20 : decode cX7_arePieces 20 = .ok (.iload_n 2, 1) := by decide +kernel
theorem dX7_arePieces_21 : decode cX7_arePieces 21 = .ok (.iconst 0, 1) := by decide +kernel
theorem dX7_arePieces_22 : decode cX7_arePieces 22 = .ok (.bipush 12, 2) := by decide +kernel
theorem dX7_arePieces_24 : decode cX7_arePieces 24 = .ok (.invokestatic 75, 3) := by decide +kernel
theorem dX7_arePieces_27 : decode cX7_arePieces 27 = .ok (.ifCond .eq 15, 3) := by decide +kernel
theorem dX7_arePieces_30 : decode cX7_arePieces 30 = .ok (.iload_n 1, 1) := by decide +kernel
theorem dX7_arePieces_31 : decode cX7_arePieces 31 = .ok (.ifCond .ne 7, 3) := by decide +kernel
theorem dX7_arePieces_34 : decode cX7_arePieces 34 = .ok (.iload_n 2, 1) := by decide +kernel
theorem dX7_arePieces_35 : decode cX7_arePieces 35 = .ok (.ifCond .ne 7, 3) := by decide +kernel
theorem dX7_arePieces_38 : decode cX7_arePieces 38 = .ok (.iconst 1, 1) := by decide +kernel
theorem dX7_arePieces_39 : decode cX7_arePieces 39 = .ok (.goto 4, 3) := by decide +kernel
theorem dX7_arePieces_42 : decode cX7_arePieces 42 = .ok (.iconst 0, 1) := by decide +kernel
theorem dX7_arePieces_43 : decode cX7_arePieces 43 = .ok (.ireturn, 1) := by decide +kernel
noncomputable def EX7_arePieces : Sx := (sret (ic (band (band (band (bz cne (csz DX7_within (ai (il 0) (ai (ik 1) (ai (ik 12) anil))))) (bz cne (csz DX7_within (ai (il 1) (ai (ik 0) (ai (ik 12) anil)))))) (bz cne (csz DX7_within (ai (il 2) (ai (ik 0) (ai (ik 12) anil)))))) (bor (bz cne (il 1)) (bz ceq (il 2)))) (ik 1) (ik 0)))
noncomputable def DX7_arePieces : Fz := mfz 3 EX7_arePieces
set_option maxRecDepth 4000 in
theorem BX7_arePieces : Vs RX7 cX7_arePieces 3 (rmk 1 22) 0 0 EX7_arePieces := (v_ret (v_ic (v_and (v_and (v_and (v_zne_f (v_csz IX7_within hX7_within lk392 ⟨by decide, by decide⟩ (by decide) (v_ai (v_iload_n (i := 0) dX7_arePieces_0 rfl (rfl : 0 + 1 = 1)) (v_ai (v_iconst (v := 1) dX7_arePieces_1 (by decide) (rfl : 1 + 1 = 2)) (v_ai (v_bipush (v := 12) dX7_arePieces_2 (by decide) (rfl : 2 + 2 = 4)) v_anil))) dX7_arePieces_4 (rfl : 4 + 3 = 7)) dX7_arePieces_7 (rfl : ((7 : Nat) : Int) + 35 = ((42 : Nat) : Int)) (rfl : 7 + 3 = 10)) (v_zne_f (v_csz IX7_within hX7_within lk392 ⟨by decide, by decide⟩ (by decide) (v_ai (v_iload_n (i := 1) dX7_arePieces_10 rfl (rfl : 10 + 1 = 11)) (v_ai (v_iconst (v := 0) dX7_arePieces_11 (by decide) (rfl : 11 + 1 = 12)) (v_ai (v_bipush (v := 12) dX7_arePieces_12 (by decide) (rfl : 12 + 2 = 14)) v_anil))) dX7_arePieces_14 (rfl : 14 + 3 = 17)) dX7_arePieces_17 (rfl : ((17 : Nat) : Int) + 25 = ((42 : Nat) : Int)) (rfl : 17 + 3 = 20))) (v_zne_f (v_csz IX7_within hX7_within lk392 ⟨by decide, by decide⟩ (by decide) (v_ai (v_iload_n (i := 2) dX7_arePieces_20 rfl (rfl : 20 + 1 = 21)) (v_ai (v_iconst (v := 0) dX7_arePieces_21 (by decide) (rfl : 21 + 1 = 22)) (v_ai (v_bipush (v := 12) dX7_arePieces_22 (by decide) (rfl : 22 + 2 = 24)) v_anil))) dX7_arePieces_24 (rfl : 24 + 3 = 27)) dX7_arePieces_27 (rfl : ((27 : Nat) : Int) + 15 = ((42 : Nat) : Int)) (rfl : 27 + 3 = 30))) (v_or (v_zne_t (v_iload_n (i := 1) dX7_arePieces_30 rfl (rfl : 30 + 1 = 31)) dX7_arePieces_31 (rfl : ((31 : Nat) : Int) + 7 = ((38 : Nat) : Int)) (rfl : 31 + 3 = 34)) (v_zeq_f (v_iload_n (i := 2) dX7_arePieces_34 rfl (rfl : 34 + 1 = 35)) dX7_arePieces_35 (rfl : ((35 : Nat) : Int) + 7 = ((42 : Nat) : Int)) (rfl : 35 + 3 = 38)))) (vi_goto (v_iconst (v := 1) dX7_arePieces_38 (by decide) (rfl : 38 + 1 = 39)) dX7_arePieces_39 (rfl : ((39 : Nat) : Int) + 4 = ((43 : Nat) : Int))) (v_iconst (v := 0) dX7_arePieces_42 (by decide) (rfl : 42 + 1 = 43))) dX7_arePieces_43)
theorem IX7_arePieces : Mz yX7_arePieces cX7_arePieces 3 (rmk 1 22) DX7_arePieces := mk_z (by decide +kernel) BX7_arePieces

theorem dX7_isChamber_0 : decode cX7_isChamber 0 = .ok (.iload_n 1, 1) := by decide +kernel
theorem dX7_isChamber_1 : decode cX7_isChamber 1 = .ok (.iconst 0, 1) := by decide +kernel
theorem dX7_isChamber_2 : decode cX7_isChamber 2 = .ok (.aload_n 0, 1) := by decide +kernel
theorem dX7_isChamber_3 : decode cX7_isChamber 3 = .ok (.getfield 10, 3) := by decide +kernel
theorem dX7_isChamber_6 : decode cX7_isChamber 6 = .ok (.getfield 83, 3) := by decide +kernel
theorem dX7_isChamber_9 : decode cX7_isChamber 9 = .ok (.iconst 1, 1) := by decide +kernel
theorem dX7_isChamber_10 : decode cX7_isChamber 10 = .ok (.isub, 1) := by decide +kernel
theorem dX7_isChamber_11 : decode cX7_isChamber 11 = .ok (.invokestatic 75, 3) := by decide +kernel
theorem dX7_isChamber_14 : decode cX7_isChamber 14 = .ok (.ireturn, 1) := by decide +kernel
noncomputable def EX7_isChamber : Sx := (sret (csz DX7_within (ai (il 1) (ai (ik 0) (ai (i2 (· - ·) (fgi 1 0 (fgr 6 0 (rl 0))) (ik 1)) anil)))))
noncomputable def DX7_isChamber : Fz := mfz 2 EX7_isChamber
set_option maxRecDepth 4000 in
theorem BX7_isChamber : Vs RX7 cX7_isChamber 2 (rmk 1 22) 0 0 EX7_isChamber := (v_ret (v_csz IX7_within hX7_within lk392 ⟨by decide, by decide⟩ (by decide) (v_ai (v_iload_n (i := 1) dX7_isChamber_0 rfl (rfl : 0 + 1 = 1)) (v_ai (v_iconst (v := 0) dX7_isChamber_1 (by decide) (rfl : 1 + 1 = 2)) (v_ai (v_isub (v_gfi kX1 lk124 (by decide) rfl (v_gfr kX7 lk351 (by decide) rfl (v_aload_n (i := 0) dX7_isChamber_2 rfl (rfl : 2 + 1 = 3)) dX7_isChamber_3 (rfl : 3 + 3 = 6)) dX7_isChamber_6 (rfl : 6 + 3 = 9)) (v_iconst (v := 1) dX7_isChamber_9 (by decide) (rfl : 9 + 1 = 10)) dX7_isChamber_10 (rfl : 10 + 1 = 11)) v_anil))) dX7_isChamber_11 (rfl : 11 + 3 = 14)) dX7_isChamber_14)
theorem IX7_isChamber : Mz yX7_isChamber cX7_isChamber 2 (rmk 1 22) DX7_isChamber := mk_z (by decide +kernel) BX7_isChamber

theorem dX7_areTwoChambers_0 : decode cX7_areTwoChambers 0 = .ok (.aload_n 0, 1) := by decide +kernel
theorem dX7_areTwoChambers_1 : decode cX7_areTwoChambers 1 = .ok (.iload_n 1, 1) := by decide +kernel
theorem dX7_areTwoChambers_2 : decode cX7_areTwoChambers 2 = .ok (.invokevirtual 97, 3) := by decide +kernel
theorem dX7_areTwoChambers_5 : decode cX7_areTwoChambers 5 = .ok (.ifCond .eq 20, 3) := by decide +kernel
theorem dX7_areTwoChambers_8 : decode cX7_areTwoChambers 8 = .ok (.aload_n 0, 1) := by decide +kernel
theorem dX7_areTwoChambers_9 : decode cX7_areTwoChambers 9 = .ok (.iload_n 2, 1) := by decide +kernel
theorem dX7_areTwoChambers_10 : decode cX7_areTwoChambers 10 = .ok (.invokevirtual 97, 3) := by decide +kernel
theorem dX7_areTwoChambers_13 : decode cX7_areTwoChambers 13 = .ok (.ifCond .eq 12, 3) := by decide +kernel
theorem dX7_areTwoChambers_16 : decode cX7_areTwoChambers 16 = .ok (.iload_n 1, 1) := by decide +kernel
theorem dX7_areTwoChambers_17 : decode cX7_areTwoChambers 17 = .ok (.iload_n 2, 1) := by decide +kernel
theorem dX7_areTwoChambers_18 : decode cX7_areTwoChambers 18 = .ok (.if_icmp .eq 7, 3) := by decide +kernel
theorem dX7_areTwoChambers_21 : decode cX7_areTwoChambers 21 = .ok (.iconst 1, 1) := by decide +kernel
theorem dX7_areTwoChambers_22 : decode cX7_areTwoChambers 22 = .ok (.goto 4, 3) := by decide +kernel
theorem dX7_areTwoChambers_25 : decode cX7_areTwoChambers 25 = .ok (.iconst 0, 1) := by decide +kernel
theorem dX7_areTwoChambers_26 : decode cX7_areTwoChambers 26 = .ok (.ireturn, 1) := by decide +kernel
noncomputable def EX7_areTwoChambers : Sx := (sret (ic (band (band (bz cne (cvz 6 DX7_isChamber (rl 0) (ai (il 1) anil))) (bz cne (cvz 6 DX7_isChamber (rl 0) (ai (il 2) anil)))) (bc cne (il 1) (il 2))) (ik 1) (ik 0)))
noncomputable def DX7_areTwoChambers : Fz := mfz 3 EX7_areTwoChambers
set_option maxRecDepth 4000 in
theorem BX7_areTwoChambers : Vs RX7 cX7_areTwoChambers 3 (rmk 2 43) 0 0 EX7_areTwoChambers := (v_ret (v_ic (v_and (v_and (v_zne_f (v_cvz kX7 IX7_isChamber hX7_isChamber lk428 ⟨by decide, by decide⟩ (by decide) (v_aload_n (i := 0) dX7_areTwoChambers_0 rfl (rfl : 0 + 1 = 1)) (v_ai (v_iload_n (i := 1) dX7_areTwoChambers_1 rfl (rfl : 1 + 1 = 2)) v_anil) dX7_areTwoChambers_2 (rfl : 2 + 3 = 5)) dX7_areTwoChambers_5 (rfl : ((5 : Nat) : Int) + 20 = ((25 : Nat) : Int)) (rfl : 5 + 3 = 8)) (v_zne_f (v_cvz kX7 IX7_isChamber hX7_isChamber lk428 ⟨by decide, by decide⟩ (by decide) (v_aload_n (i := 0) dX7_areTwoChambers_8 rfl (rfl : 8 + 1 = 9)) (v_ai (v_iload_n (i := 2) dX7_areTwoChambers_9 rfl (rfl : 9 + 1 = 10)) v_anil) dX7_areTwoChambers_10 (rfl : 10 + 3 = 13)) dX7_areTwoChambers_13 (rfl : ((13 : Nat) : Int) + 12 = ((25 : Nat) : Int)) (rfl : 13 + 3 = 16))) (v_ine_f (v_iload_n (i := 1) dX7_areTwoChambers_16 rfl (rfl : 16 + 1 = 17)) (v_iload_n (i := 2) dX7_areTwoChambers_17 rfl (rfl : 17 + 1 = 18)) dX7_areTwoChambers_18 (rfl : ((18 : Nat) : Int) + 7 = ((25 : Nat) : Int)) (rfl : 18 + 3 = 21))) (vi_goto (v_iconst (v := 1) dX7_areTwoChambers_21 (by decide) (rfl : 21 + 1 = 22)) dX7_areTwoChambers_22 (rfl : ((22 : Nat) : Int) + 4 = ((26 : Nat) : Int))) (v_iconst (v := 0) dX7_areTwoChambers_25 (by decide) (rfl : 25 + 1 = 26))) dX7_areTwoChambers_26)
theorem IX7_areTwoChambers : Mz yX7_areTwoChambers cX7_areTwoChambers 3 (rmk 2 43) DX7_areTwoChambers := mk_z (by decide +kernel) BX7_areTwoChambers

theorem dX7_refuse_0 : decode cX7_refuse 0 = .ok (.aload_n 0, 1) := by decide +kernel
theorem dX7_refuse_1 : decode cX7_refuse 1 = .ok (.iload_n 1, 1) := by decide +kernel
theorem dX7_refuse_2 : decode cX7_refuse 2 = .ok (.putfield 68, 3) := by decide +kernel
theorem dX7_refuse_5 : decode cX7_refuse 5 = .ok (.iload_n 1, 1) := by decide +kernel
theorem dX7_refuse_6 : decode cX7_refuse 6 = .ok (.tableswitch 69 (-4) (-1) #[56, 69, 43, 30], 30) := by decide +kernel
theorem dX7_refuse_36 : decode cX7_refuse 36 = .ok (.aload_n 0, 1) := by decide +kernel
theorem dX7_refuse_37 : decode cX7_refuse 37 = .ok (.getfield 64, 3) := by decide +kernel
theorem dX7_refuse_40 : decode cX7_refuse 40 = .ok (.iconst 0, 1) := by decide +kernel
theorem dX7_refuse_41 : decode cX7_refuse 41 = .ok (.dup2, 1) := by decide +kernel
theorem dX7_refuse_42 : decode cX7_refuse 42 = .ok (.iaload, 1) := by decide +kernel
theorem dX7_refuse_43 : decode cX7_refuse 43 = .ok (.iconst 1, 1) := by decide +kernel
theorem dX7_refuse_44 : decode cX7_refuse 44 = .ok (.iadd, 1) := by decide +kernel
theorem dX7_refuse_45 : decode cX7_refuse 45 = .ok (.iastore, 1) := by decide +kernel
theorem dX7_refuse_46 : decode cX7_refuse 46 = .ok (.goto 39, 3) := by decide +kernel
theorem dX7_refuse_49 : decode cX7_refuse 49 = .ok (.aload_n 0, 1) := by decide +kernel
theorem dX7_refuse_50 : decode cX7_refuse 50 = .ok (.getfield 64, 3) := by decide +kernel
theorem dX7_refuse_53 : decode cX7_refuse 53 = .ok (.iconst 1, 1) := by decide +kernel
theorem dX7_refuse_54 : decode cX7_refuse 54 = .ok (.dup2, 1) := by decide +kernel
theorem dX7_refuse_55 : decode cX7_refuse 55 = .ok (.iaload, 1) := by decide +kernel
theorem dX7_refuse_56 : decode cX7_refuse 56 = .ok (.iconst 1, 1) := by decide +kernel
theorem dX7_refuse_57 : decode cX7_refuse 57 = .ok (.iadd, 1) := by decide +kernel
theorem dX7_refuse_58 : decode cX7_refuse 58 = .ok (.iastore, 1) := by decide +kernel
theorem dX7_refuse_59 : decode cX7_refuse 59 = .ok (.goto 26, 3) := by decide +kernel
theorem dX7_refuse_62 : decode cX7_refuse 62 = .ok (.aload_n 0, 1) := by decide +kernel
theorem dX7_refuse_63 : decode cX7_refuse 63 = .ok (.getfield 64, 3) := by decide +kernel
theorem dX7_refuse_66 : decode cX7_refuse 66 = .ok (.iconst 2, 1) := by decide +kernel
theorem dX7_refuse_67 : decode cX7_refuse 67 = .ok (.dup2, 1) := by decide +kernel
theorem dX7_refuse_68 : decode cX7_refuse 68 = .ok (.iaload, 1) := by decide +kernel
theorem dX7_refuse_69 : decode cX7_refuse 69 = .ok (.iconst 1, 1) := by decide +kernel
theorem dX7_refuse_70 : decode cX7_refuse 70 = .ok (.iadd, 1) := by decide +kernel
theorem dX7_refuse_71 : decode cX7_refuse 71 = .ok (.iastore, 1) := by decide +kernel
theorem dX7_refuse_72 : decode cX7_refuse 72 = .ok (.goto 13, 3) := by decide +kernel
theorem dX7_refuse_75 : decode cX7_refuse 75 = .ok (.aload_n 0, 1) := by decide +kernel
theorem dX7_refuse_76 : decode cX7_refuse 76 = .ok (.getfield 64, 3) := by decide +kernel
theorem dX7_refuse_79 : decode cX7_refuse 79 = .ok (.iconst 3, 1) := by decide +kernel
theorem dX7_refuse_80 : decode cX7_refuse 80 = .ok (.dup2, 1) := by decide +kernel
theorem dX7_refuse_81 : decode cX7_refuse 81 = .ok (.iaload, 1) := by decide +kernel
theorem dX7_refuse_82 : decode cX7_refuse 82 = .ok (.iconst 1, 1) := by decide +kernel
theorem dX7_refuse_83 : decode cX7_refuse 83 = .ok (.iadd, 1) := by decide +kernel
theorem dX7_refuse_84 : decode cX7_refuse 84 = .ok (.iastore, 1) := by decide +kernel
theorem dX7_refuse_85 : decode cX7_refuse 85 = .ok (.iload_n 1, 1) := by decide +kernel
theorem dX7_refuse_86 : decode cX7_refuse 86 = .ok (.ireturn, 1) := by decide +kernel
noncomputable def EX7_refuse : Sx := (sseq (fpi 6 10 (rl 0) (il 1)) (sseq (ssw (il 1) [((-1), (aoi (· + ·) (fgr 6 9 (rl 0)) (ik 0) (ik 1))), ((-2), (aoi (· + ·) (fgr 6 9 (rl 0)) (ik 1) (ik 1))), ((-4), (aoi (· + ·) (fgr 6 9 (rl 0)) (ik 2) (ik 1)))] (aoi (· + ·) (fgr 6 9 (rl 0)) (ik 3) (ik 1))) (sret (il 1))))
noncomputable def DX7_refuse : Fi := mfi 2 EX7_refuse
set_option maxRecDepth 4000 in
theorem BX7_refuse : Vs RX7 cX7_refuse 2 (rmk 0 0) 0 0 EX7_refuse := (v_seq (v_fpi kX7 lk361 (by decide) rfl rfl (by decide +kernel) (v_aload_n (i := 0) dX7_refuse_0 rfl (rfl : 0 + 1 = 1)) (v_iload_n (i := 1) dX7_refuse_1 rfl (rfl : 1 + 1 = 2)) dX7_refuse_2 (rfl : 2 + 3 = 5)) (v_seq (v_sw (v_iload_n (i := 1) dX7_refuse_5 rfl (rfl : 5 + 1 = 6)) dX7_refuse_6 (fun j hj => match j, hj with
  | 0, _ => ⟨56, 62, rfl, (rfl : ((6 : Nat) : Int) + 56 = ((62 : Nat) : Int)), (vs_goto (v_aoi_iadd (v_gfr kX7 lk360 (by decide) rfl (v_aload_n (i := 0) dX7_refuse_62 rfl (rfl : 62 + 1 = 63)) dX7_refuse_63 (rfl : 63 + 3 = 66)) (v_iconst (v := 2) dX7_refuse_66 (by decide) (rfl : 66 + 1 = 67)) dX7_refuse_67 dX7_refuse_68 (rfl : 67 + 1 + 1 = 69) (v_iconst (v := 1) dX7_refuse_69 (by decide) (rfl : 69 + 1 = 70)) dX7_refuse_70 dX7_refuse_71 (rfl : 70 + 1 + 1 = 72)) dX7_refuse_72 (rfl : ((72 : Nat) : Int) + 13 = ((85 : Nat) : Int)))⟩
  | 1, _ => ⟨69, 75, rfl, (rfl : ((6 : Nat) : Int) + 69 = ((75 : Nat) : Int)), (v_aoi_iadd (v_gfr kX7 lk360 (by decide) rfl (v_aload_n (i := 0) dX7_refuse_75 rfl (rfl : 75 + 1 = 76)) dX7_refuse_76 (rfl : 76 + 3 = 79)) (v_iconst (v := 3) dX7_refuse_79 (by decide) (rfl : 79 + 1 = 80)) dX7_refuse_80 dX7_refuse_81 (rfl : 80 + 1 + 1 = 82) (v_iconst (v := 1) dX7_refuse_82 (by decide) (rfl : 82 + 1 = 83)) dX7_refuse_83 dX7_refuse_84 (rfl : 83 + 1 + 1 = 85))⟩
  | 2, _ => ⟨43, 49, rfl, (rfl : ((6 : Nat) : Int) + 43 = ((49 : Nat) : Int)), (vs_goto (v_aoi_iadd (v_gfr kX7 lk360 (by decide) rfl (v_aload_n (i := 0) dX7_refuse_49 rfl (rfl : 49 + 1 = 50)) dX7_refuse_50 (rfl : 50 + 3 = 53)) (v_iconst (v := 1) dX7_refuse_53 (by decide) (rfl : 53 + 1 = 54)) dX7_refuse_54 dX7_refuse_55 (rfl : 54 + 1 + 1 = 56) (v_iconst (v := 1) dX7_refuse_56 (by decide) (rfl : 56 + 1 = 57)) dX7_refuse_57 dX7_refuse_58 (rfl : 57 + 1 + 1 = 59)) dX7_refuse_59 (rfl : ((59 : Nat) : Int) + 26 = ((85 : Nat) : Int)))⟩
  | 3, _ => ⟨30, 36, rfl, (rfl : ((6 : Nat) : Int) + 30 = ((36 : Nat) : Int)), (vs_goto (v_aoi_iadd (v_gfr kX7 lk360 (by decide) rfl (v_aload_n (i := 0) dX7_refuse_36 rfl (rfl : 36 + 1 = 37)) dX7_refuse_37 (rfl : 37 + 3 = 40)) (v_iconst (v := 0) dX7_refuse_40 (by decide) (rfl : 40 + 1 = 41)) dX7_refuse_41 dX7_refuse_42 (rfl : 41 + 1 + 1 = 43) (v_iconst (v := 1) dX7_refuse_43 (by decide) (rfl : 43 + 1 = 44)) dX7_refuse_44 dX7_refuse_45 (rfl : 44 + 1 + 1 = 46)) dX7_refuse_46 (rfl : ((46 : Nat) : Int) + 39 = ((85 : Nat) : Int)))⟩
  | j + 4, hj => absurd hj (by omega)) ⟨75, (rfl : ((6 : Nat) : Int) + 69 = ((75 : Nat) : Int)), fun x hx => by
    have e0 : sel [((-1), (aoi (· + ·) (fgr 6 9 (rl 0)) (ik 0) (ik 1))), ((-2), (aoi (· + ·) (fgr 6 9 (rl 0)) (ik 1) (ik 1))), ((-4), (aoi (· + ·) (fgr 6 9 (rl 0)) (ik 2) (ik 1)))] (aoi (· + ·) (fgr 6 9 (rl 0)) (ik 3) (ik 1)) x = (aoi (· + ·) (fgr 6 9 (rl 0)) (ik 3) (ik 1)) := by simp only [sel]; rw [if_neg (by omega)]; rw [if_neg (by omega)]; rw [if_neg (by omega)]
    rw [e0]; exact (v_aoi_iadd (v_gfr kX7 lk360 (by decide) rfl (v_aload_n (i := 0) dX7_refuse_75 rfl (rfl : 75 + 1 = 76)) dX7_refuse_76 (rfl : 76 + 3 = 79)) (v_iconst (v := 3) dX7_refuse_79 (by decide) (rfl : 79 + 1 = 80)) dX7_refuse_80 dX7_refuse_81 (rfl : 80 + 1 + 1 = 82) (v_iconst (v := 1) dX7_refuse_82 (by decide) (rfl : 82 + 1 = 83)) dX7_refuse_83 dX7_refuse_84 (rfl : 83 + 1 + 1 = 85))⟩) (v_ret (v_iload_n (i := 1) dX7_refuse_85 rfl (rfl : 85 + 1 = 86)) dX7_refuse_86)))
theorem IX7_refuse : Mi yX7_refuse cX7_refuse 2 (rmk 0 0) DX7_refuse := mk_i (by decide +kernel) BX7_refuse

theorem dX7_back_0 : decode cX7_back 0 = .ok (.iload_n 1, 1) := by decide +kernel
theorem dX7_back_1 : decode cX7_back 1 = .ok (.iconst 0, 1) := by decide +kernel
theorem dX7_back_2 : decode cX7_back 2 = .ok (.iconst 1, 1) := by decide +kernel
theorem dX7_back_3 : decode cX7_back 3 = .ok (.invokestatic 75, 3) := by decide +kernel
theorem dX7_back_6 : decode cX7_back 6 = .ok (.ifCond .ne 9, 3) := by decide +kernel
theorem dX7_back_9 : decode cX7_back 9 = .ok (.aload_n 0, 1) := by decide +kernel
theorem dX7_back_10 : decode cX7_back 10 = .ok (.iconst (-1), 1) := by decide +kernel
theorem dX7_back_11 : decode cX7_back 11 = .ok (.invokevirtual 79, 3) := by decide +kernel
theorem dX7_back_14 : decode cX7_back 14 = .ok (.ireturn, 1) := by decide +kernel
theorem dX7_back_15 : decode cX7_back 15 = .ok (.aload_n 0, 1) := by decide +kernel
theorem dX7_back_16 : decode cX7_back 16 = .ok (.getfield 60, 3) := by decide +kernel
theorem dX7_back_19 : decode cX7_back 19 = .ok (.iload_n 1, 1) := by decide +kernel
theorem dX7_back_20 : decode cX7_back 20 = .ok (.baload, 1) := by decide +kernel
theorem dX7_back_21 : decode cX7_back 21 = .ok (.ifCond .ne 10, 3) := by decide +kernel
theorem dX7_back_24 : decode cX7_back 24 = .ok (.aload_n 0, 1) := by decide +kernel
theorem dX7_back_25 : decode cX7_back 25 = .ok (.bipush (-4), 2) := by decide +kernel
theorem dX7_back_27 : decode cX7_back 27 = .ok (.invokevirtual 79, 3) := by decide +kernel
theorem dX7_back_30 : decode cX7_back 30 = .ok (.ireturn, 1) := by decide +kernel
theorem dX7_back_31 : decode cX7_back 31 = .ok (.aload_n 0, 1) := by decide +kernel
theorem dX7_back_32 : decode cX7_back 32 = .ok (.iconst 0, 1) := by decide +kernel
theorem dX7_back_33 : decode cX7_back 33 = .ok (.putfield 68, 3) := by decide +kernel
theorem dX7_back_36 : decode cX7_back 36 = .ok (.aload_n 0, 1) := by decide +kernel
theorem dX7_back_37 : decode cX7_back 37 = .ok (.getfield 10, 3) := by decide +kernel
theorem dX7_back_40 : decode cX7_back 40 = .ok (.aload_n 0, 1) := by decide +kernel
theorem dX7_back_41 : decode cX7_back 41 = .ok (.getfield 56, 3) := by decide +kernel
theorem dX7_back_44 : decode cX7_back 44 = .ok (.iload_n 1, 1) := by decide +kernel
theorem dX7_back_45 : decode cX7_back 45 = .ok (.aaload, 1) := by decide +kernel
theorem dX7_back_46 : decode cX7_back 46 = .ok (.invokevirtual 205, 3) := by decide +kernel
theorem dX7_back_49 : decode cX7_back 49 = .ok (.aload_n 0, 1) := by decide +kernel
theorem dX7_back_50 : decode cX7_back 50 = .ok (.getfield 52, 3) := by decide +kernel
theorem dX7_back_53 : decode cX7_back 53 = .ok (.invokevirtual 208, 3) := by decide +kernel
theorem dX7_back_56 : decode cX7_back 56 = .ok (.aload_n 0, 1) := by decide +kernel
theorem dX7_back_57 : decode cX7_back 57 = .ok (.getfield 10, 3) := by decide +kernel
theorem dX7_back_60 : decode cX7_back 60 = .ok (.getfield 184, 3) := by decide +kernel
theorem dX7_back_63 : decode cX7_back 63 = .ok (.ireturn, 1) := by decide +kernel
noncomputable def EX7_back : Sx := (sseq (sif (bnot (bz cne (csz DX7_within (ai (il 1) (ai (ik 0) (ai (ik 1) anil)))))) (sret (cvi 6 DX7_refuse (rl 0) (ai (ik (-1)) anil))) snop) (sseq (sif (bnot (bz cne (zald (fgr 6 8 (rl 0)) (il 1)))) (sret (cvi 6 DX7_refuse (rl 0) (ai (ik (-4)) anil))) snop) (sseq (fpi 6 10 (rl 0) (ik 0)) (sseq (scv 1 DX1_copyFrom (fgr 6 0 (rl 0)) (ar (rald 11 (fgr 6 7 (rl 0)) (il 1)) anil)) (sseq (scv 2 DX3_forget (fgr 6 6 (rl 0)) anil) (sret (fgi 1 4 (fgr 6 0 (rl 0)))))))))
noncomputable def DX7_back : Fi := mfi 2 EX7_back
set_option maxRecDepth 4000 in
theorem BX7_back : Vs RX7 cX7_back 2 (rmk 3 84) 0 0 EX7_back := (v_seq (v_if (v_not (v_zne_t (v_csz IX7_within hX7_within lk392 ⟨by decide, by decide⟩ (by decide) (v_ai (v_iload_n (i := 1) dX7_back_0 rfl (rfl : 0 + 1 = 1)) (v_ai (v_iconst (v := 0) dX7_back_1 (by decide) (rfl : 1 + 1 = 2)) (v_ai (v_iconst (v := 1) dX7_back_2 (by decide) (rfl : 2 + 1 = 3)) v_anil))) dX7_back_3 (rfl : 3 + 3 = 6)) dX7_back_6 (rfl : ((6 : Nat) : Int) + 9 = ((15 : Nat) : Int)) (rfl : 6 + 3 = 9))) (v_ret (v_cvi kX7 IX7_refuse hX7_refuse lk395 ⟨by decide, by decide⟩ (by decide) (v_aload_n (i := 0) dX7_back_9 rfl (rfl : 9 + 1 = 10)) (v_ai (v_iconst (v := (-1)) dX7_back_10 (by decide) (rfl : 10 + 1 = 11)) v_anil) dX7_back_11 (rfl : 11 + 3 = 14)) dX7_back_14) v_nop) (v_seq (v_if (v_not (v_zne_t (v_zald (v_gfr kX7 lk359 (by decide) rfl (v_aload_n (i := 0) dX7_back_15 rfl (rfl : 15 + 1 = 16)) dX7_back_16 (rfl : 16 + 3 = 19)) (v_iload_n (i := 1) dX7_back_19 rfl (rfl : 19 + 1 = 20)) dX7_back_20 (rfl : 20 + 1 = 21)) dX7_back_21 (rfl : ((21 : Nat) : Int) + 10 = ((31 : Nat) : Int)) (rfl : 21 + 3 = 24))) (v_ret (v_cvi kX7 IX7_refuse hX7_refuse lk395 ⟨by decide, by decide⟩ (by decide) (v_aload_n (i := 0) dX7_back_24 rfl (rfl : 24 + 1 = 25)) (v_ai (v_bipush (v := (-4)) dX7_back_25 (by decide) (rfl : 25 + 2 = 27)) v_anil) dX7_back_27 (rfl : 27 + 3 = 30)) dX7_back_30) v_nop) (v_seq (v_fpi kX7 lk361 (by decide) rfl rfl (by decide +kernel) (v_aload_n (i := 0) dX7_back_31 rfl (rfl : 31 + 1 = 32)) (v_iconst (v := 0) dX7_back_32 (by decide) (rfl : 32 + 1 = 33)) dX7_back_33 (rfl : 33 + 3 = 36)) (v_seq (v_scv kX1 IX1_copyFrom hX1_copyFrom lk716 ⟨by decide, by decide⟩ (v_gfr kX7 lk351 (by decide) rfl (v_aload_n (i := 0) dX7_back_36 rfl (rfl : 36 + 1 = 37)) dX7_back_37 (rfl : 37 + 3 = 40)) (v_ar (v_rald (q := 11) (t0 := 3) (ty0 := .object "VacuumDesk$Line") ⟨by decide, by decide⟩ (fun _ => rfl) rfl (v_gfr kX7 lk358 (by decide) rfl (v_aload_n (i := 0) dX7_back_40 rfl (rfl : 40 + 1 = 41)) dX7_back_41 (rfl : 41 + 3 = 44)) (v_iload_n (i := 1) dX7_back_44 rfl (rfl : 44 + 1 = 45)) dX7_back_45 (rfl : 45 + 1 = 46)) v_anil) dX7_back_46 (rfl : 46 + 3 = 49)) (v_seq (v_scv kX3 IX3_forget hX3_forget lk721 ⟨by decide, by decide⟩ (v_gfr kX7 lk357 (by decide) rfl (v_aload_n (i := 0) dX7_back_49 rfl (rfl : 49 + 1 = 50)) dX7_back_50 (rfl : 50 + 3 = 53)) v_anil dX7_back_53 (rfl : 53 + 3 = 56)) (v_ret (v_gfi kX1 lk142 (by decide) rfl (v_gfr kX7 lk351 (by decide) rfl (v_aload_n (i := 0) dX7_back_56 rfl (rfl : 56 + 1 = 57)) dX7_back_57 (rfl : 57 + 3 = 60)) dX7_back_60 (rfl : 60 + 3 = 63)) dX7_back_63))))))
theorem IX7_back : Mi yX7_back cX7_back 2 (rmk 3 84) DX7_back := mk_i (by decide +kernel) BX7_back

theorem dX7_bears_0 : decode cX7_bears 0 = .ok (.iload_n 2, 1) := by decide +kernel
theorem dX7_bears_1 : decode cX7_bears 1 = .ok (.ifCond .lt 14, 3) := by decide +kernel
theorem dX7_bears_4 : decode cX7_bears 4 = .ok (.aload_n 0, 1) := by decide +kernel
theorem dX7_bears_5 : decode cX7_bears 5 = .ok (.getfield 10, 3) := by decide +kernel
theorem dX7_bears_8 : decode cX7_bears 8 = .ok (.iload_n 1, 1) := by decide +kernel
theorem dX7_bears_9 : decode cX7_bears 9 = .ok (.invokevirtual 160, 3) := by decide +kernel
theorem dX7_bears_12 : decode cX7_bears 12 = .ok (.ifCond .ne 5, 3) := by decide +kernel
theorem dX7_bears_15 : decode cX7_bears 15 = .ok (.iconst (-1), 1) := by decide +kernel
theorem dX7_bears_16 : decode cX7_bears 16 = .ok (.ireturn, 1) := by decide +kernel
theorem dX7_bears_17 : decode cX7_bears 17 = .ok (.aload_n 0, 1) := by decide +kernel
theorem dX7_bears_18 : decode cX7_bears 18 = .ok (.getfield 16, 3) := by decide +kernel
theorem dX7_bears_21 : decode cX7_bears 21 = .ok (.aload_n 0, 1) := by decide +kernel
theorem dX7_bears_22 : decode cX7_bears 22 = .ok (.getfield 10, 3) := by decide +kernel
theorem dX7_bears_25 : decode cX7_bears 25 = .ok (.invokevirtual 205, 3) := by decide +kernel
theorem dX7_bears_28 : decode cX7_bears 28 = .ok (.bipush 60, 2) := by decide +kernel
theorem dX7_bears_30 : decode cX7_bears 30 = .ok (.istore_n 3, 1) := by decide +kernel
theorem dX7_bears_31 : decode cX7_bears 31 = .ok (.iload_n 3, 1) := by decide +kernel
theorem dX7_bears_32 : decode cX7_bears 32 = .ok (.ifCond .lt 35, 3) := by decide +kernel
theorem dX7_bears_35 : decode cX7_bears 35 = .ok (.aload_n 0, 1) := by decide +kernel
theorem dX7_bears_36 : decode cX7_bears 36 = .ok (.getfield 16, 3) := by decide +kernel
theorem dX7_bears_39 : decode cX7_bears 39 = .ok (.iload_n 1, 1) := by decide +kernel
theorem dX7_bears_40 : decode cX7_bears 40 = .ok (.iload_n 3, 1) := by decide +kernel
theorem dX7_bears_41 : decode cX7_bears 41 = .ok (.invokevirtual 166, 3) := by decide +kernel
theorem dX7_bears_44 : decode cX7_bears 44 = .ok (.aload_n 0, 1) := by decide +kernel
theorem dX7_bears_45 : decode cX7_bears 45 = .ok (.getfield 22, 3) := by decide +kernel
theorem dX7_bears_48 : decode cX7_bears 48 = .ok (.aload_n 0, 1) := by decide +kernel
theorem dX7_bears_49 : decode cX7_bears 49 = .ok (.getfield 16, 3) := by decide +kernel
theorem dX7_bears_52 : decode cX7_bears 52 = .ok (.iload_n 2, 1) := by decide +kernel
theorem dX7_bears_53 : decode cX7_bears 53 = .ok (.invokevirtual 297, 3) := by decide +kernel
theorem dX7_bears_56 : decode cX7_bears 56 = .ok (.ifCond .eq 5, 3) := by decide +kernel
theorem dX7_bears_59 : decode cX7_bears 59 = .ok (.iload_n 3, 1) := by decide +kernel
theorem dX7_bears_60 : decode cX7_bears 60 = .ok (.ireturn, 1) := by decide +kernel
theorem dX7_bears_61 : decode cX7_bears 61 = .ok (.iinc 3 (-1), 3) := by decide +kernel
theorem dX7_bears_64 : decode cX7_bears 64 = .ok (.goto (-33), 3) := by decide +kernel
theorem dX7_bears_67 : decode cX7_bears 67 = .ok (.iconst (-1), 1) := by decide +kernel
theorem dX7_bears_68 : decode cX7_bears 68 = .ok (.ireturn, 1) := by decide +kernel
noncomputable def qX7_bears_1 : Bx := (bz cge (il 3))
noncomputable def wX7_bears_1 : Sx := (sseq (sseq (scv 1 DX1_putLeak (fgr 6 1 (rl 0)) (ai (il 1) (ai (il 3) anil))) (sif (bz cne (cvz 0 DX0_isUnder (fgr 6 2 (rl 0)) (ar (fgr 6 1 (rl 0)) (ai (il 2) anil)))) (sret (il 3)) snop)) (sinc 3 (-1)))
noncomputable def EX7_bears : Sx := (sseq (sif (bor (bz clt (il 2)) (bnot (bz cne (cvz 1 DX1_isJoint (fgr 6 0 (rl 0)) (ai (il 1) anil))))) (sret (ik (-1))) snop) (sseq (scv 1 DX1_copyFrom (fgr 6 1 (rl 0)) (ar (fgr 6 0 (rl 0)) anil)) (sseq (scut 3 (sseq (ssi 3 (ik 60)) (swh qX7_bears_1 wX7_bears_1))) (sret (ik (-1))))))
noncomputable def DX7_bears : Fi := mfi 4 EX7_bears
set_option maxRecDepth 4000 in
theorem BX7_bears : Vs RX7 cX7_bears 4 (rmk 6 152) 0 0 EX7_bears := (v_seq (v_if (v_or (v_zlt_t (v_iload_n (i := 2) dX7_bears_0 rfl (rfl : 0 + 1 = 1)) dX7_bears_1 (rfl : ((1 : Nat) : Int) + 14 = ((15 : Nat) : Int)) (rfl : 1 + 3 = 4)) (v_not (v_zne_t (v_cvz kX1 IX1_isJoint hX1_isJoint lk507 ⟨by decide, by decide⟩ (by decide) (v_gfr kX7 lk351 (by decide) rfl (v_aload_n (i := 0) dX7_bears_4 rfl (rfl : 4 + 1 = 5)) dX7_bears_5 (rfl : 5 + 3 = 8)) (v_ai (v_iload_n (i := 1) dX7_bears_8 rfl (rfl : 8 + 1 = 9)) v_anil) dX7_bears_9 (rfl : 9 + 3 = 12)) dX7_bears_12 (rfl : ((12 : Nat) : Int) + 5 = ((17 : Nat) : Int)) (rfl : 12 + 3 = 15)))) (v_ret (v_iconst (v := (-1)) dX7_bears_15 (by decide) (rfl : 15 + 1 = 16)) dX7_bears_16) v_nop) (v_seq (v_scv kX1 IX1_copyFrom hX1_copyFrom lk716 ⟨by decide, by decide⟩ (v_gfr kX7 lk352 (by decide) rfl (v_aload_n (i := 0) dX7_bears_17 rfl (rfl : 17 + 1 = 18)) dX7_bears_18 (rfl : 18 + 3 = 21)) (v_ar (v_gfr kX7 lk351 (by decide) rfl (v_aload_n (i := 0) dX7_bears_21 rfl (rfl : 21 + 1 = 22)) dX7_bears_22 (rfl : 22 + 3 = 25)) v_anil) dX7_bears_25 (rfl : 25 + 3 = 28)) (v_seq (v_cut (n := 3) (v_seq (v_istore_n (i := 3) (v_bipush (v := 60) dX7_bears_28 (by decide) (rfl : 28 + 2 = 30)) dX7_bears_30 rfl (by decide) (rfl : 30 + 1 = 31)) (v_wh (v_zge_f (v_iload_n (i := 3) dX7_bears_31 rfl (rfl : 31 + 1 = 32)) dX7_bears_32 (rfl : ((32 : Nat) : Int) + 35 = ((67 : Nat) : Int)) (rfl : 32 + 3 = 35)) (vs_goto (v_seq (v_seq (v_scv kX1 IX1_putLeak hX1_putLeak lk511 ⟨by decide, by decide⟩ (v_gfr kX7 lk352 (by decide) rfl (v_aload_n (i := 0) dX7_bears_35 rfl (rfl : 35 + 1 = 36)) dX7_bears_36 (rfl : 36 + 3 = 39)) (v_ai (v_iload_n (i := 1) dX7_bears_39 rfl (rfl : 39 + 1 = 40)) (v_ai (v_iload_n (i := 3) dX7_bears_40 rfl (rfl : 40 + 1 = 41)) v_anil)) dX7_bears_41 (rfl : 41 + 3 = 44)) (v_if (v_zne_f (v_cvz kX0 IX0_isUnder hX0_isUnder lk901 ⟨by decide, by decide⟩ (by decide) (v_gfr kX7 lk353 (by decide) rfl (v_aload_n (i := 0) dX7_bears_44 rfl (rfl : 44 + 1 = 45)) dX7_bears_45 (rfl : 45 + 3 = 48)) (v_ar (v_gfr kX7 lk352 (by decide) rfl (v_aload_n (i := 0) dX7_bears_48 rfl (rfl : 48 + 1 = 49)) dX7_bears_49 (rfl : 49 + 3 = 52)) (v_ai (v_iload_n (i := 2) dX7_bears_52 rfl (rfl : 52 + 1 = 53)) v_anil)) dX7_bears_53 (rfl : 53 + 3 = 56)) dX7_bears_56 (rfl : ((56 : Nat) : Int) + 5 = ((61 : Nat) : Int)) (rfl : 56 + 3 = 59)) (v_ret (v_iload_n (i := 3) dX7_bears_59 rfl (rfl : 59 + 1 = 60)) dX7_bears_60) v_nop)) (v_iinc (v := (-1)) dX7_bears_61 (by decide) (by decide) (rfl : 61 + 3 = 64))) dX7_bears_64 (rfl : ((64 : Nat) : Int) + (-33) = ((31 : Nat) : Int)))))) (v_ret (v_iconst (v := (-1)) dX7_bears_67 (by decide) (rfl : 67 + 1 = 68)) dX7_bears_68))))
theorem IX7_bears : Mi yX7_bears cX7_bears 4 (rmk 6 152) DX7_bears := mk_i (by decide +kernel) BX7_bears

theorem dX7_between_0 : decode cX7_between 0 = .ok (.aload_n 0, 1) := by decide +kernel
theorem dX7_between_1 : decode cX7_between 1 = .ok (.iload_n 1, 1) := by decide +kernel
theorem dX7_between_2 : decode cX7_between 2 = .ok (.iload_n 2, 1) := by decide +kernel
theorem dX7_between_3 : decode cX7_between 3 = .ok (.invokevirtual 239, 3) := by decide +kernel
theorem dX7_between_6 : decode cX7_between 6 = .ok (.ifCond .eq 24, 3) := by decide +kernel
theorem dX7_between_9 : decode cX7_between 9 = .ok (.iload_n 3, 1) := by decide +kernel
theorem dX7_between_10 : decode cX7_between 10 = .ok (.iconst 0, 1) := by decide +kernel
theorem dX7_between_11 : decode cX7_between 11 = .ok (.iconst 1, 1) := by decide +kernel
theorem dX7_between_12 : decode cX7_between 12 = .ok (.invokestatic 75, 3) := by decide +kernel
theorem dX7_between_15 : decode cX7_between 15 = .ok (.ifCond .eq 15, 3) := by decide +kernel
theorem dX7_between_18 : decode cX7_between 18 = .ok (.aload_n 0, 1) := by decide +kernel
theorem dX7_between_19 : decode cX7_between 19 = .ok (.getfield 10, 3) := by decide +kernel
theorem dX7_between_22 : decode cX7_between 22 = .ok (.iload_n 1, 1) := by decide +kernel
theorem dX7_between_23 : decode cX7_between 23 = .ok (.iload_n 2, 1) := by decide +kernel
theorem dX7_between_24 : decode cX7_between 24 = .ok (.invokevirtual 242, 3) := by decide +kernel
theorem dX7_between_27 : decode cX7_between 27 = .ok (.ifCond .ne 7, 3) := by decide +kernel
theorem dX7_between_30 : decode cX7_between 30 = .ok (.ldc2_w 211, 3) := by decide +kernel
theorem dX7_between_33 : decode cX7_between 33 = .ok (.lreturn, 1) := by decide +kernel
theorem dX7_between_34 : decode cX7_between 34 = .ok (.aload_n 0, 1) := by decide +kernel
theorem dX7_between_35 : decode cX7_between 35 = .ok (.getfield 45, 3) := by decide +kernel
theorem dX7_between_38 : decode cX7_between 38 = .ok (.aload_n 0, 1) := by decide +kernel
theorem dX7_between_39 : decode cX7_between 39 = .ok (.getfield 10, 3) := by decide +kernel
theorem dX7_between_42 : decode cX7_between 42 = .ok (.iload_n 1, 1) := by decide +kernel
theorem dX7_between_43 : decode cX7_between 43 = .ok (.iload_n 2, 1) := by decide +kernel
theorem dX7_between_44 : decode cX7_between 44 = .ok (.invokevirtual 245, 3) := by decide +kernel
theorem dX7_between_47 : decode cX7_between 47 = .ok (.aload_n 0, 1) := by decide +kernel
theorem dX7_between_48 : decode cX7_between 48 = .ok (.getfield 45, 3) := by decide +kernel
theorem dX7_between_51 : decode cX7_between 51 = .ok (.getfield 249, 3) := by decide +kernel
theorem dX7_between_54 : decode cX7_between 54 = .ok (.aload_n 0, 1) := by decide +kernel
theorem dX7_between_55 : decode cX7_between 55 = .ok (.getfield 45, 3) := by decide +kernel
theorem dX7_between_58 : decode cX7_between 58 = .ok (.getfield 252, 3) := by decide +kernel
theorem dX7_between_61 : decode cX7_between 61 = .ok (.iload_n 3, 1) := by decide +kernel
theorem dX7_between_62 : decode cX7_between 62 = .ok (.invokestatic 228, 3) := by decide +kernel
theorem dX7_between_65 : decode cX7_between 65 = .ok (.lreturn, 1) := by decide +kernel
noncomputable def EX7_between : Sx := (sseq (sif (bor (bor (bnot (bz cne (cvz 6 DX7_areTwoChambers (rl 0) (ai (il 1) (ai (il 2) anil))))) (bnot (bz cne (csz DX7_within (ai (il 3) (ai (ik 0) (ai (ik 1) anil))))))) (bnot (bz cne (cvz 1 DX1_hang (fgr 6 0 (rl 0)) (ai (il 1) (ai (il 2) anil)))))) (sretj (jk (-1))) snop) (sseq (scv 3 DX4_across (fgr 6 5 (rl 0)) (ar (fgr 6 0 (rl 0)) (ai (il 1) (ai (il 2) anil)))) (sretj (csj DX2_term (aj (fgj 3 3 (fgr 6 5 (rl 0))) (aj (fgj 3 4 (fgr 6 5 (rl 0))) (ai (il 3) anil)))))))
noncomputable def DX7_between : Fj := mfj 4 EX7_between
set_option maxRecDepth 4000 in
theorem BX7_between : Vs RX7 cX7_between 4 (rmk 3 96) 0 0 EX7_between := (v_seq (v_if (v_or (v_or (v_not (v_zne_f (v_cvz kX7 IX7_areTwoChambers hX7_areTwoChambers lk768 ⟨by decide, by decide⟩ (by decide) (v_aload_n (i := 0) dX7_between_0 rfl (rfl : 0 + 1 = 1)) (v_ai (v_iload_n (i := 1) dX7_between_1 rfl (rfl : 1 + 1 = 2)) (v_ai (v_iload_n (i := 2) dX7_between_2 rfl (rfl : 2 + 1 = 3)) v_anil)) dX7_between_3 (rfl : 3 + 3 = 6)) dX7_between_6 (rfl : ((6 : Nat) : Int) + 24 = ((30 : Nat) : Int)) (rfl : 6 + 3 = 9))) (v_not (v_zne_f (v_csz IX7_within hX7_within lk392 ⟨by decide, by decide⟩ (by decide) (v_ai (v_iload_n (i := 3) dX7_between_9 rfl (rfl : 9 + 1 = 10)) (v_ai (v_iconst (v := 0) dX7_between_10 (by decide) (rfl : 10 + 1 = 11)) (v_ai (v_iconst (v := 1) dX7_between_11 (by decide) (rfl : 11 + 1 = 12)) v_anil))) dX7_between_12 (rfl : 12 + 3 = 15)) dX7_between_15 (rfl : ((15 : Nat) : Int) + 15 = ((30 : Nat) : Int)) (rfl : 15 + 3 = 18)))) (v_not (v_zne_t (v_cvz kX1 IX1_hang hX1_hang lk772 ⟨by decide, by decide⟩ (by decide) (v_gfr kX7 lk351 (by decide) rfl (v_aload_n (i := 0) dX7_between_18 rfl (rfl : 18 + 1 = 19)) dX7_between_19 (rfl : 19 + 3 = 22)) (v_ai (v_iload_n (i := 1) dX7_between_22 rfl (rfl : 22 + 1 = 23)) (v_ai (v_iload_n (i := 2) dX7_between_23 rfl (rfl : 23 + 1 = 24)) v_anil)) dX7_between_24 (rfl : 24 + 3 = 27)) dX7_between_27 (rfl : ((27 : Nat) : Int) + 7 = ((34 : Nat) : Int)) (rfl : 27 + 3 = 30)))) (v_retj (v_ldc2 (v := (-1)) lk729 dX7_between_30 (rfl : 30 + 3 = 33)) dX7_between_33) v_nop) (v_seq (v_scv kX4 IX4_across hX4_across lk777 ⟨by decide, by decide⟩ (v_gfr kX7 lk356 (by decide) rfl (v_aload_n (i := 0) dX7_between_34 rfl (rfl : 34 + 1 = 35)) dX7_between_35 (rfl : 35 + 3 = 38)) (v_ar (v_gfr kX7 lk351 (by decide) rfl (v_aload_n (i := 0) dX7_between_38 rfl (rfl : 38 + 1 = 39)) dX7_between_39 (rfl : 39 + 3 = 42)) (v_ai (v_iload_n (i := 1) dX7_between_42 rfl (rfl : 42 + 1 = 43)) (v_ai (v_iload_n (i := 2) dX7_between_43 rfl (rfl : 43 + 1 = 44)) v_anil))) dX7_between_44 (rfl : 44 + 3 = 47)) (v_retj (v_csj IX2_term hX2_term lk733 ⟨by decide, by decide⟩ (by decide) (v_aj (v_gfj kX4 lk310 (by decide) rfl (v_gfr kX7 lk356 (by decide) rfl (v_aload_n (i := 0) dX7_between_47 rfl (rfl : 47 + 1 = 48)) dX7_between_48 (rfl : 48 + 3 = 51)) dX7_between_51 (rfl : 51 + 3 = 54)) (v_aj (v_gfj kX4 lk312 (by decide) rfl (v_gfr kX7 lk356 (by decide) rfl (v_aload_n (i := 0) dX7_between_54 rfl (rfl : 54 + 1 = 55)) dX7_between_55 (rfl : 55 + 3 = 58)) dX7_between_58 (rfl : 58 + 3 = 61)) (v_ai (v_iload_n (i := 3) dX7_between_61 rfl (rfl : 61 + 1 = 62)) v_anil))) dX7_between_62 (rfl : 62 + 3 = 65)) dX7_between_65)))
theorem IX7_between : Mj yX7_between cX7_between 4 (rmk 3 96) DX7_between := mk_j (by decide +kernel) BX7_between

theorem dX7_chamber_0 : decode cX7_chamber 0 = .ok (.iload_n 1, 1) := by decide +kernel
theorem dX7_chamber_1 : decode cX7_chamber 1 = .ok (.iconst 0, 1) := by decide +kernel
theorem dX7_chamber_2 : decode cX7_chamber 2 = .ok (.getstatic 72, 3) := by decide +kernel
theorem dX7_chamber_5 : decode cX7_chamber 5 = .ok (.iconst 0, 1) := by decide +kernel
theorem dX7_chamber_6 : decode cX7_chamber 6 = .ok (.iaload, 1) := by decide +kernel
theorem dX7_chamber_7 : decode cX7_chamber 7 = .ok (.invokestatic 75, 3) := by decide +kernel
theorem dX7_chamber_10 : decode cX7_chamber 10 = .ok (.ifCond .eq 16, 3) := by decide +kernel
theorem dX7_chamber_13 : decode cX7_chamber 13 = .ok (.iload_n 2, 1) := by decide +kernel
theorem dX7_chamber_14 : decode cX7_chamber 14 = .ok (.iconst 0, 1) := by decide +kernel
theorem dX7_chamber_15 : decode cX7_chamber 15 = .ok (.getstatic 72, 3) := by decide +kernel
theorem dX7_chamber_18 : decode cX7_chamber 18 = .ok (.iconst 1, 1) := by decide +kernel
theorem dX7_chamber_19 : decode cX7_chamber 19 = .ok (.iaload, 1) := by decide +kernel
theorem dX7_chamber_20 : decode cX7_chamber 20 = .ok (.invokestatic 75, 3) := by decide +kernel
theorem dX7_chamber_23 : decode cX7_chamber 23 = .ok (.ifCond .ne 9, 3) := by decide +kernel
theorem dX7_chamber_26 : decode cX7_chamber 26 = .ok (.aload_n 0, 1) := by decide +kernel
theorem dX7_chamber_27 : decode cX7_chamber 27 = .ok (.iconst (-1), 1) := by decide +kernel
theorem dX7_chamber_28 : decode cX7_chamber 28 = .ok (.invokevirtual 79, 3) := by decide +kernel
theorem dX7_chamber_31 : decode cX7_chamber 31 = .ok (.ireturn, 1) := by decide +kernel
theorem dX7_chamber_32 : decode cX7_chamber 32 = .ok (.aload_n 0, 1) := by decide +kernel
theorem dX7_chamber_33 : decode cX7_chamber 33 = .ok (.getfield 10, 3) := by decide +kernel
theorem dX7_chamber_36 : decode cX7_chamber 36 = .ok (.getfield 83, 3) := by decide +kernel
theorem dX7_chamber_39 : decode cX7_chamber 39 = .ok (.iconst 5, 1) := by decide +kernel
theorem dX7_chamber_40 : decode cX7_chamber 40 = .ok (.if_icmp .lt 10, 3) := by decide +kernel
theorem dX7_chamber_43 : decode cX7_chamber 43 = .ok (.aload_n 0, 1) := by decide +kernel
theorem dX7_chamber_44 : decode cX7_chamber 44 = .ok (.bipush (-5), 2) := by decide +kernel
theorem dX7_chamber_46 : decode cX7_chamber 46 = .ok (.invokevirtual 79, 3) := by decide +kernel
theorem dX7_chamber_49 : decode cX7_chamber 49 = .ok (.ireturn, 1) := by decide +kernel
theorem dX7_chamber_50 : decode cX7_chamber 50 = .ok (.aload_n 0, 1) := by decide +kernel
theorem dX7_chamber_51 : decode cX7_chamber 51 = .ok (.iconst 0, 1) := by decide +kernel
theorem dX7_chamber_52 : decode cX7_chamber 52 = .ok (.invokevirtual 86, 3) := by decide +kernel
theorem dX7_chamber_55 : decode cX7_chamber 55 = .ok (.aload_n 0, 1) := by decide +kernel
theorem dX7_chamber_56 : decode cX7_chamber 56 = .ok (.getfield 10, 3) := by decide +kernel
theorem dX7_chamber_59 : decode cX7_chamber 59 = .ok (.iload_n 1, 1) := by decide +kernel
theorem dX7_chamber_60 : decode cX7_chamber 60 = .ok (.iload_n 2, 1) := by decide +kernel
theorem dX7_chamber_61 : decode cX7_chamber 61 = .ok (.invokevirtual 90, 3) := by decide +kernel
theorem dX7_chamber_64 : decode cX7_chamber 64 = .ok (.ireturn, 1) := by decide +kernel
noncomputable def EX7_chamber : Sx := (sseq (sif (bor (bnot (bz cne (csz DX7_within (ai (il 1) (ai (ik 0) (ai (sald 0 (ik 0)) anil)))))) (bnot (bz cne (csz DX7_within (ai (il 2) (ai (ik 0) (ai (sald 0 (ik 1)) anil))))))) (sret (cvi 6 DX7_refuse (rl 0) (ai (ik (-1)) anil))) snop) (sseq (sif (bc cge (fgi 1 0 (fgr 6 0 (rl 0))) (ik 5)) (sret (cvi 6 DX7_refuse (rl 0) (ai (ik (-5)) anil))) snop) (sseq (scv 6 DX7_accept (rl 0) (ai (ik 0) anil)) (sret (cvi 1 DX1_addChamber (fgr 6 0 (rl 0)) (ai (il 1) (ai (il 2) anil)))))))
noncomputable def DX7_chamber : Fi := mfi 3 EX7_chamber
set_option maxRecDepth 4000 in
theorem BX7_chamber : Vs RX7 cX7_chamber 3 (rmk 5 128) 0 0 EX7_chamber := (v_seq (v_if (v_or (v_not (v_zne_f (v_csz IX7_within hX7_within lk392 ⟨by decide, by decide⟩ (by decide) (v_ai (v_iload_n (i := 1) dX7_chamber_0 rfl (rfl : 0 + 1 = 1)) (v_ai (v_iconst (v := 0) dX7_chamber_1 (by decide) (rfl : 1 + 1 = 2)) (v_ai (v_sald0 lk390 dX7_chamber_2 (rfl : 2 + 3 = 5) (v_iconst (v := 0) dX7_chamber_5 (by decide) (rfl : 5 + 1 = 6)) dX7_chamber_6 (rfl : 6 + 1 = 7)) v_anil))) dX7_chamber_7 (rfl : 7 + 3 = 10)) dX7_chamber_10 (rfl : ((10 : Nat) : Int) + 16 = ((26 : Nat) : Int)) (rfl : 10 + 3 = 13))) (v_not (v_zne_t (v_csz IX7_within hX7_within lk392 ⟨by decide, by decide⟩ (by decide) (v_ai (v_iload_n (i := 2) dX7_chamber_13 rfl (rfl : 13 + 1 = 14)) (v_ai (v_iconst (v := 0) dX7_chamber_14 (by decide) (rfl : 14 + 1 = 15)) (v_ai (v_sald0 lk390 dX7_chamber_15 (rfl : 15 + 3 = 18) (v_iconst (v := 1) dX7_chamber_18 (by decide) (rfl : 18 + 1 = 19)) dX7_chamber_19 (rfl : 19 + 1 = 20)) v_anil))) dX7_chamber_20 (rfl : 20 + 3 = 23)) dX7_chamber_23 (rfl : ((23 : Nat) : Int) + 9 = ((32 : Nat) : Int)) (rfl : 23 + 3 = 26)))) (v_ret (v_cvi kX7 IX7_refuse hX7_refuse lk395 ⟨by decide, by decide⟩ (by decide) (v_aload_n (i := 0) dX7_chamber_26 rfl (rfl : 26 + 1 = 27)) (v_ai (v_iconst (v := (-1)) dX7_chamber_27 (by decide) (rfl : 27 + 1 = 28)) v_anil) dX7_chamber_28 (rfl : 28 + 3 = 31)) dX7_chamber_31) v_nop) (v_seq (v_if (v_ige_f (v_gfi kX1 lk124 (by decide) rfl (v_gfr kX7 lk351 (by decide) rfl (v_aload_n (i := 0) dX7_chamber_32 rfl (rfl : 32 + 1 = 33)) dX7_chamber_33 (rfl : 33 + 3 = 36)) dX7_chamber_36 (rfl : 36 + 3 = 39)) (v_iconst (v := 5) dX7_chamber_39 (by decide) (rfl : 39 + 1 = 40)) dX7_chamber_40 (rfl : ((40 : Nat) : Int) + 10 = ((50 : Nat) : Int)) (rfl : 40 + 3 = 43)) (v_ret (v_cvi kX7 IX7_refuse hX7_refuse lk395 ⟨by decide, by decide⟩ (by decide) (v_aload_n (i := 0) dX7_chamber_43 rfl (rfl : 43 + 1 = 44)) (v_ai (v_bipush (v := (-5)) dX7_chamber_44 (by decide) (rfl : 44 + 2 = 46)) v_anil) dX7_chamber_46 (rfl : 46 + 3 = 49)) dX7_chamber_49) v_nop) (v_seq (v_scv kX7 IX7_accept hX7_accept lk399 ⟨by decide, by decide⟩ (v_aload_n (i := 0) dX7_chamber_50 rfl (rfl : 50 + 1 = 51)) (v_ai (v_iconst (v := 0) dX7_chamber_51 (by decide) (rfl : 51 + 1 = 52)) v_anil) dX7_chamber_52 (rfl : 52 + 3 = 55)) (v_ret (v_cvi kX1 IX1_addChamber hX1_addChamber lk417 ⟨by decide, by decide⟩ (by decide) (v_gfr kX7 lk351 (by decide) rfl (v_aload_n (i := 0) dX7_chamber_55 rfl (rfl : 55 + 1 = 56)) dX7_chamber_56 (rfl : 56 + 3 = 59)) (v_ai (v_iload_n (i := 1) dX7_chamber_59 rfl (rfl : 59 + 1 = 60)) (v_ai (v_iload_n (i := 2) dX7_chamber_60 rfl (rfl : 60 + 1 = 61)) v_anil)) dX7_chamber_61 (rfl : 61 + 3 = 64)) dX7_chamber_64))))
theorem IX7_chamber : Mi yX7_chamber cX7_chamber 3 (rmk 5 128) DX7_chamber := mk_i (by decide +kernel) BX7_chamber

theorem dX7_count_0 : decode cX7_count 0 = .ok (.iload_n 1, 1) := by decide +kernel
theorem dX7_count_1 : decode cX7_count 1 = .ok (.tableswitch 201 0 12 #[67, 75, 83, 91, 99, 107, 115, 123, 131, 139, 147, 155, 182], 67) := by decide +kernel
theorem dX7_count_68 : decode cX7_count 68 = .ok (.aload_n 0, 1) := by decide +kernel
theorem dX7_count_69 : decode cX7_count 69 = .ok (.getfield 10, 3) := by decide +kernel
theorem dX7_count_72 : decode cX7_count 72 = .ok (.getfield 83, 3) := by decide +kernel
theorem dX7_count_75 : decode cX7_count 75 = .ok (.ireturn, 1) := by decide +kernel
theorem dX7_count_76 : decode cX7_count 76 = .ok (.aload_n 0, 1) := by decide +kernel
theorem dX7_count_77 : decode cX7_count 77 = .ok (.getfield 10, 3) := by decide +kernel
theorem dX7_count_80 : decode cX7_count 80 = .ok (.getfield 105, 3) := by decide +kernel
theorem dX7_count_83 : decode cX7_count 83 = .ok (.ireturn, 1) := by decide +kernel
theorem dX7_count_84 : decode cX7_count 84 = .ok (.aload_n 0, 1) := by decide +kernel
theorem dX7_count_85 : decode cX7_count 85 = .ok (.getfield 10, 3) := by decide +kernel
theorem dX7_count_88 : decode cX7_count 88 = .ok (.getfield 114, 3) := by decide +kernel
theorem dX7_count_91 : decode cX7_count 91 = .ok (.ireturn, 1) := by decide +kernel
theorem dX7_count_92 : decode cX7_count 92 = .ok (.aload_n 0, 1) := by decide +kernel
theorem dX7_count_93 : decode cX7_count 93 = .ok (.getfield 10, 3) := by decide +kernel
theorem dX7_count_96 : decode cX7_count 96 = .ok (.getfield 171, 3) := by decide +kernel
theorem dX7_count_99 : decode cX7_count 99 = .ok (.ireturn, 1) := by decide +kernel
theorem dX7_count_100 : decode cX7_count 100 = .ok (.aload_n 0, 1) := by decide +kernel
theorem dX7_count_101 : decode cX7_count 101 = .ok (.getfield 10, 3) := by decide +kernel
theorem dX7_count_104 : decode cX7_count 104 = .ok (.getfield 184, 3) := by decide +kernel
theorem dX7_count_107 : decode cX7_count 107 = .ok (.ireturn, 1) := by decide +kernel
theorem dX7_count_108 : decode cX7_count 108 = .ok (.aload_n 0, 1) := by decide +kernel
theorem dX7_count_109 : decode cX7_count 109 = .ok (.getfield 10, 3) := by decide +kernel
theorem dX7_count_112 : decode cX7_count 112 = .ok (.getfield 329, 3) := by decide +kernel
theorem dX7_count_115 : decode cX7_count 115 = .ok (.ireturn, 1) := by decide +kernel
theorem dX7_count_116 : decode cX7_count 116 = .ok (.aload_n 0, 1) := by decide +kernel
theorem dX7_count_117 : decode cX7_count 117 = .ok (.getfield 10, 3) := by decide +kernel
theorem dX7_count_120 : decode cX7_count 120 = .ok (.getfield 163, 3) := by decide +kernel
theorem dX7_count_123 : decode cX7_count 123 = .ok (.ireturn, 1) := by decide +kernel
theorem dX7_count_124 : decode cX7_count 124 = .ok (.aload_n 0, 1) := by decide +kernel
theorem dX7_count_125 : decode cX7_count 125 = .ok (.getfield 10, 3) := by decide +kernel
theorem dX7_count_128 : decode cX7_count 128 = .ok (.invokevirtual 332, 3) := by decide +kernel
theorem dX7_count_131 : decode cX7_count 131 = .ok (.ireturn, 1) := by decide +kernel
theorem dX7_count_132 : decode cX7_count 132 = .ok (.aload_n 0, 1) := by decide +kernel
theorem dX7_count_133 : decode cX7_count 133 = .ok (.getfield 10, 3) := by decide +kernel
theorem dX7_count_136 : decode cX7_count 136 = .ok (.invokevirtual 310, 3) := by decide +kernel
theorem dX7_count_139 : decode cX7_count 139 = .ok (.ireturn, 1) := by decide +kernel
theorem dX7_count_140 : decode cX7_count 140 = .ok (.aload_n 0, 1) := by decide +kernel
theorem dX7_count_141 : decode cX7_count 141 = .ok (.getfield 52, 3) := by decide +kernel
theorem dX7_count_144 : decode cX7_count 144 = .ok (.getfield 335, 3) := by decide +kernel
theorem dX7_count_147 : decode cX7_count 147 = .ok (.ireturn, 1) := by decide +kernel
theorem dX7_count_148 : decode cX7_count 148 = .ok (.aload_n 0, 1) := by decide +kernel
theorem dX7_count_149 : decode cX7_count 149 = .ok (.getfield 10, 3) := by decide +kernel
theorem dX7_count_152 : decode cX7_count 152 = .ok (.invokevirtual 338, 3) := by decide +kernel
theorem dX7_count_155 : decode cX7_count 155 = .ok (.ireturn, 1) := by decide +kernel
theorem dX7_count_156 : decode cX7_count 156 = .ok (.aload_n 0, 1) := by decide +kernel
theorem dX7_count_157 : decode cX7_count 157 = .ok (.getfield 22, 3) := by decide +kernel
theorem dX7_count_160 : decode cX7_count 160 = .ok (.aload_n 0, 1) := by decide +kernel
theorem dX7_count_161 : decode cX7_count 161 = .ok (.getfield 10, 3) := by decide +kernel
theorem dX7_count_164 : decode cX7_count 164 = .ok (.invokevirtual 191, 3) := by decide +kernel
theorem dX7_count_167 : decode cX7_count 167 = .ok (.aload_n 0, 1) := by decide +kernel
theorem dX7_count_168 : decode cX7_count 168 = .ok (.getfield 22, 3) := by decide +kernel
theorem dX7_count_171 : decode cX7_count 171 = .ok (.invokevirtual 195, 3) := by decide +kernel
theorem dX7_count_174 : decode cX7_count 174 = .ok (.ifCond .eq 7, 3) := by decide +kernel
theorem dX7_count_177 : decode cX7_count 177 = .ok (.iconst 1, 1) := by decide +kernel
theorem dX7_count_178 : decode cX7_count 178 = .ok (.goto 4, 3) := by decide +kernel
theorem dX7_count_181 : decode cX7_count 181 = .ok (.iconst 0, 1) := by decide +kernel
theorem dX7_count_182 : decode cX7_count 182 = .ok (.ireturn, 1) := by decide +kernel
theorem dX7_count_183 : decode cX7_count 183 = .ok (.aload_n 0, 1) := by decide +kernel
theorem dX7_count_184 : decode cX7_count 184 = .ok (.getfield 22, 3) := by decide +kernel
theorem dX7_count_187 : decode cX7_count 187 = .ok (.aload_n 0, 1) := by decide +kernel
theorem dX7_count_188 : decode cX7_count 188 = .ok (.getfield 10, 3) := by decide +kernel
theorem dX7_count_191 : decode cX7_count 191 = .ok (.invokevirtual 191, 3) := by decide +kernel
theorem dX7_count_194 : decode cX7_count 194 = .ok (.aload_n 0, 1) := by decide +kernel
theorem dX7_count_195 : decode cX7_count 195 = .ok (.getfield 22, 3) := by decide +kernel
theorem dX7_count_198 : decode cX7_count 198 = .ok (.invokevirtual 341, 3) := by decide +kernel
theorem dX7_count_201 : decode cX7_count 201 = .ok (.ireturn, 1) := by decide +kernel
theorem dX7_count_202 : decode cX7_count 202 = .ok (.iload_n 1, 1) := by decide +kernel
theorem dX7_count_203 : decode cX7_count 203 = .ok (.bipush 13, 2) := by decide +kernel
theorem dX7_count_205 : decode cX7_count 205 = .ok (.bipush 16, 2) := by decide +kernel
theorem dX7_count_207 : decode cX7_count 207 = .ok (.invokestatic 75, 3) := by decide +kernel
theorem dX7_count_210 : decode cX7_count 210 = .ok (.ifCond .eq 15, 3) := by decide +kernel
theorem dX7_count_213 : decode cX7_count 213 = .ok (.aload_n 0, 1) := by decide +kernel
theorem dX7_count_214 : decode cX7_count 214 = .ok (.getfield 64, 3) := by decide +kernel
theorem dX7_count_217 : decode cX7_count 217 = .ok (.iload_n 1, 1) := by decide +kernel
theorem dX7_count_218 : decode cX7_count 218 = .ok (.bipush 13, 2) := by decide +kernel
theorem dX7_count_220 : decode cX7_count 220 = .ok (.isub, 1) := by decide +kernel
theorem dX7_count_221 : decode cX7_count 221 = .ok (.iaload, 1) := by decide +kernel
theorem dX7_count_222 : decode cX7_count 222 = .ok (.goto 4, 3) := by decide +kernel
theorem dX7_count_225 : decode cX7_count 225 = .ok (.iconst (-1), 1) := by decide +kernel
theorem dX7_count_226 : decode cX7_count 226 = .ok (.ireturn, 1) := by decide +kernel
noncomputable def EX7_count : Sx := (ssw (il 1) [(0, (sret (fgi 1 0 (fgr 6 0 (rl 0))))), (1, (sret (fgi 1 1 (fgr 6 0 (rl 0))))), (2, (sret (fgi 1 2 (fgr 6 0 (rl 0))))), (3, (sret (fgi 1 3 (fgr 6 0 (rl 0))))), (4, (sret (fgi 1 4 (fgr 6 0 (rl 0))))), (5, (sret (fgi 1 5 (fgr 6 0 (rl 0))))), (6, (sret (fgi 1 6 (fgr 6 0 (rl 0))))), (7, (sret (cvi 1 DX1_notes (fgr 6 0 (rl 0)) anil))), (8, (sret (cvi 1 DX1_logged (fgr 6 0 (rl 0)) anil))), (9, (sret (fgi 2 3 (fgr 6 6 (rl 0))))), (10, (sret (cvi 1 DX1_nets (fgr 6 0 (rl 0)) anil))), (11, (sseq (scv 0 DX0_solve (fgr 6 2 (rl 0)) (ar (fgr 6 0 (rl 0)) anil)) (sret (ic (bz cne (cvz 0 DX0_hunts (fgr 6 2 (rl 0)) anil)) (ik 1) (ik 0))))), (12, (sseq (scv 0 DX0_solve (fgr 6 2 (rl 0)) (ar (fgr 6 0 (rl 0)) anil)) (sret (cvi 0 DX0_rowsThatAgree (fgr 6 2 (rl 0)) anil))))] (sret (ic (bz cne (csz DX7_within (ai (il 1) (ai (ik 13) (ai (ik 16) anil))))) (iald (fgr 6 9 (rl 0)) (i2 (· - ·) (il 1) (ik 13))) (ik (-1)))))
noncomputable def DX7_count : Fi := mfi 2 EX7_count
set_option maxRecDepth 4000 in
theorem BX7_count : Vs RX7 cX7_count 2 (rmk 4 106) 0 0 EX7_count := (v_sw (v_iload_n (i := 1) dX7_count_0 rfl (rfl : 0 + 1 = 1)) dX7_count_1 (fun j hj => match j, hj with
  | 0, _ => ⟨67, 68, rfl, (rfl : ((1 : Nat) : Int) + 67 = ((68 : Nat) : Int)), (v_ret (v_gfi kX1 lk124 (by decide) rfl (v_gfr kX7 lk351 (by decide) rfl (v_aload_n (i := 0) dX7_count_68 rfl (rfl : 68 + 1 = 69)) dX7_count_69 (rfl : 69 + 3 = 72)) dX7_count_72 (rfl : 72 + 3 = 75)) dX7_count_75)⟩
  | 1, _ => ⟨75, 76, rfl, (rfl : ((1 : Nat) : Int) + 75 = ((76 : Nat) : Int)), (v_ret (v_gfi kX1 lk131 (by decide) rfl (v_gfr kX7 lk351 (by decide) rfl (v_aload_n (i := 0) dX7_count_76 rfl (rfl : 76 + 1 = 77)) dX7_count_77 (rfl : 77 + 3 = 80)) dX7_count_80 (rfl : 80 + 3 = 83)) dX7_count_83)⟩
  | 2, _ => ⟨83, 84, rfl, (rfl : ((1 : Nat) : Int) + 83 = ((84 : Nat) : Int)), (v_ret (v_gfi kX1 lk134 (by decide) rfl (v_gfr kX7 lk351 (by decide) rfl (v_aload_n (i := 0) dX7_count_84 rfl (rfl : 84 + 1 = 85)) dX7_count_85 (rfl : 85 + 3 = 88)) dX7_count_88 (rfl : 88 + 3 = 91)) dX7_count_91)⟩
  | 3, _ => ⟨91, 92, rfl, (rfl : ((1 : Nat) : Int) + 91 = ((92 : Nat) : Int)), (v_ret (v_gfi kX1 lk139 (by decide) rfl (v_gfr kX7 lk351 (by decide) rfl (v_aload_n (i := 0) dX7_count_92 rfl (rfl : 92 + 1 = 93)) dX7_count_93 (rfl : 93 + 3 = 96)) dX7_count_96 (rfl : 96 + 3 = 99)) dX7_count_99)⟩
  | 4, _ => ⟨99, 100, rfl, (rfl : ((1 : Nat) : Int) + 99 = ((100 : Nat) : Int)), (v_ret (v_gfi kX1 lk142 (by decide) rfl (v_gfr kX7 lk351 (by decide) rfl (v_aload_n (i := 0) dX7_count_100 rfl (rfl : 100 + 1 = 101)) dX7_count_101 (rfl : 101 + 3 = 104)) dX7_count_104 (rfl : 104 + 3 = 107)) dX7_count_107)⟩
  | 5, _ => ⟨107, 108, rfl, (rfl : ((1 : Nat) : Int) + 107 = ((108 : Nat) : Int)), (v_ret (v_gfi kX1 lk144 (by decide) rfl (v_gfr kX7 lk351 (by decide) rfl (v_aload_n (i := 0) dX7_count_108 rfl (rfl : 108 + 1 = 109)) dX7_count_109 (rfl : 109 + 3 = 112)) dX7_count_112 (rfl : 112 + 3 = 115)) dX7_count_115)⟩
  | 6, _ => ⟨115, 116, rfl, (rfl : ((1 : Nat) : Int) + 115 = ((116 : Nat) : Int)), (v_ret (v_gfi kX1 lk146 (by decide) rfl (v_gfr kX7 lk351 (by decide) rfl (v_aload_n (i := 0) dX7_count_116 rfl (rfl : 116 + 1 = 117)) dX7_count_117 (rfl : 117 + 3 = 120)) dX7_count_120 (rfl : 120 + 3 = 123)) dX7_count_123)⟩
  | 7, _ => ⟨123, 124, rfl, (rfl : ((1 : Nat) : Int) + 123 = ((124 : Nat) : Int)), (v_ret (v_cvi kX1 IX1_notes hX1_notes lk975 ⟨by decide, by decide⟩ (by decide) (v_gfr kX7 lk351 (by decide) rfl (v_aload_n (i := 0) dX7_count_124 rfl (rfl : 124 + 1 = 125)) dX7_count_125 (rfl : 125 + 3 = 128)) v_anil dX7_count_128 (rfl : 128 + 3 = 131)) dX7_count_131)⟩
  | 8, _ => ⟨131, 132, rfl, (rfl : ((1 : Nat) : Int) + 131 = ((132 : Nat) : Int)), (v_ret (v_cvi kX1 IX1_logged hX1_logged lk947 ⟨by decide, by decide⟩ (by decide) (v_gfr kX7 lk351 (by decide) rfl (v_aload_n (i := 0) dX7_count_132 rfl (rfl : 132 + 1 = 133)) dX7_count_133 (rfl : 133 + 3 = 136)) v_anil dX7_count_136 (rfl : 136 + 3 = 139)) dX7_count_139)⟩
  | 9, _ => ⟨139, 140, rfl, (rfl : ((1 : Nat) : Int) + 139 = ((140 : Nat) : Int)), (v_ret (v_gfi kX3 lk341 (by decide) rfl (v_gfr kX7 lk357 (by decide) rfl (v_aload_n (i := 0) dX7_count_140 rfl (rfl : 140 + 1 = 141)) dX7_count_141 (rfl : 141 + 3 = 144)) dX7_count_144 (rfl : 144 + 3 = 147)) dX7_count_147)⟩
  | 10, _ => ⟨147, 148, rfl, (rfl : ((1 : Nat) : Int) + 147 = ((148 : Nat) : Int)), (v_ret (v_cvi kX1 IX1_nets hX1_nets lk976 ⟨by decide, by decide⟩ (by decide) (v_gfr kX7 lk351 (by decide) rfl (v_aload_n (i := 0) dX7_count_148 rfl (rfl : 148 + 1 = 149)) dX7_count_149 (rfl : 149 + 3 = 152)) v_anil dX7_count_152 (rfl : 152 + 3 = 155)) dX7_count_155)⟩
  | 11, _ => ⟨155, 156, rfl, (rfl : ((1 : Nat) : Int) + 155 = ((156 : Nat) : Int)), (v_seq (v_scv kX0 IX0_solve hX0_solve lk701 ⟨by decide, by decide⟩ (v_gfr kX7 lk353 (by decide) rfl (v_aload_n (i := 0) dX7_count_156 rfl (rfl : 156 + 1 = 157)) dX7_count_157 (rfl : 157 + 3 = 160)) (v_ar (v_gfr kX7 lk351 (by decide) rfl (v_aload_n (i := 0) dX7_count_160 rfl (rfl : 160 + 1 = 161)) dX7_count_161 (rfl : 161 + 3 = 164)) v_anil) dX7_count_164 (rfl : 164 + 3 = 167)) (v_ret (v_ic (v_zne_f (v_cvz kX0 IX0_hunts hX0_hunts lk702 ⟨by decide, by decide⟩ (by decide) (v_gfr kX7 lk353 (by decide) rfl (v_aload_n (i := 0) dX7_count_167 rfl (rfl : 167 + 1 = 168)) dX7_count_168 (rfl : 168 + 3 = 171)) v_anil dX7_count_171 (rfl : 171 + 3 = 174)) dX7_count_174 (rfl : ((174 : Nat) : Int) + 7 = ((181 : Nat) : Int)) (rfl : 174 + 3 = 177)) (vi_goto (v_iconst (v := 1) dX7_count_177 (by decide) (rfl : 177 + 1 = 178)) dX7_count_178 (rfl : ((178 : Nat) : Int) + 4 = ((182 : Nat) : Int))) (v_iconst (v := 0) dX7_count_181 (by decide) (rfl : 181 + 1 = 182))) dX7_count_182))⟩
  | 12, _ => ⟨182, 183, rfl, (rfl : ((1 : Nat) : Int) + 182 = ((183 : Nat) : Int)), (v_seq (v_scv kX0 IX0_solve hX0_solve lk701 ⟨by decide, by decide⟩ (v_gfr kX7 lk353 (by decide) rfl (v_aload_n (i := 0) dX7_count_183 rfl (rfl : 183 + 1 = 184)) dX7_count_184 (rfl : 184 + 3 = 187)) (v_ar (v_gfr kX7 lk351 (by decide) rfl (v_aload_n (i := 0) dX7_count_187 rfl (rfl : 187 + 1 = 188)) dX7_count_188 (rfl : 188 + 3 = 191)) v_anil) dX7_count_191 (rfl : 191 + 3 = 194)) (v_ret (v_cvi kX0 IX0_rowsThatAgree hX0_rowsThatAgree lk981 ⟨by decide, by decide⟩ (by decide) (v_gfr kX7 lk353 (by decide) rfl (v_aload_n (i := 0) dX7_count_194 rfl (rfl : 194 + 1 = 195)) dX7_count_195 (rfl : 195 + 3 = 198)) v_anil dX7_count_198 (rfl : 198 + 3 = 201)) dX7_count_201))⟩
  | j + 13, hj => absurd hj (by omega)) ⟨202, (rfl : ((1 : Nat) : Int) + 201 = ((202 : Nat) : Int)), fun x hx => by
    have e0 : sel [(0, (sret (fgi 1 0 (fgr 6 0 (rl 0))))), (1, (sret (fgi 1 1 (fgr 6 0 (rl 0))))), (2, (sret (fgi 1 2 (fgr 6 0 (rl 0))))), (3, (sret (fgi 1 3 (fgr 6 0 (rl 0))))), (4, (sret (fgi 1 4 (fgr 6 0 (rl 0))))), (5, (sret (fgi 1 5 (fgr 6 0 (rl 0))))), (6, (sret (fgi 1 6 (fgr 6 0 (rl 0))))), (7, (sret (cvi 1 DX1_notes (fgr 6 0 (rl 0)) anil))), (8, (sret (cvi 1 DX1_logged (fgr 6 0 (rl 0)) anil))), (9, (sret (fgi 2 3 (fgr 6 6 (rl 0))))), (10, (sret (cvi 1 DX1_nets (fgr 6 0 (rl 0)) anil))), (11, (sseq (scv 0 DX0_solve (fgr 6 2 (rl 0)) (ar (fgr 6 0 (rl 0)) anil)) (sret (ic (bz cne (cvz 0 DX0_hunts (fgr 6 2 (rl 0)) anil)) (ik 1) (ik 0))))), (12, (sseq (scv 0 DX0_solve (fgr 6 2 (rl 0)) (ar (fgr 6 0 (rl 0)) anil)) (sret (cvi 0 DX0_rowsThatAgree (fgr 6 2 (rl 0)) anil))))] (sret (ic (bz cne (csz DX7_within (ai (il 1) (ai (ik 13) (ai (ik 16) anil))))) (iald (fgr 6 9 (rl 0)) (i2 (· - ·) (il 1) (ik 13))) (ik (-1)))) x = (sret (ic (bz cne (csz DX7_within (ai (il 1) (ai (ik 13) (ai (ik 16) anil))))) (iald (fgr 6 9 (rl 0)) (i2 (· - ·) (il 1) (ik 13))) (ik (-1)))) := by simp only [sel]; rw [if_neg (by omega)]; rw [if_neg (by omega)]; rw [if_neg (by omega)]; rw [if_neg (by omega)]; rw [if_neg (by omega)]; rw [if_neg (by omega)]; rw [if_neg (by omega)]; rw [if_neg (by omega)]; rw [if_neg (by omega)]; rw [if_neg (by omega)]; rw [if_neg (by omega)]; rw [if_neg (by omega)]; rw [if_neg (by omega)]
    rw [e0]; exact (v_ret (v_ic (v_zne_f (v_csz IX7_within hX7_within lk392 ⟨by decide, by decide⟩ (by decide) (v_ai (v_iload_n (i := 1) dX7_count_202 rfl (rfl : 202 + 1 = 203)) (v_ai (v_bipush (v := 13) dX7_count_203 (by decide) (rfl : 203 + 2 = 205)) (v_ai (v_bipush (v := 16) dX7_count_205 (by decide) (rfl : 205 + 2 = 207)) v_anil))) dX7_count_207 (rfl : 207 + 3 = 210)) dX7_count_210 (rfl : ((210 : Nat) : Int) + 15 = ((225 : Nat) : Int)) (rfl : 210 + 3 = 213)) (vi_goto (v_iald (v_gfr kX7 lk360 (by decide) rfl (v_aload_n (i := 0) dX7_count_213 rfl (rfl : 213 + 1 = 214)) dX7_count_214 (rfl : 214 + 3 = 217)) (v_isub (v_iload_n (i := 1) dX7_count_217 rfl (rfl : 217 + 1 = 218)) (v_bipush (v := 13) dX7_count_218 (by decide) (rfl : 218 + 2 = 220)) dX7_count_220 (rfl : 220 + 1 = 221)) dX7_count_221 (rfl : 221 + 1 = 222)) dX7_count_222 (rfl : ((222 : Nat) : Int) + 4 = ((226 : Nat) : Int))) (v_iconst (v := (-1)) dX7_count_225 (by decide) (rfl : 225 + 1 = 226))) dX7_count_226)⟩)
theorem IX7_count : Mi yX7_count cX7_count 2 (rmk 4 106) DX7_count := mk_i (by decide +kernel) BX7_count

theorem dX7_curveThen_0 : decode cX7_curveThen 0 = .ok (.iload_n 1, 1) := by decide +kernel
theorem dX7_curveThen_1 : decode cX7_curveThen 1 = .ok (.iload_n 2, 1) := by decide +kernel
theorem dX7_curveThen_2 : decode cX7_curveThen 2 = .ok (.if_icmp .ne 7, 3) := by decide +kernel
theorem dX7_curveThen_5 : decode cX7_curveThen 5 = .ok (.iload_n 3, 1) := by decide +kernel
theorem dX7_curveThen_6 : decode cX7_curveThen 6 = .ok (.goto 8, 3) := by decide +kernel
theorem dX7_curveThen_9 : decode cX7_curveThen 9 = .ok (.aload_n 0, 1) := by decide +kernel
theorem dX7_curveThen_10 : decode cX7_curveThen 10 = .ok (.iconst 2, 1) := by decide +kernel
theorem dX7_curveThen_11 : decode cX7_curveThen 11 = .ok (.iload_n 1, 1) := by decide +kernel
theorem dX7_curveThen_12 : decode cX7_curveThen 12 = .ok (.iadd, 1) := by decide +kernel
theorem dX7_curveThen_13 : decode cX7_curveThen 13 = .ok (.iaload, 1) := by decide +kernel
theorem dX7_curveThen_14 : decode cX7_curveThen 14 = .ok (.ireturn, 1) := by decide +kernel
noncomputable def EX7_curveThen : Sx := (sret (ic (bc ceq (il 1) (il 2)) (il 3) (iald (rl 0) (i2 (· + ·) (ik 2) (il 1)))))
noncomputable def DX7_curveThen : Fi := mfi 4 EX7_curveThen
set_option maxRecDepth 4000 in
theorem BX7_curveThen : Vs RX7 cX7_curveThen 4 (rmk 0 0) 0 0 EX7_curveThen := (v_ret (v_ic (v_ieq_f (v_iload_n (i := 1) dX7_curveThen_0 rfl (rfl : 0 + 1 = 1)) (v_iload_n (i := 2) dX7_curveThen_1 rfl (rfl : 1 + 1 = 2)) dX7_curveThen_2 (rfl : ((2 : Nat) : Int) + 7 = ((9 : Nat) : Int)) (rfl : 2 + 3 = 5)) (vi_goto (v_iload_n (i := 3) dX7_curveThen_5 rfl (rfl : 5 + 1 = 6)) dX7_curveThen_6 (rfl : ((6 : Nat) : Int) + 8 = ((14 : Nat) : Int))) (v_iald (v_aload_n (i := 0) dX7_curveThen_9 rfl (rfl : 9 + 1 = 10)) (v_iadd (v_iconst (v := 2) dX7_curveThen_10 (by decide) (rfl : 10 + 1 = 11)) (v_iload_n (i := 1) dX7_curveThen_11 rfl (rfl : 11 + 1 = 12)) dX7_curveThen_12 (rfl : 12 + 1 = 13)) dX7_curveThen_13 (rfl : 13 + 1 = 14))) dX7_curveThen_14)
theorem IX7_curveThen : Mi yX7_curveThen cX7_curveThen 4 (rmk 0 0) DX7_curveThen := mk_i (by decide +kernel) BX7_curveThen

theorem dX7_isCurveNumber_0 : decode cX7_isCurveNumber 0 = .ok (.iload_n 0, 1) := by decide +kernel
theorem dX7_isCurveNumber_1 : decode cX7_isCurveNumber 1 = .ok (.tableswitch 65 0 5 #[39, 39, 39, 47, 47, 56], 39) := by decide +kernel
theorem dX7_isCurveNumber_40 : decode cX7_isCurveNumber 40 = .ok (.iload_n 1, 1) := by decide +kernel
theorem dX7_isCurveNumber_41 : decode cX7_isCurveNumber 41 = .ok (.iconst 0, 1) := by decide +kernel
theorem dX7_isCurveNumber_42 : decode cX7_isCurveNumber 42 = .ok (.bipush 40, 2) := by decide +kernel
theorem dX7_isCurveNumber_44 : decode cX7_isCurveNumber 44 = .ok (.invokestatic 75, 3) := by decide +kernel
theorem dX7_isCurveNumber_47 : decode cX7_isCurveNumber 47 = .ok (.ireturn, 1) := by decide +kernel
theorem dX7_isCurveNumber_48 : decode cX7_isCurveNumber 48 = .ok (.iload_n 1, 1) := by decide +kernel
theorem dX7_isCurveNumber_49 : decode cX7_isCurveNumber 49 = .ok (.iconst 1, 1) := by decide +kernel
theorem dX7_isCurveNumber_50 : decode cX7_isCurveNumber 50 = .ok (.sipush 9999, 3) := by decide +kernel
theorem dX7_isCurveNumber_53 : decode cX7_isCurveNumber 53 = .ok (.invokestatic 75, 3) := by decide +kernel
theorem dX7_isCurveNumber_56 : decode cX7_isCurveNumber 56 = .ok (.ireturn, 1) := by decide +kernel
theorem dX7_isCurveNumber_57 : decode cX7_isCurveNumber 57 = .ok (.iload_n 1, 1) := by decide +kernel
theorem dX7_isCurveNumber_58 : decode cX7_isCurveNumber 58 = .ok (.iconst 0, 1) := by decide +kernel
theorem dX7_isCurveNumber_59 : decode cX7_isCurveNumber 59 = .ok (.sipush 9999, 3) := by decide +kernel
theorem dX7_isCurveNumber_62 : decode cX7_isCurveNumber 62 = .ok (.invokestatic 75, 3) := by decide +kernel
theorem dX7_isCurveNumber_65 : decode cX7_isCurveNumber 65 = .ok (.ireturn, 1) := by decide +kernel
theorem dX7_isCurveNumber_66 : decode cX7_isCurveNumber 66 = .ok (.iconst 0, 1) := by decide +kernel
theorem dX7_isCurveNumber_67 : decode cX7_isCurveNumber 67 = .ok (.ireturn, 1) := by decide +kernel
noncomputable def EX7_isCurveNumber : Sx := (ssw (il 0) [(0, (sret (csz DX7_within (ai (il 1) (ai (ik 0) (ai (ik 40) anil)))))), (1, (sret (csz DX7_within (ai (il 1) (ai (ik 0) (ai (ik 40) anil)))))), (2, (sret (csz DX7_within (ai (il 1) (ai (ik 0) (ai (ik 40) anil)))))), (3, (sret (csz DX7_within (ai (il 1) (ai (ik 1) (ai (ik 9999) anil)))))), (4, (sret (csz DX7_within (ai (il 1) (ai (ik 1) (ai (ik 9999) anil)))))), (5, (sret (csz DX7_within (ai (il 1) (ai (ik 0) (ai (ik 9999) anil))))))] (sret (ik 0)))
noncomputable def DX7_isCurveNumber : Fz := mfz 2 EX7_isCurveNumber
set_option maxRecDepth 4000 in
theorem BX7_isCurveNumber : Vs RX7 cX7_isCurveNumber 2 (rmk 1 22) 0 0 EX7_isCurveNumber := (v_sw (v_iload_n (i := 0) dX7_isCurveNumber_0 rfl (rfl : 0 + 1 = 1)) dX7_isCurveNumber_1 (fun j hj => match j, hj with
  | 0, _ => ⟨39, 40, rfl, (rfl : ((1 : Nat) : Int) + 39 = ((40 : Nat) : Int)), (v_ret (v_csz IX7_within hX7_within lk392 ⟨by decide, by decide⟩ (by decide) (v_ai (v_iload_n (i := 1) dX7_isCurveNumber_40 rfl (rfl : 40 + 1 = 41)) (v_ai (v_iconst (v := 0) dX7_isCurveNumber_41 (by decide) (rfl : 41 + 1 = 42)) (v_ai (v_bipush (v := 40) dX7_isCurveNumber_42 (by decide) (rfl : 42 + 2 = 44)) v_anil))) dX7_isCurveNumber_44 (rfl : 44 + 3 = 47)) dX7_isCurveNumber_47)⟩
  | 1, _ => ⟨39, 40, rfl, (rfl : ((1 : Nat) : Int) + 39 = ((40 : Nat) : Int)), (v_ret (v_csz IX7_within hX7_within lk392 ⟨by decide, by decide⟩ (by decide) (v_ai (v_iload_n (i := 1) dX7_isCurveNumber_40 rfl (rfl : 40 + 1 = 41)) (v_ai (v_iconst (v := 0) dX7_isCurveNumber_41 (by decide) (rfl : 41 + 1 = 42)) (v_ai (v_bipush (v := 40) dX7_isCurveNumber_42 (by decide) (rfl : 42 + 2 = 44)) v_anil))) dX7_isCurveNumber_44 (rfl : 44 + 3 = 47)) dX7_isCurveNumber_47)⟩
  | 2, _ => ⟨39, 40, rfl, (rfl : ((1 : Nat) : Int) + 39 = ((40 : Nat) : Int)), (v_ret (v_csz IX7_within hX7_within lk392 ⟨by decide, by decide⟩ (by decide) (v_ai (v_iload_n (i := 1) dX7_isCurveNumber_40 rfl (rfl : 40 + 1 = 41)) (v_ai (v_iconst (v := 0) dX7_isCurveNumber_41 (by decide) (rfl : 41 + 1 = 42)) (v_ai (v_bipush (v := 40) dX7_isCurveNumber_42 (by decide) (rfl : 42 + 2 = 44)) v_anil))) dX7_isCurveNumber_44 (rfl : 44 + 3 = 47)) dX7_isCurveNumber_47)⟩
  | 3, _ => ⟨47, 48, rfl, (rfl : ((1 : Nat) : Int) + 47 = ((48 : Nat) : Int)), (v_ret (v_csz IX7_within hX7_within lk392 ⟨by decide, by decide⟩ (by decide) (v_ai (v_iload_n (i := 1) dX7_isCurveNumber_48 rfl (rfl : 48 + 1 = 49)) (v_ai (v_iconst (v := 1) dX7_isCurveNumber_49 (by decide) (rfl : 49 + 1 = 50)) (v_ai (v_sipush (v := 9999) dX7_isCurveNumber_50 (by decide) (rfl : 50 + 3 = 53)) v_anil))) dX7_isCurveNumber_53 (rfl : 53 + 3 = 56)) dX7_isCurveNumber_56)⟩
  | 4, _ => ⟨47, 48, rfl, (rfl : ((1 : Nat) : Int) + 47 = ((48 : Nat) : Int)), (v_ret (v_csz IX7_within hX7_within lk392 ⟨by decide, by decide⟩ (by decide) (v_ai (v_iload_n (i := 1) dX7_isCurveNumber_48 rfl (rfl : 48 + 1 = 49)) (v_ai (v_iconst (v := 1) dX7_isCurveNumber_49 (by decide) (rfl : 49 + 1 = 50)) (v_ai (v_sipush (v := 9999) dX7_isCurveNumber_50 (by decide) (rfl : 50 + 3 = 53)) v_anil))) dX7_isCurveNumber_53 (rfl : 53 + 3 = 56)) dX7_isCurveNumber_56)⟩
  | 5, _ => ⟨56, 57, rfl, (rfl : ((1 : Nat) : Int) + 56 = ((57 : Nat) : Int)), (v_ret (v_csz IX7_within hX7_within lk392 ⟨by decide, by decide⟩ (by decide) (v_ai (v_iload_n (i := 1) dX7_isCurveNumber_57 rfl (rfl : 57 + 1 = 58)) (v_ai (v_iconst (v := 0) dX7_isCurveNumber_58 (by decide) (rfl : 58 + 1 = 59)) (v_ai (v_sipush (v := 9999) dX7_isCurveNumber_59 (by decide) (rfl : 59 + 3 = 62)) v_anil))) dX7_isCurveNumber_62 (rfl : 62 + 3 = 65)) dX7_isCurveNumber_65)⟩
  | j + 6, hj => absurd hj (by omega)) ⟨66, (rfl : ((1 : Nat) : Int) + 65 = ((66 : Nat) : Int)), fun x hx => by
    have e0 : sel [(0, (sret (csz DX7_within (ai (il 1) (ai (ik 0) (ai (ik 40) anil)))))), (1, (sret (csz DX7_within (ai (il 1) (ai (ik 0) (ai (ik 40) anil)))))), (2, (sret (csz DX7_within (ai (il 1) (ai (ik 0) (ai (ik 40) anil)))))), (3, (sret (csz DX7_within (ai (il 1) (ai (ik 1) (ai (ik 9999) anil)))))), (4, (sret (csz DX7_within (ai (il 1) (ai (ik 1) (ai (ik 9999) anil)))))), (5, (sret (csz DX7_within (ai (il 1) (ai (ik 0) (ai (ik 9999) anil))))))] (sret (ik 0)) x = (sret (ik 0)) := by simp only [sel]; rw [if_neg (by omega)]; rw [if_neg (by omega)]; rw [if_neg (by omega)]; rw [if_neg (by omega)]; rw [if_neg (by omega)]; rw [if_neg (by omega)]
    rw [e0]; exact (v_ret (v_iconst (v := 0) dX7_isCurveNumber_66 (by decide) (rfl : 66 + 1 = 67)) dX7_isCurveNumber_67)⟩)
theorem IX7_isCurveNumber : Mz yX7_isCurveNumber cX7_isCurveNumber 2 (rmk 1 22) DX7_isCurveNumber := mk_z (by decide +kernel) BX7_isCurveNumber

theorem dX7_isPump_0 : decode cX7_isPump 0 = .ok (.iload_n 1, 1) := by decide +kernel
theorem dX7_isPump_1 : decode cX7_isPump 1 = .ok (.iconst 0, 1) := by decide +kernel
theorem dX7_isPump_2 : decode cX7_isPump 2 = .ok (.aload_n 0, 1) := by decide +kernel
theorem dX7_isPump_3 : decode cX7_isPump 3 = .ok (.getfield 10, 3) := by decide +kernel
theorem dX7_isPump_6 : decode cX7_isPump 6 = .ok (.getfield 114, 3) := by decide +kernel
theorem dX7_isPump_9 : decode cX7_isPump 9 = .ok (.iconst 1, 1) := by decide +kernel
theorem dX7_isPump_10 : decode cX7_isPump 10 = .ok (.isub, 1) := by decide +kernel
theorem dX7_isPump_11 : decode cX7_isPump 11 = .ok (.invokestatic 75, 3) := by decide +kernel
theorem dX7_isPump_14 : decode cX7_isPump 14 = .ok (.ireturn, 1) := by decide +kernel
noncomputable def EX7_isPump : Sx := (sret (csz DX7_within (ai (il 1) (ai (ik 0) (ai (i2 (· - ·) (fgi 1 2 (fgr 6 0 (rl 0))) (ik 1)) anil)))))
noncomputable def DX7_isPump : Fz := mfz 2 EX7_isPump
set_option maxRecDepth 4000 in
theorem BX7_isPump : Vs RX7 cX7_isPump 2 (rmk 1 22) 0 0 EX7_isPump := (v_ret (v_csz IX7_within hX7_within lk392 ⟨by decide, by decide⟩ (by decide) (v_ai (v_iload_n (i := 1) dX7_isPump_0 rfl (rfl : 0 + 1 = 1)) (v_ai (v_iconst (v := 0) dX7_isPump_1 (by decide) (rfl : 1 + 1 = 2)) (v_ai (v_isub (v_gfi kX1 lk134 (by decide) rfl (v_gfr kX7 lk351 (by decide) rfl (v_aload_n (i := 0) dX7_isPump_2 rfl (rfl : 2 + 1 = 3)) dX7_isPump_3 (rfl : 3 + 3 = 6)) dX7_isPump_6 (rfl : 6 + 3 = 9)) (v_iconst (v := 1) dX7_isPump_9 (by decide) (rfl : 9 + 1 = 10)) dX7_isPump_10 (rfl : 10 + 1 = 11)) v_anil))) dX7_isPump_11 (rfl : 11 + 3 = 14)) dX7_isPump_14)
theorem IX7_isPump : Mz yX7_isPump cX7_isPump 2 (rmk 1 22) DX7_isPump := mk_z (by decide +kernel) BX7_isPump

theorem dX7_swap_0 : decode cX7_swap 0 = .ok (.aload_n 0, 1) := by decide +kernel
theorem dX7_swap_1 : decode cX7_swap 1 = .ok (.iload_n 1, 1) := by decide +kernel
theorem dX7_swap_2 : decode cX7_swap 2 = .ok (.iaload, 1) := by decide +kernel
theorem dX7_swap_3 : decode cX7_swap 3 = .ok (.istore_n 3, 1) := by decide +kernel
theorem dX7_swap_4 : decode cX7_swap 4 = .ok (.aload_n 0, 1) := by decide +kernel
theorem dX7_swap_5 : decode cX7_swap 5 = .ok (.iload_n 1, 1) := by decide +kernel
theorem dX7_swap_6 : decode cX7_swap 6 = .ok (.iload_n 2, 1) := by decide +kernel
theorem dX7_swap_7 : decode cX7_swap 7 = .ok (.iastore, 1) := by decide +kernel
theorem dX7_swap_8 : decode cX7_swap 8 = .ok (.iload_n 3, 1) := by decide +kernel
theorem dX7_swap_9 : decode cX7_swap 9 = .ok (.ireturn, 1) := by decide +kernel
noncomputable def EX7_swap : Sx := (sseq (ssi 3 (iald (rl 0) (il 1))) (sseq (aii (rl 0) (il 1) (il 2)) (sret (il 3))))
noncomputable def DX7_swap : Fi := mfi 4 EX7_swap
set_option maxRecDepth 4000 in
theorem BX7_swap : Vs RX7 cX7_swap 4 (rmk 0 0) 0 0 EX7_swap := (v_seq (v_istore_n (i := 3) (v_iald (v_aload_n (i := 0) dX7_swap_0 rfl (rfl : 0 + 1 = 1)) (v_iload_n (i := 1) dX7_swap_1 rfl (rfl : 1 + 1 = 2)) dX7_swap_2 (rfl : 2 + 1 = 3)) dX7_swap_3 rfl (by decide) (rfl : 3 + 1 = 4)) (v_seq (v_aii (v_aload_n (i := 0) dX7_swap_4 rfl (rfl : 4 + 1 = 5)) (v_iload_n (i := 1) dX7_swap_5 rfl (rfl : 5 + 1 = 6)) (v_iload_n (i := 2) dX7_swap_6 rfl (rfl : 6 + 1 = 7)) dX7_swap_7 (rfl : 7 + 1 = 8)) (v_ret (v_iload_n (i := 3) dX7_swap_8 rfl (rfl : 8 + 1 = 9)) dX7_swap_9)))
theorem IX7_swap : Mi yX7_swap cX7_swap 4 (rmk 0 0) DX7_swap := mk_i (by decide +kernel) BX7_swap

theorem dX7_curve_0 : decode cX7_curve 0 = .ok (.iload_n 2, 1) := by decide +kernel
theorem dX7_curve_1 : decode cX7_curve 1 = .ok (.iload_n 3, 1) := by decide +kernel
theorem dX7_curve_2 : decode cX7_curve 2 = .ok (.invokestatic 120, 3) := by decide +kernel
theorem dX7_curve_5 : decode cX7_curve 5 = .ok (.ifCond .ne 9, 3) := by decide +kernel
theorem dX7_curve_8 : decode cX7_curve 8 = .ok (.aload_n 0, 1) := by decide +kernel
theorem dX7_curve_9 : decode cX7_curve 9 = .ok (.iconst (-1), 1) := by decide +kernel
theorem dX7_curve_10 : decode cX7_curve 10 = .ok (.invokevirtual 79, 3) := by decide +kernel
theorem dX7_curve_13 : decode cX7_curve 13 = .ok (.ireturn, 1) := by decide +kernel
theorem dX7_curve_14 : decode cX7_curve 14 = .ok (.aload_n 0, 1) := by decide +kernel
theorem dX7_curve_15 : decode cX7_curve 15 = .ok (.iload_n 1, 1) := by decide +kernel
theorem dX7_curve_16 : decode cX7_curve 16 = .ok (.invokevirtual 124, 3) := by decide +kernel
theorem dX7_curve_19 : decode cX7_curve 19 = .ok (.ifCond .ne 10, 3) := by decide +kernel
theorem dX7_curve_22 : decode cX7_curve 22 = .ok (.aload_n 0, 1) := by decide +kernel
theorem dX7_curve_23 : decode cX7_curve 23 = .ok (.bipush (-2), 2) := by decide +kernel
theorem dX7_curve_25 : decode cX7_curve 25 = .ok (.invokevirtual 79, 3) := by decide +kernel
theorem dX7_curve_28 : decode cX7_curve 28 = .ok (.ireturn, 1) := by decide +kernel
theorem dX7_curve_29 : decode cX7_curve 29 = .ok (.aload_n 0, 1) := by decide +kernel
theorem dX7_curve_30 : decode cX7_curve 30 = .ok (.getfield 10, 3) := by decide +kernel
theorem dX7_curve_33 : decode cX7_curve 33 = .ok (.getfield 127, 3) := by decide +kernel
theorem dX7_curve_36 : decode cX7_curve 36 = .ok (.iload_n 1, 1) := by decide +kernel
theorem dX7_curve_37 : decode cX7_curve 37 = .ok (.aaload, 1) := by decide +kernel
theorem dX7_curve_38 : decode cX7_curve 38 = .ok (.astore 4, 2) := by decide +kernel
theorem dX7_curve_40 : decode cX7_curve 40 = .ok (.aload 4, 2) := by decide +kernel
theorem dX7_curve_42 : decode cX7_curve 42 = .ok (.iconst 0, 1) := by decide +kernel
theorem dX7_curve_43 : decode cX7_curve 43 = .ok (.iload_n 2, 1) := by decide +kernel
theorem dX7_curve_44 : decode cX7_curve 44 = .ok (.iload_n 3, 1) := by decide +kernel
theorem dX7_curve_45 : decode cX7_curve 45 = .ok (.invokestatic 131, 3) := by decide +kernel
theorem dX7_curve_48 : decode cX7_curve 48 = .ok (.aload 4, 2) := by decide +kernel
theorem dX7_curve_50 : decode cX7_curve 50 = .ok (.iconst 1, 1) := by decide +kernel
theorem dX7_curve_51 : decode cX7_curve 51 = .ok (.iload_n 2, 1) := by decide +kernel
theorem dX7_curve_52 : decode cX7_curve 52 = .ok (.iload_n 3, 1) := by decide +kernel
theorem dX7_curve_53 : decode cX7_curve 53 = .ok (.invokestatic 131, 3) := by decide +kernel
theorem dX7_curve_56 : decode cX7_curve 56 = .ok (.aload 4, 2) := by decide +kernel
theorem dX7_curve_58 : decode cX7_curve 58 = .ok (.iconst 2, 1) := by decide +kernel
theorem dX7_curve_59 : decode cX7_curve 59 = .ok (.iload_n 2, 1) := by decide +kernel
theorem dX7_curve_60 : decode cX7_curve 60 = .ok (.iload_n 3, 1) := by decide +kernel
theorem dX7_curve_61 : decode cX7_curve 61 = .ok (.invokestatic 131, 3) := by decide +kernel
theorem dX7_curve_64 : decode cX7_curve 64 = .ok (.invokestatic 135, 3) := by decide +kernel
theorem dX7_curve_67 : decode cX7_curve 67 = .ok (.invokestatic 135, 3) := by decide +kernel
theorem dX7_curve_70 : decode cX7_curve 70 = .ok (.istore 5, 2) := by decide +kernel
theorem dX7_curve_72 : decode cX7_curve 72 = .ok (.iload 5, 2) := by decide +kernel
theorem dX7_curve_74 : decode cX7_curve 74 = .ok (.ifCond .eq 22, 3) := by decide +kernel
theorem dX7_curve_77 : decode cX7_curve 77 = .ok (.aload 4, 2) := by decide +kernel
theorem dX7_curve_79 : decode cX7_curve 79 = .ok (.iconst 3, 1) := by decide +kernel
theorem dX7_curve_80 : decode cX7_curve 80 = .ok (.iload_n 2, 1) := by decide +kernel
theorem dX7_curve_81 : decode cX7_curve 81 = .ok (.iload_n 3, 1) := by decide +kernel
theorem dX7_curve_82 : decode cX7_curve 82 = .ok (.invokestatic 131, 3) := by decide +kernel
theorem dX7_curve_85 : decode cX7_curve 85 = .ok (.aload 4, 2) := by decide +kernel
theorem dX7_curve_87 : decode cX7_curve 87 = .ok (.iconst 4, 1) := by decide +kernel
theorem dX7_curve_88 : decode cX7_curve 88 = .ok (.iload_n 2, 1) := by decide +kernel
theorem dX7_curve_89 : decode cX7_curve 89 = .ok (.iload_n 3, 1) := by decide +kernel
theorem dX7_curve_90 : decode cX7_curve 90 = .ok (.invokestatic 131, 3) := by decide +kernel
theorem dX7_curve_93 : decode cX7_curve 93 = .ok (.if_icmp .lt 10, 3) := by decide +kernel
theorem dX7_curve_96 : decode cX7_curve 96 = .ok (.aload_n 0, 1) := by decide +kernel
theorem dX7_curve_97 : decode cX7_curve 97 = .ok (.bipush (-4), 2) := by decide +kernel
theorem dX7_curve_99 : decode cX7_curve 99 = .ok (.invokevirtual 79, 3) := by decide +kernel
theorem dX7_curve_102 : decode cX7_curve 102 = .ok (.ireturn, 1) := by decide +kernel
theorem dX7_curve_103 : decode cX7_curve 103 = .ok (.aload_n 0, 1) := by decide +kernel
theorem dX7_curve_104 : decode cX7_curve 104 = .ok (.getfield 10, 3) := by decide +kernel
theorem dX7_curve_107 : decode cX7_curve 107 = .ok (.aload 4, 2) := by decide +kernel
theorem dX7_curve_109 : decode cX7_curve 109 = .ok (.iconst 0, 1) := by decide +kernel
theorem dX7_curve_110 : decode cX7_curve 110 = .ok (.iaload, 1) := by decide +kernel
theorem dX7_curve_111 : decode cX7_curve 111 = .ok (.invokevirtual 108, 3) := by decide +kernel
theorem dX7_curve_114 : decode cX7_curve 114 = .ok (.aload_n 0, 1) := by decide +kernel
theorem dX7_curve_115 : decode cX7_curve 115 = .ok (.getfield 10, 3) := by decide +kernel
theorem dX7_curve_118 : decode cX7_curve 118 = .ok (.iload_n 1, 1) := by decide +kernel
theorem dX7_curve_119 : decode cX7_curve 119 = .ok (.invokevirtual 140, 3) := by decide +kernel
theorem dX7_curve_122 : decode cX7_curve 122 = .ok (.isub, 1) := by decide +kernel
theorem dX7_curve_123 : decode cX7_curve 123 = .ok (.iload 5, 2) := by decide +kernel
theorem dX7_curve_125 : decode cX7_curve 125 = .ok (.iadd, 1) := by decide +kernel
theorem dX7_curve_126 : decode cX7_curve 126 = .ok (.bipush 120, 2) := by decide +kernel
theorem dX7_curve_128 : decode cX7_curve 128 = .ok (.if_icmp .le 10, 3) := by decide +kernel
theorem dX7_curve_131 : decode cX7_curve 131 = .ok (.aload_n 0, 1) := by decide +kernel
theorem dX7_curve_132 : decode cX7_curve 132 = .ok (.bipush (-5), 2) := by decide +kernel
theorem dX7_curve_134 : decode cX7_curve 134 = .ok (.invokevirtual 79, 3) := by decide +kernel
theorem dX7_curve_137 : decode cX7_curve 137 = .ok (.ireturn, 1) := by decide +kernel
theorem dX7_curve_138 : decode cX7_curve 138 = .ok (.aload_n 0, 1) := by decide +kernel
theorem dX7_curve_139 : decode cX7_curve 139 = .ok (.iconst 3, 1) := by decide +kernel
theorem dX7_curve_140 : decode cX7_curve 140 = .ok (.invokevirtual 86, 3) := by decide +kernel
theorem dX7_curve_143 : decode cX7_curve 143 = .ok (.aload 4, 2) := by decide +kernel
theorem dX7_curve_145 : decode cX7_curve 145 = .ok (.iconst 2, 1) := by decide +kernel
theorem dX7_curve_146 : decode cX7_curve 146 = .ok (.iload_n 2, 1) := by decide +kernel
theorem dX7_curve_147 : decode cX7_curve 147 = .ok (.iadd, 1) := by decide +kernel
theorem dX7_curve_148 : decode cX7_curve 148 = .ok (.iload_n 3, 1) := by decide +kernel
theorem dX7_curve_149 : decode cX7_curve 149 = .ok (.invokestatic 143, 3) := by decide +kernel
theorem dX7_curve_152 : decode cX7_curve 152 = .ok (.ireturn, 1) := by decide +kernel
noncomputable def EX7_curve : Sx := (sseq (sif (bnot (bz cne (csz DX7_isCurveNumber (ai (il 2) (ai (il 3) anil))))) (sret (cvi 6 DX7_refuse (rl 0) (ai (ik (-1)) anil))) snop) (sseq (sif (bnot (bz cne (cvz 6 DX7_isPump (rl 0) (ai (il 1) anil)))) (sret (cvi 6 DX7_refuse (rl 0) (ai (ik (-2)) anil))) snop) (sseq (ssr 4 (rald 12 (fgr 1 11 (fgr 6 0 (rl 0))) (il 1))) (sseq (ssi 5 (i2 mxi (csi DX7_curveThen (ar (rl 4) (ai (ik 0) (ai (il 2) (ai (il 3) anil))))) (i2 mxi (csi DX7_curveThen (ar (rl 4) (ai (ik 1) (ai (il 2) (ai (il 3) anil))))) (csi DX7_curveThen (ar (rl 4) (ai (ik 2) (ai (il 2) (ai (il 3) anil)))))))) (sseq (sif (bor (bz ceq (il 5)) (bc cge (csi DX7_curveThen (ar (rl 4) (ai (ik 3) (ai (il 2) (ai (il 3) anil))))) (csi DX7_curveThen (ar (rl 4) (ai (ik 4) (ai (il 2) (ai (il 3) anil))))))) (sret (cvi 6 DX7_refuse (rl 0) (ai (ik (-4)) anil))) snop) (sseq (sif (bc cgt (i2 (· + ·) (i2 (· - ·) (cvi 1 DX1_weight (fgr 6 0 (rl 0)) (ai (iald (rl 4) (ik 0)) anil)) (cvi 1 DX1_topSpeed (fgr 6 0 (rl 0)) (ai (il 1) anil))) (il 5)) (ik 120)) (sret (cvi 6 DX7_refuse (rl 0) (ai (ik (-5)) anil))) snop) (sseq (scv 6 DX7_accept (rl 0) (ai (ik 3) anil)) (sret (csi DX7_swap (ar (rl 4) (ai (i2 (· + ·) (ik 2) (il 2)) (ai (il 3) anil))))))))))))
noncomputable def DX7_curve : Fi := mfi 6 EX7_curve
set_option maxRecDepth 4000 in
theorem BX7_curve : Vs RX7 cX7_curve 6 (rmk 5 128) 0 0 EX7_curve := (v_seq (v_if (v_not (v_zne_t (v_csz IX7_isCurveNumber hX7_isCurveNumber lk468 ⟨by decide, by decide⟩ (by decide) (v_ai (v_iload_n (i := 2) dX7_curve_0 rfl (rfl : 0 + 1 = 1)) (v_ai (v_iload_n (i := 3) dX7_curve_1 rfl (rfl : 1 + 1 = 2)) v_anil)) dX7_curve_2 (rfl : 2 + 3 = 5)) dX7_curve_5 (rfl : ((5 : Nat) : Int) + 9 = ((14 : Nat) : Int)) (rfl : 5 + 3 = 8))) (v_ret (v_cvi kX7 IX7_refuse hX7_refuse lk395 ⟨by decide, by decide⟩ (by decide) (v_aload_n (i := 0) dX7_curve_8 rfl (rfl : 8 + 1 = 9)) (v_ai (v_iconst (v := (-1)) dX7_curve_9 (by decide) (rfl : 9 + 1 = 10)) v_anil) dX7_curve_10 (rfl : 10 + 3 = 13)) dX7_curve_13) v_nop) (v_seq (v_if (v_not (v_zne_t (v_cvz kX7 IX7_isPump hX7_isPump lk471 ⟨by decide, by decide⟩ (by decide) (v_aload_n (i := 0) dX7_curve_14 rfl (rfl : 14 + 1 = 15)) (v_ai (v_iload_n (i := 1) dX7_curve_15 rfl (rfl : 15 + 1 = 16)) v_anil) dX7_curve_16 (rfl : 16 + 3 = 19)) dX7_curve_19 (rfl : ((19 : Nat) : Int) + 10 = ((29 : Nat) : Int)) (rfl : 19 + 3 = 22))) (v_ret (v_cvi kX7 IX7_refuse hX7_refuse lk395 ⟨by decide, by decide⟩ (by decide) (v_aload_n (i := 0) dX7_curve_22 rfl (rfl : 22 + 1 = 23)) (v_ai (v_bipush (v := (-2)) dX7_curve_23 (by decide) (rfl : 23 + 2 = 25)) v_anil) dX7_curve_25 (rfl : 25 + 3 = 28)) dX7_curve_28) v_nop) (v_seq (v_astore (i := 4) (v_rald (q := 12) (t0 := 4) (ty0 := .array .int) ⟨by decide, by decide⟩ (fun _ => rfl) rfl (v_gfr kX1 lk159 (by decide) rfl (v_gfr kX7 lk351 (by decide) rfl (v_aload_n (i := 0) dX7_curve_29 rfl (rfl : 29 + 1 = 30)) dX7_curve_30 (rfl : 30 + 3 = 33)) dX7_curve_33 (rfl : 33 + 3 = 36)) (v_iload_n (i := 1) dX7_curve_36 rfl (rfl : 36 + 1 = 37)) dX7_curve_37 (rfl : 37 + 1 = 38)) dX7_curve_38 (by decide) (rfl : 38 + 2 = 40)) (v_seq (v_istore (i := 5) (v_mxi lk478 ma_mxi_s lkMath ma_mxi_c ⟨by decide, by decide⟩ (v_csi IX7_curveThen hX7_curveThen lk475 ⟨by decide, by decide⟩ (by decide) (v_ar (v_aload (i := 4) dX7_curve_40 (rfl : 40 + 2 = 42)) (v_ai (v_iconst (v := 0) dX7_curve_42 (by decide) (rfl : 42 + 1 = 43)) (v_ai (v_iload_n (i := 2) dX7_curve_43 rfl (rfl : 43 + 1 = 44)) (v_ai (v_iload_n (i := 3) dX7_curve_44 rfl (rfl : 44 + 1 = 45)) v_anil)))) dX7_curve_45 (rfl : 45 + 3 = 48)) (v_mxi lk478 ma_mxi_s lkMath ma_mxi_c ⟨by decide, by decide⟩ (v_csi IX7_curveThen hX7_curveThen lk475 ⟨by decide, by decide⟩ (by decide) (v_ar (v_aload (i := 4) dX7_curve_48 (rfl : 48 + 2 = 50)) (v_ai (v_iconst (v := 1) dX7_curve_50 (by decide) (rfl : 50 + 1 = 51)) (v_ai (v_iload_n (i := 2) dX7_curve_51 rfl (rfl : 51 + 1 = 52)) (v_ai (v_iload_n (i := 3) dX7_curve_52 rfl (rfl : 52 + 1 = 53)) v_anil)))) dX7_curve_53 (rfl : 53 + 3 = 56)) (v_csi IX7_curveThen hX7_curveThen lk475 ⟨by decide, by decide⟩ (by decide) (v_ar (v_aload (i := 4) dX7_curve_56 (rfl : 56 + 2 = 58)) (v_ai (v_iconst (v := 2) dX7_curve_58 (by decide) (rfl : 58 + 1 = 59)) (v_ai (v_iload_n (i := 2) dX7_curve_59 rfl (rfl : 59 + 1 = 60)) (v_ai (v_iload_n (i := 3) dX7_curve_60 rfl (rfl : 60 + 1 = 61)) v_anil)))) dX7_curve_61 (rfl : 61 + 3 = 64)) dX7_curve_64 (rfl : 64 + 3 = 67)) dX7_curve_67 (rfl : 67 + 3 = 70)) dX7_curve_70 (by decide) (rfl : 70 + 2 = 72)) (v_seq (v_if (v_or (v_zeq_t (v_iload (i := 5) dX7_curve_72 (rfl : 72 + 2 = 74)) dX7_curve_74 (rfl : ((74 : Nat) : Int) + 22 = ((96 : Nat) : Int)) (rfl : 74 + 3 = 77)) (v_ige_f (v_csi IX7_curveThen hX7_curveThen lk475 ⟨by decide, by decide⟩ (by decide) (v_ar (v_aload (i := 4) dX7_curve_77 (rfl : 77 + 2 = 79)) (v_ai (v_iconst (v := 3) dX7_curve_79 (by decide) (rfl : 79 + 1 = 80)) (v_ai (v_iload_n (i := 2) dX7_curve_80 rfl (rfl : 80 + 1 = 81)) (v_ai (v_iload_n (i := 3) dX7_curve_81 rfl (rfl : 81 + 1 = 82)) v_anil)))) dX7_curve_82 (rfl : 82 + 3 = 85)) (v_csi IX7_curveThen hX7_curveThen lk475 ⟨by decide, by decide⟩ (by decide) (v_ar (v_aload (i := 4) dX7_curve_85 (rfl : 85 + 2 = 87)) (v_ai (v_iconst (v := 4) dX7_curve_87 (by decide) (rfl : 87 + 1 = 88)) (v_ai (v_iload_n (i := 2) dX7_curve_88 rfl (rfl : 88 + 1 = 89)) (v_ai (v_iload_n (i := 3) dX7_curve_89 rfl (rfl : 89 + 1 = 90)) v_anil)))) dX7_curve_90 (rfl : 90 + 3 = 93)) dX7_curve_93 (rfl : ((93 : Nat) : Int) + 10 = ((103 : Nat) : Int)) (rfl : 93 + 3 = 96))) (v_ret (v_cvi kX7 IX7_refuse hX7_refuse lk395 ⟨by decide, by decide⟩ (by decide) (v_aload_n (i := 0) dX7_curve_96 rfl (rfl : 96 + 1 = 97)) (v_ai (v_bipush (v := (-4)) dX7_curve_97 (by decide) (rfl : 97 + 2 = 99)) v_anil) dX7_curve_99 (rfl : 99 + 3 = 102)) dX7_curve_102) v_nop) (v_seq (v_if (v_igt_f (v_iadd (v_isub (v_cvi kX1 IX1_weight hX1_weight lk441 ⟨by decide, by decide⟩ (by decide) (v_gfr kX7 lk351 (by decide) rfl (v_aload_n (i := 0) dX7_curve_103 rfl (rfl : 103 + 1 = 104)) dX7_curve_104 (rfl : 104 + 3 = 107)) (v_ai (v_iald (v_aload (i := 4) dX7_curve_107 (rfl : 107 + 2 = 109)) (v_iconst (v := 0) dX7_curve_109 (by decide) (rfl : 109 + 1 = 110)) dX7_curve_110 (rfl : 110 + 1 = 111)) v_anil) dX7_curve_111 (rfl : 111 + 3 = 114)) (v_cvi kX1 IX1_topSpeed hX1_topSpeed lk479 ⟨by decide, by decide⟩ (by decide) (v_gfr kX7 lk351 (by decide) rfl (v_aload_n (i := 0) dX7_curve_114 rfl (rfl : 114 + 1 = 115)) dX7_curve_115 (rfl : 115 + 3 = 118)) (v_ai (v_iload_n (i := 1) dX7_curve_118 rfl (rfl : 118 + 1 = 119)) v_anil) dX7_curve_119 (rfl : 119 + 3 = 122)) dX7_curve_122 (rfl : 122 + 1 = 123)) (v_iload (i := 5) dX7_curve_123 (rfl : 123 + 2 = 125)) dX7_curve_125 (rfl : 125 + 1 = 126)) (v_bipush (v := 120) dX7_curve_126 (by decide) (rfl : 126 + 2 = 128)) dX7_curve_128 (rfl : ((128 : Nat) : Int) + 10 = ((138 : Nat) : Int)) (rfl : 128 + 3 = 131)) (v_ret (v_cvi kX7 IX7_refuse hX7_refuse lk395 ⟨by decide, by decide⟩ (by decide) (v_aload_n (i := 0) dX7_curve_131 rfl (rfl : 131 + 1 = 132)) (v_ai (v_bipush (v := (-5)) dX7_curve_132 (by decide) (rfl : 132 + 2 = 134)) v_anil) dX7_curve_134 (rfl : 134 + 3 = 137)) dX7_curve_137) v_nop) (v_seq (v_scv kX7 IX7_accept hX7_accept lk399 ⟨by decide, by decide⟩ (v_aload_n (i := 0) dX7_curve_138 rfl (rfl : 138 + 1 = 139)) (v_ai (v_iconst (v := 3) dX7_curve_139 (by decide) (rfl : 139 + 1 = 140)) v_anil) dX7_curve_140 (rfl : 140 + 3 = 143)) (v_ret (v_csi IX7_swap hX7_swap lk480 ⟨by decide, by decide⟩ (by decide) (v_ar (v_aload (i := 4) dX7_curve_143 (rfl : 143 + 2 = 145)) (v_ai (v_iadd (v_iconst (v := 2) dX7_curve_145 (by decide) (rfl : 145 + 1 = 146)) (v_iload_n (i := 2) dX7_curve_146 rfl (rfl : 146 + 1 = 147)) dX7_curve_147 (rfl : 147 + 1 = 148)) (v_ai (v_iload_n (i := 3) dX7_curve_148 rfl (rfl : 148 + 1 = 149)) v_anil))) dX7_curve_149 (rfl : 149 + 3 = 152)) dX7_curve_152))))))))
theorem IX7_curve : Mi yX7_curve cX7_curve 6 (rmk 5 128) DX7_curve := mk_i (by decide +kernel) BX7_curve

theorem dX7_drawn_0 : decode cX7_drawn 0 = .ok (.aload_n 0, 1) := by decide +kernel
theorem dX7_drawn_1 : decode cX7_drawn 1 = .ok (.iload_n 1, 1) := by decide +kernel
theorem dX7_drawn_2 : decode cX7_drawn 2 = .ok (.invokevirtual 124, 3) := by decide +kernel
theorem dX7_drawn_5 : decode cX7_drawn 5 = .ok (.ifCond .eq 12, 3) := by decide +kernel
theorem dX7_drawn_8 : decode cX7_drawn 8 = .ok (.iload_n 2, 1) := by decide +kernel
theorem dX7_drawn_9 : decode cX7_drawn 9 = .ok (.iconst 0, 1) := by decide +kernel
theorem dX7_drawn_10 : decode cX7_drawn 10 = .ok (.iconst 1, 1) := by decide +kernel
theorem dX7_drawn_11 : decode cX7_drawn 11 = .ok (.invokestatic 75, 3) := by decide +kernel
theorem dX7_drawn_14 : decode cX7_drawn 14 = .ok (.ifCond .ne 7, 3) := by decide +kernel
theorem dX7_drawn_17 : decode cX7_drawn 17 = .ok (.ldc2_w 211, 3) := by decide +kernel
theorem dX7_drawn_20 : decode cX7_drawn 20 = .ok (.lreturn, 1) := by decide +kernel
theorem dX7_drawn_21 : decode cX7_drawn 21 = .ok (.aload_n 0, 1) := by decide +kernel
theorem dX7_drawn_22 : decode cX7_drawn 22 = .ok (.getfield 22, 3) := by decide +kernel
theorem dX7_drawn_25 : decode cX7_drawn 25 = .ok (.aload_n 0, 1) := by decide +kernel
theorem dX7_drawn_26 : decode cX7_drawn 26 = .ok (.getfield 10, 3) := by decide +kernel
theorem dX7_drawn_29 : decode cX7_drawn 29 = .ok (.invokevirtual 191, 3) := by decide +kernel
theorem dX7_drawn_32 : decode cX7_drawn 32 = .ok (.aload_n 0, 1) := by decide +kernel
theorem dX7_drawn_33 : decode cX7_drawn 33 = .ok (.getfield 22, 3) := by decide +kernel
theorem dX7_drawn_36 : decode cX7_drawn 36 = .ok (.invokevirtual 195, 3) := by decide +kernel
theorem dX7_drawn_39 : decode cX7_drawn 39 = .ok (.ifCond .eq 7, 3) := by decide +kernel
theorem dX7_drawn_42 : decode cX7_drawn 42 = .ok (.ldc2_w 213, 3) := by decide +kernel
theorem dX7_drawn_45 : decode cX7_drawn 45 = .ok (.lreturn, 1) := by decide +kernel
theorem dX7_drawn_46 : decode cX7_drawn 46 = .ok (.aload_n 0, 1) := by decide +kernel
theorem dX7_drawn_47 : decode cX7_drawn 47 = .ok (.getfield 10, 3) := by decide +kernel
theorem dX7_drawn_50 : decode cX7_drawn 50 = .ok (.getfield 127, 3) := by decide +kernel
theorem dX7_drawn_53 : decode cX7_drawn 53 = .ok (.iload_n 1, 1) := by decide +kernel
theorem dX7_drawn_54 : decode cX7_drawn 54 = .ok (.aaload, 1) := by decide +kernel
theorem dX7_drawn_55 : decode cX7_drawn 55 = .ok (.astore_n 3, 1) := by decide +kernel
theorem dX7_drawn_56 : decode cX7_drawn 56 = .ok (.aload_n 3, 1) := by decide +kernel
theorem dX7_drawn_57 : decode cX7_drawn 57 = .ok (.iconst 1, 1) := by decide +kernel
theorem dX7_drawn_58 : decode cX7_drawn 58 = .ok (.iaload, 1) := by decide +kernel
theorem dX7_drawn_59 : decode cX7_drawn 59 = .ok (.ifCond .ne 10, 3) := by decide +kernel
theorem dX7_drawn_62 : decode cX7_drawn 62 = .ok (.lconst 0, 1) := by decide +kernel
theorem dX7_drawn_63 : decode cX7_drawn 63 = .ok (.lconst 1, 1) := by decide +kernel
theorem dX7_drawn_64 : decode cX7_drawn 64 = .ok (.iload_n 2, 1) := by decide +kernel
theorem dX7_drawn_65 : decode cX7_drawn 65 = .ok (.invokestatic 228, 3) := by decide +kernel
theorem dX7_drawn_68 : decode cX7_drawn 68 = .ok (.lreturn, 1) := by decide +kernel
theorem dX7_drawn_69 : decode cX7_drawn 69 = .ok (.aload_n 0, 1) := by decide +kernel
theorem dX7_drawn_70 : decode cX7_drawn 70 = .ok (.getfield 22, 3) := by decide +kernel
theorem dX7_drawn_73 : decode cX7_drawn 73 = .ok (.aload_n 3, 1) := by decide +kernel
theorem dX7_drawn_74 : decode cX7_drawn 74 = .ok (.iconst 0, 1) := by decide +kernel
theorem dX7_drawn_75 : decode cX7_drawn 75 = .ok (.iaload, 1) := by decide +kernel
theorem dX7_drawn_76 : decode cX7_drawn 76 = .ok (.invokevirtual 215, 3) := by decide +kernel
theorem dX7_drawn_79 : decode cX7_drawn 79 = .ok (.ifCond .eq 7, 3) := by decide +kernel
theorem dX7_drawn_82 : decode cX7_drawn 82 = .ok (.ldc2_w 218, 3) := by decide +kernel
theorem dX7_drawn_85 : decode cX7_drawn 85 = .ok (.lreturn, 1) := by decide +kernel
theorem dX7_drawn_86 : decode cX7_drawn 86 = .ok (.aload_n 3, 1) := by decide +kernel
theorem dX7_drawn_87 : decode cX7_drawn 87 = .ok (.iconst 2, 1) := by decide +kernel
theorem dX7_drawn_88 : decode cX7_drawn 88 = .ok (.aload_n 0, 1) := by decide +kernel
theorem dX7_drawn_89 : decode cX7_drawn 89 = .ok (.getfield 22, 3) := by decide +kernel
theorem dX7_drawn_92 : decode cX7_drawn 92 = .ok (.iload_n 1, 1) := by decide +kernel
theorem dX7_drawn_93 : decode cX7_drawn 93 = .ok (.invokevirtual 236, 3) := by decide +kernel
theorem dX7_drawn_96 : decode cX7_drawn 96 = .ok (.iadd, 1) := by decide +kernel
theorem dX7_drawn_97 : decode cX7_drawn 97 = .ok (.iaload, 1) := by decide +kernel
theorem dX7_drawn_98 : decode cX7_drawn 98 = .ok (.i2l, 1) := by decide +kernel
theorem dX7_drawn_99 : decode cX7_drawn 99 = .ok (.lstore 4, 2) := by decide +kernel
theorem dX7_drawn_101 : decode cX7_drawn 101 = .ok (.lload 4, 2) := by decide +kernel
theorem dX7_drawn_103 : decode cX7_drawn 103 = .ok (.aload_n 0, 1) := by decide +kernel
theorem dX7_drawn_104 : decode cX7_drawn 104 = .ok (.getfield 22, 3) := by decide +kernel
theorem dX7_drawn_107 : decode cX7_drawn 107 = .ok (.getfield 220, 3) := by decide +kernel
theorem dX7_drawn_110 : decode cX7_drawn 110 = .ok (.aload_n 3, 1) := by decide +kernel
theorem dX7_drawn_111 : decode cX7_drawn 111 = .ok (.iconst 0, 1) := by decide +kernel
theorem dX7_drawn_112 : decode cX7_drawn 112 = .ok (.iaload, 1) := by decide +kernel
theorem dX7_drawn_113 : decode cX7_drawn 113 = .ok (.laload, 1) := by decide +kernel
theorem dX7_drawn_114 : decode cX7_drawn 114 = .ok (.lmul, 1) := by decide +kernel
theorem dX7_drawn_115 : decode cX7_drawn 115 = .ok (.aload_n 0, 1) := by decide +kernel
theorem dX7_drawn_116 : decode cX7_drawn 116 = .ok (.getfield 22, 3) := by decide +kernel
theorem dX7_drawn_119 : decode cX7_drawn 119 = .ok (.getfield 224, 3) := by decide +kernel
theorem dX7_drawn_122 : decode cX7_drawn 122 = .ok (.iload_n 2, 1) := by decide +kernel
theorem dX7_drawn_123 : decode cX7_drawn 123 = .ok (.invokestatic 228, 3) := by decide +kernel
theorem dX7_drawn_126 : decode cX7_drawn 126 = .ok (.lreturn, 1) := by decide +kernel
noncomputable def EX7_drawn : Sx := (sseq (sif (bor (bnot (bz cne (cvz 6 DX7_isPump (rl 0) (ai (il 1) anil)))) (bnot (bz cne (csz DX7_within (ai (il 2) (ai (ik 0) (ai (ik 1) anil))))))) (sretj (jk (-1))) snop) (sseq (scv 0 DX0_solve (fgr 6 2 (rl 0)) (ar (fgr 6 0 (rl 0)) anil)) (sseq (sif (bz cne (cvz 0 DX0_hunts (fgr 6 2 (rl 0)) anil)) (sretj (jk (-3))) snop) (sseq (ssr 3 (rald 12 (fgr 1 11 (fgr 6 0 (rl 0))) (il 1))) (sseq (sif (bz ceq (iald (rl 3) (ik 1))) (sretj (csj DX2_term (aj (jk 0) (aj (jk 1) (ai (il 2) anil))))) snop) (sseq (sif (bz cne (cvz 0 DX0_isEndless (fgr 6 2 (rl 0)) (ai (iald (rl 3) (ik 0)) anil))) (sretj (jk (-2))) snop) (sseq (ssj 4 (i2l (iald (rl 3) (i2 (· + ·) (ik 2) (cvi 0 DX0_stageNow (fgr 6 2 (rl 0)) (ai (il 1) anil)))))) (sretj (csj DX2_term (aj (j2 (· * ·) (jl 4) (jald (fgr 0 10 (fgr 6 2 (rl 0))) (iald (rl 3) (ik 0)))) (aj (fgj 0 11 (fgr 6 2 (rl 0))) (ai (il 2) anil))))))))))))
noncomputable def DX7_drawn : Fj := mfj 6 EX7_drawn
set_option maxRecDepth 4000 in
theorem BX7_drawn : Vs RX7 cX7_drawn 6 (rmk 4 106) 0 0 EX7_drawn := (v_seq (v_if (v_or (v_not (v_zne_f (v_cvz kX7 IX7_isPump hX7_isPump lk471 ⟨by decide, by decide⟩ (by decide) (v_aload_n (i := 0) dX7_drawn_0 rfl (rfl : 0 + 1 = 1)) (v_ai (v_iload_n (i := 1) dX7_drawn_1 rfl (rfl : 1 + 1 = 2)) v_anil) dX7_drawn_2 (rfl : 2 + 3 = 5)) dX7_drawn_5 (rfl : ((5 : Nat) : Int) + 12 = ((17 : Nat) : Int)) (rfl : 5 + 3 = 8))) (v_not (v_zne_t (v_csz IX7_within hX7_within lk392 ⟨by decide, by decide⟩ (by decide) (v_ai (v_iload_n (i := 2) dX7_drawn_8 rfl (rfl : 8 + 1 = 9)) (v_ai (v_iconst (v := 0) dX7_drawn_9 (by decide) (rfl : 9 + 1 = 10)) (v_ai (v_iconst (v := 1) dX7_drawn_10 (by decide) (rfl : 10 + 1 = 11)) v_anil))) dX7_drawn_11 (rfl : 11 + 3 = 14)) dX7_drawn_14 (rfl : ((14 : Nat) : Int) + 7 = ((21 : Nat) : Int)) (rfl : 14 + 3 = 17)))) (v_retj (v_ldc2 (v := (-1)) lk729 dX7_drawn_17 (rfl : 17 + 3 = 20)) dX7_drawn_20) v_nop) (v_seq (v_scv kX0 IX0_solve hX0_solve lk701 ⟨by decide, by decide⟩ (v_gfr kX7 lk353 (by decide) rfl (v_aload_n (i := 0) dX7_drawn_21 rfl (rfl : 21 + 1 = 22)) dX7_drawn_22 (rfl : 22 + 3 = 25)) (v_ar (v_gfr kX7 lk351 (by decide) rfl (v_aload_n (i := 0) dX7_drawn_25 rfl (rfl : 25 + 1 = 26)) dX7_drawn_26 (rfl : 26 + 3 = 29)) v_anil) dX7_drawn_29 (rfl : 29 + 3 = 32)) (v_seq (v_if (v_zne_f (v_cvz kX0 IX0_hunts hX0_hunts lk702 ⟨by decide, by decide⟩ (by decide) (v_gfr kX7 lk353 (by decide) rfl (v_aload_n (i := 0) dX7_drawn_32 rfl (rfl : 32 + 1 = 33)) dX7_drawn_33 (rfl : 33 + 3 = 36)) v_anil dX7_drawn_36 (rfl : 36 + 3 = 39)) dX7_drawn_39 (rfl : ((39 : Nat) : Int) + 7 = ((46 : Nat) : Int)) (rfl : 39 + 3 = 42)) (v_retj (v_ldc2 (v := (-3)) lk730 dX7_drawn_42 (rfl : 42 + 3 = 45)) dX7_drawn_45) v_nop) (v_seq (v_astore_n (i := 3) (v_rald (q := 12) (t0 := 4) (ty0 := .array .int) ⟨by decide, by decide⟩ (fun _ => rfl) rfl (v_gfr kX1 lk159 (by decide) rfl (v_gfr kX7 lk351 (by decide) rfl (v_aload_n (i := 0) dX7_drawn_46 rfl (rfl : 46 + 1 = 47)) dX7_drawn_47 (rfl : 47 + 3 = 50)) dX7_drawn_50 (rfl : 50 + 3 = 53)) (v_iload_n (i := 1) dX7_drawn_53 rfl (rfl : 53 + 1 = 54)) dX7_drawn_54 (rfl : 54 + 1 = 55)) dX7_drawn_55 rfl (by decide) (rfl : 55 + 1 = 56)) (v_seq (v_if (v_zeq_f (v_iald (v_aload_n (i := 3) dX7_drawn_56 rfl (rfl : 56 + 1 = 57)) (v_iconst (v := 1) dX7_drawn_57 (by decide) (rfl : 57 + 1 = 58)) dX7_drawn_58 (rfl : 58 + 1 = 59)) dX7_drawn_59 (rfl : ((59 : Nat) : Int) + 10 = ((69 : Nat) : Int)) (rfl : 59 + 3 = 62)) (v_retj (v_csj IX2_term hX2_term lk733 ⟨by decide, by decide⟩ (by decide) (v_aj (v_lconst (v := 0) dX7_drawn_62 (by decide) (rfl : 62 + 1 = 63)) (v_aj (v_lconst (v := 1) dX7_drawn_63 (by decide) (rfl : 63 + 1 = 64)) (v_ai (v_iload_n (i := 2) dX7_drawn_64 rfl (rfl : 64 + 1 = 65)) v_anil))) dX7_drawn_65 (rfl : 65 + 3 = 68)) dX7_drawn_68) v_nop) (v_seq (v_if (v_zne_f (v_cvz kX0 IX0_isEndless hX0_isEndless lk731 ⟨by decide, by decide⟩ (by decide) (v_gfr kX7 lk353 (by decide) rfl (v_aload_n (i := 0) dX7_drawn_69 rfl (rfl : 69 + 1 = 70)) dX7_drawn_70 (rfl : 70 + 3 = 73)) (v_ai (v_iald (v_aload_n (i := 3) dX7_drawn_73 rfl (rfl : 73 + 1 = 74)) (v_iconst (v := 0) dX7_drawn_74 (by decide) (rfl : 74 + 1 = 75)) dX7_drawn_75 (rfl : 75 + 1 = 76)) v_anil) dX7_drawn_76 (rfl : 76 + 3 = 79)) dX7_drawn_79 (rfl : ((79 : Nat) : Int) + 7 = ((86 : Nat) : Int)) (rfl : 79 + 3 = 82)) (v_retj (v_ldc2 (v := (-2)) lk732 dX7_drawn_82 (rfl : 82 + 3 = 85)) dX7_drawn_85) v_nop) (v_seq (v_lstore (i := 4) (v_i2l (v_iald (v_aload_n (i := 3) dX7_drawn_86 rfl (rfl : 86 + 1 = 87)) (v_iadd (v_iconst (v := 2) dX7_drawn_87 (by decide) (rfl : 87 + 1 = 88)) (v_cvi kX0 IX0_stageNow hX0_stageNow lk756 ⟨by decide, by decide⟩ (by decide) (v_gfr kX7 lk353 (by decide) rfl (v_aload_n (i := 0) dX7_drawn_88 rfl (rfl : 88 + 1 = 89)) dX7_drawn_89 (rfl : 89 + 3 = 92)) (v_ai (v_iload_n (i := 1) dX7_drawn_92 rfl (rfl : 92 + 1 = 93)) v_anil) dX7_drawn_93 (rfl : 93 + 3 = 96)) dX7_drawn_96 (rfl : 96 + 1 = 97)) dX7_drawn_97 (rfl : 97 + 1 = 98)) dX7_drawn_98 (rfl : 98 + 1 = 99)) dX7_drawn_99 (by decide) (rfl : 99 + 2 = 101)) (v_retj (v_csj IX2_term hX2_term lk733 ⟨by decide, by decide⟩ (by decide) (v_aj (v_lmul (v_lload (i := 4) dX7_drawn_101 (rfl : 101 + 2 = 103)) (v_jald (v_gfr kX0 lk217 (by decide) rfl (v_gfr kX7 lk353 (by decide) rfl (v_aload_n (i := 0) dX7_drawn_103 rfl (rfl : 103 + 1 = 104)) dX7_drawn_104 (rfl : 104 + 3 = 107)) dX7_drawn_107 (rfl : 107 + 3 = 110)) (v_iald (v_aload_n (i := 3) dX7_drawn_110 rfl (rfl : 110 + 1 = 111)) (v_iconst (v := 0) dX7_drawn_111 (by decide) (rfl : 111 + 1 = 112)) dX7_drawn_112 (rfl : 112 + 1 = 113)) dX7_drawn_113 (rfl : 113 + 1 = 114)) dX7_drawn_114 (rfl : 114 + 1 = 115)) (v_aj (v_gfj kX0 lk219 (by decide) rfl (v_gfr kX7 lk353 (by decide) rfl (v_aload_n (i := 0) dX7_drawn_115 rfl (rfl : 115 + 1 = 116)) dX7_drawn_116 (rfl : 116 + 3 = 119)) dX7_drawn_119 (rfl : 119 + 3 = 122)) (v_ai (v_iload_n (i := 2) dX7_drawn_122 rfl (rfl : 122 + 1 = 123)) v_anil))) dX7_drawn_123 (rfl : 123 + 3 = 126)) dX7_drawn_126))))))))
theorem IX7_drawn : Mj yX7_drawn cX7_drawn 6 (rmk 4 106) DX7_drawn := mk_j (by decide +kernel) BX7_drawn

theorem dX7_isWatch_0 : decode cX7_isWatch 0 = .ok (.iload_n 1, 1) := by decide +kernel
theorem dX7_isWatch_1 : decode cX7_isWatch 1 = .ok (.iconst 0, 1) := by decide +kernel
theorem dX7_isWatch_2 : decode cX7_isWatch 2 = .ok (.aload_n 0, 1) := by decide +kernel
theorem dX7_isWatch_3 : decode cX7_isWatch 3 = .ok (.getfield 10, 3) := by decide +kernel
theorem dX7_isWatch_6 : decode cX7_isWatch 6 = .ok (.getfield 171, 3) := by decide +kernel
theorem dX7_isWatch_9 : decode cX7_isWatch 9 = .ok (.iconst 1, 1) := by decide +kernel
theorem dX7_isWatch_10 : decode cX7_isWatch 10 = .ok (.isub, 1) := by decide +kernel
theorem dX7_isWatch_11 : decode cX7_isWatch 11 = .ok (.invokestatic 75, 3) := by decide +kernel
theorem dX7_isWatch_14 : decode cX7_isWatch 14 = .ok (.ireturn, 1) := by decide +kernel
noncomputable def EX7_isWatch : Sx := (sret (csz DX7_within (ai (il 1) (ai (ik 0) (ai (i2 (· - ·) (fgi 1 3 (fgr 6 0 (rl 0))) (ik 1)) anil)))))
noncomputable def DX7_isWatch : Fz := mfz 2 EX7_isWatch
set_option maxRecDepth 4000 in
theorem BX7_isWatch : Vs RX7 cX7_isWatch 2 (rmk 1 22) 0 0 EX7_isWatch := (v_ret (v_csz IX7_within hX7_within lk392 ⟨by decide, by decide⟩ (by decide) (v_ai (v_iload_n (i := 1) dX7_isWatch_0 rfl (rfl : 0 + 1 = 1)) (v_ai (v_iconst (v := 0) dX7_isWatch_1 (by decide) (rfl : 1 + 1 = 2)) (v_ai (v_isub (v_gfi kX1 lk139 (by decide) rfl (v_gfr kX7 lk351 (by decide) rfl (v_aload_n (i := 0) dX7_isWatch_2 rfl (rfl : 2 + 1 = 3)) dX7_isWatch_3 (rfl : 3 + 3 = 6)) dX7_isWatch_6 (rfl : 6 + 3 = 9)) (v_iconst (v := 1) dX7_isWatch_9 (by decide) (rfl : 9 + 1 = 10)) dX7_isWatch_10 (rfl : 10 + 1 = 11)) v_anil))) dX7_isWatch_11 (rfl : 11 + 3 = 14)) dX7_isWatch_14)
theorem IX7_isWatch : Mz yX7_isWatch cX7_isWatch 2 (rmk 1 22) DX7_isWatch := mk_z (by decide +kernel) BX7_isWatch

theorem dX7_drop_0 : decode cX7_drop 0 = .ok (.aload_n 0, 1) := by decide +kernel
theorem dX7_drop_1 : decode cX7_drop 1 = .ok (.iload_n 1, 1) := by decide +kernel
theorem dX7_drop_2 : decode cX7_drop 2 = .ok (.invokevirtual 178, 3) := by decide +kernel
theorem dX7_drop_5 : decode cX7_drop 5 = .ok (.ifCond .ne 10, 3) := by decide +kernel
theorem dX7_drop_8 : decode cX7_drop 8 = .ok (.aload_n 0, 1) := by decide +kernel
theorem dX7_drop_9 : decode cX7_drop 9 = .ok (.bipush (-2), 2) := by decide +kernel
theorem dX7_drop_11 : decode cX7_drop 11 = .ok (.invokevirtual 79, 3) := by decide +kernel
theorem dX7_drop_14 : decode cX7_drop 14 = .ok (.ireturn, 1) := by decide +kernel
theorem dX7_drop_15 : decode cX7_drop 15 = .ok (.aload_n 0, 1) := by decide +kernel
theorem dX7_drop_16 : decode cX7_drop 16 = .ok (.bipush 9, 2) := by decide +kernel
theorem dX7_drop_18 : decode cX7_drop 18 = .ok (.invokevirtual 86, 3) := by decide +kernel
theorem dX7_drop_21 : decode cX7_drop 21 = .ok (.aload_n 0, 1) := by decide +kernel
theorem dX7_drop_22 : decode cX7_drop 22 = .ok (.getfield 10, 3) := by decide +kernel
theorem dX7_drop_25 : decode cX7_drop 25 = .ok (.iload_n 1, 1) := by decide +kernel
theorem dX7_drop_26 : decode cX7_drop 26 = .ok (.invokevirtual 181, 3) := by decide +kernel
theorem dX7_drop_29 : decode cX7_drop 29 = .ok (.ireturn, 1) := by decide +kernel
noncomputable def EX7_drop : Sx := (sseq (sif (bnot (bz cne (cvz 6 DX7_isWatch (rl 0) (ai (il 1) anil)))) (sret (cvi 6 DX7_refuse (rl 0) (ai (ik (-2)) anil))) snop) (sseq (scv 6 DX7_accept (rl 0) (ai (ik 9) anil)) (sret (cvi 1 DX1_removeWatch (fgr 6 0 (rl 0)) (ai (il 1) anil)))))
noncomputable def DX7_drop : Fi := mfi 2 EX7_drop
set_option maxRecDepth 4000 in
theorem BX7_drop : Vs RX7 cX7_drop 2 (rmk 5 128) 0 0 EX7_drop := (v_seq (v_if (v_not (v_zne_t (v_cvz kX7 IX7_isWatch hX7_isWatch lk528 ⟨by decide, by decide⟩ (by decide) (v_aload_n (i := 0) dX7_drop_0 rfl (rfl : 0 + 1 = 1)) (v_ai (v_iload_n (i := 1) dX7_drop_1 rfl (rfl : 1 + 1 = 2)) v_anil) dX7_drop_2 (rfl : 2 + 3 = 5)) dX7_drop_5 (rfl : ((5 : Nat) : Int) + 10 = ((15 : Nat) : Int)) (rfl : 5 + 3 = 8))) (v_ret (v_cvi kX7 IX7_refuse hX7_refuse lk395 ⟨by decide, by decide⟩ (by decide) (v_aload_n (i := 0) dX7_drop_8 rfl (rfl : 8 + 1 = 9)) (v_ai (v_bipush (v := (-2)) dX7_drop_9 (by decide) (rfl : 9 + 2 = 11)) v_anil) dX7_drop_11 (rfl : 11 + 3 = 14)) dX7_drop_14) v_nop) (v_seq (v_scv kX7 IX7_accept hX7_accept lk399 ⟨by decide, by decide⟩ (v_aload_n (i := 0) dX7_drop_15 rfl (rfl : 15 + 1 = 16)) (v_ai (v_bipush (v := 9) dX7_drop_16 (by decide) (rfl : 16 + 2 = 18)) v_anil) dX7_drop_18 (rfl : 18 + 3 = 21)) (v_ret (v_cvi kX1 IX1_removeWatch hX1_removeWatch lk532 ⟨by decide, by decide⟩ (by decide) (v_gfr kX7 lk351 (by decide) rfl (v_aload_n (i := 0) dX7_drop_21 rfl (rfl : 21 + 1 = 22)) dX7_drop_22 (rfl : 22 + 3 = 25)) (v_ai (v_iload_n (i := 1) dX7_drop_25 rfl (rfl : 25 + 1 = 26)) v_anil) dX7_drop_26 (rfl : 26 + 3 = 29)) dX7_drop_29)))
theorem IX7_drop : Mi yX7_drop cX7_drop 2 (rmk 5 128) DX7_drop := mk_i (by decide +kernel) BX7_drop

theorem dX7_fed_0 : decode cX7_fed 0 = .ok (.iload_n 2, 1) := by decide +kernel
theorem dX7_fed_1 : decode cX7_fed 1 = .ok (.ifCond .lt 11, 3) := by decide +kernel
theorem dX7_fed_4 : decode cX7_fed 4 = .ok (.aload_n 0, 1) := by decide +kernel
theorem dX7_fed_5 : decode cX7_fed 5 = .ok (.iload_n 1, 1) := by decide +kernel
theorem dX7_fed_6 : decode cX7_fed 6 = .ok (.invokevirtual 97, 3) := by decide +kernel
theorem dX7_fed_9 : decode cX7_fed 9 = .ok (.ifCond .ne 5, 3) := by decide +kernel
theorem dX7_fed_12 : decode cX7_fed 12 = .ok (.iconst (-1), 1) := by decide +kernel
theorem dX7_fed_13 : decode cX7_fed 13 = .ok (.ireturn, 1) := by decide +kernel
theorem dX7_fed_14 : decode cX7_fed 14 = .ok (.aload_n 0, 1) := by decide +kernel
theorem dX7_fed_15 : decode cX7_fed 15 = .ok (.getfield 16, 3) := by decide +kernel
theorem dX7_fed_18 : decode cX7_fed 18 = .ok (.aload_n 0, 1) := by decide +kernel
theorem dX7_fed_19 : decode cX7_fed 19 = .ok (.getfield 10, 3) := by decide +kernel
theorem dX7_fed_22 : decode cX7_fed 22 = .ok (.invokevirtual 205, 3) := by decide +kernel
theorem dX7_fed_25 : decode cX7_fed 25 = .ok (.bipush 99, 2) := by decide +kernel
theorem dX7_fed_27 : decode cX7_fed 27 = .ok (.istore_n 3, 1) := by decide +kernel
theorem dX7_fed_28 : decode cX7_fed 28 = .ok (.iload_n 3, 1) := by decide +kernel
theorem dX7_fed_29 : decode cX7_fed 29 = .ok (.ifCond .lt 38, 3) := by decide +kernel
theorem dX7_fed_32 : decode cX7_fed 32 = .ok (.aload_n 0, 1) := by decide +kernel
theorem dX7_fed_33 : decode cX7_fed 33 = .ok (.getfield 16, 3) := by decide +kernel
theorem dX7_fed_36 : decode cX7_fed 36 = .ok (.getfield 147, 3) := by decide +kernel
theorem dX7_fed_39 : decode cX7_fed 39 = .ok (.iload_n 1, 1) := by decide +kernel
theorem dX7_fed_40 : decode cX7_fed 40 = .ok (.aaload, 1) := by decide +kernel
theorem dX7_fed_41 : decode cX7_fed 41 = .ok (.iconst 0, 1) := by decide +kernel
theorem dX7_fed_42 : decode cX7_fed 42 = .ok (.iload_n 3, 1) := by decide +kernel
theorem dX7_fed_43 : decode cX7_fed 43 = .ok (.iastore, 1) := by decide +kernel
theorem dX7_fed_44 : decode cX7_fed 44 = .ok (.aload_n 0, 1) := by decide +kernel
theorem dX7_fed_45 : decode cX7_fed 45 = .ok (.getfield 22, 3) := by decide +kernel
theorem dX7_fed_48 : decode cX7_fed 48 = .ok (.aload_n 0, 1) := by decide +kernel
theorem dX7_fed_49 : decode cX7_fed 49 = .ok (.getfield 16, 3) := by decide +kernel
theorem dX7_fed_52 : decode cX7_fed 52 = .ok (.iload_n 2, 1) := by decide +kernel
theorem dX7_fed_53 : decode cX7_fed 53 = .ok (.invokevirtual 297, 3) := by decide +kernel
theorem dX7_fed_56 : decode cX7_fed 56 = .ok (.ifCond .eq 5, 3) := by decide +kernel
theorem dX7_fed_59 : decode cX7_fed 59 = .ok (.iload_n 3, 1) := by decide +kernel
theorem dX7_fed_60 : decode cX7_fed 60 = .ok (.ireturn, 1) := by decide +kernel
theorem dX7_fed_61 : decode cX7_fed 61 = .ok (.iinc 3 (-1), 3) := by decide +kernel
theorem dX7_fed_64 : decode cX7_fed 64 = .ok (.goto (-36), 3) := by decide +kernel
theorem dX7_fed_67 : decode cX7_fed 67 = .ok (.iconst (-1), 1) := by decide +kernel
theorem dX7_fed_68 : decode cX7_fed 68 = .ok (.ireturn, 1) := by decide +kernel
noncomputable def qX7_fed_1 : Bx := (bz cge (il 3))
noncomputable def wX7_fed_1 : Sx := (sseq (sseq (aii (rald 12 (fgr 1 9 (fgr 6 1 (rl 0))) (il 1)) (ik 0) (il 3)) (sif (bz cne (cvz 0 DX0_isUnder (fgr 6 2 (rl 0)) (ar (fgr 6 1 (rl 0)) (ai (il 2) anil)))) (sret (il 3)) snop)) (sinc 3 (-1)))
noncomputable def EX7_fed : Sx := (sseq (sif (bor (bz clt (il 2)) (bnot (bz cne (cvz 6 DX7_isChamber (rl 0) (ai (il 1) anil))))) (sret (ik (-1))) snop) (sseq (scv 1 DX1_copyFrom (fgr 6 1 (rl 0)) (ar (fgr 6 0 (rl 0)) anil)) (sseq (scut 3 (sseq (ssi 3 (ik 99)) (swh qX7_fed_1 wX7_fed_1))) (sret (ik (-1))))))
noncomputable def DX7_fed : Fi := mfi 4 EX7_fed
set_option maxRecDepth 4000 in
theorem BX7_fed : Vs RX7 cX7_fed 4 (rmk 6 152) 0 0 EX7_fed := (v_seq (v_if (v_or (v_zlt_t (v_iload_n (i := 2) dX7_fed_0 rfl (rfl : 0 + 1 = 1)) dX7_fed_1 (rfl : ((1 : Nat) : Int) + 11 = ((12 : Nat) : Int)) (rfl : 1 + 3 = 4)) (v_not (v_zne_t (v_cvz kX7 IX7_isChamber hX7_isChamber lk428 ⟨by decide, by decide⟩ (by decide) (v_aload_n (i := 0) dX7_fed_4 rfl (rfl : 4 + 1 = 5)) (v_ai (v_iload_n (i := 1) dX7_fed_5 rfl (rfl : 5 + 1 = 6)) v_anil) dX7_fed_6 (rfl : 6 + 3 = 9)) dX7_fed_9 (rfl : ((9 : Nat) : Int) + 5 = ((14 : Nat) : Int)) (rfl : 9 + 3 = 12)))) (v_ret (v_iconst (v := (-1)) dX7_fed_12 (by decide) (rfl : 12 + 1 = 13)) dX7_fed_13) v_nop) (v_seq (v_scv kX1 IX1_copyFrom hX1_copyFrom lk716 ⟨by decide, by decide⟩ (v_gfr kX7 lk352 (by decide) rfl (v_aload_n (i := 0) dX7_fed_14 rfl (rfl : 14 + 1 = 15)) dX7_fed_15 (rfl : 15 + 3 = 18)) (v_ar (v_gfr kX7 lk351 (by decide) rfl (v_aload_n (i := 0) dX7_fed_18 rfl (rfl : 18 + 1 = 19)) dX7_fed_19 (rfl : 19 + 3 = 22)) v_anil) dX7_fed_22 (rfl : 22 + 3 = 25)) (v_seq (v_cut (n := 3) (v_seq (v_istore_n (i := 3) (v_bipush (v := 99) dX7_fed_25 (by decide) (rfl : 25 + 2 = 27)) dX7_fed_27 rfl (by decide) (rfl : 27 + 1 = 28)) (v_wh (v_zge_f (v_iload_n (i := 3) dX7_fed_28 rfl (rfl : 28 + 1 = 29)) dX7_fed_29 (rfl : ((29 : Nat) : Int) + 38 = ((67 : Nat) : Int)) (rfl : 29 + 3 = 32)) (vs_goto (v_seq (v_seq (v_aii (v_rald (q := 12) (t0 := 4) (ty0 := .array .int) ⟨by decide, by decide⟩ (fun _ => rfl) rfl (v_gfr kX1 lk153 (by decide) rfl (v_gfr kX7 lk352 (by decide) rfl (v_aload_n (i := 0) dX7_fed_32 rfl (rfl : 32 + 1 = 33)) dX7_fed_33 (rfl : 33 + 3 = 36)) dX7_fed_36 (rfl : 36 + 3 = 39)) (v_iload_n (i := 1) dX7_fed_39 rfl (rfl : 39 + 1 = 40)) dX7_fed_40 (rfl : 40 + 1 = 41)) (v_iconst (v := 0) dX7_fed_41 (by decide) (rfl : 41 + 1 = 42)) (v_iload_n (i := 3) dX7_fed_42 rfl (rfl : 42 + 1 = 43)) dX7_fed_43 (rfl : 43 + 1 = 44)) (v_if (v_zne_f (v_cvz kX0 IX0_isUnder hX0_isUnder lk901 ⟨by decide, by decide⟩ (by decide) (v_gfr kX7 lk353 (by decide) rfl (v_aload_n (i := 0) dX7_fed_44 rfl (rfl : 44 + 1 = 45)) dX7_fed_45 (rfl : 45 + 3 = 48)) (v_ar (v_gfr kX7 lk352 (by decide) rfl (v_aload_n (i := 0) dX7_fed_48 rfl (rfl : 48 + 1 = 49)) dX7_fed_49 (rfl : 49 + 3 = 52)) (v_ai (v_iload_n (i := 2) dX7_fed_52 rfl (rfl : 52 + 1 = 53)) v_anil)) dX7_fed_53 (rfl : 53 + 3 = 56)) dX7_fed_56 (rfl : ((56 : Nat) : Int) + 5 = ((61 : Nat) : Int)) (rfl : 56 + 3 = 59)) (v_ret (v_iload_n (i := 3) dX7_fed_59 rfl (rfl : 59 + 1 = 60)) dX7_fed_60) v_nop)) (v_iinc (v := (-1)) dX7_fed_61 (by decide) (by decide) (rfl : 61 + 3 = 64))) dX7_fed_64 (rfl : ((64 : Nat) : Int) + (-36) = ((28 : Nat) : Int)))))) (v_ret (v_iconst (v := (-1)) dX7_fed_67 (by decide) (rfl : 67 + 1 = 68)) dX7_fed_68))))
theorem IX7_fed : Mi yX7_fed cX7_fed 4 (rmk 6 152) DX7_fed := mk_i (by decide +kernel) BX7_fed

theorem dX7_isTube_0 : decode cX7_isTube 0 = .ok (.iload_n 1, 1) := by decide +kernel
theorem dX7_isTube_1 : decode cX7_isTube 1 = .ok (.iconst 0, 1) := by decide +kernel
theorem dX7_isTube_2 : decode cX7_isTube 2 = .ok (.aload_n 0, 1) := by decide +kernel
theorem dX7_isTube_3 : decode cX7_isTube 3 = .ok (.getfield 10, 3) := by decide +kernel
theorem dX7_isTube_6 : decode cX7_isTube 6 = .ok (.getfield 105, 3) := by decide +kernel
theorem dX7_isTube_9 : decode cX7_isTube 9 = .ok (.iconst 1, 1) := by decide +kernel
theorem dX7_isTube_10 : decode cX7_isTube 10 = .ok (.isub, 1) := by decide +kernel
theorem dX7_isTube_11 : decode cX7_isTube 11 = .ok (.invokestatic 75, 3) := by decide +kernel
theorem dX7_isTube_14 : decode cX7_isTube 14 = .ok (.ireturn, 1) := by decide +kernel
noncomputable def EX7_isTube : Sx := (sret (csz DX7_within (ai (il 1) (ai (ik 0) (ai (i2 (· - ·) (fgi 1 1 (fgr 6 0 (rl 0))) (ik 1)) anil)))))
noncomputable def DX7_isTube : Fz := mfz 2 EX7_isTube
set_option maxRecDepth 4000 in
theorem BX7_isTube : Vs RX7 cX7_isTube 2 (rmk 1 22) 0 0 EX7_isTube := (v_ret (v_csz IX7_within hX7_within lk392 ⟨by decide, by decide⟩ (by decide) (v_ai (v_iload_n (i := 1) dX7_isTube_0 rfl (rfl : 0 + 1 = 1)) (v_ai (v_iconst (v := 0) dX7_isTube_1 (by decide) (rfl : 1 + 1 = 2)) (v_ai (v_isub (v_gfi kX1 lk131 (by decide) rfl (v_gfr kX7 lk351 (by decide) rfl (v_aload_n (i := 0) dX7_isTube_2 rfl (rfl : 2 + 1 = 3)) dX7_isTube_3 (rfl : 3 + 3 = 6)) dX7_isTube_6 (rfl : 6 + 3 = 9)) (v_iconst (v := 1) dX7_isTube_9 (by decide) (rfl : 9 + 1 = 10)) dX7_isTube_10 (rfl : 10 + 1 = 11)) v_anil))) dX7_isTube_11 (rfl : 11 + 3 = 14)) dX7_isTube_14)
theorem IX7_isTube : Mz yX7_isTube cX7_isTube 2 (rmk 1 22) DX7_isTube := mk_z (by decide +kernel) BX7_isTube

theorem dX7_flow_0 : decode cX7_flow 0 = .ok (.aload_n 0, 1) := by decide +kernel
theorem dX7_flow_1 : decode cX7_flow 1 = .ok (.iload_n 1, 1) := by decide +kernel
theorem dX7_flow_2 : decode cX7_flow 2 = .ok (.invokevirtual 150, 3) := by decide +kernel
theorem dX7_flow_5 : decode cX7_flow 5 = .ok (.ifCond .eq 12, 3) := by decide +kernel
theorem dX7_flow_8 : decode cX7_flow 8 = .ok (.iload_n 2, 1) := by decide +kernel
theorem dX7_flow_9 : decode cX7_flow 9 = .ok (.iconst 0, 1) := by decide +kernel
theorem dX7_flow_10 : decode cX7_flow 10 = .ok (.iconst 1, 1) := by decide +kernel
theorem dX7_flow_11 : decode cX7_flow 11 = .ok (.invokestatic 75, 3) := by decide +kernel
theorem dX7_flow_14 : decode cX7_flow 14 = .ok (.ifCond .ne 7, 3) := by decide +kernel
theorem dX7_flow_17 : decode cX7_flow 17 = .ok (.ldc2_w 234, 3) := by decide +kernel
theorem dX7_flow_20 : decode cX7_flow 20 = .ok (.lreturn, 1) := by decide +kernel
theorem dX7_flow_21 : decode cX7_flow 21 = .ok (.aload_n 0, 1) := by decide +kernel
theorem dX7_flow_22 : decode cX7_flow 22 = .ok (.getfield 22, 3) := by decide +kernel
theorem dX7_flow_25 : decode cX7_flow 25 = .ok (.aload_n 0, 1) := by decide +kernel
theorem dX7_flow_26 : decode cX7_flow 26 = .ok (.getfield 10, 3) := by decide +kernel
theorem dX7_flow_29 : decode cX7_flow 29 = .ok (.invokevirtual 191, 3) := by decide +kernel
theorem dX7_flow_32 : decode cX7_flow 32 = .ok (.aload_n 0, 1) := by decide +kernel
theorem dX7_flow_33 : decode cX7_flow 33 = .ok (.getfield 22, 3) := by decide +kernel
theorem dX7_flow_36 : decode cX7_flow 36 = .ok (.invokevirtual 195, 3) := by decide +kernel
theorem dX7_flow_39 : decode cX7_flow 39 = .ok (.ifCond .eq 7, 3) := by decide +kernel
theorem dX7_flow_42 : decode cX7_flow 42 = .ok (.ldc2_w 234, 3) := by decide +kernel
theorem dX7_flow_45 : decode cX7_flow 45 = .ok (.lreturn, 1) := by decide +kernel
theorem dX7_flow_46 : decode cX7_flow 46 = .ok (.aload_n 0, 1) := by decide +kernel
theorem dX7_flow_47 : decode cX7_flow 47 = .ok (.getfield 10, 3) := by decide +kernel
theorem dX7_flow_50 : decode cX7_flow 50 = .ok (.getfield 153, 3) := by decide +kernel
theorem dX7_flow_53 : decode cX7_flow 53 = .ok (.iload_n 1, 1) := by decide +kernel
theorem dX7_flow_54 : decode cX7_flow 54 = .ok (.aaload, 1) := by decide +kernel
theorem dX7_flow_55 : decode cX7_flow 55 = .ok (.astore_n 3, 1) := by decide +kernel
theorem dX7_flow_56 : decode cX7_flow 56 = .ok (.aload_n 3, 1) := by decide +kernel
theorem dX7_flow_57 : decode cX7_flow 57 = .ok (.iconst 3, 1) := by decide +kernel
theorem dX7_flow_58 : decode cX7_flow 58 = .ok (.iaload, 1) := by decide +kernel
theorem dX7_flow_59 : decode cX7_flow 59 = .ok (.ifCond .ne 10, 3) := by decide +kernel
theorem dX7_flow_62 : decode cX7_flow 62 = .ok (.lconst 0, 1) := by decide +kernel
theorem dX7_flow_63 : decode cX7_flow 63 = .ok (.lconst 1, 1) := by decide +kernel
theorem dX7_flow_64 : decode cX7_flow 64 = .ok (.iload_n 2, 1) := by decide +kernel
theorem dX7_flow_65 : decode cX7_flow 65 = .ok (.invokestatic 228, 3) := by decide +kernel
theorem dX7_flow_68 : decode cX7_flow 68 = .ok (.lreturn, 1) := by decide +kernel
theorem dX7_flow_69 : decode cX7_flow 69 = .ok (.aload_n 0, 1) := by decide +kernel
theorem dX7_flow_70 : decode cX7_flow 70 = .ok (.getfield 22, 3) := by decide +kernel
theorem dX7_flow_73 : decode cX7_flow 73 = .ok (.aload_n 3, 1) := by decide +kernel
theorem dX7_flow_74 : decode cX7_flow 74 = .ok (.iconst 0, 1) := by decide +kernel
theorem dX7_flow_75 : decode cX7_flow 75 = .ok (.iaload, 1) := by decide +kernel
theorem dX7_flow_76 : decode cX7_flow 76 = .ok (.invokevirtual 215, 3) := by decide +kernel
theorem dX7_flow_79 : decode cX7_flow 79 = .ok (.ifCond .eq 7, 3) := by decide +kernel
theorem dX7_flow_82 : decode cX7_flow 82 = .ok (.ldc2_w 234, 3) := by decide +kernel
theorem dX7_flow_85 : decode cX7_flow 85 = .ok (.lreturn, 1) := by decide +kernel
theorem dX7_flow_86 : decode cX7_flow 86 = .ok (.aload_n 0, 1) := by decide +kernel
theorem dX7_flow_87 : decode cX7_flow 87 = .ok (.getfield 22, 3) := by decide +kernel
theorem dX7_flow_90 : decode cX7_flow 90 = .ok (.getfield 220, 3) := by decide +kernel
theorem dX7_flow_93 : decode cX7_flow 93 = .ok (.aload_n 3, 1) := by decide +kernel
theorem dX7_flow_94 : decode cX7_flow 94 = .ok (.iconst 0, 1) := by decide +kernel
theorem dX7_flow_95 : decode cX7_flow 95 = .ok (.iaload, 1) := by decide +kernel
theorem dX7_flow_96 : decode cX7_flow 96 = .ok (.laload, 1) := by decide +kernel
theorem dX7_flow_97 : decode cX7_flow 97 = .ok (.aload_n 0, 1) := by decide +kernel
theorem dX7_flow_98 : decode cX7_flow 98 = .ok (.getfield 22, 3) := by decide +kernel
theorem dX7_flow_101 : decode cX7_flow 101 = .ok (.getfield 220, 3) := by decide +kernel
theorem dX7_flow_104 : decode cX7_flow 104 = .ok (.aload_n 3, 1) := by decide +kernel
theorem dX7_flow_105 : decode cX7_flow 105 = .ok (.iconst 1, 1) := by decide +kernel
theorem dX7_flow_106 : decode cX7_flow 106 = .ok (.iaload, 1) := by decide +kernel
theorem dX7_flow_107 : decode cX7_flow 107 = .ok (.laload, 1) := by decide +kernel
theorem dX7_flow_108 : decode cX7_flow 108 = .ok (.lsub, 1) := by decide +kernel
theorem dX7_flow_109 : decode cX7_flow 109 = .ok (.lstore 4, 2) := by decide +kernel
theorem dX7_flow_111 : decode cX7_flow 111 = .ok (.aload_n 3, 1) := by decide +kernel
theorem dX7_flow_112 : decode cX7_flow 112 = .ok (.iconst 2, 1) := by decide +kernel
theorem dX7_flow_113 : decode cX7_flow 113 = .ok (.iaload, 1) := by decide +kernel
theorem dX7_flow_114 : decode cX7_flow 114 = .ok (.i2l, 1) := by decide +kernel
theorem dX7_flow_115 : decode cX7_flow 115 = .ok (.lload 4, 2) := by decide +kernel
theorem dX7_flow_117 : decode cX7_flow 117 = .ok (.lmul, 1) := by decide +kernel
theorem dX7_flow_118 : decode cX7_flow 118 = .ok (.aload_n 0, 1) := by decide +kernel
theorem dX7_flow_119 : decode cX7_flow 119 = .ok (.getfield 22, 3) := by decide +kernel
theorem dX7_flow_122 : decode cX7_flow 122 = .ok (.getfield 224, 3) := by decide +kernel
theorem dX7_flow_125 : decode cX7_flow 125 = .ok (.iload_n 2, 1) := by decide +kernel
theorem dX7_flow_126 : decode cX7_flow 126 = .ok (.invokestatic 228, 3) := by decide +kernel
theorem dX7_flow_129 : decode cX7_flow 129 = .ok (.lreturn, 1) := by decide +kernel
noncomputable def EX7_flow : Sx := (sseq (sif (bor (bnot (bz cne (cvz 6 DX7_isTube (rl 0) (ai (il 1) anil)))) (bnot (bz cne (csz DX7_within (ai (il 2) (ai (ik 0) (ai (ik 1) anil))))))) (sretj (jk (-2147483648))) snop) (sseq (scv 0 DX0_solve (fgr 6 2 (rl 0)) (ar (fgr 6 0 (rl 0)) anil)) (sseq (sif (bz cne (cvz 0 DX0_hunts (fgr 6 2 (rl 0)) anil)) (sretj (jk (-2147483648))) snop) (sseq (ssr 3 (rald 12 (fgr 1 10 (fgr 6 0 (rl 0))) (il 1))) (sseq (sif (bz ceq (iald (rl 3) (ik 3))) (sretj (csj DX2_term (aj (jk 0) (aj (jk 1) (ai (il 2) anil))))) snop) (sseq (sif (bz cne (cvz 0 DX0_isEndless (fgr 6 2 (rl 0)) (ai (iald (rl 3) (ik 0)) anil))) (sretj (jk (-2147483648))) snop) (sseq (ssj 4 (j2 (· - ·) (jald (fgr 0 10 (fgr 6 2 (rl 0))) (iald (rl 3) (ik 0))) (jald (fgr 0 10 (fgr 6 2 (rl 0))) (iald (rl 3) (ik 1))))) (sretj (csj DX2_term (aj (j2 (· * ·) (i2l (iald (rl 3) (ik 2))) (jl 4)) (aj (fgj 0 11 (fgr 6 2 (rl 0))) (ai (il 2) anil))))))))))))
noncomputable def DX7_flow : Fj := mfj 6 EX7_flow
set_option maxRecDepth 4000 in
theorem BX7_flow : Vs RX7 cX7_flow 6 (rmk 4 106) 0 0 EX7_flow := (v_seq (v_if (v_or (v_not (v_zne_f (v_cvz kX7 IX7_isTube hX7_isTube lk491 ⟨by decide, by decide⟩ (by decide) (v_aload_n (i := 0) dX7_flow_0 rfl (rfl : 0 + 1 = 1)) (v_ai (v_iload_n (i := 1) dX7_flow_1 rfl (rfl : 1 + 1 = 2)) v_anil) dX7_flow_2 (rfl : 2 + 3 = 5)) dX7_flow_5 (rfl : ((5 : Nat) : Int) + 12 = ((17 : Nat) : Int)) (rfl : 5 + 3 = 8))) (v_not (v_zne_t (v_csz IX7_within hX7_within lk392 ⟨by decide, by decide⟩ (by decide) (v_ai (v_iload_n (i := 2) dX7_flow_8 rfl (rfl : 8 + 1 = 9)) (v_ai (v_iconst (v := 0) dX7_flow_9 (by decide) (rfl : 9 + 1 = 10)) (v_ai (v_iconst (v := 1) dX7_flow_10 (by decide) (rfl : 10 + 1 = 11)) v_anil))) dX7_flow_11 (rfl : 11 + 3 = 14)) dX7_flow_14 (rfl : ((14 : Nat) : Int) + 7 = ((21 : Nat) : Int)) (rfl : 14 + 3 = 17)))) (v_retj (v_ldc2 (v := (-2147483648)) lk751 dX7_flow_17 (rfl : 17 + 3 = 20)) dX7_flow_20) v_nop) (v_seq (v_scv kX0 IX0_solve hX0_solve lk701 ⟨by decide, by decide⟩ (v_gfr kX7 lk353 (by decide) rfl (v_aload_n (i := 0) dX7_flow_21 rfl (rfl : 21 + 1 = 22)) dX7_flow_22 (rfl : 22 + 3 = 25)) (v_ar (v_gfr kX7 lk351 (by decide) rfl (v_aload_n (i := 0) dX7_flow_25 rfl (rfl : 25 + 1 = 26)) dX7_flow_26 (rfl : 26 + 3 = 29)) v_anil) dX7_flow_29 (rfl : 29 + 3 = 32)) (v_seq (v_if (v_zne_f (v_cvz kX0 IX0_hunts hX0_hunts lk702 ⟨by decide, by decide⟩ (by decide) (v_gfr kX7 lk353 (by decide) rfl (v_aload_n (i := 0) dX7_flow_32 rfl (rfl : 32 + 1 = 33)) dX7_flow_33 (rfl : 33 + 3 = 36)) v_anil dX7_flow_36 (rfl : 36 + 3 = 39)) dX7_flow_39 (rfl : ((39 : Nat) : Int) + 7 = ((46 : Nat) : Int)) (rfl : 39 + 3 = 42)) (v_retj (v_ldc2 (v := (-2147483648)) lk751 dX7_flow_42 (rfl : 42 + 3 = 45)) dX7_flow_45) v_nop) (v_seq (v_astore_n (i := 3) (v_rald (q := 12) (t0 := 4) (ty0 := .array .int) ⟨by decide, by decide⟩ (fun _ => rfl) rfl (v_gfr kX1 lk156 (by decide) rfl (v_gfr kX7 lk351 (by decide) rfl (v_aload_n (i := 0) dX7_flow_46 rfl (rfl : 46 + 1 = 47)) dX7_flow_47 (rfl : 47 + 3 = 50)) dX7_flow_50 (rfl : 50 + 3 = 53)) (v_iload_n (i := 1) dX7_flow_53 rfl (rfl : 53 + 1 = 54)) dX7_flow_54 (rfl : 54 + 1 = 55)) dX7_flow_55 rfl (by decide) (rfl : 55 + 1 = 56)) (v_seq (v_if (v_zeq_f (v_iald (v_aload_n (i := 3) dX7_flow_56 rfl (rfl : 56 + 1 = 57)) (v_iconst (v := 3) dX7_flow_57 (by decide) (rfl : 57 + 1 = 58)) dX7_flow_58 (rfl : 58 + 1 = 59)) dX7_flow_59 (rfl : ((59 : Nat) : Int) + 10 = ((69 : Nat) : Int)) (rfl : 59 + 3 = 62)) (v_retj (v_csj IX2_term hX2_term lk733 ⟨by decide, by decide⟩ (by decide) (v_aj (v_lconst (v := 0) dX7_flow_62 (by decide) (rfl : 62 + 1 = 63)) (v_aj (v_lconst (v := 1) dX7_flow_63 (by decide) (rfl : 63 + 1 = 64)) (v_ai (v_iload_n (i := 2) dX7_flow_64 rfl (rfl : 64 + 1 = 65)) v_anil))) dX7_flow_65 (rfl : 65 + 3 = 68)) dX7_flow_68) v_nop) (v_seq (v_if (v_zne_f (v_cvz kX0 IX0_isEndless hX0_isEndless lk731 ⟨by decide, by decide⟩ (by decide) (v_gfr kX7 lk353 (by decide) rfl (v_aload_n (i := 0) dX7_flow_69 rfl (rfl : 69 + 1 = 70)) dX7_flow_70 (rfl : 70 + 3 = 73)) (v_ai (v_iald (v_aload_n (i := 3) dX7_flow_73 rfl (rfl : 73 + 1 = 74)) (v_iconst (v := 0) dX7_flow_74 (by decide) (rfl : 74 + 1 = 75)) dX7_flow_75 (rfl : 75 + 1 = 76)) v_anil) dX7_flow_76 (rfl : 76 + 3 = 79)) dX7_flow_79 (rfl : ((79 : Nat) : Int) + 7 = ((86 : Nat) : Int)) (rfl : 79 + 3 = 82)) (v_retj (v_ldc2 (v := (-2147483648)) lk751 dX7_flow_82 (rfl : 82 + 3 = 85)) dX7_flow_85) v_nop) (v_seq (v_lstore (i := 4) (v_lsub (v_jald (v_gfr kX0 lk217 (by decide) rfl (v_gfr kX7 lk353 (by decide) rfl (v_aload_n (i := 0) dX7_flow_86 rfl (rfl : 86 + 1 = 87)) dX7_flow_87 (rfl : 87 + 3 = 90)) dX7_flow_90 (rfl : 90 + 3 = 93)) (v_iald (v_aload_n (i := 3) dX7_flow_93 rfl (rfl : 93 + 1 = 94)) (v_iconst (v := 0) dX7_flow_94 (by decide) (rfl : 94 + 1 = 95)) dX7_flow_95 (rfl : 95 + 1 = 96)) dX7_flow_96 (rfl : 96 + 1 = 97)) (v_jald (v_gfr kX0 lk217 (by decide) rfl (v_gfr kX7 lk353 (by decide) rfl (v_aload_n (i := 0) dX7_flow_97 rfl (rfl : 97 + 1 = 98)) dX7_flow_98 (rfl : 98 + 3 = 101)) dX7_flow_101 (rfl : 101 + 3 = 104)) (v_iald (v_aload_n (i := 3) dX7_flow_104 rfl (rfl : 104 + 1 = 105)) (v_iconst (v := 1) dX7_flow_105 (by decide) (rfl : 105 + 1 = 106)) dX7_flow_106 (rfl : 106 + 1 = 107)) dX7_flow_107 (rfl : 107 + 1 = 108)) dX7_flow_108 (rfl : 108 + 1 = 109)) dX7_flow_109 (by decide) (rfl : 109 + 2 = 111)) (v_retj (v_csj IX2_term hX2_term lk733 ⟨by decide, by decide⟩ (by decide) (v_aj (v_lmul (v_i2l (v_iald (v_aload_n (i := 3) dX7_flow_111 rfl (rfl : 111 + 1 = 112)) (v_iconst (v := 2) dX7_flow_112 (by decide) (rfl : 112 + 1 = 113)) dX7_flow_113 (rfl : 113 + 1 = 114)) dX7_flow_114 (rfl : 114 + 1 = 115)) (v_lload (i := 4) dX7_flow_115 (rfl : 115 + 2 = 117)) dX7_flow_117 (rfl : 117 + 1 = 118)) (v_aj (v_gfj kX0 lk219 (by decide) rfl (v_gfr kX7 lk353 (by decide) rfl (v_aload_n (i := 0) dX7_flow_118 rfl (rfl : 118 + 1 = 119)) dX7_flow_119 (rfl : 119 + 3 = 122)) dX7_flow_122 (rfl : 122 + 3 = 125)) (v_ai (v_iload_n (i := 2) dX7_flow_125 rfl (rfl : 125 + 1 = 126)) v_anil))) dX7_flow_126 (rfl : 126 + 3 = 129)) dX7_flow_129))))))))
theorem IX7_flow : Mj yX7_flow cX7_flow 6 (rmk 4 106) DX7_flow := mk_j (by decide +kernel) BX7_flow

theorem dX7_helped_0 : decode cX7_helped 0 = .ok (.aload_n 0, 1) := by decide +kernel
theorem dX7_helped_1 : decode cX7_helped 1 = .ok (.iload_n 1, 1) := by decide +kernel
theorem dX7_helped_2 : decode cX7_helped 2 = .ok (.invokevirtual 97, 3) := by decide +kernel
theorem dX7_helped_5 : decode cX7_helped 5 = .ok (.ifCond .eq 37, 3) := by decide +kernel
theorem dX7_helped_8 : decode cX7_helped 8 = .ok (.iload_n 2, 1) := by decide +kernel
theorem dX7_helped_9 : decode cX7_helped 9 = .ok (.iconst 1, 1) := by decide +kernel
theorem dX7_helped_10 : decode cX7_helped 10 = .ok (.bipush 40, 2) := by decide +kernel
theorem dX7_helped_12 : decode cX7_helped 12 = .ok (.invokestatic 75, 3) := by decide +kernel
theorem dX7_helped_15 : decode cX7_helped 15 = .ok (.ifCond .eq 27, 3) := by decide +kernel
theorem dX7_helped_18 : decode cX7_helped 18 = .ok (.aload_n 0, 1) := by decide +kernel
theorem dX7_helped_19 : decode cX7_helped 19 = .ok (.iload_n 3, 1) := by decide +kernel
theorem dX7_helped_20 : decode cX7_helped 20 = .ok (.invokevirtual 97, 3) := by decide +kernel
theorem dX7_helped_23 : decode cX7_helped 23 = .ok (.ifCond .eq 19, 3) := by decide +kernel
theorem dX7_helped_26 : decode cX7_helped 26 = .ok (.aload_n 0, 1) := by decide +kernel
theorem dX7_helped_27 : decode cX7_helped 27 = .ok (.getfield 10, 3) := by decide +kernel
theorem dX7_helped_30 : decode cX7_helped 30 = .ok (.iload_n 1, 1) := by decide +kernel
theorem dX7_helped_31 : decode cX7_helped 31 = .ok (.invokevirtual 108, 3) := by decide +kernel
theorem dX7_helped_34 : decode cX7_helped 34 = .ok (.iload_n 2, 1) := by decide +kernel
theorem dX7_helped_35 : decode cX7_helped 35 = .ok (.iadd, 1) := by decide +kernel
theorem dX7_helped_36 : decode cX7_helped 36 = .ok (.sipush 160, 3) := by decide +kernel
theorem dX7_helped_39 : decode cX7_helped 39 = .ok (.if_icmp .le 5, 3) := by decide +kernel
theorem dX7_helped_42 : decode cX7_helped 42 = .ok (.iconst (-1), 1) := by decide +kernel
theorem dX7_helped_43 : decode cX7_helped 43 = .ok (.ireturn, 1) := by decide +kernel
theorem dX7_helped_44 : decode cX7_helped 44 = .ok (.aload_n 0, 1) := by decide +kernel
theorem dX7_helped_45 : decode cX7_helped 45 = .ok (.getfield 16, 3) := by decide +kernel
theorem dX7_helped_48 : decode cX7_helped 48 = .ok (.aload_n 0, 1) := by decide +kernel
theorem dX7_helped_49 : decode cX7_helped 49 = .ok (.getfield 10, 3) := by decide +kernel
theorem dX7_helped_52 : decode cX7_helped 52 = .ok (.invokevirtual 205, 3) := by decide +kernel
theorem dX7_helped_55 : decode cX7_helped 55 = .ok (.aload_n 0, 1) := by decide +kernel
theorem dX7_helped_56 : decode cX7_helped 56 = .ok (.getfield 16, 3) := by decide +kernel
theorem dX7_helped_59 : decode cX7_helped 59 = .ok (.iload_n 1, 1) := by decide +kernel
theorem dX7_helped_60 : decode cX7_helped 60 = .ok (.iload_n 2, 1) := by decide +kernel
theorem dX7_helped_61 : decode cX7_helped 61 = .ok (.invokevirtual 291, 3) := by decide +kernel
theorem dX7_helped_64 : decode cX7_helped 64 = .ok (.aload_n 0, 1) := by decide +kernel
theorem dX7_helped_65 : decode cX7_helped 65 = .ok (.getfield 22, 3) := by decide +kernel
theorem dX7_helped_68 : decode cX7_helped 68 = .ok (.aload_n 0, 1) := by decide +kernel
theorem dX7_helped_69 : decode cX7_helped 69 = .ok (.getfield 16, 3) := by decide +kernel
theorem dX7_helped_72 : decode cX7_helped 72 = .ok (.invokevirtual 191, 3) := by decide +kernel
theorem dX7_helped_75 : decode cX7_helped 75 = .ok (.aload_n 0, 1) := by decide +kernel
theorem dX7_helped_76 : decode cX7_helped 76 = .ok (.getfield 22, 3) := by decide +kernel
theorem dX7_helped_79 : decode cX7_helped 79 = .ok (.iload_n 3, 1) := by decide +kernel
theorem dX7_helped_80 : decode cX7_helped 80 = .ok (.invokevirtual 199, 3) := by decide +kernel
theorem dX7_helped_83 : decode cX7_helped 83 = .ok (.ireturn, 1) := by decide +kernel
noncomputable def EX7_helped : Sx := (sseq (sif (bor (bor (bor (bnot (bz cne (cvz 6 DX7_isChamber (rl 0) (ai (il 1) anil)))) (bnot (bz cne (csz DX7_within (ai (il 2) (ai (ik 1) (ai (ik 40) anil))))))) (bnot (bz cne (cvz 6 DX7_isChamber (rl 0) (ai (il 3) anil))))) (bc cgt (i2 (· + ·) (cvi 1 DX1_weight (fgr 6 0 (rl 0)) (ai (il 1) anil)) (il 2)) (ik 160))) (sret (ik (-1))) snop) (sseq (scv 1 DX1_copyFrom (fgr 6 1 (rl 0)) (ar (fgr 6 0 (rl 0)) anil)) (sseq (scv 1 DX1_putHelper (fgr 6 1 (rl 0)) (ai (il 1) (ai (il 2) anil))) (sseq (scv 0 DX0_solve (fgr 6 2 (rl 0)) (ar (fgr 6 1 (rl 0)) anil)) (sret (cvi 0 DX0_gauge (fgr 6 2 (rl 0)) (ai (il 3) anil)))))))
noncomputable def DX7_helped : Fi := mfi 4 EX7_helped
set_option maxRecDepth 4000 in
theorem BX7_helped : Vs RX7 cX7_helped 4 (rmk 4 106) 0 0 EX7_helped := (v_seq (v_if (v_or (v_or (v_or (v_not (v_zne_f (v_cvz kX7 IX7_isChamber hX7_isChamber lk428 ⟨by decide, by decide⟩ (by decide) (v_aload_n (i := 0) dX7_helped_0 rfl (rfl : 0 + 1 = 1)) (v_ai (v_iload_n (i := 1) dX7_helped_1 rfl (rfl : 1 + 1 = 2)) v_anil) dX7_helped_2 (rfl : 2 + 3 = 5)) dX7_helped_5 (rfl : ((5 : Nat) : Int) + 37 = ((42 : Nat) : Int)) (rfl : 5 + 3 = 8))) (v_not (v_zne_f (v_csz IX7_within hX7_within lk392 ⟨by decide, by decide⟩ (by decide) (v_ai (v_iload_n (i := 2) dX7_helped_8 rfl (rfl : 8 + 1 = 9)) (v_ai (v_iconst (v := 1) dX7_helped_9 (by decide) (rfl : 9 + 1 = 10)) (v_ai (v_bipush (v := 40) dX7_helped_10 (by decide) (rfl : 10 + 2 = 12)) v_anil))) dX7_helped_12 (rfl : 12 + 3 = 15)) dX7_helped_15 (rfl : ((15 : Nat) : Int) + 27 = ((42 : Nat) : Int)) (rfl : 15 + 3 = 18)))) (v_not (v_zne_f (v_cvz kX7 IX7_isChamber hX7_isChamber lk428 ⟨by decide, by decide⟩ (by decide) (v_aload_n (i := 0) dX7_helped_18 rfl (rfl : 18 + 1 = 19)) (v_ai (v_iload_n (i := 3) dX7_helped_19 rfl (rfl : 19 + 1 = 20)) v_anil) dX7_helped_20 (rfl : 20 + 3 = 23)) dX7_helped_23 (rfl : ((23 : Nat) : Int) + 19 = ((42 : Nat) : Int)) (rfl : 23 + 3 = 26)))) (v_igt_f (v_iadd (v_cvi kX1 IX1_weight hX1_weight lk441 ⟨by decide, by decide⟩ (by decide) (v_gfr kX7 lk351 (by decide) rfl (v_aload_n (i := 0) dX7_helped_26 rfl (rfl : 26 + 1 = 27)) dX7_helped_27 (rfl : 27 + 3 = 30)) (v_ai (v_iload_n (i := 1) dX7_helped_30 rfl (rfl : 30 + 1 = 31)) v_anil) dX7_helped_31 (rfl : 31 + 3 = 34)) (v_iload_n (i := 2) dX7_helped_34 rfl (rfl : 34 + 1 = 35)) dX7_helped_35 (rfl : 35 + 1 = 36)) (v_sipush (v := 160) dX7_helped_36 (by decide) (rfl : 36 + 3 = 39)) dX7_helped_39 (rfl : ((39 : Nat) : Int) + 5 = ((44 : Nat) : Int)) (rfl : 39 + 3 = 42))) (v_ret (v_iconst (v := (-1)) dX7_helped_42 (by decide) (rfl : 42 + 1 = 43)) dX7_helped_43) v_nop) (v_seq (v_scv kX1 IX1_copyFrom hX1_copyFrom lk716 ⟨by decide, by decide⟩ (v_gfr kX7 lk352 (by decide) rfl (v_aload_n (i := 0) dX7_helped_44 rfl (rfl : 44 + 1 = 45)) dX7_helped_45 (rfl : 45 + 3 = 48)) (v_ar (v_gfr kX7 lk351 (by decide) rfl (v_aload_n (i := 0) dX7_helped_48 rfl (rfl : 48 + 1 = 49)) dX7_helped_49 (rfl : 49 + 3 = 52)) v_anil) dX7_helped_52 (rfl : 52 + 3 = 55)) (v_seq (v_scv kX1 IX1_putHelper hX1_putHelper lk886 ⟨by decide, by decide⟩ (v_gfr kX7 lk352 (by decide) rfl (v_aload_n (i := 0) dX7_helped_55 rfl (rfl : 55 + 1 = 56)) dX7_helped_56 (rfl : 56 + 3 = 59)) (v_ai (v_iload_n (i := 1) dX7_helped_59 rfl (rfl : 59 + 1 = 60)) (v_ai (v_iload_n (i := 2) dX7_helped_60 rfl (rfl : 60 + 1 = 61)) v_anil)) dX7_helped_61 (rfl : 61 + 3 = 64)) (v_seq (v_scv kX0 IX0_solve hX0_solve lk701 ⟨by decide, by decide⟩ (v_gfr kX7 lk353 (by decide) rfl (v_aload_n (i := 0) dX7_helped_64 rfl (rfl : 64 + 1 = 65)) dX7_helped_65 (rfl : 65 + 3 = 68)) (v_ar (v_gfr kX7 lk352 (by decide) rfl (v_aload_n (i := 0) dX7_helped_68 rfl (rfl : 68 + 1 = 69)) dX7_helped_69 (rfl : 69 + 3 = 72)) v_anil) dX7_helped_72 (rfl : 72 + 3 = 75)) (v_ret (v_cvi kX0 IX0_gauge hX0_gauge lk703 ⟨by decide, by decide⟩ (by decide) (v_gfr kX7 lk353 (by decide) rfl (v_aload_n (i := 0) dX7_helped_75 rfl (rfl : 75 + 1 = 76)) dX7_helped_76 (rfl : 76 + 3 = 79)) (v_ai (v_iload_n (i := 3) dX7_helped_79 rfl (rfl : 79 + 1 = 80)) v_anil) dX7_helped_80 (rfl : 80 + 3 = 83)) dX7_helped_83)))))
theorem IX7_helped : Mi yX7_helped cX7_helped 4 (rmk 4 106) DX7_helped := mk_i (by decide +kernel) BX7_helped

theorem dX7_hottest_0 : decode cX7_hottest 0 = .ok (.iload_n 1, 1) := by decide +kernel
theorem dX7_hottest_1 : decode cX7_hottest 1 = .ok (.ifCond .ge 5, 3) := by decide +kernel
theorem dX7_hottest_4 : decode cX7_hottest 4 = .ok (.iconst (-1), 1) := by decide +kernel
theorem dX7_hottest_5 : decode cX7_hottest 5 = .ok (.ireturn, 1) := by decide +kernel
theorem dX7_hottest_6 : decode cX7_hottest 6 = .ok (.aload_n 0, 1) := by decide +kernel
theorem dX7_hottest_7 : decode cX7_hottest 7 = .ok (.getfield 16, 3) := by decide +kernel
theorem dX7_hottest_10 : decode cX7_hottest 10 = .ok (.aload_n 0, 1) := by decide +kernel
theorem dX7_hottest_11 : decode cX7_hottest 11 = .ok (.getfield 10, 3) := by decide +kernel
theorem dX7_hottest_14 : decode cX7_hottest 14 = .ok (.invokevirtual 205, 3) := by decide +kernel
theorem dX7_hottest_17 : decode cX7_hottest 17 = .ok (.bipush 9, 2) := by decide +kernel
theorem dX7_hottest_19 : decode cX7_hottest 19 = .ok (.istore_n 2, 1) := by decide +kernel
theorem dX7_hottest_20 : decode cX7_hottest 20 = .ok (.iload_n 2, 1) := by decide +kernel
theorem dX7_hottest_21 : decode cX7_hottest 21 = .ok (.ifCond .lt 57, 3) := by decide +kernel
theorem dX7_hottest_24 : decode cX7_hottest 24 = .ok (.iconst 0, 1) := by decide +kernel
theorem dX7_hottest_25 : decode cX7_hottest 25 = .ok (.istore_n 3, 1) := by decide +kernel
theorem dX7_hottest_26 : decode cX7_hottest 26 = .ok (.iload_n 3, 1) := by decide +kernel
theorem dX7_hottest_27 : decode cX7_hottest 27 = .ok (.aload_n 0, 1) := by decide +kernel
theorem dX7_hottest_28 : decode cX7_hottest 28 = .ok (.getfield 16, 3) := by decide +kernel
theorem dX7_hottest_31 : decode cX7_hottest 31 = .ok (.getfield 83, 3) := by decide +kernel
theorem dX7_hottest_34 : decode cX7_hottest 34 = .ok (.if_icmp .ge 21, 3) := by decide +kernel
theorem dX7_hottest_37 : decode cX7_hottest 37 = .ok (.aload_n 0, 1) := by decide +kernel
theorem dX7_hottest_38 : decode cX7_hottest 38 = .ok (.getfield 16, 3) := by decide +kernel
theorem dX7_hottest_41 : decode cX7_hottest 41 = .ok (.getfield 147, 3) := by decide +kernel
theorem dX7_hottest_44 : decode cX7_hottest 44 = .ok (.iload_n 3, 1) := by decide +kernel
theorem dX7_hottest_45 : decode cX7_hottest 45 = .ok (.aaload, 1) := by decide +kernel
theorem dX7_hottest_46 : decode cX7_hottest 46 = .ok (.iconst 2, 1) := by decide +kernel
theorem dX7_hottest_47 : decode cX7_hottest 47 = .ok (.iload_n 2, 1) := by decide +kernel
theorem dX7_hottest_48 : decode cX7_hottest 48 = .ok (.iastore, 1) := by decide +kernel
theorem dX7_hottest_49 : decode cX7_hottest 49 = .ok (.iinc 3 1, 3) := by decide +kernel
theorem dX7_hottest_52 : decode cX7_hottest 52 = .ok (.goto (-26), 3) := by decide +kernel
theorem dX7_hottest_55 : decode cX7_hottest 55 = .ok (.aload_n 0, 1) := by decide +kernel
theorem dX7_hottest_56 : decode cX7_hottest 56 = .ok (.getfield 22, 3) := by decide +kernel
theorem dX7_hottest_59 : decode cX7_hottest 59 = .ok (.aload_n 0, 1) := by decide +kernel
theorem dX7_hottest_60 : decode cX7_hottest 60 = .ok (.getfield 16, 3) := by decide +kernel
theorem dX7_hottest_63 : decode cX7_hottest 63 = .ok (.iload_n 1, 1) := by decide +kernel
theorem dX7_hottest_64 : decode cX7_hottest 64 = .ok (.invokevirtual 297, 3) := by decide +kernel
theorem dX7_hottest_67 : decode cX7_hottest 67 = .ok (.ifCond .eq 5, 3) := by decide +kernel
theorem dX7_hottest_70 : decode cX7_hottest 70 = .ok (.iload_n 2, 1) := by decide +kernel
theorem dX7_hottest_71 : decode cX7_hottest 71 = .ok (.ireturn, 1) := by decide +kernel
theorem dX7_hottest_72 : decode cX7_hottest 72 = .ok (.iinc 2 (-1), 3) := by decide +kernel
theorem dX7_hottest_75 : decode cX7_hottest 75 = .ok (.goto (-55), 3) := by decide +kernel
theorem dX7_hottest_78 : decode cX7_hottest 78 = .ok (.iconst (-1), 1) := by decide +kernel
theorem dX7_hottest_79 : decode cX7_hottest 79 = .ok (.ireturn, 1) := by decide +kernel
noncomputable def qX7_hottest_1 : Bx := (bc clt (il 3) (fgi 1 0 (fgr 6 1 (rl 0))))
noncomputable def wX7_hottest_1 : Sx := (sseq (aii (rald 12 (fgr 1 9 (fgr 6 1 (rl 0))) (il 3)) (ik 2) (il 2)) (sinc 3 1))
noncomputable def qX7_hottest_2 : Bx := (bz cge (il 2))
noncomputable def wX7_hottest_2 : Sx := (sseq (sseq (scut 3 (sseq (ssi 3 (ik 0)) (swh qX7_hottest_1 wX7_hottest_1))) (sif (bz cne (cvz 0 DX0_isUnder (fgr 6 2 (rl 0)) (ar (fgr 6 1 (rl 0)) (ai (il 1) anil)))) (sret (il 2)) snop)) (sinc 2 (-1)))
noncomputable def EX7_hottest : Sx := (sseq (sif (bz clt (il 1)) (sret (ik (-1))) snop) (sseq (scv 1 DX1_copyFrom (fgr 6 1 (rl 0)) (ar (fgr 6 0 (rl 0)) anil)) (sseq (scut 2 (sseq (ssi 2 (ik 9)) (swh qX7_hottest_2 wX7_hottest_2))) (sret (ik (-1))))))
noncomputable def DX7_hottest : Fi := mfi 4 EX7_hottest
set_option maxRecDepth 4000 in
theorem BX7_hottest : Vs RX7 cX7_hottest 4 (rmk 6 152) 0 0 EX7_hottest := (v_seq (v_if (v_zlt_f (v_iload_n (i := 1) dX7_hottest_0 rfl (rfl : 0 + 1 = 1)) dX7_hottest_1 (rfl : ((1 : Nat) : Int) + 5 = ((6 : Nat) : Int)) (rfl : 1 + 3 = 4)) (v_ret (v_iconst (v := (-1)) dX7_hottest_4 (by decide) (rfl : 4 + 1 = 5)) dX7_hottest_5) v_nop) (v_seq (v_scv kX1 IX1_copyFrom hX1_copyFrom lk716 ⟨by decide, by decide⟩ (v_gfr kX7 lk352 (by decide) rfl (v_aload_n (i := 0) dX7_hottest_6 rfl (rfl : 6 + 1 = 7)) dX7_hottest_7 (rfl : 7 + 3 = 10)) (v_ar (v_gfr kX7 lk351 (by decide) rfl (v_aload_n (i := 0) dX7_hottest_10 rfl (rfl : 10 + 1 = 11)) dX7_hottest_11 (rfl : 11 + 3 = 14)) v_anil) dX7_hottest_14 (rfl : 14 + 3 = 17)) (v_seq (v_cut (n := 2) (v_seq (v_istore_n (i := 2) (v_bipush (v := 9) dX7_hottest_17 (by decide) (rfl : 17 + 2 = 19)) dX7_hottest_19 rfl (by decide) (rfl : 19 + 1 = 20)) (v_wh (v_zge_f (v_iload_n (i := 2) dX7_hottest_20 rfl (rfl : 20 + 1 = 21)) dX7_hottest_21 (rfl : ((21 : Nat) : Int) + 57 = ((78 : Nat) : Int)) (rfl : 21 + 3 = 24)) (vs_goto (v_seq (v_seq (v_cut (n := 3) (v_seq (v_istore_n (i := 3) (v_iconst (v := 0) dX7_hottest_24 (by decide) (rfl : 24 + 1 = 25)) dX7_hottest_25 rfl (by decide) (rfl : 25 + 1 = 26)) (v_wh (v_ilt_f (v_iload_n (i := 3) dX7_hottest_26 rfl (rfl : 26 + 1 = 27)) (v_gfi kX1 lk124 (by decide) rfl (v_gfr kX7 lk352 (by decide) rfl (v_aload_n (i := 0) dX7_hottest_27 rfl (rfl : 27 + 1 = 28)) dX7_hottest_28 (rfl : 28 + 3 = 31)) dX7_hottest_31 (rfl : 31 + 3 = 34)) dX7_hottest_34 (rfl : ((34 : Nat) : Int) + 21 = ((55 : Nat) : Int)) (rfl : 34 + 3 = 37)) (vs_goto (v_seq (v_aii (v_rald (q := 12) (t0 := 4) (ty0 := .array .int) ⟨by decide, by decide⟩ (fun _ => rfl) rfl (v_gfr kX1 lk153 (by decide) rfl (v_gfr kX7 lk352 (by decide) rfl (v_aload_n (i := 0) dX7_hottest_37 rfl (rfl : 37 + 1 = 38)) dX7_hottest_38 (rfl : 38 + 3 = 41)) dX7_hottest_41 (rfl : 41 + 3 = 44)) (v_iload_n (i := 3) dX7_hottest_44 rfl (rfl : 44 + 1 = 45)) dX7_hottest_45 (rfl : 45 + 1 = 46)) (v_iconst (v := 2) dX7_hottest_46 (by decide) (rfl : 46 + 1 = 47)) (v_iload_n (i := 2) dX7_hottest_47 rfl (rfl : 47 + 1 = 48)) dX7_hottest_48 (rfl : 48 + 1 = 49)) (v_iinc (v := 1) dX7_hottest_49 (by decide) (by decide) (rfl : 49 + 3 = 52))) dX7_hottest_52 (rfl : ((52 : Nat) : Int) + (-26) = ((26 : Nat) : Int)))))) (v_if (v_zne_f (v_cvz kX0 IX0_isUnder hX0_isUnder lk901 ⟨by decide, by decide⟩ (by decide) (v_gfr kX7 lk353 (by decide) rfl (v_aload_n (i := 0) dX7_hottest_55 rfl (rfl : 55 + 1 = 56)) dX7_hottest_56 (rfl : 56 + 3 = 59)) (v_ar (v_gfr kX7 lk352 (by decide) rfl (v_aload_n (i := 0) dX7_hottest_59 rfl (rfl : 59 + 1 = 60)) dX7_hottest_60 (rfl : 60 + 3 = 63)) (v_ai (v_iload_n (i := 1) dX7_hottest_63 rfl (rfl : 63 + 1 = 64)) v_anil)) dX7_hottest_64 (rfl : 64 + 3 = 67)) dX7_hottest_67 (rfl : ((67 : Nat) : Int) + 5 = ((72 : Nat) : Int)) (rfl : 67 + 3 = 70)) (v_ret (v_iload_n (i := 2) dX7_hottest_70 rfl (rfl : 70 + 1 = 71)) dX7_hottest_71) v_nop)) (v_iinc (v := (-1)) dX7_hottest_72 (by decide) (by decide) (rfl : 72 + 3 = 75))) dX7_hottest_75 (rfl : ((75 : Nat) : Int) + (-55) = ((20 : Nat) : Int)))))) (v_ret (v_iconst (v := (-1)) dX7_hottest_78 (by decide) (rfl : 78 + 1 = 79)) dX7_hottest_79))))
theorem IX7_hottest : Mi yX7_hottest cX7_hottest 4 (rmk 6 152) DX7_hottest := mk_i (by decide +kernel) BX7_hottest
