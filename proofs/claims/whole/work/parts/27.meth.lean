theorem dX8_isSo_0 : decode cX8_isSo 0 = .ok (.iload_n 1, 1) := by decide +kernel
theorem dX8_isSo_1 : decode cX8_isSo 1 = .ok (.invokestatic 171, 3) := by decide +kernel
theorem dX8_isSo_4 : decode cX8_isSo 4 = .ok (.istore_n 2, 1) := by decide +kernel
theorem dX8_isSo_5 : decode cX8_isSo 5 = .ok (.aload_n 0, 1) := by decide +kernel
theorem dX8_isSo_6 : decode cX8_isSo 6 = .ok (.getfield 13, 3) := by decide +kernel
theorem dX8_isSo_9 : decode cX8_isSo 9 = .ok (.iload_n 2, 1) := by decide +kernel
theorem dX8_isSo_10 : decode cX8_isSo 10 = .ok (.iaload, 1) := by decide +kernel
theorem dX8_isSo_11 : decode cX8_isSo 11 = .ok (.iconst 2, 1) := by decide +kernel
theorem dX8_isSo_12 : decode cX8_isSo 12 = .ok (.if_icmp .ne 26, 3) := by decide +kernel
theorem dX8_isSo_15 : decode cX8_isSo 15 = .ok (.aload_n 0, 1) := by decide +kernel
theorem dX8_isSo_16 : decode cX8_isSo 16 = .ok (.getfield 13, 3) := by decide +kernel
theorem dX8_isSo_19 : decode cX8_isSo 19 = .ok (.iconst 4, 1) := by decide +kernel
theorem dX8_isSo_20 : decode cX8_isSo 20 = .ok (.iaload, 1) := by decide +kernel
theorem dX8_isSo_21 : decode cX8_isSo 21 = .ok (.aload_n 0, 1) := by decide +kernel
theorem dX8_isSo_22 : decode cX8_isSo 22 = .ok (.getfield 13, 3) := by decide +kernel
theorem dX8_isSo_25 : decode cX8_isSo 25 = .ok (.iload_n 2, 1) := by decide +kernel
theorem dX8_isSo_26 : decode cX8_isSo 26 = .ok (.iconst 2, 1) := by decide +kernel
theorem dX8_isSo_27 : decode cX8_isSo 27 = .ok (.iadd, 1) := by decide +kernel
theorem dX8_isSo_28 : decode cX8_isSo 28 = .ok (.iaload, 1) := by decide +kernel
theorem dX8_isSo_29 : decode cX8_isSo 29 = .ok (.if_icmp .lt 7, 3) := by decide +kernel
theorem dX8_isSo_32 : decode cX8_isSo 32 = .ok (.iconst 1, 1) := by decide +kernel
theorem dX8_isSo_33 : decode cX8_isSo 33 = .ok (.goto 4, 3) := by decide +kernel
theorem dX8_isSo_36 : decode cX8_isSo 36 = .ok (.iconst 0, 1) := by decide +kernel
theorem dX8_isSo_37 : decode cX8_isSo 37 = .ok (.ireturn, 1) := by decide +kernel
theorem dX8_isSo_38 : decode cX8_isSo 38 = .ok (.aload_n 0, 1) := by decide +kernel
theorem dX8_isSo_39 : decode cX8_isSo 39 = .ok (.aload_n 0, 1) := by decide +kernel
theorem dX8_isSo_40 : decode cX8_isSo 40 = .ok (.getfield 13, 3) := by decide +kernel
theorem dX8_isSo_43 : decode cX8_isSo 43 = .ok (.iload_n 2, 1) := by decide +kernel
theorem dX8_isSo_44 : decode cX8_isSo 44 = .ok (.iconst 1, 1) := by decide +kernel
theorem dX8_isSo_45 : decode cX8_isSo 45 = .ok (.iadd, 1) := by decide +kernel
theorem dX8_isSo_46 : decode cX8_isSo 46 = .ok (.iaload, 1) := by decide +kernel
theorem dX8_isSo_47 : decode cX8_isSo 47 = .ok (.invokevirtual 109, 3) := by decide +kernel
theorem dX8_isSo_50 : decode cX8_isSo 50 = .ok (.ifCond .eq 10, 3) := by decide +kernel
theorem dX8_isSo_53 : decode cX8_isSo 53 = .ok (.aload_n 0, 1) := by decide +kernel
theorem dX8_isSo_54 : decode cX8_isSo 54 = .ok (.invokevirtual 254, 3) := by decide +kernel
theorem dX8_isSo_57 : decode cX8_isSo 57 = .ok (.ifCond .ne 5, 3) := by decide +kernel
theorem dX8_isSo_60 : decode cX8_isSo 60 = .ok (.iconst 0, 1) := by decide +kernel
theorem dX8_isSo_61 : decode cX8_isSo 61 = .ok (.ireturn, 1) := by decide +kernel
theorem dX8_isSo_62 : decode cX8_isSo 62 = .ok (.aload_n 0, 1) := by decide +kernel
theorem dX8_isSo_63 : decode cX8_isSo 63 = .ok (.aload_n 0, 1) := by decide +kernel
theorem dX8_isSo_64 : decode cX8_isSo 64 = .ok (.getfield 13, 3) := by decide +kernel
theorem dX8_isSo_67 : decode cX8_isSo 67 = .ok (.iload_n 2, 1) := by decide +kernel
theorem dX8_isSo_68 : decode cX8_isSo 68 = .ok (.iconst 1, 1) := by decide +kernel
theorem dX8_isSo_69 : decode cX8_isSo 69 = .ok (.iadd, 1) := by decide +kernel
theorem dX8_isSo_70 : decode cX8_isSo 70 = .ok (.iaload, 1) := by decide +kernel
theorem dX8_isSo_71 : decode cX8_isSo 71 = .ok (.invokevirtual 257, 3) := by decide +kernel
theorem dX8_isSo_74 : decode cX8_isSo 74 = .ok (.istore_n 3, 1) := by decide +kernel
theorem dX8_isSo_75 : decode cX8_isSo 75 = .ok (.aload_n 0, 1) := by decide +kernel
theorem dX8_isSo_76 : decode cX8_isSo 76 = .ok (.getfield 13, 3) := by decide +kernel
theorem dX8_isSo_79 : decode cX8_isSo 79 = .ok (.iload_n 2, 1) := by decide +kernel
theorem dX8_isSo_80 : decode cX8_isSo 80 = .ok (.iaload, 1) := by decide +kernel
theorem dX8_isSo_81 : decode cX8_isSo 81 = .ok (.ifCond .ne 23, 3) := by decide +kernel
theorem dX8_isSo_84 : decode cX8_isSo 84 = .ok (.iload_n 3, 1) := by decide +kernel
theorem dX8_isSo_85 : decode cX8_isSo 85 = .ok (.aload_n 0, 1) := by decide +kernel
theorem dX8_isSo_86 : decode cX8_isSo 86 = .ok (.getfield 13, 3) := by decide +kernel
theorem dX8_isSo_89 : decode cX8_isSo 89 = .ok (.iload_n 2, 1) := by decide +kernel
theorem dX8_isSo_90 : decode cX8_isSo 90 = .ok (.iconst 2, 1) := by decide +kernel
theorem dX8_isSo_91 : decode cX8_isSo 91 = .ok (.iadd, 1) := by decide +kernel
theorem dX8_isSo_92 : decode cX8_isSo 92 = .ok (.iaload, 1) := by decide +kernel
theorem dX8_isSo_93 : decode cX8_isSo 93 = .ok (.if_icmp .le 7, 3) := by decide +kernel
theorem dX8_isSo_96 : decode cX8_isSo 96 = .ok (.iconst 1, 1) := by decide +kernel
theorem dX8_isSo_97 : decode cX8_isSo 97 = .ok (.goto 24, 3) := by decide +kernel
theorem dX8_isSo_100 : decode cX8_isSo 100 = .ok (.iconst 0, 1) := by decide +kernel
theorem dX8_isSo_101 : decode cX8_isSo 101 = .ok (.goto 20, 3) := by decide +kernel
theorem dX8_isSo_104 : decode cX8_isSo 104 = .ok (.iload_n 3, 1) := by decide +kernel
theorem dX8_isSo_105 : decode cX8_isSo 105 = .ok (.aload_n 0, 1) := by decide +kernel
theorem dX8_isSo_106 : decode cX8_isSo 106 = .ok (.getfield 13, 3) := by decide +kernel
theorem dX8_isSo_109 : decode cX8_isSo 109 = .ok (.iload_n 2, 1) := by decide +kernel
theorem dX8_isSo_110 : decode cX8_isSo 110 = .ok (.iconst 2, 1) := by decide +kernel
theorem dX8_isSo_111 : decode cX8_isSo 111 = .ok (.iadd, 1) := by decide +kernel
theorem dX8_isSo_112 : decode cX8_isSo 112 = .ok (.iaload, 1) := by decide +kernel
theorem dX8_isSo_113 : decode cX8_isSo 113 = .ok (.if_icmp .ge 7, 3) := by decide +kernel
theorem dX8_isSo_116 : decode cX8_isSo 116 = .ok (.iconst 1, 1) := by decide +kernel
theorem dX8_isSo_117 : decode cX8_isSo 117 = .ok (.goto 4, 3) := by decide +kernel
theorem dX8_isSo_120 : decode cX8_isSo 120 = .ok (.iconst 0, 1) := by decide +kernel
theorem dX8_isSo_121 : decode cX8_isSo 121 = .ok (.ireturn, 1) := by decide +kernel
noncomputable def EX8_isSo : Sx := (sseq (ssi 2 (csi DX8_watchAt (ai (il 1) anil))) (sseq (sif (bc ceq (iald (fgr 7 3 (rl 0)) (il 2)) (ik 2)) (sret (ic (bc cge (iald (fgr 7 3 (rl 0)) (ik 4)) (iald (fgr 7 3 (rl 0)) (i2 (· + ·) (il 2) (ik 2)))) (ik 1) (ik 0))) snop) (sseq (sif (bor (bnot (bz cne (cvz 7 DX8_isChamber (rl 0) (ai (iald (fgr 7 3 (rl 0)) (i2 (· + ·) (il 2) (ik 1))) anil)))) (bnot (bz cne (cvz 7 DX8_reckonNow (rl 0) anil)))) (sret (ik 0)) snop) (sseq (ssi 3 (cvi 7 DX8_readingOf (rl 0) (ai (iald (fgr 7 3 (rl 0)) (i2 (· + ·) (il 2) (ik 1))) anil))) (sret (ic (bz ceq (iald (fgr 7 3 (rl 0)) (il 2))) (ic (bc cgt (il 3) (iald (fgr 7 3 (rl 0)) (i2 (· + ·) (il 2) (ik 2)))) (ik 1) (ik 0)) (ic (bc clt (il 3) (iald (fgr 7 3 (rl 0)) (i2 (· + ·) (il 2) (ik 2)))) (ik 1) (ik 0))))))))
noncomputable def DX8_isSo : Fz := mfz 4 EX8_isSo
set_option maxRecDepth 4000 in
theorem BX8_isSo : Vs RX8 cX8_isSo 4 (rmk 6 134) 0 0 EX8_isSo := (v_seq (v_istore_n (i := 2) (v_csi IX8_watchAt hX8_watchAt lk1218 ⟨by decide, by decide⟩ (by decide) (v_ai (v_iload_n (i := 1) dX8_isSo_0 rfl (rfl : 0 + 1 = 1)) v_anil) dX8_isSo_1 (rfl : 1 + 3 = 4)) dX8_isSo_4 rfl (by decide) (rfl : 4 + 1 = 5)) (v_seq (v_if (v_ieq_f (v_iald (v_gfr kX8 lk998 (by decide) rfl (v_aload_n (i := 0) dX8_isSo_5 rfl (rfl : 5 + 1 = 6)) dX8_isSo_6 (rfl : 6 + 3 = 9)) (v_iload_n (i := 2) dX8_isSo_9 rfl (rfl : 9 + 1 = 10)) dX8_isSo_10 (rfl : 10 + 1 = 11)) (v_iconst (v := 2) dX8_isSo_11 (by decide) (rfl : 11 + 1 = 12)) dX8_isSo_12 (rfl : ((12 : Nat) : Int) + 26 = ((38 : Nat) : Int)) (rfl : 12 + 3 = 15)) (v_ret (v_ic (v_ige_f (v_iald (v_gfr kX8 lk998 (by decide) rfl (v_aload_n (i := 0) dX8_isSo_15 rfl (rfl : 15 + 1 = 16)) dX8_isSo_16 (rfl : 16 + 3 = 19)) (v_iconst (v := 4) dX8_isSo_19 (by decide) (rfl : 19 + 1 = 20)) dX8_isSo_20 (rfl : 20 + 1 = 21)) (v_iald (v_gfr kX8 lk998 (by decide) rfl (v_aload_n (i := 0) dX8_isSo_21 rfl (rfl : 21 + 1 = 22)) dX8_isSo_22 (rfl : 22 + 3 = 25)) (v_iadd (v_iload_n (i := 2) dX8_isSo_25 rfl (rfl : 25 + 1 = 26)) (v_iconst (v := 2) dX8_isSo_26 (by decide) (rfl : 26 + 1 = 27)) dX8_isSo_27 (rfl : 27 + 1 = 28)) dX8_isSo_28 (rfl : 28 + 1 = 29)) dX8_isSo_29 (rfl : ((29 : Nat) : Int) + 7 = ((36 : Nat) : Int)) (rfl : 29 + 3 = 32)) (vi_goto (v_iconst (v := 1) dX8_isSo_32 (by decide) (rfl : 32 + 1 = 33)) dX8_isSo_33 (rfl : ((33 : Nat) : Int) + 4 = ((37 : Nat) : Int))) (v_iconst (v := 0) dX8_isSo_36 (by decide) (rfl : 36 + 1 = 37))) dX8_isSo_37) v_nop) (v_seq (v_if (v_or (v_not (v_zne_f (v_cvz kX8 IX8_isChamber hX8_isChamber lk1145 ⟨by decide, by decide⟩ (by decide) (v_aload_n (i := 0) dX8_isSo_38 rfl (rfl : 38 + 1 = 39)) (v_ai (v_iald (v_gfr kX8 lk998 (by decide) rfl (v_aload_n (i := 0) dX8_isSo_39 rfl (rfl : 39 + 1 = 40)) dX8_isSo_40 (rfl : 40 + 3 = 43)) (v_iadd (v_iload_n (i := 2) dX8_isSo_43 rfl (rfl : 43 + 1 = 44)) (v_iconst (v := 1) dX8_isSo_44 (by decide) (rfl : 44 + 1 = 45)) dX8_isSo_45 (rfl : 45 + 1 = 46)) dX8_isSo_46 (rfl : 46 + 1 = 47)) v_anil) dX8_isSo_47 (rfl : 47 + 3 = 50)) dX8_isSo_50 (rfl : ((50 : Nat) : Int) + 10 = ((60 : Nat) : Int)) (rfl : 50 + 3 = 53))) (v_not (v_zne_t (v_cvz kX8 IX8_reckonNow hX8_reckonNow lk1241 ⟨by decide, by decide⟩ (by decide) (v_aload_n (i := 0) dX8_isSo_53 rfl (rfl : 53 + 1 = 54)) v_anil dX8_isSo_54 (rfl : 54 + 3 = 57)) dX8_isSo_57 (rfl : ((57 : Nat) : Int) + 5 = ((62 : Nat) : Int)) (rfl : 57 + 3 = 60)))) (v_ret (v_iconst (v := 0) dX8_isSo_60 (by decide) (rfl : 60 + 1 = 61)) dX8_isSo_61) v_nop) (v_seq (v_istore_n (i := 3) (v_cvi kX8 IX8_readingOf hX8_readingOf lk1309 ⟨by decide, by decide⟩ (by decide) (v_aload_n (i := 0) dX8_isSo_62 rfl (rfl : 62 + 1 = 63)) (v_ai (v_iald (v_gfr kX8 lk998 (by decide) rfl (v_aload_n (i := 0) dX8_isSo_63 rfl (rfl : 63 + 1 = 64)) dX8_isSo_64 (rfl : 64 + 3 = 67)) (v_iadd (v_iload_n (i := 2) dX8_isSo_67 rfl (rfl : 67 + 1 = 68)) (v_iconst (v := 1) dX8_isSo_68 (by decide) (rfl : 68 + 1 = 69)) dX8_isSo_69 (rfl : 69 + 1 = 70)) dX8_isSo_70 (rfl : 70 + 1 = 71)) v_anil) dX8_isSo_71 (rfl : 71 + 3 = 74)) dX8_isSo_74 rfl (by decide) (rfl : 74 + 1 = 75)) (v_ret (v_ic (v_zeq_f (v_iald (v_gfr kX8 lk998 (by decide) rfl (v_aload_n (i := 0) dX8_isSo_75 rfl (rfl : 75 + 1 = 76)) dX8_isSo_76 (rfl : 76 + 3 = 79)) (v_iload_n (i := 2) dX8_isSo_79 rfl (rfl : 79 + 1 = 80)) dX8_isSo_80 (rfl : 80 + 1 = 81)) dX8_isSo_81 (rfl : ((81 : Nat) : Int) + 23 = ((104 : Nat) : Int)) (rfl : 81 + 3 = 84)) (v_ic (v_igt_f (v_iload_n (i := 3) dX8_isSo_84 rfl (rfl : 84 + 1 = 85)) (v_iald (v_gfr kX8 lk998 (by decide) rfl (v_aload_n (i := 0) dX8_isSo_85 rfl (rfl : 85 + 1 = 86)) dX8_isSo_86 (rfl : 86 + 3 = 89)) (v_iadd (v_iload_n (i := 2) dX8_isSo_89 rfl (rfl : 89 + 1 = 90)) (v_iconst (v := 2) dX8_isSo_90 (by decide) (rfl : 90 + 1 = 91)) dX8_isSo_91 (rfl : 91 + 1 = 92)) dX8_isSo_92 (rfl : 92 + 1 = 93)) dX8_isSo_93 (rfl : ((93 : Nat) : Int) + 7 = ((100 : Nat) : Int)) (rfl : 93 + 3 = 96)) (vi_goto (v_iconst (v := 1) dX8_isSo_96 (by decide) (rfl : 96 + 1 = 97)) dX8_isSo_97 (rfl : ((97 : Nat) : Int) + 24 = ((121 : Nat) : Int))) (vi_goto (v_iconst (v := 0) dX8_isSo_100 (by decide) (rfl : 100 + 1 = 101)) dX8_isSo_101 (rfl : ((101 : Nat) : Int) + 20 = ((121 : Nat) : Int)))) (v_ic (v_ilt_f (v_iload_n (i := 3) dX8_isSo_104 rfl (rfl : 104 + 1 = 105)) (v_iald (v_gfr kX8 lk998 (by decide) rfl (v_aload_n (i := 0) dX8_isSo_105 rfl (rfl : 105 + 1 = 106)) dX8_isSo_106 (rfl : 106 + 3 = 109)) (v_iadd (v_iload_n (i := 2) dX8_isSo_109 rfl (rfl : 109 + 1 = 110)) (v_iconst (v := 2) dX8_isSo_110 (by decide) (rfl : 110 + 1 = 111)) dX8_isSo_111 (rfl : 111 + 1 = 112)) dX8_isSo_112 (rfl : 112 + 1 = 113)) dX8_isSo_113 (rfl : ((113 : Nat) : Int) + 7 = ((120 : Nat) : Int)) (rfl : 113 + 3 = 116)) (vi_goto (v_iconst (v := 1) dX8_isSo_116 (by decide) (rfl : 116 + 1 = 117)) dX8_isSo_117 (rfl : ((117 : Nat) : Int) + 4 = ((121 : Nat) : Int))) (v_iconst (v := 0) dX8_isSo_120 (by decide) (rfl : 120 + 1 = 121)))) dX8_isSo_121)))))
theorem IX8_isSo : Mz yX8_isSo cX8_isSo 4 (rmk 6 134) DX8_isSo := mk_z (by decide +kernel) BX8_isSo

theorem dX8_joinsSame_0 : decode cX8_joinsSame 0 = .ok (.aload_n 0, 1) := by decide +kernel
theorem dX8_joinsSame_1 : decode cX8_joinsSame 1 = .ok (.getfield 63, 3) := by decide +kernel
theorem dX8_joinsSame_4 : decode cX8_joinsSame 4 = .ok (.iload_n 1, 1) := by decide +kernel
theorem dX8_joinsSame_5 : decode cX8_joinsSame 5 = .ok (.iaload, 1) := by decide +kernel
theorem dX8_joinsSame_6 : decode cX8_joinsSame 6 = .ok (.aload_n 0, 1) := by decide +kernel
theorem dX8_joinsSame_7 : decode cX8_joinsSame 7 = .ok (.getfield 63, 3) := by decide +kernel
theorem dX8_joinsSame_10 : decode cX8_joinsSame 10 = .ok (.iload_n 2, 1) := by decide +kernel
theorem dX8_joinsSame_11 : decode cX8_joinsSame 11 = .ok (.iaload, 1) := by decide +kernel
theorem dX8_joinsSame_12 : decode cX8_joinsSame 12 = .ok (.if_icmp .ne 18, 3) := by decide +kernel
theorem dX8_joinsSame_15 : decode cX8_joinsSame 15 = .ok (.aload_n 0, 1) := by decide +kernel
theorem dX8_joinsSame_16 : decode cX8_joinsSame 16 = .ok (.getfield 66, 3) := by decide +kernel
theorem dX8_joinsSame_19 : decode cX8_joinsSame 19 = .ok (.iload_n 1, 1) := by decide +kernel
theorem dX8_joinsSame_20 : decode cX8_joinsSame 20 = .ok (.iaload, 1) := by decide +kernel
theorem dX8_joinsSame_21 : decode cX8_joinsSame 21 = .ok (.aload_n 0, 1) := by decide +kernel
theorem dX8_joinsSame_22 : decode cX8_joinsSame 22 = .ok (.getfield 66, 3) := by decide +kernel
theorem dX8_joinsSame_25 : decode cX8_joinsSame 25 = .ok (.iload_n 2, 1) := by decide +kernel
theorem dX8_joinsSame_26 : decode cX8_joinsSame 26 = .ok (.iaload, 1) := by decide +kernel
theorem dX8_joinsSame_27 : decode cX8_joinsSame 27 = .ok (.if_icmp .eq 33, 3) := by decide +kernel
theorem dX8_joinsSame_30 : decode cX8_joinsSame 30 = .ok (.aload_n 0, 1) := by decide +kernel
theorem dX8_joinsSame_31 : decode cX8_joinsSame 31 = .ok (.getfield 63, 3) := by decide +kernel
theorem dX8_joinsSame_34 : decode cX8_joinsSame 34 = .ok (.iload_n 1, 1) := by decide +kernel
theorem dX8_joinsSame_35 : decode cX8_joinsSame 35 = .ok (.iaload, 1) := by decide +kernel
theorem dX8_joinsSame_36 : decode cX8_joinsSame 36 = .ok (.aload_n 0, 1) := by decide +kernel
theorem dX8_joinsSame_37 : decode cX8_joinsSame 37 = .ok (.getfield 66, 3) := by decide +kernel
theorem dX8_joinsSame_40 : decode cX8_joinsSame 40 = .ok (.iload_n 2, 1) := by decide +kernel
theorem dX8_joinsSame_41 : decode cX8_joinsSame 41 = .ok (.iaload, 1) := by decide +kernel
theorem dX8_joinsSame_42 : decode cX8_joinsSame 42 = .ok (.if_icmp .ne 22, 3) := by decide +kernel
theorem dX8_joinsSame_45 : decode cX8_joinsSame 45 = .ok (.aload_n 0, 1) := by decide +kernel
theorem dX8_joinsSame_46 : decode cX8_joinsSame 46 = .ok (.getfield 66, 3) := by decide +kernel
theorem dX8_joinsSame_49 : decode cX8_joinsSame 49 = .ok (.iload_n 1, 1) := by decide +kernel
theorem dX8_joinsSame_50 : decode cX8_joinsSame 50 = .ok (.iaload, 1) := by decide +kernel
theorem dX8_joinsSame_51 : decode cX8_joinsSame 51 = .ok (.aload_n 0, 1) := by decide +kernel
theorem dX8_joinsSame_52 : decode cX8_joinsSame 52 = .ok (.getfield 63, 3) := by decide +kernel
theorem dX8_joinsSame_55 : decode cX8_joinsSame 55 = .ok (.iload_n 2, 1) := by decide +kernel
theorem dX8_joinsSame_56 : decode cX8_joinsSame 56 = .ok (.iaload, 1) := by decide +kernel
theorem dX8_joinsSame_57 : decode cX8_joinsSame 57 = .ok (.if_icmp .ne 7, 3) := by decide +kernel
theorem dX8_joinsSame_60 : decode cX8_joinsSame 60 = .ok (.iconst 1, 1) := by decide +kernel
theorem dX8_joinsSame_61 : decode cX8_joinsSame 61 = .ok (.goto 4, 3) := by decide +kernel
theorem dX8_joinsSame_64 : decode cX8_joinsSame 64 = .ok (.iconst 0, 1) := by decide +kernel
theorem dX8_joinsSame_65 : decode cX8_joinsSame 65 = .ok (.ireturn, 1) := by decide +kernel
noncomputable def EX8_joinsSame : Sx := (sret (ic (bor (band (bc ceq (iald (fgr 7 27 (rl 0)) (il 1)) (iald (fgr 7 27 (rl 0)) (il 2))) (bc ceq (iald (fgr 7 28 (rl 0)) (il 1)) (iald (fgr 7 28 (rl 0)) (il 2)))) (band (bc ceq (iald (fgr 7 27 (rl 0)) (il 1)) (iald (fgr 7 28 (rl 0)) (il 2))) (bc ceq (iald (fgr 7 28 (rl 0)) (il 1)) (iald (fgr 7 27 (rl 0)) (il 2))))) (ik 1) (ik 0)))
noncomputable def DX8_joinsSame : Fz := mfz 3 EX8_joinsSame
set_option maxRecDepth 4000 in
theorem BX8_joinsSame : Vs RX8 cX8_joinsSame 3 (rmk 0 0) 0 0 EX8_joinsSame := (v_ret (v_ic (v_or (v_and (v_ieq_f (v_iald (v_gfr kX8 lk1022 (by decide) rfl (v_aload_n (i := 0) dX8_joinsSame_0 rfl (rfl : 0 + 1 = 1)) dX8_joinsSame_1 (rfl : 1 + 3 = 4)) (v_iload_n (i := 1) dX8_joinsSame_4 rfl (rfl : 4 + 1 = 5)) dX8_joinsSame_5 (rfl : 5 + 1 = 6)) (v_iald (v_gfr kX8 lk1022 (by decide) rfl (v_aload_n (i := 0) dX8_joinsSame_6 rfl (rfl : 6 + 1 = 7)) dX8_joinsSame_7 (rfl : 7 + 3 = 10)) (v_iload_n (i := 2) dX8_joinsSame_10 rfl (rfl : 10 + 1 = 11)) dX8_joinsSame_11 (rfl : 11 + 1 = 12)) dX8_joinsSame_12 (rfl : ((12 : Nat) : Int) + 18 = ((30 : Nat) : Int)) (rfl : 12 + 3 = 15)) (v_ieq_t (v_iald (v_gfr kX8 lk1023 (by decide) rfl (v_aload_n (i := 0) dX8_joinsSame_15 rfl (rfl : 15 + 1 = 16)) dX8_joinsSame_16 (rfl : 16 + 3 = 19)) (v_iload_n (i := 1) dX8_joinsSame_19 rfl (rfl : 19 + 1 = 20)) dX8_joinsSame_20 (rfl : 20 + 1 = 21)) (v_iald (v_gfr kX8 lk1023 (by decide) rfl (v_aload_n (i := 0) dX8_joinsSame_21 rfl (rfl : 21 + 1 = 22)) dX8_joinsSame_22 (rfl : 22 + 3 = 25)) (v_iload_n (i := 2) dX8_joinsSame_25 rfl (rfl : 25 + 1 = 26)) dX8_joinsSame_26 (rfl : 26 + 1 = 27)) dX8_joinsSame_27 (rfl : ((27 : Nat) : Int) + 33 = ((60 : Nat) : Int)) (rfl : 27 + 3 = 30))) (v_and (v_ieq_f (v_iald (v_gfr kX8 lk1022 (by decide) rfl (v_aload_n (i := 0) dX8_joinsSame_30 rfl (rfl : 30 + 1 = 31)) dX8_joinsSame_31 (rfl : 31 + 3 = 34)) (v_iload_n (i := 1) dX8_joinsSame_34 rfl (rfl : 34 + 1 = 35)) dX8_joinsSame_35 (rfl : 35 + 1 = 36)) (v_iald (v_gfr kX8 lk1023 (by decide) rfl (v_aload_n (i := 0) dX8_joinsSame_36 rfl (rfl : 36 + 1 = 37)) dX8_joinsSame_37 (rfl : 37 + 3 = 40)) (v_iload_n (i := 2) dX8_joinsSame_40 rfl (rfl : 40 + 1 = 41)) dX8_joinsSame_41 (rfl : 41 + 1 = 42)) dX8_joinsSame_42 (rfl : ((42 : Nat) : Int) + 22 = ((64 : Nat) : Int)) (rfl : 42 + 3 = 45)) (v_ieq_f (v_iald (v_gfr kX8 lk1023 (by decide) rfl (v_aload_n (i := 0) dX8_joinsSame_45 rfl (rfl : 45 + 1 = 46)) dX8_joinsSame_46 (rfl : 46 + 3 = 49)) (v_iload_n (i := 1) dX8_joinsSame_49 rfl (rfl : 49 + 1 = 50)) dX8_joinsSame_50 (rfl : 50 + 1 = 51)) (v_iald (v_gfr kX8 lk1022 (by decide) rfl (v_aload_n (i := 0) dX8_joinsSame_51 rfl (rfl : 51 + 1 = 52)) dX8_joinsSame_52 (rfl : 52 + 3 = 55)) (v_iload_n (i := 2) dX8_joinsSame_55 rfl (rfl : 55 + 1 = 56)) dX8_joinsSame_56 (rfl : 56 + 1 = 57)) dX8_joinsSame_57 (rfl : ((57 : Nat) : Int) + 7 = ((64 : Nat) : Int)) (rfl : 57 + 3 = 60)))) (vi_goto (v_iconst (v := 1) dX8_joinsSame_60 (by decide) (rfl : 60 + 1 = 61)) dX8_joinsSame_61 (rfl : ((61 : Nat) : Int) + 4 = ((65 : Nat) : Int))) (v_iconst (v := 0) dX8_joinsSame_64 (by decide) (rfl : 64 + 1 = 65))) dX8_joinsSame_65)
theorem IX8_joinsSame : Mz yX8_joinsSame cX8_joinsSame 3 (rmk 0 0) DX8_joinsSame := mk_z (by decide +kernel) BX8_joinsSame

theorem dX8_laySigns_0 : decode cX8_laySigns 0 = .ok (.aload_n 0, 1) := by decide +kernel
theorem dX8_laySigns_1 : decode cX8_laySigns 1 = .ok (.aload_n 0, 1) := by decide +kernel
theorem dX8_laySigns_2 : decode cX8_laySigns 2 = .ok (.getfield 75, 3) := by decide +kernel
theorem dX8_laySigns_5 : decode cX8_laySigns 5 = .ok (.iload_n 1, 1) := by decide +kernel
theorem dX8_laySigns_6 : decode cX8_laySigns 6 = .ok (.iaload, 1) := by decide +kernel
theorem dX8_laySigns_7 : decode cX8_laySigns 7 = .ok (.aload_n 0, 1) := by decide +kernel
theorem dX8_laySigns_8 : decode cX8_laySigns 8 = .ok (.getfield 78, 3) := by decide +kernel
theorem dX8_laySigns_11 : decode cX8_laySigns 11 = .ok (.iload_n 1, 1) := by decide +kernel
theorem dX8_laySigns_12 : decode cX8_laySigns 12 = .ok (.iaload, 1) := by decide +kernel
theorem dX8_laySigns_13 : decode cX8_laySigns 13 = .ok (.invokevirtual 323, 3) := by decide +kernel
theorem dX8_laySigns_16 : decode cX8_laySigns 16 = .ok (.istore_n 2, 1) := by decide +kernel
theorem dX8_laySigns_17 : decode cX8_laySigns 17 = .ok (.aload_n 0, 1) := by decide +kernel
theorem dX8_laySigns_18 : decode cX8_laySigns 18 = .ok (.getfield 81, 3) := by decide +kernel
theorem dX8_laySigns_21 : decode cX8_laySigns 21 = .ok (.bipush 6, 2) := by decide +kernel
theorem dX8_laySigns_23 : decode cX8_laySigns 23 = .ok (.iload_n 1, 1) := by decide +kernel
theorem dX8_laySigns_24 : decode cX8_laySigns 24 = .ok (.imul, 1) := by decide +kernel
theorem dX8_laySigns_25 : decode cX8_laySigns 25 = .ok (.iload_n 2, 1) := by decide +kernel
theorem dX8_laySigns_26 : decode cX8_laySigns 26 = .ok (.ifCond .eq 7, 3) := by decide +kernel
theorem dX8_laySigns_29 : decode cX8_laySigns 29 = .ok (.iconst 1, 1) := by decide +kernel
theorem dX8_laySigns_30 : decode cX8_laySigns 30 = .ok (.goto 4, 3) := by decide +kernel
theorem dX8_laySigns_33 : decode cX8_laySigns 33 = .ok (.iconst 0, 1) := by decide +kernel
theorem dX8_laySigns_34 : decode cX8_laySigns 34 = .ok (.iastore, 1) := by decide +kernel
theorem dX8_laySigns_35 : decode cX8_laySigns 35 = .ok (.iconst 0, 1) := by decide +kernel
theorem dX8_laySigns_36 : decode cX8_laySigns 36 = .ok (.istore_n 3, 1) := by decide +kernel
theorem dX8_laySigns_37 : decode cX8_laySigns 37 = .ok (.iload_n 3, 1) := by decide +kernel
theorem dX8_laySigns_38 : decode cX8_laySigns 38 = .ok (.iconst 5, 1) := by decide +kernel
theorem dX8_laySigns_39 : decode cX8_laySigns 39 = .ok (.if_icmp .ge 71, 3) := by decide +kernel
theorem dX8_laySigns_42 : decode cX8_laySigns 42 = .ok (.iload_n 3, 1) := by decide +kernel
theorem dX8_laySigns_43 : decode cX8_laySigns 43 = .ok (.aload_n 0, 1) := by decide +kernel
theorem dX8_laySigns_44 : decode cX8_laySigns 44 = .ok (.getfield 13, 3) := by decide +kernel
theorem dX8_laySigns_47 : decode cX8_laySigns 47 = .ok (.iconst 0, 1) := by decide +kernel
theorem dX8_laySigns_48 : decode cX8_laySigns 48 = .ok (.iaload, 1) := by decide +kernel
theorem dX8_laySigns_49 : decode cX8_laySigns 49 = .ok (.if_icmp .ge 21, 3) := by decide +kernel
theorem dX8_laySigns_52 : decode cX8_laySigns 52 = .ok (.aload_n 0, 1) := by decide +kernel
theorem dX8_laySigns_53 : decode cX8_laySigns 53 = .ok (.getfield 13, 3) := by decide +kernel
theorem dX8_laySigns_56 : decode cX8_laySigns 56 = .ok (.iload_n 3, 1) := by decide +kernel
theorem dX8_laySigns_57 : decode cX8_laySigns 57 = .ok (.invokestatic 122, 3) := by decide +kernel
theorem dX8_laySigns_60 : decode cX8_laySigns 60 = .ok (.iconst 3, 1) := by decide +kernel
theorem dX8_laySigns_61 : decode cX8_laySigns 61 = .ok (.iadd, 1) := by decide +kernel
theorem dX8_laySigns_62 : decode cX8_laySigns 62 = .ok (.iaload, 1) := by decide +kernel
theorem dX8_laySigns_63 : decode cX8_laySigns 63 = .ok (.ifCond .le 7, 3) := by decide +kernel
theorem dX8_laySigns_66 : decode cX8_laySigns 66 = .ok (.iconst 1, 1) := by decide +kernel
theorem dX8_laySigns_67 : decode cX8_laySigns 67 = .ok (.goto 4, 3) := by decide +kernel
theorem dX8_laySigns_70 : decode cX8_laySigns 70 = .ok (.iconst 0, 1) := by decide +kernel
theorem dX8_laySigns_71 : decode cX8_laySigns 71 = .ok (.istore 4, 2) := by decide +kernel
theorem dX8_laySigns_73 : decode cX8_laySigns 73 = .ok (.aload_n 0, 1) := by decide +kernel
theorem dX8_laySigns_74 : decode cX8_laySigns 74 = .ok (.getfield 81, 3) := by decide +kernel
theorem dX8_laySigns_77 : decode cX8_laySigns 77 = .ok (.bipush 6, 2) := by decide +kernel
theorem dX8_laySigns_79 : decode cX8_laySigns 79 = .ok (.iload_n 1, 1) := by decide +kernel
theorem dX8_laySigns_80 : decode cX8_laySigns 80 = .ok (.imul, 1) := by decide +kernel
theorem dX8_laySigns_81 : decode cX8_laySigns 81 = .ok (.iconst 1, 1) := by decide +kernel
theorem dX8_laySigns_82 : decode cX8_laySigns 82 = .ok (.iadd, 1) := by decide +kernel
theorem dX8_laySigns_83 : decode cX8_laySigns 83 = .ok (.iload_n 3, 1) := by decide +kernel
theorem dX8_laySigns_84 : decode cX8_laySigns 84 = .ok (.iadd, 1) := by decide +kernel
theorem dX8_laySigns_85 : decode cX8_laySigns 85 = .ok (.iload_n 2, 1) := by decide +kernel
theorem dX8_laySigns_86 : decode cX8_laySigns 86 = .ok (.ifCond .eq 16, 3) := by decide +kernel
theorem dX8_laySigns_89 : decode cX8_laySigns 89 = .ok (.iload 4, 2) := by decide +kernel
theorem dX8_laySigns_91 : decode cX8_laySigns 91 = .ok (.ifCond .eq 11, 3) := by decide +kernel
theorem dX8_laySigns_94 : decode cX8_laySigns 94 = .ok (.aload_n 0, 1) := by decide +kernel
theorem dX8_laySigns_95 : decode cX8_laySigns 95 = .ok (.iload_n 3, 1) := by decide +kernel
theorem dX8_laySigns_96 : decode cX8_laySigns 96 = .ok (.invokevirtual 257, 3) := by decide +kernel
theorem dX8_laySigns_99 : decode cX8_laySigns 99 = .ok (.goto 4, 3) := by decide +kernel
theorem dX8_laySigns_102 : decode cX8_laySigns 102 = .ok (.iconst 0, 1) := by decide +kernel
theorem dX8_laySigns_103 : decode cX8_laySigns 103 = .ok (.iastore, 1) := by decide +kernel
theorem dX8_laySigns_104 : decode cX8_laySigns 104 = .ok (.iinc 3 1, 3) := by decide +kernel
theorem dX8_laySigns_107 : decode cX8_laySigns 107 = .ok (.goto (-70), 3) := by decide +kernel
theorem dX8_laySigns_110 : decode cX8_laySigns 110 = .ok (.return_, 1) := by decide +kernel
noncomputable def qX8_laySigns_1 : Bx := (bc clt (il 3) (ik 5))
noncomputable def wX8_laySigns_1 : Sx := (sseq (scut 4 (sseq (ssi 4 (ic (band (bc clt (il 3) (iald (fgr 7 3 (rl 0)) (ik 0))) (bz cgt (iald (fgr 7 3 (rl 0)) (i2 (· + ·) (csi DX8_chamberAt (ai (il 3) anil)) (ik 3))))) (ik 1) (ik 0))) (aii (fgr 7 34 (rl 0)) (i2 (· + ·) (i2 (· + ·) (i2 (· * ·) (ik 6) (il 1)) (ik 1)) (il 3)) (ic (band (bz cne (il 2)) (bz cne (il 4))) (cvi 7 DX8_readingOf (rl 0) (ai (il 3) anil)) (ik 0))))) (sinc 3 1))
noncomputable def EX8_laySigns : Sx := (sseq (sseq (ssi 2 (cvz 7 DX8_reckonLeak (rl 0) (ai (iald (fgr 7 32 (rl 0)) (il 1)) (ai (iald (fgr 7 33 (rl 0)) (il 1)) anil)))) (sseq (aii (fgr 7 34 (rl 0)) (i2 (· * ·) (ik 6) (il 1)) (ic (bz cne (il 2)) (ik 1) (ik 0))) (scut 3 (sseq (ssi 3 (ik 0)) (swh qX8_laySigns_1 wX8_laySigns_1))))) sretv)
noncomputable def DX8_laySigns : Fu := mfv 5 EX8_laySigns
set_option maxRecDepth 4000 in
theorem BX8_laySigns : Vs RX8 cX8_laySigns 5 (rmk 6 136) 0 0 EX8_laySigns := (v_seq (v_seq (v_istore_n (i := 2) (v_cvz kX8 IX8_reckonLeak hX8_reckonLeak lk1409 ⟨by decide, by decide⟩ (by decide) (v_aload_n (i := 0) dX8_laySigns_0 rfl (rfl : 0 + 1 = 1)) (v_ai (v_iald (v_gfr kX8 lk1027 (by decide) rfl (v_aload_n (i := 0) dX8_laySigns_1 rfl (rfl : 1 + 1 = 2)) dX8_laySigns_2 (rfl : 2 + 3 = 5)) (v_iload_n (i := 1) dX8_laySigns_5 rfl (rfl : 5 + 1 = 6)) dX8_laySigns_6 (rfl : 6 + 1 = 7)) (v_ai (v_iald (v_gfr kX8 lk1028 (by decide) rfl (v_aload_n (i := 0) dX8_laySigns_7 rfl (rfl : 7 + 1 = 8)) dX8_laySigns_8 (rfl : 8 + 3 = 11)) (v_iload_n (i := 1) dX8_laySigns_11 rfl (rfl : 11 + 1 = 12)) dX8_laySigns_12 (rfl : 12 + 1 = 13)) v_anil)) dX8_laySigns_13 (rfl : 13 + 3 = 16)) dX8_laySigns_16 rfl (by decide) (rfl : 16 + 1 = 17)) (v_seq (v_aii (v_gfr kX8 lk1029 (by decide) rfl (v_aload_n (i := 0) dX8_laySigns_17 rfl (rfl : 17 + 1 = 18)) dX8_laySigns_18 (rfl : 18 + 3 = 21)) (v_imul (v_bipush (v := 6) dX8_laySigns_21 (by decide) (rfl : 21 + 2 = 23)) (v_iload_n (i := 1) dX8_laySigns_23 rfl (rfl : 23 + 1 = 24)) dX8_laySigns_24 (rfl : 24 + 1 = 25)) (v_ic (v_zne_f (v_iload_n (i := 2) dX8_laySigns_25 rfl (rfl : 25 + 1 = 26)) dX8_laySigns_26 (rfl : ((26 : Nat) : Int) + 7 = ((33 : Nat) : Int)) (rfl : 26 + 3 = 29)) (vi_goto (v_iconst (v := 1) dX8_laySigns_29 (by decide) (rfl : 29 + 1 = 30)) dX8_laySigns_30 (rfl : ((30 : Nat) : Int) + 4 = ((34 : Nat) : Int))) (v_iconst (v := 0) dX8_laySigns_33 (by decide) (rfl : 33 + 1 = 34))) dX8_laySigns_34 (rfl : 34 + 1 = 35)) (v_cut (n := 3) (v_seq (v_istore_n (i := 3) (v_iconst (v := 0) dX8_laySigns_35 (by decide) (rfl : 35 + 1 = 36)) dX8_laySigns_36 rfl (by decide) (rfl : 36 + 1 = 37)) (v_wh (v_ilt_f (v_iload_n (i := 3) dX8_laySigns_37 rfl (rfl : 37 + 1 = 38)) (v_iconst (v := 5) dX8_laySigns_38 (by decide) (rfl : 38 + 1 = 39)) dX8_laySigns_39 (rfl : ((39 : Nat) : Int) + 71 = ((110 : Nat) : Int)) (rfl : 39 + 3 = 42)) (vs_goto (v_seq (v_cut (n := 4) (v_seq (v_istore (i := 4) (v_ic (v_and (v_ilt_f (v_iload_n (i := 3) dX8_laySigns_42 rfl (rfl : 42 + 1 = 43)) (v_iald (v_gfr kX8 lk998 (by decide) rfl (v_aload_n (i := 0) dX8_laySigns_43 rfl (rfl : 43 + 1 = 44)) dX8_laySigns_44 (rfl : 44 + 3 = 47)) (v_iconst (v := 0) dX8_laySigns_47 (by decide) (rfl : 47 + 1 = 48)) dX8_laySigns_48 (rfl : 48 + 1 = 49)) dX8_laySigns_49 (rfl : ((49 : Nat) : Int) + 21 = ((70 : Nat) : Int)) (rfl : 49 + 3 = 52)) (v_zgt_f (v_iald (v_gfr kX8 lk998 (by decide) rfl (v_aload_n (i := 0) dX8_laySigns_52 rfl (rfl : 52 + 1 = 53)) dX8_laySigns_53 (rfl : 53 + 3 = 56)) (v_iadd (v_csi IX8_chamberAt hX8_chamberAt lk1137 ⟨by decide, by decide⟩ (by decide) (v_ai (v_iload_n (i := 3) dX8_laySigns_56 rfl (rfl : 56 + 1 = 57)) v_anil) dX8_laySigns_57 (rfl : 57 + 3 = 60)) (v_iconst (v := 3) dX8_laySigns_60 (by decide) (rfl : 60 + 1 = 61)) dX8_laySigns_61 (rfl : 61 + 1 = 62)) dX8_laySigns_62 (rfl : 62 + 1 = 63)) dX8_laySigns_63 (rfl : ((63 : Nat) : Int) + 7 = ((70 : Nat) : Int)) (rfl : 63 + 3 = 66))) (vi_goto (v_iconst (v := 1) dX8_laySigns_66 (by decide) (rfl : 66 + 1 = 67)) dX8_laySigns_67 (rfl : ((67 : Nat) : Int) + 4 = ((71 : Nat) : Int))) (v_iconst (v := 0) dX8_laySigns_70 (by decide) (rfl : 70 + 1 = 71))) dX8_laySigns_71 (by decide) (rfl : 71 + 2 = 73)) (v_aii (v_gfr kX8 lk1029 (by decide) rfl (v_aload_n (i := 0) dX8_laySigns_73 rfl (rfl : 73 + 1 = 74)) dX8_laySigns_74 (rfl : 74 + 3 = 77)) (v_iadd (v_iadd (v_imul (v_bipush (v := 6) dX8_laySigns_77 (by decide) (rfl : 77 + 2 = 79)) (v_iload_n (i := 1) dX8_laySigns_79 rfl (rfl : 79 + 1 = 80)) dX8_laySigns_80 (rfl : 80 + 1 = 81)) (v_iconst (v := 1) dX8_laySigns_81 (by decide) (rfl : 81 + 1 = 82)) dX8_laySigns_82 (rfl : 82 + 1 = 83)) (v_iload_n (i := 3) dX8_laySigns_83 rfl (rfl : 83 + 1 = 84)) dX8_laySigns_84 (rfl : 84 + 1 = 85)) (v_ic (v_and (v_zne_f (v_iload_n (i := 2) dX8_laySigns_85 rfl (rfl : 85 + 1 = 86)) dX8_laySigns_86 (rfl : ((86 : Nat) : Int) + 16 = ((102 : Nat) : Int)) (rfl : 86 + 3 = 89)) (v_zne_f (v_iload (i := 4) dX8_laySigns_89 (rfl : 89 + 2 = 91)) dX8_laySigns_91 (rfl : ((91 : Nat) : Int) + 11 = ((102 : Nat) : Int)) (rfl : 91 + 3 = 94))) (vi_goto (v_cvi kX8 IX8_readingOf hX8_readingOf lk1309 ⟨by decide, by decide⟩ (by decide) (v_aload_n (i := 0) dX8_laySigns_94 rfl (rfl : 94 + 1 = 95)) (v_ai (v_iload_n (i := 3) dX8_laySigns_95 rfl (rfl : 95 + 1 = 96)) v_anil) dX8_laySigns_96 (rfl : 96 + 3 = 99)) dX8_laySigns_99 (rfl : ((99 : Nat) : Int) + 4 = ((103 : Nat) : Int))) (v_iconst (v := 0) dX8_laySigns_102 (by decide) (rfl : 102 + 1 = 103))) dX8_laySigns_103 (rfl : 103 + 1 = 104)))) (v_iinc (v := 1) dX8_laySigns_104 (by decide) (by decide) (rfl : 104 + 3 = 107))) dX8_laySigns_107 (rfl : ((107 : Nat) : Int) + (-70) = ((37 : Nat) : Int)))))))) (v_retv dX8_laySigns_110))
theorem IX8_laySigns : Mv yX8_laySigns cX8_laySigns 5 (rmk 6 136) DX8_laySigns := mk_v (by decide +kernel) BX8_laySigns

theorem dX8_leak_0 : decode cX8_leak 0 = .ok (.aload_n 0, 1) := by decide +kernel
theorem dX8_leak_1 : decode cX8_leak 1 = .ok (.iconst 0, 1) := by decide +kernel
theorem dX8_leak_2 : decode cX8_leak 2 = .ok (.putfield 84, 3) := by decide +kernel
theorem dX8_leak_5 : decode cX8_leak 5 = .ok (.iload_n 2, 1) := by decide +kernel
theorem dX8_leak_6 : decode cX8_leak 6 = .ok (.i2l, 1) := by decide +kernel
theorem dX8_leak_7 : decode cX8_leak 7 = .ok (.lconst 0, 1) := by decide +kernel
theorem dX8_leak_8 : decode cX8_leak 8 = .ok (.ldc2_w 162, 3) := by decide +kernel
theorem dX8_leak_11 : decode cX8_leak 11 = .ok (.invokestatic 105, 3) := by decide +kernel
theorem dX8_leak_14 : decode cX8_leak 14 = .ok (.ifCond .ne 9, 3) := by decide +kernel
theorem dX8_leak_17 : decode cX8_leak 17 = .ok (.aload_n 0, 1) := by decide +kernel
theorem dX8_leak_18 : decode cX8_leak 18 = .ok (.iconst (-1), 1) := by decide +kernel
theorem dX8_leak_19 : decode cX8_leak 19 = .ok (.invokevirtual 98, 3) := by decide +kernel
theorem dX8_leak_22 : decode cX8_leak 22 = .ok (.ireturn, 1) := by decide +kernel
theorem dX8_leak_23 : decode cX8_leak 23 = .ok (.iload_n 2, 1) := by decide +kernel
theorem dX8_leak_24 : decode cX8_leak 24 = .ok (.ifCond .le 18, 3) := by decide +kernel
theorem dX8_leak_27 : decode cX8_leak 27 = .ok (.aload_n 0, 1) := by decide +kernel
theorem dX8_leak_28 : decode cX8_leak 28 = .ok (.iload_n 1, 1) := by decide +kernel
theorem dX8_leak_29 : decode cX8_leak 29 = .ok (.invokevirtual 164, 3) := by decide +kernel
theorem dX8_leak_32 : decode cX8_leak 32 = .ok (.ifCond .ne 10, 3) := by decide +kernel
theorem dX8_leak_35 : decode cX8_leak 35 = .ok (.aload_n 0, 1) := by decide +kernel
theorem dX8_leak_36 : decode cX8_leak 36 = .ok (.bipush (-2), 2) := by decide +kernel
theorem dX8_leak_38 : decode cX8_leak 38 = .ok (.invokevirtual 98, 3) := by decide +kernel
theorem dX8_leak_41 : decode cX8_leak 41 = .ok (.ireturn, 1) := by decide +kernel
theorem dX8_leak_42 : decode cX8_leak 42 = .ok (.aload_n 0, 1) := by decide +kernel
theorem dX8_leak_43 : decode cX8_leak 43 = .ok (.bipush 7, 2) := by decide +kernel
theorem dX8_leak_45 : decode cX8_leak 45 = .ok (.invokevirtual 136, 3) := by decide +kernel
theorem dX8_leak_48 : decode cX8_leak 48 = .ok (.aload_n 0, 1) := by decide +kernel
theorem dX8_leak_49 : decode cX8_leak 49 = .ok (.getfield 13, 3) := by decide +kernel
theorem dX8_leak_52 : decode cX8_leak 52 = .ok (.bipush 6, 2) := by decide +kernel
theorem dX8_leak_54 : decode cX8_leak 54 = .ok (.iaload, 1) := by decide +kernel
theorem dX8_leak_55 : decode cX8_leak 55 = .ok (.istore_n 3, 1) := by decide +kernel
theorem dX8_leak_56 : decode cX8_leak 56 = .ok (.aload_n 0, 1) := by decide +kernel
theorem dX8_leak_57 : decode cX8_leak 57 = .ok (.getfield 13, 3) := by decide +kernel
theorem dX8_leak_60 : decode cX8_leak 60 = .ok (.bipush 6, 2) := by decide +kernel
theorem dX8_leak_62 : decode cX8_leak 62 = .ok (.iload_n 2, 1) := by decide +kernel
theorem dX8_leak_63 : decode cX8_leak 63 = .ok (.iastore, 1) := by decide +kernel
theorem dX8_leak_64 : decode cX8_leak 64 = .ok (.aload_n 0, 1) := by decide +kernel
theorem dX8_leak_65 : decode cX8_leak 65 = .ok (.getfield 13, 3) := by decide +kernel
theorem dX8_leak_68 : decode cX8_leak 68 = .ok (.iconst 5, 1) := by decide +kernel
theorem dX8_leak_69 : decode cX8_leak 69 = .ok (.iload_n 2, 1) := by decide +kernel
theorem dX8_leak_70 : decode cX8_leak 70 = .ok (.ifCond .le 7, 3) := by decide +kernel
theorem dX8_leak_73 : decode cX8_leak 73 = .ok (.iload_n 1, 1) := by decide +kernel
theorem dX8_leak_74 : decode cX8_leak 74 = .ok (.goto 4, 3) := by decide +kernel
theorem dX8_leak_77 : decode cX8_leak 77 = .ok (.iconst (-1), 1) := by decide +kernel
theorem dX8_leak_78 : decode cX8_leak 78 = .ok (.iastore, 1) := by decide +kernel
theorem dX8_leak_79 : decode cX8_leak 79 = .ok (.aload_n 0, 1) := by decide +kernel
theorem dX8_leak_80 : decode cX8_leak 80 = .ok (.iload_n 3, 1) := by decide +kernel
theorem dX8_leak_81 : decode cX8_leak 81 = .ok (.invokevirtual 102, 3) := by decide +kernel
theorem dX8_leak_84 : decode cX8_leak 84 = .ok (.ireturn, 1) := by decide +kernel
noncomputable def EX8_leak : Sx := (sseq (fpi 7 0 (rl 0) (ik 0)) (sseq (sif (bnot (bz cne (csz DX8_in (aj (i2l (il 2)) (aj (jk 0) (aj (jk 60) anil)))))) (sret (cvi 7 DX8_refuse (rl 0) (ai (ik (-1)) anil))) snop) (sseq (sif (band (bz cgt (il 2)) (bnot (bz cne (cvz 7 DX8_isJoint (rl 0) (ai (il 1) anil))))) (sret (cvi 7 DX8_refuse (rl 0) (ai (ik (-2)) anil))) snop) (sseq (scv 7 DX8_remember (rl 0) (ai (ik 7) anil)) (sseq (ssi 3 (iald (fgr 7 3 (rl 0)) (ik 6))) (sseq (aii (fgr 7 3 (rl 0)) (ik 6) (il 2)) (sseq (aii (fgr 7 3 (rl 0)) (ik 5) (ic (bz cgt (il 2)) (il 1) (ik (-1)))) (sret (cvi 7 DX8_tell (rl 0) (ai (il 3) anil))))))))))
noncomputable def DX8_leak : Fi := mfi 4 EX8_leak
set_option maxRecDepth 4000 in
theorem BX8_leak : Vs RX8 cX8_leak 4 (rmk 3 67) 0 0 EX8_leak := (v_seq (v_fpi kX8 lk995 (by decide) rfl rfl (by decide +kernel) (v_aload_n (i := 0) dX8_leak_0 rfl (rfl : 0 + 1 = 1)) (v_iconst (v := 0) dX8_leak_1 (by decide) (rfl : 1 + 1 = 2)) dX8_leak_2 (rfl : 2 + 3 = 5)) (v_seq (v_if (v_not (v_zne_t (v_csz IX8_in hX8_in lk1120 ⟨by decide, by decide⟩ (by decide) (v_aj (v_i2l (v_iload_n (i := 2) dX8_leak_5 rfl (rfl : 5 + 1 = 6)) dX8_leak_6 (rfl : 6 + 1 = 7)) (v_aj (v_lconst (v := 0) dX8_leak_7 (by decide) (rfl : 7 + 1 = 8)) (v_aj (v_ldc2 (v := 60) lk1207 dX8_leak_8 (rfl : 8 + 3 = 11)) v_anil))) dX8_leak_11 (rfl : 11 + 3 = 14)) dX8_leak_14 (rfl : ((14 : Nat) : Int) + 9 = ((23 : Nat) : Int)) (rfl : 14 + 3 = 17))) (v_ret (v_cvi kX8 IX8_refuse hX8_refuse lk1105 ⟨by decide, by decide⟩ (by decide) (v_aload_n (i := 0) dX8_leak_17 rfl (rfl : 17 + 1 = 18)) (v_ai (v_iconst (v := (-1)) dX8_leak_18 (by decide) (rfl : 18 + 1 = 19)) v_anil) dX8_leak_19 (rfl : 19 + 3 = 22)) dX8_leak_22) v_nop) (v_seq (v_if (v_and (v_zgt_f (v_iload_n (i := 2) dX8_leak_23 rfl (rfl : 23 + 1 = 24)) dX8_leak_24 (rfl : ((24 : Nat) : Int) + 18 = ((42 : Nat) : Int)) (rfl : 24 + 3 = 27)) (v_not (v_zne_t (v_cvz kX8 IX8_isJoint hX8_isJoint lk1208 ⟨by decide, by decide⟩ (by decide) (v_aload_n (i := 0) dX8_leak_27 rfl (rfl : 27 + 1 = 28)) (v_ai (v_iload_n (i := 1) dX8_leak_28 rfl (rfl : 28 + 1 = 29)) v_anil) dX8_leak_29 (rfl : 29 + 3 = 32)) dX8_leak_32 (rfl : ((32 : Nat) : Int) + 10 = ((42 : Nat) : Int)) (rfl : 32 + 3 = 35)))) (v_ret (v_cvi kX8 IX8_refuse hX8_refuse lk1105 ⟨by decide, by decide⟩ (by decide) (v_aload_n (i := 0) dX8_leak_35 rfl (rfl : 35 + 1 = 36)) (v_ai (v_bipush (v := (-2)) dX8_leak_36 (by decide) (rfl : 36 + 2 = 38)) v_anil) dX8_leak_38 (rfl : 38 + 3 = 41)) dX8_leak_41) v_nop) (v_seq (v_scv kX8 IX8_remember hX8_remember lk1133 ⟨by decide, by decide⟩ (v_aload_n (i := 0) dX8_leak_42 rfl (rfl : 42 + 1 = 43)) (v_ai (v_bipush (v := 7) dX8_leak_43 (by decide) (rfl : 43 + 2 = 45)) v_anil) dX8_leak_45 (rfl : 45 + 3 = 48)) (v_seq (v_istore_n (i := 3) (v_iald (v_gfr kX8 lk998 (by decide) rfl (v_aload_n (i := 0) dX8_leak_48 rfl (rfl : 48 + 1 = 49)) dX8_leak_49 (rfl : 49 + 3 = 52)) (v_bipush (v := 6) dX8_leak_52 (by decide) (rfl : 52 + 2 = 54)) dX8_leak_54 (rfl : 54 + 1 = 55)) dX8_leak_55 rfl (by decide) (rfl : 55 + 1 = 56)) (v_seq (v_aii (v_gfr kX8 lk998 (by decide) rfl (v_aload_n (i := 0) dX8_leak_56 rfl (rfl : 56 + 1 = 57)) dX8_leak_57 (rfl : 57 + 3 = 60)) (v_bipush (v := 6) dX8_leak_60 (by decide) (rfl : 60 + 2 = 62)) (v_iload_n (i := 2) dX8_leak_62 rfl (rfl : 62 + 1 = 63)) dX8_leak_63 (rfl : 63 + 1 = 64)) (v_seq (v_aii (v_gfr kX8 lk998 (by decide) rfl (v_aload_n (i := 0) dX8_leak_64 rfl (rfl : 64 + 1 = 65)) dX8_leak_65 (rfl : 65 + 3 = 68)) (v_iconst (v := 5) dX8_leak_68 (by decide) (rfl : 68 + 1 = 69)) (v_ic (v_zgt_f (v_iload_n (i := 2) dX8_leak_69 rfl (rfl : 69 + 1 = 70)) dX8_leak_70 (rfl : ((70 : Nat) : Int) + 7 = ((77 : Nat) : Int)) (rfl : 70 + 3 = 73)) (vi_goto (v_iload_n (i := 1) dX8_leak_73 rfl (rfl : 73 + 1 = 74)) dX8_leak_74 (rfl : ((74 : Nat) : Int) + 4 = ((78 : Nat) : Int))) (v_iconst (v := (-1)) dX8_leak_77 (by decide) (rfl : 77 + 1 = 78))) dX8_leak_78 (rfl : 78 + 1 = 79)) (v_ret (v_cvi kX8 IX8_tell hX8_tell lk1112 ⟨by decide, by decide⟩ (by decide) (v_aload_n (i := 0) dX8_leak_79 rfl (rfl : 79 + 1 = 80)) (v_ai (v_iload_n (i := 3) dX8_leak_80 rfl (rfl : 80 + 1 = 81)) v_anil) dX8_leak_81 (rfl : 81 + 3 = 84)) dX8_leak_84))))))))
theorem IX8_leak : Mi yX8_leak cX8_leak 4 (rmk 3 67) DX8_leak := mk_i (by decide +kernel) BX8_leak

theorem dX8_leaveOut_0 : decode cX8_leaveOut 0 = .ok (.aload_n 0, 1) := by decide +kernel
theorem dX8_leaveOut_1 : decode cX8_leaveOut 1 = .ok (.getfield 63, 3) := by decide +kernel
theorem dX8_leaveOut_4 : decode cX8_leaveOut 4 = .ok (.iload_n 2, 1) := by decide +kernel
theorem dX8_leaveOut_5 : decode cX8_leaveOut 5 = .ok (.iaload, 1) := by decide +kernel
theorem dX8_leaveOut_6 : decode cX8_leaveOut 6 = .ok (.iload_n 1, 1) := by decide +kernel
theorem dX8_leaveOut_7 : decode cX8_leaveOut 7 = .ok (.if_icmp .ne 12, 3) := by decide +kernel
theorem dX8_leaveOut_10 : decode cX8_leaveOut 10 = .ok (.aload_n 0, 1) := by decide +kernel
theorem dX8_leaveOut_11 : decode cX8_leaveOut 11 = .ok (.getfield 66, 3) := by decide +kernel
theorem dX8_leaveOut_14 : decode cX8_leaveOut 14 = .ok (.iload_n 2, 1) := by decide +kernel
theorem dX8_leaveOut_15 : decode cX8_leaveOut 15 = .ok (.iaload, 1) := by decide +kernel
theorem dX8_leaveOut_16 : decode cX8_leaveOut 16 = .ok (.goto 9, 3) := by decide +kernel
theorem dX8_leaveOut_19 : decode cX8_leaveOut 19 = .ok (.aload_n 0, 1) := by decide +kernel
theorem dX8_leaveOut_20 : decode cX8_leaveOut 20 = .ok (.getfield 63, 3) := by decide +kernel
theorem dX8_leaveOut_23 : decode cX8_leaveOut 23 = .ok (.iload_n 2, 1) := by decide +kernel
theorem dX8_leaveOut_24 : decode cX8_leaveOut 24 = .ok (.iaload, 1) := by decide +kernel
theorem dX8_leaveOut_25 : decode cX8_leaveOut 25 = .ok (.istore 5, 2) := by decide +kernel
theorem dX8_leaveOut_27 : decode cX8_leaveOut 27 = .ok (.aload_n 0, 1) := by decide +kernel
theorem dX8_leaveOut_28 : decode cX8_leaveOut 28 = .ok (.getfield 63, 3) := by decide +kernel
theorem dX8_leaveOut_31 : decode cX8_leaveOut 31 = .ok (.iload_n 3, 1) := by decide +kernel
theorem dX8_leaveOut_32 : decode cX8_leaveOut 32 = .ok (.iaload, 1) := by decide +kernel
theorem dX8_leaveOut_33 : decode cX8_leaveOut 33 = .ok (.iload_n 1, 1) := by decide +kernel
theorem dX8_leaveOut_34 : decode cX8_leaveOut 34 = .ok (.if_icmp .ne 12, 3) := by decide +kernel
theorem dX8_leaveOut_37 : decode cX8_leaveOut 37 = .ok (.aload_n 0, 1) := by decide +kernel
theorem dX8_leaveOut_38 : decode cX8_leaveOut 38 = .ok (.getfield 66, 3) := by decide +kernel
theorem dX8_leaveOut_41 : decode cX8_leaveOut 41 = .ok (.iload_n 3, 1) := by decide +kernel
theorem dX8_leaveOut_42 : decode cX8_leaveOut 42 = .ok (.iaload, 1) := by decide +kernel
theorem dX8_leaveOut_43 : decode cX8_leaveOut 43 = .ok (.goto 9, 3) := by decide +kernel
theorem dX8_leaveOut_46 : decode cX8_leaveOut 46 = .ok (.aload_n 0, 1) := by decide +kernel
theorem dX8_leaveOut_47 : decode cX8_leaveOut 47 = .ok (.getfield 63, 3) := by decide +kernel
theorem dX8_leaveOut_50 : decode cX8_leaveOut 50 = .ok (.iload_n 3, 1) := by decide +kernel
theorem dX8_leaveOut_51 : decode cX8_leaveOut 51 = .ok (.iaload, 1) := by decide +kernel
theorem dX8_leaveOut_52 : decode cX8_leaveOut 52 = .ok (.istore 6, 2) := by decide +kernel
theorem dX8_leaveOut_54 : decode cX8_leaveOut 54 = .ok (.aload_n 0, 1) := by decide +kernel
theorem dX8_leaveOut_55 : decode cX8_leaveOut 55 = .ok (.getfield 63, 3) := by decide +kernel
theorem dX8_leaveOut_58 : decode cX8_leaveOut 58 = .ok (.iload_n 3, 1) := by decide +kernel
theorem dX8_leaveOut_59 : decode cX8_leaveOut 59 = .ok (.iconst (-1), 1) := by decide +kernel
theorem dX8_leaveOut_60 : decode cX8_leaveOut 60 = .ok (.iastore, 1) := by decide +kernel
theorem dX8_leaveOut_61 : decode cX8_leaveOut 61 = .ok (.iload 4, 2) := by decide +kernel
theorem dX8_leaveOut_63 : decode cX8_leaveOut 63 = .ok (.iconst 2, 1) := by decide +kernel
theorem dX8_leaveOut_64 : decode cX8_leaveOut 64 = .ok (.if_icmp .ne 64, 3) := by decide +kernel
theorem dX8_leaveOut_67 : decode cX8_leaveOut 67 = .ok (.aload_n 0, 1) := by decide +kernel
theorem dX8_leaveOut_68 : decode cX8_leaveOut 68 = .ok (.iload_n 2, 1) := by decide +kernel
theorem dX8_leaveOut_69 : decode cX8_leaveOut 69 = .ok (.aload_n 0, 1) := by decide +kernel
theorem dX8_leaveOut_70 : decode cX8_leaveOut 70 = .ok (.getfield 69, 3) := by decide +kernel
theorem dX8_leaveOut_73 : decode cX8_leaveOut 73 = .ok (.iload_n 2, 1) := by decide +kernel
theorem dX8_leaveOut_74 : decode cX8_leaveOut 74 = .ok (.laload, 1) := by decide +kernel
theorem dX8_leaveOut_75 : decode cX8_leaveOut 75 = .ok (.aload_n 0, 1) := by decide +kernel
theorem dX8_leaveOut_76 : decode cX8_leaveOut 76 = .ok (.getfield 69, 3) := by decide +kernel
theorem dX8_leaveOut_79 : decode cX8_leaveOut 79 = .ok (.iload_n 3, 1) := by decide +kernel
theorem dX8_leaveOut_80 : decode cX8_leaveOut 80 = .ok (.laload, 1) := by decide +kernel
theorem dX8_leaveOut_81 : decode cX8_leaveOut 81 = .ok (.lmul, 1) := by decide +kernel
theorem dX8_leaveOut_82 : decode cX8_leaveOut 82 = .ok (.aload_n 0, 1) := by decide +kernel
theorem dX8_leaveOut_83 : decode cX8_leaveOut 83 = .ok (.getfield 69, 3) := by decide +kernel
theorem dX8_leaveOut_86 : decode cX8_leaveOut 86 = .ok (.iload_n 2, 1) := by decide +kernel
theorem dX8_leaveOut_87 : decode cX8_leaveOut 87 = .ok (.laload, 1) := by decide +kernel
theorem dX8_leaveOut_88 : decode cX8_leaveOut 88 = .ok (.aload_n 0, 1) := by decide +kernel
theorem dX8_leaveOut_89 : decode cX8_leaveOut 89 = .ok (.getfield 72, 3) := by decide +kernel
theorem dX8_leaveOut_92 : decode cX8_leaveOut 92 = .ok (.iload_n 3, 1) := by decide +kernel
theorem dX8_leaveOut_93 : decode cX8_leaveOut 93 = .ok (.laload, 1) := by decide +kernel
theorem dX8_leaveOut_94 : decode cX8_leaveOut 94 = .ok (.lmul, 1) := by decide +kernel
theorem dX8_leaveOut_95 : decode cX8_leaveOut 95 = .ok (.aload_n 0, 1) := by decide +kernel
theorem dX8_leaveOut_96 : decode cX8_leaveOut 96 = .ok (.getfield 69, 3) := by decide +kernel
theorem dX8_leaveOut_99 : decode cX8_leaveOut 99 = .ok (.iload_n 3, 1) := by decide +kernel
theorem dX8_leaveOut_100 : decode cX8_leaveOut 100 = .ok (.laload, 1) := by decide +kernel
theorem dX8_leaveOut_101 : decode cX8_leaveOut 101 = .ok (.aload_n 0, 1) := by decide +kernel
theorem dX8_leaveOut_102 : decode cX8_leaveOut 102 = .ok (.getfield 72, 3) := by decide +kernel
theorem dX8_leaveOut_105 : decode cX8_leaveOut 105 = .ok (.iload_n 2, 1) := by decide +kernel
theorem dX8_leaveOut_106 : decode cX8_leaveOut 106 = .ok (.laload, 1) := by decide +kernel
theorem dX8_leaveOut_107 : decode cX8_leaveOut 107 = .ok (.lmul, 1) := by decide +kernel
theorem dX8_leaveOut_108 : decode cX8_leaveOut 108 = .ok (.ladd, 1) := by decide +kernel
theorem dX8_leaveOut_109 : decode cX8_leaveOut 109 = .ok (.invokevirtual 303, 3) := by decide +kernel
theorem dX8_leaveOut_112 : decode cX8_leaveOut 112 = .ok (.aload_n 0, 1) := by decide +kernel
theorem dX8_leaveOut_113 : decode cX8_leaveOut 113 = .ok (.getfield 63, 3) := by decide +kernel
theorem dX8_leaveOut_116 : decode cX8_leaveOut 116 = .ok (.iload_n 2, 1) := by decide +kernel
theorem dX8_leaveOut_117 : decode cX8_leaveOut 117 = .ok (.iload 5, 2) := by decide +kernel
theorem dX8_leaveOut_119 : decode cX8_leaveOut 119 = .ok (.iastore, 1) := by decide +kernel
theorem dX8_leaveOut_120 : decode cX8_leaveOut 120 = .ok (.aload_n 0, 1) := by decide +kernel
theorem dX8_leaveOut_121 : decode cX8_leaveOut 121 = .ok (.getfield 66, 3) := by decide +kernel
theorem dX8_leaveOut_124 : decode cX8_leaveOut 124 = .ok (.iload_n 2, 1) := by decide +kernel
theorem dX8_leaveOut_125 : decode cX8_leaveOut 125 = .ok (.iload 6, 2) := by decide +kernel
theorem dX8_leaveOut_127 : decode cX8_leaveOut 127 = .ok (.iastore, 1) := by decide +kernel
theorem dX8_leaveOut_128 : decode cX8_leaveOut 128 = .ok (.return_, 1) := by decide +kernel
noncomputable def EX8_leaveOut : Sx := (sseq (sseq (ssi 5 (ic (bc ceq (iald (fgr 7 27 (rl 0)) (il 2)) (il 1)) (iald (fgr 7 28 (rl 0)) (il 2)) (iald (fgr 7 27 (rl 0)) (il 2)))) (sseq (ssi 6 (ic (bc ceq (iald (fgr 7 27 (rl 0)) (il 3)) (il 1)) (iald (fgr 7 28 (rl 0)) (il 3)) (iald (fgr 7 27 (rl 0)) (il 3)))) (sseq (aii (fgr 7 27 (rl 0)) (il 3) (ik (-1))) (sif (bc ceq (il 4) (ik 2)) (sseq (scv 7 DX8_become (rl 0) (ai (il 2) (aj (j2 (· * ·) (jald (fgr 7 29 (rl 0)) (il 2)) (jald (fgr 7 29 (rl 0)) (il 3))) (aj (j2 (· + ·) (j2 (· * ·) (jald (fgr 7 29 (rl 0)) (il 2)) (jald (fgr 7 30 (rl 0)) (il 3))) (j2 (· * ·) (jald (fgr 7 29 (rl 0)) (il 3)) (jald (fgr 7 30 (rl 0)) (il 2)))) anil)))) (sseq (aii (fgr 7 27 (rl 0)) (il 2) (il 5)) (aii (fgr 7 28 (rl 0)) (il 2) (il 6)))) snop)))) sretv)
noncomputable def DX8_leaveOut : Fu := mfv 7 EX8_leaveOut
set_option maxRecDepth 4000 in
theorem BX8_leaveOut : Vs RX8 cX8_leaveOut 7 (rmk 2 56) 0 0 EX8_leaveOut := (v_seq (v_seq (v_istore (i := 5) (v_ic (v_ieq_f (v_iald (v_gfr kX8 lk1022 (by decide) rfl (v_aload_n (i := 0) dX8_leaveOut_0 rfl (rfl : 0 + 1 = 1)) dX8_leaveOut_1 (rfl : 1 + 3 = 4)) (v_iload_n (i := 2) dX8_leaveOut_4 rfl (rfl : 4 + 1 = 5)) dX8_leaveOut_5 (rfl : 5 + 1 = 6)) (v_iload_n (i := 1) dX8_leaveOut_6 rfl (rfl : 6 + 1 = 7)) dX8_leaveOut_7 (rfl : ((7 : Nat) : Int) + 12 = ((19 : Nat) : Int)) (rfl : 7 + 3 = 10)) (vi_goto (v_iald (v_gfr kX8 lk1023 (by decide) rfl (v_aload_n (i := 0) dX8_leaveOut_10 rfl (rfl : 10 + 1 = 11)) dX8_leaveOut_11 (rfl : 11 + 3 = 14)) (v_iload_n (i := 2) dX8_leaveOut_14 rfl (rfl : 14 + 1 = 15)) dX8_leaveOut_15 (rfl : 15 + 1 = 16)) dX8_leaveOut_16 (rfl : ((16 : Nat) : Int) + 9 = ((25 : Nat) : Int))) (v_iald (v_gfr kX8 lk1022 (by decide) rfl (v_aload_n (i := 0) dX8_leaveOut_19 rfl (rfl : 19 + 1 = 20)) dX8_leaveOut_20 (rfl : 20 + 3 = 23)) (v_iload_n (i := 2) dX8_leaveOut_23 rfl (rfl : 23 + 1 = 24)) dX8_leaveOut_24 (rfl : 24 + 1 = 25))) dX8_leaveOut_25 (by decide) (rfl : 25 + 2 = 27)) (v_seq (v_istore (i := 6) (v_ic (v_ieq_f (v_iald (v_gfr kX8 lk1022 (by decide) rfl (v_aload_n (i := 0) dX8_leaveOut_27 rfl (rfl : 27 + 1 = 28)) dX8_leaveOut_28 (rfl : 28 + 3 = 31)) (v_iload_n (i := 3) dX8_leaveOut_31 rfl (rfl : 31 + 1 = 32)) dX8_leaveOut_32 (rfl : 32 + 1 = 33)) (v_iload_n (i := 1) dX8_leaveOut_33 rfl (rfl : 33 + 1 = 34)) dX8_leaveOut_34 (rfl : ((34 : Nat) : Int) + 12 = ((46 : Nat) : Int)) (rfl : 34 + 3 = 37)) (vi_goto (v_iald (v_gfr kX8 lk1023 (by decide) rfl (v_aload_n (i := 0) dX8_leaveOut_37 rfl (rfl : 37 + 1 = 38)) dX8_leaveOut_38 (rfl : 38 + 3 = 41)) (v_iload_n (i := 3) dX8_leaveOut_41 rfl (rfl : 41 + 1 = 42)) dX8_leaveOut_42 (rfl : 42 + 1 = 43)) dX8_leaveOut_43 (rfl : ((43 : Nat) : Int) + 9 = ((52 : Nat) : Int))) (v_iald (v_gfr kX8 lk1022 (by decide) rfl (v_aload_n (i := 0) dX8_leaveOut_46 rfl (rfl : 46 + 1 = 47)) dX8_leaveOut_47 (rfl : 47 + 3 = 50)) (v_iload_n (i := 3) dX8_leaveOut_50 rfl (rfl : 50 + 1 = 51)) dX8_leaveOut_51 (rfl : 51 + 1 = 52))) dX8_leaveOut_52 (by decide) (rfl : 52 + 2 = 54)) (v_seq (v_aii (v_gfr kX8 lk1022 (by decide) rfl (v_aload_n (i := 0) dX8_leaveOut_54 rfl (rfl : 54 + 1 = 55)) dX8_leaveOut_55 (rfl : 55 + 3 = 58)) (v_iload_n (i := 3) dX8_leaveOut_58 rfl (rfl : 58 + 1 = 59)) (v_iconst (v := (-1)) dX8_leaveOut_59 (by decide) (rfl : 59 + 1 = 60)) dX8_leaveOut_60 (rfl : 60 + 1 = 61)) (v_if (v_ieq_f (v_iload (i := 4) dX8_leaveOut_61 (rfl : 61 + 2 = 63)) (v_iconst (v := 2) dX8_leaveOut_63 (by decide) (rfl : 63 + 1 = 64)) dX8_leaveOut_64 (rfl : ((64 : Nat) : Int) + 64 = ((128 : Nat) : Int)) (rfl : 64 + 3 = 67)) (v_seq (v_scv kX8 IX8_become hX8_become lk1385 ⟨by decide, by decide⟩ (v_aload_n (i := 0) dX8_leaveOut_67 rfl (rfl : 67 + 1 = 68)) (v_ai (v_iload_n (i := 2) dX8_leaveOut_68 rfl (rfl : 68 + 1 = 69)) (v_aj (v_lmul (v_jald (v_gfr kX8 lk1024 (by decide) rfl (v_aload_n (i := 0) dX8_leaveOut_69 rfl (rfl : 69 + 1 = 70)) dX8_leaveOut_70 (rfl : 70 + 3 = 73)) (v_iload_n (i := 2) dX8_leaveOut_73 rfl (rfl : 73 + 1 = 74)) dX8_leaveOut_74 (rfl : 74 + 1 = 75)) (v_jald (v_gfr kX8 lk1024 (by decide) rfl (v_aload_n (i := 0) dX8_leaveOut_75 rfl (rfl : 75 + 1 = 76)) dX8_leaveOut_76 (rfl : 76 + 3 = 79)) (v_iload_n (i := 3) dX8_leaveOut_79 rfl (rfl : 79 + 1 = 80)) dX8_leaveOut_80 (rfl : 80 + 1 = 81)) dX8_leaveOut_81 (rfl : 81 + 1 = 82)) (v_aj (v_ladd (v_lmul (v_jald (v_gfr kX8 lk1024 (by decide) rfl (v_aload_n (i := 0) dX8_leaveOut_82 rfl (rfl : 82 + 1 = 83)) dX8_leaveOut_83 (rfl : 83 + 3 = 86)) (v_iload_n (i := 2) dX8_leaveOut_86 rfl (rfl : 86 + 1 = 87)) dX8_leaveOut_87 (rfl : 87 + 1 = 88)) (v_jald (v_gfr kX8 lk1025 (by decide) rfl (v_aload_n (i := 0) dX8_leaveOut_88 rfl (rfl : 88 + 1 = 89)) dX8_leaveOut_89 (rfl : 89 + 3 = 92)) (v_iload_n (i := 3) dX8_leaveOut_92 rfl (rfl : 92 + 1 = 93)) dX8_leaveOut_93 (rfl : 93 + 1 = 94)) dX8_leaveOut_94 (rfl : 94 + 1 = 95)) (v_lmul (v_jald (v_gfr kX8 lk1024 (by decide) rfl (v_aload_n (i := 0) dX8_leaveOut_95 rfl (rfl : 95 + 1 = 96)) dX8_leaveOut_96 (rfl : 96 + 3 = 99)) (v_iload_n (i := 3) dX8_leaveOut_99 rfl (rfl : 99 + 1 = 100)) dX8_leaveOut_100 (rfl : 100 + 1 = 101)) (v_jald (v_gfr kX8 lk1025 (by decide) rfl (v_aload_n (i := 0) dX8_leaveOut_101 rfl (rfl : 101 + 1 = 102)) dX8_leaveOut_102 (rfl : 102 + 3 = 105)) (v_iload_n (i := 2) dX8_leaveOut_105 rfl (rfl : 105 + 1 = 106)) dX8_leaveOut_106 (rfl : 106 + 1 = 107)) dX8_leaveOut_107 (rfl : 107 + 1 = 108)) dX8_leaveOut_108 (rfl : 108 + 1 = 109)) v_anil))) dX8_leaveOut_109 (rfl : 109 + 3 = 112)) (v_seq (v_aii (v_gfr kX8 lk1022 (by decide) rfl (v_aload_n (i := 0) dX8_leaveOut_112 rfl (rfl : 112 + 1 = 113)) dX8_leaveOut_113 (rfl : 113 + 3 = 116)) (v_iload_n (i := 2) dX8_leaveOut_116 rfl (rfl : 116 + 1 = 117)) (v_iload (i := 5) dX8_leaveOut_117 (rfl : 117 + 2 = 119)) dX8_leaveOut_119 (rfl : 119 + 1 = 120)) (v_aii (v_gfr kX8 lk1023 (by decide) rfl (v_aload_n (i := 0) dX8_leaveOut_120 rfl (rfl : 120 + 1 = 121)) dX8_leaveOut_121 (rfl : 121 + 3 = 124)) (v_iload_n (i := 2) dX8_leaveOut_124 rfl (rfl : 124 + 1 = 125)) (v_iload (i := 6) dX8_leaveOut_125 (rfl : 125 + 2 = 127)) dX8_leaveOut_127 (rfl : 127 + 1 = 128)))) v_nop)))) (v_retv dX8_leaveOut_128))
theorem IX8_leaveOut : Mv yX8_leaveOut cX8_leaveOut 7 (rmk 2 56) DX8_leaveOut := mk_v (by decide +kernel) BX8_leaveOut

theorem dX8_leaves_0 : decode cX8_leaves 0 = .ok (.aload_n 0, 1) := by decide +kernel
theorem dX8_leaves_1 : decode cX8_leaves 1 = .ok (.getfield 13, 3) := by decide +kernel
theorem dX8_leaves_4 : decode cX8_leaves 4 = .ok (.iload_n 1, 1) := by decide +kernel
theorem dX8_leaves_5 : decode cX8_leaves 5 = .ok (.invokestatic 116, 3) := by decide +kernel
theorem dX8_leaves_8 : decode cX8_leaves 8 = .ok (.iconst 3, 1) := by decide +kernel
theorem dX8_leaves_9 : decode cX8_leaves 9 = .ok (.iadd, 1) := by decide +kernel
theorem dX8_leaves_10 : decode cX8_leaves 10 = .ok (.dup2, 1) := by decide +kernel
theorem dX8_leaves_11 : decode cX8_leaves 11 = .ok (.iaload, 1) := by decide +kernel
theorem dX8_leaves_12 : decode cX8_leaves 12 = .ok (.iconst 1, 1) := by decide +kernel
theorem dX8_leaves_13 : decode cX8_leaves 13 = .ok (.ixor, 1) := by decide +kernel
theorem dX8_leaves_14 : decode cX8_leaves 14 = .ok (.iastore, 1) := by decide +kernel
theorem dX8_leaves_15 : decode cX8_leaves 15 = .ok (.iconst 0, 1) := by decide +kernel
theorem dX8_leaves_16 : decode cX8_leaves 16 = .ok (.istore_n 3, 1) := by decide +kernel
theorem dX8_leaves_17 : decode cX8_leaves 17 = .ok (.iload_n 3, 1) := by decide +kernel
theorem dX8_leaves_18 : decode cX8_leaves 18 = .ok (.iload_n 2, 1) := by decide +kernel
theorem dX8_leaves_19 : decode cX8_leaves 19 = .ok (.if_icmp .ge 14, 3) := by decide +kernel
theorem dX8_leaves_22 : decode cX8_leaves 22 = .ok (.aload_n 0, 1) := by decide +kernel
theorem dX8_leaves_23 : decode cX8_leaves 23 = .ok (.iload_n 3, 1) := by decide +kernel
theorem dX8_leaves_24 : decode cX8_leaves 24 = .ok (.invokevirtual 329, 3) := by decide +kernel
theorem dX8_leaves_27 : decode cX8_leaves 27 = .ok (.iinc 3 1, 3) := by decide +kernel
theorem dX8_leaves_30 : decode cX8_leaves 30 = .ok (.goto (-13), 3) := by decide +kernel
theorem dX8_leaves_33 : decode cX8_leaves 33 = .ok (.aload_n 0, 1) := by decide +kernel
theorem dX8_leaves_34 : decode cX8_leaves 34 = .ok (.getfield 13, 3) := by decide +kernel
theorem dX8_leaves_37 : decode cX8_leaves 37 = .ok (.iload_n 1, 1) := by decide +kernel
theorem dX8_leaves_38 : decode cX8_leaves 38 = .ok (.invokestatic 116, 3) := by decide +kernel
theorem dX8_leaves_41 : decode cX8_leaves 41 = .ok (.iconst 3, 1) := by decide +kernel
theorem dX8_leaves_42 : decode cX8_leaves 42 = .ok (.iadd, 1) := by decide +kernel
theorem dX8_leaves_43 : decode cX8_leaves 43 = .ok (.dup2, 1) := by decide +kernel
theorem dX8_leaves_44 : decode cX8_leaves 44 = .ok (.iaload, 1) := by decide +kernel
theorem dX8_leaves_45 : decode cX8_leaves 45 = .ok (.iconst 1, 1) := by decide +kernel
theorem dX8_leaves_46 : decode cX8_leaves 46 = .ok (.ixor, 1) := by decide +kernel
theorem dX8_leaves_47 : decode cX8_leaves 47 = .ok (.iastore, 1) := by decide +kernel
theorem dX8_leaves_48 : decode cX8_leaves 48 = .ok (.iconst 0, 1) := by decide +kernel
theorem dX8_leaves_49 : decode cX8_leaves 49 = .ok (.istore_n 3, 1) := by decide +kernel
theorem dX8_leaves_50 : decode cX8_leaves 50 = .ok (.iconst 0, 1) := by decide +kernel
theorem dX8_leaves_51 : decode cX8_leaves 51 = .ok (.istore 4, 2) := by decide +kernel
theorem dX8_leaves_53 : decode cX8_leaves 53 = .ok (.iload 4, 2) := by decide +kernel
theorem dX8_leaves_55 : decode cX8_leaves 55 = .ok (.iload_n 2, 1) := by decide +kernel
theorem dX8_leaves_56 : decode cX8_leaves 56 = .ok (.if_icmp .ge 61, 3) := by decide +kernel
theorem dX8_leaves_59 : decode cX8_leaves 59 = .ok (.iconst 0, 1) := by decide +kernel
theorem dX8_leaves_60 : decode cX8_leaves 60 = .ok (.istore 5, 2) := by decide +kernel
theorem dX8_leaves_62 : decode cX8_leaves 62 = .ok (.iconst 0, 1) := by decide +kernel
theorem dX8_leaves_63 : decode cX8_leaves 63 = .ok (.istore 6, 2) := by decide +kernel
theorem dX8_leaves_65 : decode cX8_leaves 65 = .ok (.iload 6, 2) := by decide +kernel
theorem dX8_leaves_67 : decode cX8_leaves 67 = .ok (.iload_n 2, 1) := by decide +kernel
theorem dX8_leaves_68 : decode cX8_leaves 68 = .ok (.if_icmp .ge 30, 3) := by decide +kernel
theorem dX8_leaves_71 : decode cX8_leaves 71 = .ok (.iload 5, 2) := by decide +kernel
theorem dX8_leaves_73 : decode cX8_leaves 73 = .ok (.aload_n 0, 1) := by decide +kernel
theorem dX8_leaves_74 : decode cX8_leaves 74 = .ok (.iload 4, 2) := by decide +kernel
theorem dX8_leaves_76 : decode cX8_leaves 76 = .ok (.iload 6, 2) := by decide +kernel
theorem dX8_leaves_78 : decode cX8_leaves 78 = .ok (.invokevirtual 332, 3) := by decide +kernel
theorem dX8_leaves_81 : decode cX8_leaves 81 = .ok (.ifCond .eq 7, 3) := by decide +kernel
theorem dX8_leaves_84 : decode cX8_leaves 84 = .ok (.iconst 1, 1) := by decide +kernel
theorem dX8_leaves_85 : decode cX8_leaves 85 = .ok (.goto 4, 3) := by decide +kernel
theorem dX8_leaves_88 : decode cX8_leaves 88 = .ok (.iconst 0, 1) := by decide +kernel
theorem dX8_leaves_89 : decode cX8_leaves 89 = .ok (.iadd, 1) := by decide +kernel
theorem dX8_leaves_90 : decode cX8_leaves 90 = .ok (.istore 5, 2) := by decide +kernel
theorem dX8_leaves_92 : decode cX8_leaves 92 = .ok (.iinc 6 1, 3) := by decide +kernel
theorem dX8_leaves_95 : decode cX8_leaves 95 = .ok (.goto (-30), 3) := by decide +kernel
theorem dX8_leaves_98 : decode cX8_leaves 98 = .ok (.iload 5, 2) := by decide +kernel
theorem dX8_leaves_100 : decode cX8_leaves 100 = .ok (.iload_n 3, 1) := by decide +kernel
theorem dX8_leaves_101 : decode cX8_leaves 101 = .ok (.if_icmp .le 8, 3) := by decide +kernel
theorem dX8_leaves_104 : decode cX8_leaves 104 = .ok (.iload 5, 2) := by decide +kernel
theorem dX8_leaves_106 : decode cX8_leaves 106 = .ok (.goto 4, 3) := by decide +kernel
theorem dX8_leaves_109 : decode cX8_leaves 109 = .ok (.iload_n 3, 1) := by decide +kernel
theorem dX8_leaves_110 : decode cX8_leaves 110 = .ok (.istore_n 3, 1) := by decide +kernel
theorem dX8_leaves_111 : decode cX8_leaves 111 = .ok (.iinc 4 1, 3) := by decide +kernel
theorem dX8_leaves_114 : decode cX8_leaves 114 = .ok (.goto (-61), 3) := by decide +kernel
theorem dX8_leaves_117 : decode cX8_leaves 117 = .ok (.iload_n 3, 1) := by decide +kernel
theorem dX8_leaves_118 : decode cX8_leaves 118 = .ok (.ireturn, 1) := by decide +kernel
noncomputable def qX8_leaves_1 : Bx := (bc clt (il 3) (il 2))
noncomputable def wX8_leaves_1 : Sx := (sseq (scv 7 DX8_laySigns (rl 0) (ai (il 3) anil)) (sinc 3 1))
noncomputable def qX8_leaves_2 : Bx := (bc clt (il 6) (il 2))
noncomputable def wX8_leaves_2 : Sx := (sseq (ssi 5 (i2 (· + ·) (il 5) (ic (bz cne (cvz 7 DX8_areAlike (rl 0) (ai (il 4) (ai (il 6) anil)))) (ik 1) (ik 0)))) (sinc 6 1))
noncomputable def qX8_leaves_3 : Bx := (bc clt (il 4) (il 2))
noncomputable def wX8_leaves_3 : Sx := (sseq (scut 5 (sseq (ssi 5 (ik 0)) (sseq (scut 6 (sseq (ssi 6 (ik 0)) (swh qX8_leaves_2 wX8_leaves_2))) (ssi 3 (ic (bc cgt (il 5) (il 3)) (il 5) (il 3)))))) (sinc 4 1))
noncomputable def EX8_leaves : Sx := (sseq (aoi (· ^^^ ·) (fgr 7 3 (rl 0)) (i2 (· + ·) (csi DX8_tubeAt (ai (il 1) anil)) (ik 3)) (ik 1)) (sseq (scut 3 (sseq (ssi 3 (ik 0)) (swh qX8_leaves_1 wX8_leaves_1))) (sseq (aoi (· ^^^ ·) (fgr 7 3 (rl 0)) (i2 (· + ·) (csi DX8_tubeAt (ai (il 1) anil)) (ik 3)) (ik 1)) (sseq (ssi 3 (ik 0)) (sseq (scut 4 (sseq (ssi 4 (ik 0)) (swh qX8_leaves_3 wX8_leaves_3))) (sret (il 3)))))))
noncomputable def DX8_leaves : Fi := mfi 7 EX8_leaves
set_option maxRecDepth 4000 in
theorem BX8_leaves : Vs RX8 cX8_leaves 7 (rmk 7 160) 0 0 EX8_leaves := (v_seq (v_aoi_ixor (v_gfr kX8 lk998 (by decide) rfl (v_aload_n (i := 0) dX8_leaves_0 rfl (rfl : 0 + 1 = 1)) dX8_leaves_1 (rfl : 1 + 3 = 4)) (v_iadd (v_csi IX8_tubeAt hX8_tubeAt lk1160 ⟨by decide, by decide⟩ (by decide) (v_ai (v_iload_n (i := 1) dX8_leaves_4 rfl (rfl : 4 + 1 = 5)) v_anil) dX8_leaves_5 (rfl : 5 + 3 = 8)) (v_iconst (v := 3) dX8_leaves_8 (by decide) (rfl : 8 + 1 = 9)) dX8_leaves_9 (rfl : 9 + 1 = 10)) dX8_leaves_10 dX8_leaves_11 (rfl : 10 + 1 + 1 = 12) (v_iconst (v := 1) dX8_leaves_12 (by decide) (rfl : 12 + 1 = 13)) dX8_leaves_13 dX8_leaves_14 (rfl : 13 + 1 + 1 = 15)) (v_seq (v_cut (n := 3) (v_seq (v_istore_n (i := 3) (v_iconst (v := 0) dX8_leaves_15 (by decide) (rfl : 15 + 1 = 16)) dX8_leaves_16 rfl (by decide) (rfl : 16 + 1 = 17)) (v_wh (v_ilt_f (v_iload_n (i := 3) dX8_leaves_17 rfl (rfl : 17 + 1 = 18)) (v_iload_n (i := 2) dX8_leaves_18 rfl (rfl : 18 + 1 = 19)) dX8_leaves_19 (rfl : ((19 : Nat) : Int) + 14 = ((33 : Nat) : Int)) (rfl : 19 + 3 = 22)) (vs_goto (v_seq (v_scv kX8 IX8_laySigns hX8_laySigns lk1425 ⟨by decide, by decide⟩ (v_aload_n (i := 0) dX8_leaves_22 rfl (rfl : 22 + 1 = 23)) (v_ai (v_iload_n (i := 3) dX8_leaves_23 rfl (rfl : 23 + 1 = 24)) v_anil) dX8_leaves_24 (rfl : 24 + 3 = 27)) (v_iinc (v := 1) dX8_leaves_27 (by decide) (by decide) (rfl : 27 + 3 = 30))) dX8_leaves_30 (rfl : ((30 : Nat) : Int) + (-13) = ((17 : Nat) : Int)))))) (v_seq (v_aoi_ixor (v_gfr kX8 lk998 (by decide) rfl (v_aload_n (i := 0) dX8_leaves_33 rfl (rfl : 33 + 1 = 34)) dX8_leaves_34 (rfl : 34 + 3 = 37)) (v_iadd (v_csi IX8_tubeAt hX8_tubeAt lk1160 ⟨by decide, by decide⟩ (by decide) (v_ai (v_iload_n (i := 1) dX8_leaves_37 rfl (rfl : 37 + 1 = 38)) v_anil) dX8_leaves_38 (rfl : 38 + 3 = 41)) (v_iconst (v := 3) dX8_leaves_41 (by decide) (rfl : 41 + 1 = 42)) dX8_leaves_42 (rfl : 42 + 1 = 43)) dX8_leaves_43 dX8_leaves_44 (rfl : 43 + 1 + 1 = 45) (v_iconst (v := 1) dX8_leaves_45 (by decide) (rfl : 45 + 1 = 46)) dX8_leaves_46 dX8_leaves_47 (rfl : 46 + 1 + 1 = 48)) (v_seq (v_istore_n (i := 3) (v_iconst (v := 0) dX8_leaves_48 (by decide) (rfl : 48 + 1 = 49)) dX8_leaves_49 rfl (by decide) (rfl : 49 + 1 = 50)) (v_seq (v_cut (n := 4) (v_seq (v_istore (i := 4) (v_iconst (v := 0) dX8_leaves_50 (by decide) (rfl : 50 + 1 = 51)) dX8_leaves_51 (by decide) (rfl : 51 + 2 = 53)) (v_wh (v_ilt_f (v_iload (i := 4) dX8_leaves_53 (rfl : 53 + 2 = 55)) (v_iload_n (i := 2) dX8_leaves_55 rfl (rfl : 55 + 1 = 56)) dX8_leaves_56 (rfl : ((56 : Nat) : Int) + 61 = ((117 : Nat) : Int)) (rfl : 56 + 3 = 59)) (vs_goto (v_seq (v_cut (n := 5) (v_seq (v_istore (i := 5) (v_iconst (v := 0) dX8_leaves_59 (by decide) (rfl : 59 + 1 = 60)) dX8_leaves_60 (by decide) (rfl : 60 + 2 = 62)) (v_seq (v_cut (n := 6) (v_seq (v_istore (i := 6) (v_iconst (v := 0) dX8_leaves_62 (by decide) (rfl : 62 + 1 = 63)) dX8_leaves_63 (by decide) (rfl : 63 + 2 = 65)) (v_wh (v_ilt_f (v_iload (i := 6) dX8_leaves_65 (rfl : 65 + 2 = 67)) (v_iload_n (i := 2) dX8_leaves_67 rfl (rfl : 67 + 1 = 68)) dX8_leaves_68 (rfl : ((68 : Nat) : Int) + 30 = ((98 : Nat) : Int)) (rfl : 68 + 3 = 71)) (vs_goto (v_seq (v_istore (i := 5) (v_iadd (v_iload (i := 5) dX8_leaves_71 (rfl : 71 + 2 = 73)) (v_ic (v_zne_f (v_cvz kX8 IX8_areAlike hX8_areAlike lk1429 ⟨by decide, by decide⟩ (by decide) (v_aload_n (i := 0) dX8_leaves_73 rfl (rfl : 73 + 1 = 74)) (v_ai (v_iload (i := 4) dX8_leaves_74 (rfl : 74 + 2 = 76)) (v_ai (v_iload (i := 6) dX8_leaves_76 (rfl : 76 + 2 = 78)) v_anil)) dX8_leaves_78 (rfl : 78 + 3 = 81)) dX8_leaves_81 (rfl : ((81 : Nat) : Int) + 7 = ((88 : Nat) : Int)) (rfl : 81 + 3 = 84)) (vi_goto (v_iconst (v := 1) dX8_leaves_84 (by decide) (rfl : 84 + 1 = 85)) dX8_leaves_85 (rfl : ((85 : Nat) : Int) + 4 = ((89 : Nat) : Int))) (v_iconst (v := 0) dX8_leaves_88 (by decide) (rfl : 88 + 1 = 89))) dX8_leaves_89 (rfl : 89 + 1 = 90)) dX8_leaves_90 (by decide) (rfl : 90 + 2 = 92)) (v_iinc (v := 1) dX8_leaves_92 (by decide) (by decide) (rfl : 92 + 3 = 95))) dX8_leaves_95 (rfl : ((95 : Nat) : Int) + (-30) = ((65 : Nat) : Int)))))) (v_istore_n (i := 3) (v_ic (v_igt_f (v_iload (i := 5) dX8_leaves_98 (rfl : 98 + 2 = 100)) (v_iload_n (i := 3) dX8_leaves_100 rfl (rfl : 100 + 1 = 101)) dX8_leaves_101 (rfl : ((101 : Nat) : Int) + 8 = ((109 : Nat) : Int)) (rfl : 101 + 3 = 104)) (vi_goto (v_iload (i := 5) dX8_leaves_104 (rfl : 104 + 2 = 106)) dX8_leaves_106 (rfl : ((106 : Nat) : Int) + 4 = ((110 : Nat) : Int))) (v_iload_n (i := 3) dX8_leaves_109 rfl (rfl : 109 + 1 = 110))) dX8_leaves_110 rfl (by decide) (rfl : 110 + 1 = 111))))) (v_iinc (v := 1) dX8_leaves_111 (by decide) (by decide) (rfl : 111 + 3 = 114))) dX8_leaves_114 (rfl : ((114 : Nat) : Int) + (-61) = ((53 : Nat) : Int)))))) (v_ret (v_iload_n (i := 3) dX8_leaves_117 rfl (rfl : 117 + 1 = 118)) dX8_leaves_118))))))
theorem IX8_leaves : Mi yX8_leaves cX8_leaves 7 (rmk 7 160) DX8_leaves := mk_i (by decide +kernel) BX8_leaves

theorem dX8_log_0 : decode cX8_log 0 = .ok (.aload_n 0, 1) := by decide +kernel
theorem dX8_log_1 : decode cX8_log 1 = .ok (.iconst 0, 1) := by decide +kernel
theorem dX8_log_2 : decode cX8_log 2 = .ok (.putfield 84, 3) := by decide +kernel
theorem dX8_log_5 : decode cX8_log 5 = .ok (.aload_n 0, 1) := by decide +kernel
theorem dX8_log_6 : decode cX8_log 6 = .ok (.iload_n 1, 1) := by decide +kernel
theorem dX8_log_7 : decode cX8_log 7 = .ok (.invokevirtual 109, 3) := by decide +kernel
theorem dX8_log_10 : decode cX8_log 10 = .ok (.ifCond .eq 49, 3) := by decide +kernel
theorem dX8_log_13 : decode cX8_log 13 = .ok (.iload_n 2, 1) := by decide +kernel
theorem dX8_log_14 : decode cX8_log 14 = .ok (.i2l, 1) := by decide +kernel
theorem dX8_log_15 : decode cX8_log 15 = .ok (.lconst 0, 1) := by decide +kernel
theorem dX8_log_16 : decode cX8_log 16 = .ok (.aload_n 0, 1) := by decide +kernel
theorem dX8_log_17 : decode cX8_log 17 = .ok (.getfield 13, 3) := by decide +kernel
theorem dX8_log_20 : decode cX8_log 20 = .ok (.bipush 7, 2) := by decide +kernel
theorem dX8_log_22 : decode cX8_log 22 = .ok (.iaload, 1) := by decide +kernel
theorem dX8_log_23 : decode cX8_log 23 = .ok (.i2l, 1) := by decide +kernel
theorem dX8_log_24 : decode cX8_log 24 = .ok (.lconst 1, 1) := by decide +kernel
theorem dX8_log_25 : decode cX8_log 25 = .ok (.lsub, 1) := by decide +kernel
theorem dX8_log_26 : decode cX8_log 26 = .ok (.invokestatic 105, 3) := by decide +kernel
theorem dX8_log_29 : decode cX8_log 29 = .ok (.ifCond .eq 30, 3) := by decide +kernel
theorem dX8_log_32 : decode cX8_log 32 = .ok (.aload_n 0, 1) := by decide +kernel
theorem dX8_log_33 : decode cX8_log 33 = .ok (.getfield 13, 3) := by decide +kernel
theorem dX8_log_36 : decode cX8_log 36 = .ok (.sipush 131, 3) := by decide +kernel
theorem dX8_log_39 : decode cX8_log 39 = .ok (.iconst 5, 1) := by decide +kernel
theorem dX8_log_40 : decode cX8_log 40 = .ok (.aload_n 0, 1) := by decide +kernel
theorem dX8_log_41 : decode cX8_log 41 = .ok (.getfield 13, 3) := by decide +kernel
theorem dX8_log_44 : decode cX8_log 44 = .ok (.bipush 7, 2) := by decide +kernel
theorem dX8_log_46 : decode cX8_log 46 = .ok (.iaload, 1) := by decide +kernel
theorem dX8_log_47 : decode cX8_log 47 = .ok (.iconst 1, 1) := by decide +kernel
theorem dX8_log_48 : decode cX8_log 48 = .ok (.isub, 1) := by decide +kernel
theorem dX8_log_49 : decode cX8_log 49 = .ok (.iload_n 2, 1) := by decide +kernel
theorem dX8_log_50 : decode cX8_log 50 = .ok (.isub, 1) := by decide +kernel
theorem dX8_log_51 : decode cX8_log 51 = .ok (.imul, 1) := by decide +kernel
theorem dX8_log_52 : decode cX8_log 52 = .ok (.iadd, 1) := by decide +kernel
theorem dX8_log_53 : decode cX8_log 53 = .ok (.iload_n 1, 1) := by decide +kernel
theorem dX8_log_54 : decode cX8_log 54 = .ok (.iadd, 1) := by decide +kernel
theorem dX8_log_55 : decode cX8_log 55 = .ok (.iaload, 1) := by decide +kernel
theorem dX8_log_56 : decode cX8_log 56 = .ok (.goto 4, 3) := by decide +kernel
theorem dX8_log_59 : decode cX8_log 59 = .ok (.iconst (-1), 1) := by decide +kernel
theorem dX8_log_60 : decode cX8_log 60 = .ok (.ireturn, 1) := by decide +kernel
noncomputable def EX8_log : Sx := (sseq (fpi 7 0 (rl 0) (ik 0)) (sret (ic (band (bz cne (cvz 7 DX8_isChamber (rl 0) (ai (il 1) anil))) (bz cne (csz DX8_in (aj (i2l (il 2)) (aj (jk 0) (aj (j2 (· - ·) (i2l (iald (fgr 7 3 (rl 0)) (ik 7))) (jk 1)) anil)))))) (iald (fgr 7 3 (rl 0)) (i2 (· + ·) (i2 (· + ·) (ik 131) (i2 (· * ·) (ik 5) (i2 (· - ·) (i2 (· - ·) (iald (fgr 7 3 (rl 0)) (ik 7)) (ik 1)) (il 2)))) (il 1))) (ik (-1)))))
noncomputable def DX8_log : Fi := mfi 3 EX8_log
set_option maxRecDepth 4000 in
theorem BX8_log : Vs RX8 cX8_log 3 (rmk 2 46) 0 0 EX8_log := (v_seq (v_fpi kX8 lk995 (by decide) rfl rfl (by decide +kernel) (v_aload_n (i := 0) dX8_log_0 rfl (rfl : 0 + 1 = 1)) (v_iconst (v := 0) dX8_log_1 (by decide) (rfl : 1 + 1 = 2)) dX8_log_2 (rfl : 2 + 3 = 5)) (v_ret (v_ic (v_and (v_zne_f (v_cvz kX8 IX8_isChamber hX8_isChamber lk1145 ⟨by decide, by decide⟩ (by decide) (v_aload_n (i := 0) dX8_log_5 rfl (rfl : 5 + 1 = 6)) (v_ai (v_iload_n (i := 1) dX8_log_6 rfl (rfl : 6 + 1 = 7)) v_anil) dX8_log_7 (rfl : 7 + 3 = 10)) dX8_log_10 (rfl : ((10 : Nat) : Int) + 49 = ((59 : Nat) : Int)) (rfl : 10 + 3 = 13)) (v_zne_f (v_csz IX8_in hX8_in lk1120 ⟨by decide, by decide⟩ (by decide) (v_aj (v_i2l (v_iload_n (i := 2) dX8_log_13 rfl (rfl : 13 + 1 = 14)) dX8_log_14 (rfl : 14 + 1 = 15)) (v_aj (v_lconst (v := 0) dX8_log_15 (by decide) (rfl : 15 + 1 = 16)) (v_aj (v_lsub (v_i2l (v_iald (v_gfr kX8 lk998 (by decide) rfl (v_aload_n (i := 0) dX8_log_16 rfl (rfl : 16 + 1 = 17)) dX8_log_17 (rfl : 17 + 3 = 20)) (v_bipush (v := 7) dX8_log_20 (by decide) (rfl : 20 + 2 = 22)) dX8_log_22 (rfl : 22 + 1 = 23)) dX8_log_23 (rfl : 23 + 1 = 24)) (v_lconst (v := 1) dX8_log_24 (by decide) (rfl : 24 + 1 = 25)) dX8_log_25 (rfl : 25 + 1 = 26)) v_anil))) dX8_log_26 (rfl : 26 + 3 = 29)) dX8_log_29 (rfl : ((29 : Nat) : Int) + 30 = ((59 : Nat) : Int)) (rfl : 29 + 3 = 32))) (vi_goto (v_iald (v_gfr kX8 lk998 (by decide) rfl (v_aload_n (i := 0) dX8_log_32 rfl (rfl : 32 + 1 = 33)) dX8_log_33 (rfl : 33 + 3 = 36)) (v_iadd (v_iadd (v_sipush (v := 131) dX8_log_36 (by decide) (rfl : 36 + 3 = 39)) (v_imul (v_iconst (v := 5) dX8_log_39 (by decide) (rfl : 39 + 1 = 40)) (v_isub (v_isub (v_iald (v_gfr kX8 lk998 (by decide) rfl (v_aload_n (i := 0) dX8_log_40 rfl (rfl : 40 + 1 = 41)) dX8_log_41 (rfl : 41 + 3 = 44)) (v_bipush (v := 7) dX8_log_44 (by decide) (rfl : 44 + 2 = 46)) dX8_log_46 (rfl : 46 + 1 = 47)) (v_iconst (v := 1) dX8_log_47 (by decide) (rfl : 47 + 1 = 48)) dX8_log_48 (rfl : 48 + 1 = 49)) (v_iload_n (i := 2) dX8_log_49 rfl (rfl : 49 + 1 = 50)) dX8_log_50 (rfl : 50 + 1 = 51)) dX8_log_51 (rfl : 51 + 1 = 52)) dX8_log_52 (rfl : 52 + 1 = 53)) (v_iload_n (i := 1) dX8_log_53 rfl (rfl : 53 + 1 = 54)) dX8_log_54 (rfl : 54 + 1 = 55)) dX8_log_55 (rfl : 55 + 1 = 56)) dX8_log_56 (rfl : ((56 : Nat) : Int) + 4 = ((60 : Nat) : Int))) (v_iconst (v := (-1)) dX8_log_59 (by decide) (rfl : 59 + 1 = 60))) dX8_log_60))
theorem IX8_log : Mi yX8_log cX8_log 3 (rmk 2 46) DX8_log := mk_i (by decide +kernel) BX8_log

theorem dX8_logs_0 : decode cX8_logs 0 = .ok (.aload_n 0, 1) := by decide +kernel
theorem dX8_logs_1 : decode cX8_logs 1 = .ok (.invokevirtual 254, 3) := by decide +kernel
theorem dX8_logs_4 : decode cX8_logs 4 = .ok (.istore_n 1, 1) := by decide +kernel
theorem dX8_logs_5 : decode cX8_logs 5 = .ok (.aload_n 0, 1) := by decide +kernel
theorem dX8_logs_6 : decode cX8_logs 6 = .ok (.getfield 13, 3) := by decide +kernel
theorem dX8_logs_9 : decode cX8_logs 9 = .ok (.bipush 7, 2) := by decide +kernel
theorem dX8_logs_11 : decode cX8_logs 11 = .ok (.iaload, 1) := by decide +kernel
theorem dX8_logs_12 : decode cX8_logs 12 = .ok (.bipush 40, 2) := by decide +kernel
theorem dX8_logs_14 : decode cX8_logs 14 = .ok (.if_icmp .ne 45, 3) := by decide +kernel
theorem dX8_logs_17 : decode cX8_logs 17 = .ok (.sipush 131, 3) := by decide +kernel
theorem dX8_logs_20 : decode cX8_logs 20 = .ok (.istore_n 2, 1) := by decide +kernel
theorem dX8_logs_21 : decode cX8_logs 21 = .ok (.iload_n 2, 1) := by decide +kernel
theorem dX8_logs_22 : decode cX8_logs 22 = .ok (.sipush 326, 3) := by decide +kernel
theorem dX8_logs_25 : decode cX8_logs 25 = .ok (.if_icmp .ge 23, 3) := by decide +kernel
theorem dX8_logs_28 : decode cX8_logs 28 = .ok (.aload_n 0, 1) := by decide +kernel
theorem dX8_logs_29 : decode cX8_logs 29 = .ok (.getfield 13, 3) := by decide +kernel
theorem dX8_logs_32 : decode cX8_logs 32 = .ok (.iload_n 2, 1) := by decide +kernel
theorem dX8_logs_33 : decode cX8_logs 33 = .ok (.aload_n 0, 1) := by decide +kernel
theorem dX8_logs_34 : decode cX8_logs 34 = .ok (.getfield 13, 3) := by decide +kernel
theorem dX8_logs_37 : decode cX8_logs 37 = .ok (.iload_n 2, 1) := by decide +kernel
theorem dX8_logs_38 : decode cX8_logs 38 = .ok (.iconst 5, 1) := by decide +kernel
theorem dX8_logs_39 : decode cX8_logs 39 = .ok (.iadd, 1) := by decide +kernel
theorem dX8_logs_40 : decode cX8_logs 40 = .ok (.iaload, 1) := by decide +kernel
theorem dX8_logs_41 : decode cX8_logs 41 = .ok (.iastore, 1) := by decide +kernel
theorem dX8_logs_42 : decode cX8_logs 42 = .ok (.iinc 2 1, 3) := by decide +kernel
theorem dX8_logs_45 : decode cX8_logs 45 = .ok (.goto (-24), 3) := by decide +kernel
theorem dX8_logs_48 : decode cX8_logs 48 = .ok (.aload_n 0, 1) := by decide +kernel
theorem dX8_logs_49 : decode cX8_logs 49 = .ok (.getfield 13, 3) := by decide +kernel
theorem dX8_logs_52 : decode cX8_logs 52 = .ok (.bipush 7, 2) := by decide +kernel
theorem dX8_logs_54 : decode cX8_logs 54 = .ok (.dup2, 1) := by decide +kernel
theorem dX8_logs_55 : decode cX8_logs 55 = .ok (.iaload, 1) := by decide +kernel
theorem dX8_logs_56 : decode cX8_logs 56 = .ok (.iconst 1, 1) := by decide +kernel
theorem dX8_logs_57 : decode cX8_logs 57 = .ok (.isub, 1) := by decide +kernel
theorem dX8_logs_58 : decode cX8_logs 58 = .ok (.iastore, 1) := by decide +kernel
theorem dX8_logs_59 : decode cX8_logs 59 = .ok (.iconst 0, 1) := by decide +kernel
theorem dX8_logs_60 : decode cX8_logs 60 = .ok (.istore_n 2, 1) := by decide +kernel
theorem dX8_logs_61 : decode cX8_logs 61 = .ok (.iload_n 2, 1) := by decide +kernel
theorem dX8_logs_62 : decode cX8_logs 62 = .ok (.iconst 5, 1) := by decide +kernel
theorem dX8_logs_63 : decode cX8_logs 63 = .ok (.if_icmp .ge 57, 3) := by decide +kernel
theorem dX8_logs_66 : decode cX8_logs 66 = .ok (.aload_n 0, 1) := by decide +kernel
theorem dX8_logs_67 : decode cX8_logs 67 = .ok (.getfield 13, 3) := by decide +kernel
theorem dX8_logs_70 : decode cX8_logs 70 = .ok (.sipush 131, 3) := by decide +kernel
theorem dX8_logs_73 : decode cX8_logs 73 = .ok (.iconst 5, 1) := by decide +kernel
theorem dX8_logs_74 : decode cX8_logs 74 = .ok (.aload_n 0, 1) := by decide +kernel
theorem dX8_logs_75 : decode cX8_logs 75 = .ok (.getfield 13, 3) := by decide +kernel
theorem dX8_logs_78 : decode cX8_logs 78 = .ok (.bipush 7, 2) := by decide +kernel
theorem dX8_logs_80 : decode cX8_logs 80 = .ok (.iaload, 1) := by decide +kernel
theorem dX8_logs_81 : decode cX8_logs 81 = .ok (.imul, 1) := by decide +kernel
theorem dX8_logs_82 : decode cX8_logs 82 = .ok (.iadd, 1) := by decide +kernel
theorem dX8_logs_83 : decode cX8_logs 83 = .ok (.iload_n 2, 1) := by decide +kernel
theorem dX8_logs_84 : decode cX8_logs 84 = .ok (.iadd, 1) := by decide +kernel
theorem dX8_logs_85 : decode cX8_logs 85 = .ok (.iload_n 2, 1) := by decide +kernel
theorem dX8_logs_86 : decode cX8_logs 86 = .ok (.aload_n 0, 1) := by decide +kernel
theorem dX8_logs_87 : decode cX8_logs 87 = .ok (.getfield 13, 3) := by decide +kernel
theorem dX8_logs_90 : decode cX8_logs 90 = .ok (.iconst 0, 1) := by decide +kernel
theorem dX8_logs_91 : decode cX8_logs 91 = .ok (.iaload, 1) := by decide +kernel
theorem dX8_logs_92 : decode cX8_logs 92 = .ok (.if_icmp .lt 7, 3) := by decide +kernel
theorem dX8_logs_95 : decode cX8_logs 95 = .ok (.iconst (-1), 1) := by decide +kernel
theorem dX8_logs_96 : decode cX8_logs 96 = .ok (.goto 17, 3) := by decide +kernel
theorem dX8_logs_99 : decode cX8_logs 99 = .ok (.iload_n 1, 1) := by decide +kernel
theorem dX8_logs_100 : decode cX8_logs 100 = .ok (.ifCond .eq 11, 3) := by decide +kernel
theorem dX8_logs_103 : decode cX8_logs 103 = .ok (.aload_n 0, 1) := by decide +kernel
theorem dX8_logs_104 : decode cX8_logs 104 = .ok (.iload_n 2, 1) := by decide +kernel
theorem dX8_logs_105 : decode cX8_logs 105 = .ok (.invokevirtual 257, 3) := by decide +kernel
theorem dX8_logs_108 : decode cX8_logs 108 = .ok (.goto 5, 3) := by decide +kernel
theorem dX8_logs_111 : decode cX8_logs 111 = .ok (.bipush (-3), 2) := by decide +kernel
theorem dX8_logs_113 : decode cX8_logs 113 = .ok (.iastore, 1) := by decide +kernel
theorem dX8_logs_114 : decode cX8_logs 114 = .ok (.iinc 2 1, 3) := by decide +kernel
theorem dX8_logs_117 : decode cX8_logs 117 = .ok (.goto (-56), 3) := by decide +kernel
theorem dX8_logs_120 : decode cX8_logs 120 = .ok (.aload_n 0, 1) := by decide +kernel
theorem dX8_logs_121 : decode cX8_logs 121 = .ok (.getfield 13, 3) := by decide +kernel
theorem dX8_logs_124 : decode cX8_logs 124 = .ok (.bipush 7, 2) := by decide +kernel
theorem dX8_logs_126 : decode cX8_logs 126 = .ok (.dup2, 1) := by decide +kernel
theorem dX8_logs_127 : decode cX8_logs 127 = .ok (.iaload, 1) := by decide +kernel
theorem dX8_logs_128 : decode cX8_logs 128 = .ok (.iconst 1, 1) := by decide +kernel
theorem dX8_logs_129 : decode cX8_logs 129 = .ok (.iadd, 1) := by decide +kernel
theorem dX8_logs_130 : decode cX8_logs 130 = .ok (.iastore, 1) := by decide +kernel
theorem dX8_logs_131 : decode cX8_logs 131 = .ok (.return_, 1) := by decide +kernel
noncomputable def qX8_logs_1 : Bx := (bc clt (il 2) (ik 326))
noncomputable def wX8_logs_1 : Sx := (sseq (aii (fgr 7 3 (rl 0)) (il 2) (iald (fgr 7 3 (rl 0)) (i2 (· + ·) (il 2) (ik 5)))) (sinc 2 1))
noncomputable def qX8_logs_2 : Bx := (bc clt (il 2) (ik 5))
noncomputable def wX8_logs_2 : Sx := (sseq (aii (fgr 7 3 (rl 0)) (i2 (· + ·) (i2 (· + ·) (ik 131) (i2 (· * ·) (ik 5) (iald (fgr 7 3 (rl 0)) (ik 7)))) (il 2)) (ic (bc cge (il 2) (iald (fgr 7 3 (rl 0)) (ik 0))) (ik (-1)) (ic (bz cne (il 1)) (cvi 7 DX8_readingOf (rl 0) (ai (il 2) anil)) (ik (-3))))) (sinc 2 1))
noncomputable def EX8_logs : Sx := (sseq (sseq (ssi 1 (cvz 7 DX8_reckonNow (rl 0) anil)) (sseq (sif (bc ceq (iald (fgr 7 3 (rl 0)) (ik 7)) (ik 40)) (sseq (scut 2 (sseq (ssi 2 (ik 131)) (swh qX8_logs_1 wX8_logs_1))) (aoi (· - ·) (fgr 7 3 (rl 0)) (ik 7) (ik 1))) snop) (sseq (scut 2 (sseq (ssi 2 (ik 0)) (swh qX8_logs_2 wX8_logs_2))) (aoi (· + ·) (fgr 7 3 (rl 0)) (ik 7) (ik 1))))) sretv)
noncomputable def DX8_logs : Fu := mfv 3 EX8_logs
set_option maxRecDepth 4000 in
theorem BX8_logs : Vs RX8 cX8_logs 3 (rmk 6 134) 0 0 EX8_logs := (v_seq (v_seq (v_istore_n (i := 1) (v_cvz kX8 IX8_reckonNow hX8_reckonNow lk1241 ⟨by decide, by decide⟩ (by decide) (v_aload_n (i := 0) dX8_logs_0 rfl (rfl : 0 + 1 = 1)) v_anil dX8_logs_1 (rfl : 1 + 3 = 4)) dX8_logs_4 rfl (by decide) (rfl : 4 + 1 = 5)) (v_seq (v_if (v_ieq_f (v_iald (v_gfr kX8 lk998 (by decide) rfl (v_aload_n (i := 0) dX8_logs_5 rfl (rfl : 5 + 1 = 6)) dX8_logs_6 (rfl : 6 + 3 = 9)) (v_bipush (v := 7) dX8_logs_9 (by decide) (rfl : 9 + 2 = 11)) dX8_logs_11 (rfl : 11 + 1 = 12)) (v_bipush (v := 40) dX8_logs_12 (by decide) (rfl : 12 + 2 = 14)) dX8_logs_14 (rfl : ((14 : Nat) : Int) + 45 = ((59 : Nat) : Int)) (rfl : 14 + 3 = 17)) (v_seq (v_cut (n := 2) (v_seq (v_istore_n (i := 2) (v_sipush (v := 131) dX8_logs_17 (by decide) (rfl : 17 + 3 = 20)) dX8_logs_20 rfl (by decide) (rfl : 20 + 1 = 21)) (v_wh (v_ilt_f (v_iload_n (i := 2) dX8_logs_21 rfl (rfl : 21 + 1 = 22)) (v_sipush (v := 326) dX8_logs_22 (by decide) (rfl : 22 + 3 = 25)) dX8_logs_25 (rfl : ((25 : Nat) : Int) + 23 = ((48 : Nat) : Int)) (rfl : 25 + 3 = 28)) (vs_goto (v_seq (v_aii (v_gfr kX8 lk998 (by decide) rfl (v_aload_n (i := 0) dX8_logs_28 rfl (rfl : 28 + 1 = 29)) dX8_logs_29 (rfl : 29 + 3 = 32)) (v_iload_n (i := 2) dX8_logs_32 rfl (rfl : 32 + 1 = 33)) (v_iald (v_gfr kX8 lk998 (by decide) rfl (v_aload_n (i := 0) dX8_logs_33 rfl (rfl : 33 + 1 = 34)) dX8_logs_34 (rfl : 34 + 3 = 37)) (v_iadd (v_iload_n (i := 2) dX8_logs_37 rfl (rfl : 37 + 1 = 38)) (v_iconst (v := 5) dX8_logs_38 (by decide) (rfl : 38 + 1 = 39)) dX8_logs_39 (rfl : 39 + 1 = 40)) dX8_logs_40 (rfl : 40 + 1 = 41)) dX8_logs_41 (rfl : 41 + 1 = 42)) (v_iinc (v := 1) dX8_logs_42 (by decide) (by decide) (rfl : 42 + 3 = 45))) dX8_logs_45 (rfl : ((45 : Nat) : Int) + (-24) = ((21 : Nat) : Int)))))) (v_aoi_isub (v_gfr kX8 lk998 (by decide) rfl (v_aload_n (i := 0) dX8_logs_48 rfl (rfl : 48 + 1 = 49)) dX8_logs_49 (rfl : 49 + 3 = 52)) (v_bipush (v := 7) dX8_logs_52 (by decide) (rfl : 52 + 2 = 54)) dX8_logs_54 dX8_logs_55 (rfl : 54 + 1 + 1 = 56) (v_iconst (v := 1) dX8_logs_56 (by decide) (rfl : 56 + 1 = 57)) dX8_logs_57 dX8_logs_58 (rfl : 57 + 1 + 1 = 59))) v_nop) (v_seq (v_cut (n := 2) (v_seq (v_istore_n (i := 2) (v_iconst (v := 0) dX8_logs_59 (by decide) (rfl : 59 + 1 = 60)) dX8_logs_60 rfl (by decide) (rfl : 60 + 1 = 61)) (v_wh (v_ilt_f (v_iload_n (i := 2) dX8_logs_61 rfl (rfl : 61 + 1 = 62)) (v_iconst (v := 5) dX8_logs_62 (by decide) (rfl : 62 + 1 = 63)) dX8_logs_63 (rfl : ((63 : Nat) : Int) + 57 = ((120 : Nat) : Int)) (rfl : 63 + 3 = 66)) (vs_goto (v_seq (v_aii (v_gfr kX8 lk998 (by decide) rfl (v_aload_n (i := 0) dX8_logs_66 rfl (rfl : 66 + 1 = 67)) dX8_logs_67 (rfl : 67 + 3 = 70)) (v_iadd (v_iadd (v_sipush (v := 131) dX8_logs_70 (by decide) (rfl : 70 + 3 = 73)) (v_imul (v_iconst (v := 5) dX8_logs_73 (by decide) (rfl : 73 + 1 = 74)) (v_iald (v_gfr kX8 lk998 (by decide) rfl (v_aload_n (i := 0) dX8_logs_74 rfl (rfl : 74 + 1 = 75)) dX8_logs_75 (rfl : 75 + 3 = 78)) (v_bipush (v := 7) dX8_logs_78 (by decide) (rfl : 78 + 2 = 80)) dX8_logs_80 (rfl : 80 + 1 = 81)) dX8_logs_81 (rfl : 81 + 1 = 82)) dX8_logs_82 (rfl : 82 + 1 = 83)) (v_iload_n (i := 2) dX8_logs_83 rfl (rfl : 83 + 1 = 84)) dX8_logs_84 (rfl : 84 + 1 = 85)) (v_ic (v_ige_f (v_iload_n (i := 2) dX8_logs_85 rfl (rfl : 85 + 1 = 86)) (v_iald (v_gfr kX8 lk998 (by decide) rfl (v_aload_n (i := 0) dX8_logs_86 rfl (rfl : 86 + 1 = 87)) dX8_logs_87 (rfl : 87 + 3 = 90)) (v_iconst (v := 0) dX8_logs_90 (by decide) (rfl : 90 + 1 = 91)) dX8_logs_91 (rfl : 91 + 1 = 92)) dX8_logs_92 (rfl : ((92 : Nat) : Int) + 7 = ((99 : Nat) : Int)) (rfl : 92 + 3 = 95)) (vi_goto (v_iconst (v := (-1)) dX8_logs_95 (by decide) (rfl : 95 + 1 = 96)) dX8_logs_96 (rfl : ((96 : Nat) : Int) + 17 = ((113 : Nat) : Int))) (v_ic (v_zne_f (v_iload_n (i := 1) dX8_logs_99 rfl (rfl : 99 + 1 = 100)) dX8_logs_100 (rfl : ((100 : Nat) : Int) + 11 = ((111 : Nat) : Int)) (rfl : 100 + 3 = 103)) (vi_goto (v_cvi kX8 IX8_readingOf hX8_readingOf lk1309 ⟨by decide, by decide⟩ (by decide) (v_aload_n (i := 0) dX8_logs_103 rfl (rfl : 103 + 1 = 104)) (v_ai (v_iload_n (i := 2) dX8_logs_104 rfl (rfl : 104 + 1 = 105)) v_anil) dX8_logs_105 (rfl : 105 + 3 = 108)) dX8_logs_108 (rfl : ((108 : Nat) : Int) + 5 = ((113 : Nat) : Int))) (v_bipush (v := (-3)) dX8_logs_111 (by decide) (rfl : 111 + 2 = 113)))) dX8_logs_113 (rfl : 113 + 1 = 114)) (v_iinc (v := 1) dX8_logs_114 (by decide) (by decide) (rfl : 114 + 3 = 117))) dX8_logs_117 (rfl : ((117 : Nat) : Int) + (-56) = ((61 : Nat) : Int)))))) (v_aoi_iadd (v_gfr kX8 lk998 (by decide) rfl (v_aload_n (i := 0) dX8_logs_120 rfl (rfl : 120 + 1 = 121)) dX8_logs_121 (rfl : 121 + 3 = 124)) (v_bipush (v := 7) dX8_logs_124 (by decide) (rfl : 124 + 2 = 126)) dX8_logs_126 dX8_logs_127 (rfl : 126 + 1 + 1 = 128) (v_iconst (v := 1) dX8_logs_128 (by decide) (rfl : 128 + 1 = 129)) dX8_logs_129 dX8_logs_130 (rfl : 129 + 1 + 1 = 131))))) (v_retv dX8_logs_131))
theorem IX8_logs : Mv yX8_logs cX8_logs 3 (rmk 6 134) DX8_logs := mk_v (by decide +kernel) BX8_logs

theorem dX8_lookout_0 : decode cX8_lookout 0 = .ok (.aload_n 0, 1) := by decide +kernel
theorem dX8_lookout_1 : decode cX8_lookout 1 = .ok (.iconst 0, 1) := by decide +kernel
theorem dX8_lookout_2 : decode cX8_lookout 2 = .ok (.putfield 84, 3) := by decide +kernel
theorem dX8_lookout_5 : decode cX8_lookout 5 = .ok (.iconst 0, 1) := by decide +kernel
theorem dX8_lookout_6 : decode cX8_lookout 6 = .ok (.istore_n 1, 1) := by decide +kernel
theorem dX8_lookout_7 : decode cX8_lookout 7 = .ok (.iconst 0, 1) := by decide +kernel
theorem dX8_lookout_8 : decode cX8_lookout 8 = .ok (.istore_n 2, 1) := by decide +kernel
theorem dX8_lookout_9 : decode cX8_lookout 9 = .ok (.iload_n 2, 1) := by decide +kernel
theorem dX8_lookout_10 : decode cX8_lookout 10 = .ok (.aload_n 0, 1) := by decide +kernel
theorem dX8_lookout_11 : decode cX8_lookout 11 = .ok (.getfield 13, 3) := by decide +kernel
theorem dX8_lookout_14 : decode cX8_lookout 14 = .ok (.iconst 3, 1) := by decide +kernel
theorem dX8_lookout_15 : decode cX8_lookout 15 = .ok (.iaload, 1) := by decide +kernel
theorem dX8_lookout_16 : decode cX8_lookout 16 = .ok (.if_icmp .ge 27, 3) := by decide +kernel
theorem dX8_lookout_19 : decode cX8_lookout 19 = .ok (.iload_n 1, 1) := by decide +kernel
theorem dX8_lookout_20 : decode cX8_lookout 20 = .ok (.aload_n 0, 1) := by decide +kernel
theorem dX8_lookout_21 : decode cX8_lookout 21 = .ok (.iload_n 2, 1) := by decide +kernel
theorem dX8_lookout_22 : decode cX8_lookout 22 = .ok (.invokevirtual 263, 3) := by decide +kernel
theorem dX8_lookout_25 : decode cX8_lookout 25 = .ok (.ifCond .eq 9, 3) := by decide +kernel
theorem dX8_lookout_28 : decode cX8_lookout 28 = .ok (.iconst 1, 1) := by decide +kernel
theorem dX8_lookout_29 : decode cX8_lookout 29 = .ok (.iload_n 2, 1) := by decide +kernel
theorem dX8_lookout_30 : decode cX8_lookout 30 = .ok (.ishl, 1) := by decide +kernel
theorem dX8_lookout_31 : decode cX8_lookout 31 = .ok (.goto 4, 3) := by decide +kernel
theorem dX8_lookout_34 : decode cX8_lookout 34 = .ok (.iconst 0, 1) := by decide +kernel
theorem dX8_lookout_35 : decode cX8_lookout 35 = .ok (.ior, 1) := by decide +kernel
theorem dX8_lookout_36 : decode cX8_lookout 36 = .ok (.istore_n 1, 1) := by decide +kernel
theorem dX8_lookout_37 : decode cX8_lookout 37 = .ok (.iinc 2 1, 3) := by decide +kernel
theorem dX8_lookout_40 : decode cX8_lookout 40 = .ok (.goto (-31), 3) := by decide +kernel
theorem dX8_lookout_43 : decode cX8_lookout 43 = .ok (.iload_n 1, 1) := by decide +kernel
theorem dX8_lookout_44 : decode cX8_lookout 44 = .ok (.ireturn, 1) := by decide +kernel
noncomputable def qX8_lookout_1 : Bx := (bc clt (il 2) (iald (fgr 7 3 (rl 0)) (ik 3)))
noncomputable def wX8_lookout_1 : Sx := (sseq (ssi 1 (i2 (· ||| ·) (il 1) (ic (bz cne (cvz 7 DX8_isSo (rl 0) (ai (il 2) anil))) (i2 oshl (ik 1) (il 2)) (ik 0)))) (sinc 2 1))
noncomputable def EX8_lookout : Sx := (sseq (fpi 7 0 (rl 0) (ik 0)) (sseq (ssi 1 (ik 0)) (sseq (scut 2 (sseq (ssi 2 (ik 0)) (swh qX8_lookout_1 wX8_lookout_1))) (sret (il 1)))))
noncomputable def DX8_lookout : Fi := mfi 3 EX8_lookout
set_option maxRecDepth 4000 in
theorem BX8_lookout : Vs RX8 cX8_lookout 3 (rmk 7 157) 0 0 EX8_lookout := (v_seq (v_fpi kX8 lk995 (by decide) rfl rfl (by decide +kernel) (v_aload_n (i := 0) dX8_lookout_0 rfl (rfl : 0 + 1 = 1)) (v_iconst (v := 0) dX8_lookout_1 (by decide) (rfl : 1 + 1 = 2)) dX8_lookout_2 (rfl : 2 + 3 = 5)) (v_seq (v_istore_n (i := 1) (v_iconst (v := 0) dX8_lookout_5 (by decide) (rfl : 5 + 1 = 6)) dX8_lookout_6 rfl (by decide) (rfl : 6 + 1 = 7)) (v_seq (v_cut (n := 2) (v_seq (v_istore_n (i := 2) (v_iconst (v := 0) dX8_lookout_7 (by decide) (rfl : 7 + 1 = 8)) dX8_lookout_8 rfl (by decide) (rfl : 8 + 1 = 9)) (v_wh (v_ilt_f (v_iload_n (i := 2) dX8_lookout_9 rfl (rfl : 9 + 1 = 10)) (v_iald (v_gfr kX8 lk998 (by decide) rfl (v_aload_n (i := 0) dX8_lookout_10 rfl (rfl : 10 + 1 = 11)) dX8_lookout_11 (rfl : 11 + 3 = 14)) (v_iconst (v := 3) dX8_lookout_14 (by decide) (rfl : 14 + 1 = 15)) dX8_lookout_15 (rfl : 15 + 1 = 16)) dX8_lookout_16 (rfl : ((16 : Nat) : Int) + 27 = ((43 : Nat) : Int)) (rfl : 16 + 3 = 19)) (vs_goto (v_seq (v_istore_n (i := 1) (v_ior (v_iload_n (i := 1) dX8_lookout_19 rfl (rfl : 19 + 1 = 20)) (v_ic (v_zne_f (v_cvz kX8 IX8_isSo hX8_isSo lk1237 ⟨by decide, by decide⟩ (by decide) (v_aload_n (i := 0) dX8_lookout_20 rfl (rfl : 20 + 1 = 21)) (v_ai (v_iload_n (i := 2) dX8_lookout_21 rfl (rfl : 21 + 1 = 22)) v_anil) dX8_lookout_22 (rfl : 22 + 3 = 25)) dX8_lookout_25 (rfl : ((25 : Nat) : Int) + 9 = ((34 : Nat) : Int)) (rfl : 25 + 3 = 28)) (vi_goto (v_ishl (v_iconst (v := 1) dX8_lookout_28 (by decide) (rfl : 28 + 1 = 29)) (v_iload_n (i := 2) dX8_lookout_29 rfl (rfl : 29 + 1 = 30)) dX8_lookout_30 (rfl : 30 + 1 = 31)) dX8_lookout_31 (rfl : ((31 : Nat) : Int) + 4 = ((35 : Nat) : Int))) (v_iconst (v := 0) dX8_lookout_34 (by decide) (rfl : 34 + 1 = 35))) dX8_lookout_35 (rfl : 35 + 1 = 36)) dX8_lookout_36 rfl (by decide) (rfl : 36 + 1 = 37)) (v_iinc (v := 1) dX8_lookout_37 (by decide) (by decide) (rfl : 37 + 3 = 40))) dX8_lookout_40 (rfl : ((40 : Nat) : Int) + (-31) = ((9 : Nat) : Int)))))) (v_ret (v_iload_n (i := 1) dX8_lookout_43 rfl (rfl : 43 + 1 = 44)) dX8_lookout_44))))
theorem IX8_lookout : Mi yX8_lookout cX8_lookout 3 (rmk 7 157) DX8_lookout := mk_i (by decide +kernel) BX8_lookout

theorem dX8_makeParallel_0 : decode cX8_makeParallel 0 = .ok (.iconst 0, 1) := by decide +kernel
theorem dX8_makeParallel_1 : decode cX8_makeParallel 1 = .ok (.istore_n 1, 1) := by decide +kernel
theorem dX8_makeParallel_2 : decode cX8_makeParallel 2 = .ok (.iload_n 1, 1) := by decide +kernel
theorem dX8_makeParallel_3 : decode cX8_makeParallel 3 = .ok (.aload_n 0, 1) := by decide +kernel
theorem dX8_makeParallel_4 : decode cX8_makeParallel 4 = .ok (.getfield 297, 3) := by decide +kernel
theorem dX8_makeParallel_7 : decode cX8_makeParallel 7 = .ok (.if_icmp .ge 110, 3) := by decide +kernel
theorem dX8_makeParallel_10 : decode cX8_makeParallel 10 = .ok (.iload_n 1, 1) := by decide +kernel
theorem dX8_makeParallel_11 : decode cX8_makeParallel 11 = .ok (.iconst 1, 1) := by decide +kernel
theorem dX8_makeParallel_12 : decode cX8_makeParallel 12 = .ok (.iadd, 1) := by decide +kernel
theorem dX8_makeParallel_13 : decode cX8_makeParallel 13 = .ok (.istore_n 2, 1) := by decide +kernel
theorem dX8_makeParallel_14 : decode cX8_makeParallel 14 = .ok (.iload_n 2, 1) := by decide +kernel
theorem dX8_makeParallel_15 : decode cX8_makeParallel 15 = .ok (.aload_n 0, 1) := by decide +kernel
theorem dX8_makeParallel_16 : decode cX8_makeParallel 16 = .ok (.getfield 297, 3) := by decide +kernel
theorem dX8_makeParallel_19 : decode cX8_makeParallel 19 = .ok (.if_icmp .ge 92, 3) := by decide +kernel
theorem dX8_makeParallel_22 : decode cX8_makeParallel 22 = .ok (.aload_n 0, 1) := by decide +kernel
theorem dX8_makeParallel_23 : decode cX8_makeParallel 23 = .ok (.getfield 63, 3) := by decide +kernel
theorem dX8_makeParallel_26 : decode cX8_makeParallel 26 = .ok (.iload_n 1, 1) := by decide +kernel
theorem dX8_makeParallel_27 : decode cX8_makeParallel 27 = .ok (.iaload, 1) := by decide +kernel
theorem dX8_makeParallel_28 : decode cX8_makeParallel 28 = .ok (.iconst (-1), 1) := by decide +kernel
theorem dX8_makeParallel_29 : decode cX8_makeParallel 29 = .ok (.if_icmp .eq 76, 3) := by decide +kernel
theorem dX8_makeParallel_32 : decode cX8_makeParallel 32 = .ok (.aload_n 0, 1) := by decide +kernel
theorem dX8_makeParallel_33 : decode cX8_makeParallel 33 = .ok (.getfield 63, 3) := by decide +kernel
theorem dX8_makeParallel_36 : decode cX8_makeParallel 36 = .ok (.iload_n 2, 1) := by decide +kernel
theorem dX8_makeParallel_37 : decode cX8_makeParallel 37 = .ok (.iaload, 1) := by decide +kernel
theorem dX8_makeParallel_38 : decode cX8_makeParallel 38 = .ok (.iconst (-1), 1) := by decide +kernel
theorem dX8_makeParallel_39 : decode cX8_makeParallel 39 = .ok (.if_icmp .eq 66, 3) := by decide +kernel
theorem dX8_makeParallel_42 : decode cX8_makeParallel 42 = .ok (.aload_n 0, 1) := by decide +kernel
theorem dX8_makeParallel_43 : decode cX8_makeParallel 43 = .ok (.iload_n 1, 1) := by decide +kernel
theorem dX8_makeParallel_44 : decode cX8_makeParallel 44 = .ok (.iload_n 2, 1) := by decide +kernel
theorem dX8_makeParallel_45 : decode cX8_makeParallel 45 = .ok (.invokevirtual 300, 3) := by decide +kernel
theorem dX8_makeParallel_48 : decode cX8_makeParallel 48 = .ok (.ifCond .eq 57, 3) := by decide +kernel
theorem dX8_makeParallel_51 : decode cX8_makeParallel 51 = .ok (.aload_n 0, 1) := by decide +kernel
theorem dX8_makeParallel_52 : decode cX8_makeParallel 52 = .ok (.iload_n 1, 1) := by decide +kernel
theorem dX8_makeParallel_53 : decode cX8_makeParallel 53 = .ok (.aload_n 0, 1) := by decide +kernel
theorem dX8_makeParallel_54 : decode cX8_makeParallel 54 = .ok (.getfield 69, 3) := by decide +kernel
theorem dX8_makeParallel_57 : decode cX8_makeParallel 57 = .ok (.iload_n 1, 1) := by decide +kernel
theorem dX8_makeParallel_58 : decode cX8_makeParallel 58 = .ok (.laload, 1) := by decide +kernel
theorem dX8_makeParallel_59 : decode cX8_makeParallel 59 = .ok (.aload_n 0, 1) := by decide +kernel
theorem dX8_makeParallel_60 : decode cX8_makeParallel 60 = .ok (.getfield 72, 3) := by decide +kernel
theorem dX8_makeParallel_63 : decode cX8_makeParallel 63 = .ok (.iload_n 2, 1) := by decide +kernel
theorem dX8_makeParallel_64 : decode cX8_makeParallel 64 = .ok (.laload, 1) := by decide +kernel
theorem dX8_makeParallel_65 : decode cX8_makeParallel 65 = .ok (.lmul, 1) := by decide +kernel
theorem dX8_makeParallel_66 : decode cX8_makeParallel 66 = .ok (.aload_n 0, 1) := by decide +kernel
theorem dX8_makeParallel_67 : decode cX8_makeParallel 67 = .ok (.getfield 69, 3) := by decide +kernel
theorem dX8_makeParallel_70 : decode cX8_makeParallel 70 = .ok (.iload_n 2, 1) := by decide +kernel
theorem dX8_makeParallel_71 : decode cX8_makeParallel 71 = .ok (.laload, 1) := by decide +kernel
theorem dX8_makeParallel_72 : decode cX8_makeParallel 72 = .ok (.aload_n 0, 1) := by decide +kernel
theorem dX8_makeParallel_73 : decode cX8_makeParallel 73 = .ok (.getfield 72, 3) := by decide +kernel
theorem dX8_makeParallel_76 : decode cX8_makeParallel 76 = .ok (.iload_n 1, 1) := by decide +kernel
theorem dX8_makeParallel_77 : decode cX8_makeParallel 77 = .ok (.laload, 1) := by decide +kernel
theorem dX8_makeParallel_78 : decode cX8_makeParallel 78 = .ok (.lmul, 1) := by decide +kernel
theorem dX8_makeParallel_79 : decode cX8_makeParallel 79 = .ok (.ladd, 1) := by decide +kernel
theorem dX8_makeParallel_80 : decode cX8_makeParallel 80 = .ok (.aload_n 0, 1) := by decide +kernel
theorem dX8_makeParallel_81 : decode cX8_makeParallel 81 = .ok (.getfield 72, 3) := by decide +kernel
theorem dX8_makeParallel_84 : decode cX8_makeParallel 84 = .ok (.iload_n 1, 1) := by decide +kernel
theorem dX8_makeParallel_85 : decode cX8_makeParallel 85 = .ok (.laload, 1) := by decide +kernel
theorem dX8_makeParallel_86 : decode cX8_makeParallel 86 = .ok (.aload_n 0, 1) := by decide +kernel
theorem dX8_makeParallel_87 : decode cX8_makeParallel 87 = .ok (.getfield 72, 3) := by decide +kernel
theorem dX8_makeParallel_90 : decode cX8_makeParallel 90 = .ok (.iload_n 2, 1) := by decide +kernel
theorem dX8_makeParallel_91 : decode cX8_makeParallel 91 = .ok (.laload, 1) := by decide +kernel
theorem dX8_makeParallel_92 : decode cX8_makeParallel 92 = .ok (.lmul, 1) := by decide +kernel
theorem dX8_makeParallel_93 : decode cX8_makeParallel 93 = .ok (.invokevirtual 303, 3) := by decide +kernel
theorem dX8_makeParallel_96 : decode cX8_makeParallel 96 = .ok (.aload_n 0, 1) := by decide +kernel
theorem dX8_makeParallel_97 : decode cX8_makeParallel 97 = .ok (.getfield 63, 3) := by decide +kernel
theorem dX8_makeParallel_100 : decode cX8_makeParallel 100 = .ok (.iload_n 2, 1) := by decide +kernel
theorem dX8_makeParallel_101 : decode cX8_makeParallel 101 = .ok (.iconst (-1), 1) := by decide +kernel
theorem dX8_makeParallel_102 : decode cX8_makeParallel 102 = .ok (.iastore, 1) := by decide +kernel
theorem dX8_makeParallel_103 : decode cX8_makeParallel 103 = .ok (.iconst 1, 1) := by decide +kernel
theorem dX8_makeParallel_104 : decode cX8_makeParallel 104 = .ok (.ireturn, 1) := by decide +kernel
theorem dX8_makeParallel_105 : decode cX8_makeParallel 105 = .ok (.iinc 2 1, 3) := by decide +kernel
theorem dX8_makeParallel_108 : decode cX8_makeParallel 108 = .ok (.goto (-94), 3) := by decide +kernel
theorem dX8_makeParallel_111 : decode cX8_makeParallel 111 = .ok (.iinc 1 1, 3) := by decide +kernel
theorem dX8_makeParallel_114 : decode cX8_makeParallel 114 = .ok (.goto (-112), 3) := by decide +kernel
theorem dX8_makeParallel_117 : decode cX8_makeParallel 117 = .ok (.iconst 0, 1) := by decide +kernel
theorem dX8_makeParallel_118 : decode cX8_makeParallel 118 = .ok (.ireturn, 1) := by decide +kernel
noncomputable def qX8_makeParallel_1 : Bx := (bc clt (il 2) (fgi 7 31 (rl 0)))
noncomputable def wX8_makeParallel_1 : Sx := (sseq (sif (band (band (bc cne (iald (fgr 7 27 (rl 0)) (il 1)) (ik (-1))) (bc cne (iald (fgr 7 27 (rl 0)) (il 2)) (ik (-1)))) (bz cne (cvz 7 DX8_joinsSame (rl 0) (ai (il 1) (ai (il 2) anil))))) (sseq (scv 7 DX8_become (rl 0) (ai (il 1) (aj (j2 (· + ·) (j2 (· * ·) (jald (fgr 7 29 (rl 0)) (il 1)) (jald (fgr 7 30 (rl 0)) (il 2))) (j2 (· * ·) (jald (fgr 7 29 (rl 0)) (il 2)) (jald (fgr 7 30 (rl 0)) (il 1)))) (aj (j2 (· * ·) (jald (fgr 7 30 (rl 0)) (il 1)) (jald (fgr 7 30 (rl 0)) (il 2))) anil)))) (sseq (aii (fgr 7 27 (rl 0)) (il 2) (ik (-1))) (sret (ik 1)))) snop) (sinc 2 1))
noncomputable def qX8_makeParallel_2 : Bx := (bc clt (il 1) (fgi 7 31 (rl 0)))
noncomputable def wX8_makeParallel_2 : Sx := (sseq (scut 2 (sseq (ssi 2 (i2 (· + ·) (il 1) (ik 1))) (swh qX8_makeParallel_1 wX8_makeParallel_1))) (sinc 1 1))
noncomputable def EX8_makeParallel : Sx := (sseq (scut 1 (sseq (ssi 1 (ik 0)) (swh qX8_makeParallel_2 wX8_makeParallel_2))) (sret (ik 0)))
noncomputable def DX8_makeParallel : Fz := mfz 3 EX8_makeParallel
set_option maxRecDepth 4000 in
theorem BX8_makeParallel : Vs RX8 cX8_makeParallel 3 (rmk 2 56) 0 0 EX8_makeParallel := (v_seq (v_cut (n := 1) (v_seq (v_istore_n (i := 1) (v_iconst (v := 0) dX8_makeParallel_0 (by decide) (rfl : 0 + 1 = 1)) dX8_makeParallel_1 rfl (by decide) (rfl : 1 + 1 = 2)) (v_wh (v_ilt_f (v_iload_n (i := 1) dX8_makeParallel_2 rfl (rfl : 2 + 1 = 3)) (v_gfi kX8 lk1026 (by decide) rfl (v_aload_n (i := 0) dX8_makeParallel_3 rfl (rfl : 3 + 1 = 4)) dX8_makeParallel_4 (rfl : 4 + 3 = 7)) dX8_makeParallel_7 (rfl : ((7 : Nat) : Int) + 110 = ((117 : Nat) : Int)) (rfl : 7 + 3 = 10)) (vs_goto (v_seq (v_cut (n := 2) (v_seq (v_istore_n (i := 2) (v_iadd (v_iload_n (i := 1) dX8_makeParallel_10 rfl (rfl : 10 + 1 = 11)) (v_iconst (v := 1) dX8_makeParallel_11 (by decide) (rfl : 11 + 1 = 12)) dX8_makeParallel_12 (rfl : 12 + 1 = 13)) dX8_makeParallel_13 rfl (by decide) (rfl : 13 + 1 = 14)) (v_wh (v_ilt_f (v_iload_n (i := 2) dX8_makeParallel_14 rfl (rfl : 14 + 1 = 15)) (v_gfi kX8 lk1026 (by decide) rfl (v_aload_n (i := 0) dX8_makeParallel_15 rfl (rfl : 15 + 1 = 16)) dX8_makeParallel_16 (rfl : 16 + 3 = 19)) dX8_makeParallel_19 (rfl : ((19 : Nat) : Int) + 92 = ((111 : Nat) : Int)) (rfl : 19 + 3 = 22)) (vs_goto (v_seq (v_if (v_and (v_and (v_ine_f (v_iald (v_gfr kX8 lk1022 (by decide) rfl (v_aload_n (i := 0) dX8_makeParallel_22 rfl (rfl : 22 + 1 = 23)) dX8_makeParallel_23 (rfl : 23 + 3 = 26)) (v_iload_n (i := 1) dX8_makeParallel_26 rfl (rfl : 26 + 1 = 27)) dX8_makeParallel_27 (rfl : 27 + 1 = 28)) (v_iconst (v := (-1)) dX8_makeParallel_28 (by decide) (rfl : 28 + 1 = 29)) dX8_makeParallel_29 (rfl : ((29 : Nat) : Int) + 76 = ((105 : Nat) : Int)) (rfl : 29 + 3 = 32)) (v_ine_f (v_iald (v_gfr kX8 lk1022 (by decide) rfl (v_aload_n (i := 0) dX8_makeParallel_32 rfl (rfl : 32 + 1 = 33)) dX8_makeParallel_33 (rfl : 33 + 3 = 36)) (v_iload_n (i := 2) dX8_makeParallel_36 rfl (rfl : 36 + 1 = 37)) dX8_makeParallel_37 (rfl : 37 + 1 = 38)) (v_iconst (v := (-1)) dX8_makeParallel_38 (by decide) (rfl : 38 + 1 = 39)) dX8_makeParallel_39 (rfl : ((39 : Nat) : Int) + 66 = ((105 : Nat) : Int)) (rfl : 39 + 3 = 42))) (v_zne_f (v_cvz kX8 IX8_joinsSame hX8_joinsSame lk1381 ⟨by decide, by decide⟩ (by decide) (v_aload_n (i := 0) dX8_makeParallel_42 rfl (rfl : 42 + 1 = 43)) (v_ai (v_iload_n (i := 1) dX8_makeParallel_43 rfl (rfl : 43 + 1 = 44)) (v_ai (v_iload_n (i := 2) dX8_makeParallel_44 rfl (rfl : 44 + 1 = 45)) v_anil)) dX8_makeParallel_45 (rfl : 45 + 3 = 48)) dX8_makeParallel_48 (rfl : ((48 : Nat) : Int) + 57 = ((105 : Nat) : Int)) (rfl : 48 + 3 = 51))) (v_seq (v_scv kX8 IX8_become hX8_become lk1385 ⟨by decide, by decide⟩ (v_aload_n (i := 0) dX8_makeParallel_51 rfl (rfl : 51 + 1 = 52)) (v_ai (v_iload_n (i := 1) dX8_makeParallel_52 rfl (rfl : 52 + 1 = 53)) (v_aj (v_ladd (v_lmul (v_jald (v_gfr kX8 lk1024 (by decide) rfl (v_aload_n (i := 0) dX8_makeParallel_53 rfl (rfl : 53 + 1 = 54)) dX8_makeParallel_54 (rfl : 54 + 3 = 57)) (v_iload_n (i := 1) dX8_makeParallel_57 rfl (rfl : 57 + 1 = 58)) dX8_makeParallel_58 (rfl : 58 + 1 = 59)) (v_jald (v_gfr kX8 lk1025 (by decide) rfl (v_aload_n (i := 0) dX8_makeParallel_59 rfl (rfl : 59 + 1 = 60)) dX8_makeParallel_60 (rfl : 60 + 3 = 63)) (v_iload_n (i := 2) dX8_makeParallel_63 rfl (rfl : 63 + 1 = 64)) dX8_makeParallel_64 (rfl : 64 + 1 = 65)) dX8_makeParallel_65 (rfl : 65 + 1 = 66)) (v_lmul (v_jald (v_gfr kX8 lk1024 (by decide) rfl (v_aload_n (i := 0) dX8_makeParallel_66 rfl (rfl : 66 + 1 = 67)) dX8_makeParallel_67 (rfl : 67 + 3 = 70)) (v_iload_n (i := 2) dX8_makeParallel_70 rfl (rfl : 70 + 1 = 71)) dX8_makeParallel_71 (rfl : 71 + 1 = 72)) (v_jald (v_gfr kX8 lk1025 (by decide) rfl (v_aload_n (i := 0) dX8_makeParallel_72 rfl (rfl : 72 + 1 = 73)) dX8_makeParallel_73 (rfl : 73 + 3 = 76)) (v_iload_n (i := 1) dX8_makeParallel_76 rfl (rfl : 76 + 1 = 77)) dX8_makeParallel_77 (rfl : 77 + 1 = 78)) dX8_makeParallel_78 (rfl : 78 + 1 = 79)) dX8_makeParallel_79 (rfl : 79 + 1 = 80)) (v_aj (v_lmul (v_jald (v_gfr kX8 lk1025 (by decide) rfl (v_aload_n (i := 0) dX8_makeParallel_80 rfl (rfl : 80 + 1 = 81)) dX8_makeParallel_81 (rfl : 81 + 3 = 84)) (v_iload_n (i := 1) dX8_makeParallel_84 rfl (rfl : 84 + 1 = 85)) dX8_makeParallel_85 (rfl : 85 + 1 = 86)) (v_jald (v_gfr kX8 lk1025 (by decide) rfl (v_aload_n (i := 0) dX8_makeParallel_86 rfl (rfl : 86 + 1 = 87)) dX8_makeParallel_87 (rfl : 87 + 3 = 90)) (v_iload_n (i := 2) dX8_makeParallel_90 rfl (rfl : 90 + 1 = 91)) dX8_makeParallel_91 (rfl : 91 + 1 = 92)) dX8_makeParallel_92 (rfl : 92 + 1 = 93)) v_anil))) dX8_makeParallel_93 (rfl : 93 + 3 = 96)) (v_seq (v_aii (v_gfr kX8 lk1022 (by decide) rfl (v_aload_n (i := 0) dX8_makeParallel_96 rfl (rfl : 96 + 1 = 97)) dX8_makeParallel_97 (rfl : 97 + 3 = 100)) (v_iload_n (i := 2) dX8_makeParallel_100 rfl (rfl : 100 + 1 = 101)) (v_iconst (v := (-1)) dX8_makeParallel_101 (by decide) (rfl : 101 + 1 = 102)) dX8_makeParallel_102 (rfl : 102 + 1 = 103)) (v_ret (v_iconst (v := 1) dX8_makeParallel_103 (by decide) (rfl : 103 + 1 = 104)) dX8_makeParallel_104))) v_nop) (v_iinc (v := 1) dX8_makeParallel_105 (by decide) (by decide) (rfl : 105 + 3 = 108))) dX8_makeParallel_108 (rfl : ((108 : Nat) : Int) + (-94) = ((14 : Nat) : Int)))))) (v_iinc (v := 1) dX8_makeParallel_111 (by decide) (by decide) (rfl : 111 + 3 = 114))) dX8_makeParallel_114 (rfl : ((114 : Nat) : Int) + (-112) = ((2 : Nat) : Int)))))) (v_ret (v_iconst (v := 0) dX8_makeParallel_117 (by decide) (rfl : 117 + 1 = 118)) dX8_makeParallel_118))
theorem IX8_makeParallel : Mz yX8_makeParallel cX8_makeParallel 3 (rmk 2 56) DX8_makeParallel := mk_z (by decide +kernel) BX8_makeParallel

theorem dX8_makeSeries_0 : decode cX8_makeSeries 0 = .ok (.iconst 0, 1) := by decide +kernel
theorem dX8_makeSeries_1 : decode cX8_makeSeries 1 = .ok (.istore_n 3, 1) := by decide +kernel
theorem dX8_makeSeries_2 : decode cX8_makeSeries 2 = .ok (.iload_n 3, 1) := by decide +kernel
theorem dX8_makeSeries_3 : decode cX8_makeSeries 3 = .ok (.iconst 5, 1) := by decide +kernel
theorem dX8_makeSeries_4 : decode cX8_makeSeries 4 = .ok (.if_icmp .ge 136, 3) := by decide +kernel
theorem dX8_makeSeries_7 : decode cX8_makeSeries 7 = .ok (.iconst 0, 1) := by decide +kernel
theorem dX8_makeSeries_8 : decode cX8_makeSeries 8 = .ok (.istore 4, 2) := by decide +kernel
theorem dX8_makeSeries_10 : decode cX8_makeSeries 10 = .ok (.iconst (-1), 1) := by decide +kernel
theorem dX8_makeSeries_11 : decode cX8_makeSeries 11 = .ok (.istore 5, 2) := by decide +kernel
theorem dX8_makeSeries_13 : decode cX8_makeSeries 13 = .ok (.iconst (-1), 1) := by decide +kernel
theorem dX8_makeSeries_14 : decode cX8_makeSeries 14 = .ok (.istore 6, 2) := by decide +kernel
theorem dX8_makeSeries_16 : decode cX8_makeSeries 16 = .ok (.iconst 0, 1) := by decide +kernel
theorem dX8_makeSeries_17 : decode cX8_makeSeries 17 = .ok (.istore 7, 2) := by decide +kernel
theorem dX8_makeSeries_19 : decode cX8_makeSeries 19 = .ok (.iload 7, 2) := by decide +kernel
theorem dX8_makeSeries_21 : decode cX8_makeSeries 21 = .ok (.aload_n 0, 1) := by decide +kernel
theorem dX8_makeSeries_22 : decode cX8_makeSeries 22 = .ok (.getfield 297, 3) := by decide +kernel
theorem dX8_makeSeries_25 : decode cX8_makeSeries 25 = .ok (.if_icmp .ge 63, 3) := by decide +kernel
theorem dX8_makeSeries_28 : decode cX8_makeSeries 28 = .ok (.aload_n 0, 1) := by decide +kernel
theorem dX8_makeSeries_29 : decode cX8_makeSeries 29 = .ok (.getfield 63, 3) := by decide +kernel
theorem dX8_makeSeries_32 : decode cX8_makeSeries 32 = .ok (.iload 7, 2) := by decide +kernel
theorem dX8_makeSeries_34 : decode cX8_makeSeries 34 = .ok (.iaload, 1) := by decide +kernel
theorem dX8_makeSeries_35 : decode cX8_makeSeries 35 = .ok (.iconst (-1), 1) := by decide +kernel
theorem dX8_makeSeries_36 : decode cX8_makeSeries 36 = .ok (.if_icmp .eq 46, 3) := by decide +kernel
theorem dX8_makeSeries_39 : decode cX8_makeSeries 39 = .ok (.aload_n 0, 1) := by decide +kernel
theorem dX8_makeSeries_40 : decode cX8_makeSeries 40 = .ok (.getfield 63, 3) := by decide +kernel
theorem dX8_makeSeries_43 : decode cX8_makeSeries 43 = .ok (.iload 7, 2) := by decide +kernel
theorem dX8_makeSeries_45 : decode cX8_makeSeries 45 = .ok (.iaload, 1) := by decide +kernel
theorem dX8_makeSeries_46 : decode cX8_makeSeries 46 = .ok (.iload_n 3, 1) := by decide +kernel
theorem dX8_makeSeries_47 : decode cX8_makeSeries 47 = .ok (.if_icmp .eq 14, 3) := by decide +kernel
theorem dX8_makeSeries_50 : decode cX8_makeSeries 50 = .ok (.aload_n 0, 1) := by decide +kernel
theorem dX8_makeSeries_51 : decode cX8_makeSeries 51 = .ok (.getfield 66, 3) := by decide +kernel
theorem dX8_makeSeries_54 : decode cX8_makeSeries 54 = .ok (.iload 7, 2) := by decide +kernel
theorem dX8_makeSeries_56 : decode cX8_makeSeries 56 = .ok (.iaload, 1) := by decide +kernel
theorem dX8_makeSeries_57 : decode cX8_makeSeries 57 = .ok (.iload_n 3, 1) := by decide +kernel
theorem dX8_makeSeries_58 : decode cX8_makeSeries 58 = .ok (.if_icmp .ne 24, 3) := by decide +kernel
theorem dX8_makeSeries_61 : decode cX8_makeSeries 61 = .ok (.iload 4, 2) := by decide +kernel
theorem dX8_makeSeries_63 : decode cX8_makeSeries 63 = .ok (.ifCond .ne 8, 3) := by decide +kernel
theorem dX8_makeSeries_66 : decode cX8_makeSeries 66 = .ok (.iload 7, 2) := by decide +kernel
theorem dX8_makeSeries_68 : decode cX8_makeSeries 68 = .ok (.goto 5, 3) := by decide +kernel
theorem dX8_makeSeries_71 : decode cX8_makeSeries 71 = .ok (.iload 5, 2) := by decide +kernel
theorem dX8_makeSeries_73 : decode cX8_makeSeries 73 = .ok (.istore 5, 2) := by decide +kernel
theorem dX8_makeSeries_75 : decode cX8_makeSeries 75 = .ok (.iload 7, 2) := by decide +kernel
theorem dX8_makeSeries_77 : decode cX8_makeSeries 77 = .ok (.istore 6, 2) := by decide +kernel
theorem dX8_makeSeries_79 : decode cX8_makeSeries 79 = .ok (.iinc 4 1, 3) := by decide +kernel
theorem dX8_makeSeries_82 : decode cX8_makeSeries 82 = .ok (.iinc 7 1, 3) := by decide +kernel
theorem dX8_makeSeries_85 : decode cX8_makeSeries 85 = .ok (.goto (-66), 3) := by decide +kernel
theorem dX8_makeSeries_88 : decode cX8_makeSeries 88 = .ok (.iload_n 3, 1) := by decide +kernel
theorem dX8_makeSeries_89 : decode cX8_makeSeries 89 = .ok (.iload_n 1, 1) := by decide +kernel
theorem dX8_makeSeries_90 : decode cX8_makeSeries 90 = .ok (.if_icmp .eq 44, 3) := by decide +kernel
theorem dX8_makeSeries_93 : decode cX8_makeSeries 93 = .ok (.iload_n 3, 1) := by decide +kernel
theorem dX8_makeSeries_94 : decode cX8_makeSeries 94 = .ok (.iload_n 2, 1) := by decide +kernel
theorem dX8_makeSeries_95 : decode cX8_makeSeries 95 = .ok (.if_icmp .eq 39, 3) := by decide +kernel
theorem dX8_makeSeries_98 : decode cX8_makeSeries 98 = .ok (.iload 4, 2) := by decide +kernel
theorem dX8_makeSeries_100 : decode cX8_makeSeries 100 = .ok (.iconst 1, 1) := by decide +kernel
theorem dX8_makeSeries_101 : decode cX8_makeSeries 101 = .ok (.if_icmp .eq 20, 3) := by decide +kernel
theorem dX8_makeSeries_104 : decode cX8_makeSeries 104 = .ok (.iload 4, 2) := by decide +kernel
theorem dX8_makeSeries_106 : decode cX8_makeSeries 106 = .ok (.iconst 2, 1) := by decide +kernel
theorem dX8_makeSeries_107 : decode cX8_makeSeries 107 = .ok (.if_icmp .ne 27, 3) := by decide +kernel
theorem dX8_makeSeries_110 : decode cX8_makeSeries 110 = .ok (.aload_n 0, 1) := by decide +kernel
theorem dX8_makeSeries_111 : decode cX8_makeSeries 111 = .ok (.iload 5, 2) := by decide +kernel
theorem dX8_makeSeries_113 : decode cX8_makeSeries 113 = .ok (.iload 6, 2) := by decide +kernel
theorem dX8_makeSeries_115 : decode cX8_makeSeries 115 = .ok (.invokevirtual 300, 3) := by decide +kernel
theorem dX8_makeSeries_118 : decode cX8_makeSeries 118 = .ok (.ifCond .ne 16, 3) := by decide +kernel
theorem dX8_makeSeries_121 : decode cX8_makeSeries 121 = .ok (.aload_n 0, 1) := by decide +kernel
theorem dX8_makeSeries_122 : decode cX8_makeSeries 122 = .ok (.iload_n 3, 1) := by decide +kernel
theorem dX8_makeSeries_123 : decode cX8_makeSeries 123 = .ok (.iload 5, 2) := by decide +kernel
theorem dX8_makeSeries_125 : decode cX8_makeSeries 125 = .ok (.iload 6, 2) := by decide +kernel
theorem dX8_makeSeries_127 : decode cX8_makeSeries 127 = .ok (.iload 4, 2) := by decide +kernel
theorem dX8_makeSeries_129 : decode cX8_makeSeries 129 = .ok (.invokevirtual 307, 3) := by decide +kernel
theorem dX8_makeSeries_132 : decode cX8_makeSeries 132 = .ok (.iconst 1, 1) := by decide +kernel
theorem dX8_makeSeries_133 : decode cX8_makeSeries 133 = .ok (.ireturn, 1) := by decide +kernel
theorem dX8_makeSeries_134 : decode cX8_makeSeries 134 = .ok (.iinc 3 1, 3) := by decide +kernel
theorem dX8_makeSeries_137 : decode cX8_makeSeries 137 = .ok (.goto (-135), 3) := by decide +kernel
theorem dX8_makeSeries_140 : decode cX8_makeSeries 140 = .ok (.iconst 0, 1) := by decide +kernel
theorem dX8_makeSeries_141 : decode cX8_makeSeries 141 = .ok (.ireturn, 1) := by decide +kernel
noncomputable def qX8_makeSeries_1 : Bx := (bc clt (il 7) (fgi 7 31 (rl 0)))
noncomputable def wX8_makeSeries_1 : Sx := (sseq (sif (band (bc cne (iald (fgr 7 27 (rl 0)) (il 7)) (ik (-1))) (bor (bc ceq (iald (fgr 7 27 (rl 0)) (il 7)) (il 3)) (bc ceq (iald (fgr 7 28 (rl 0)) (il 7)) (il 3)))) (sseq (ssi 5 (ic (bz ceq (il 4)) (il 7) (il 5))) (sseq (ssi 6 (il 7)) (sinc 4 1))) snop) (sinc 7 1))
noncomputable def qX8_makeSeries_2 : Bx := (bc clt (il 3) (ik 5))
noncomputable def wX8_makeSeries_2 : Sx := (sseq (scut 4 (sseq (ssi 4 (ik 0)) (sseq (ssi 5 (ik (-1))) (sseq (ssi 6 (ik (-1))) (sseq (scut 7 (sseq (ssi 7 (ik 0)) (swh qX8_makeSeries_1 wX8_makeSeries_1))) (sif (band (band (bc cne (il 3) (il 1)) (bc cne (il 3) (il 2))) (bor (bc ceq (il 4) (ik 1)) (band (bc ceq (il 4) (ik 2)) (bnot (bz cne (cvz 7 DX8_joinsSame (rl 0) (ai (il 5) (ai (il 6) anil)))))))) (sseq (scv 7 DX8_leaveOut (rl 0) (ai (il 3) (ai (il 5) (ai (il 6) (ai (il 4) anil))))) (sret (ik 1))) snop)))))) (sinc 3 1))
noncomputable def EX8_makeSeries : Sx := (sseq (scut 3 (sseq (ssi 3 (ik 0)) (swh qX8_makeSeries_2 wX8_makeSeries_2))) (sret (ik 0)))
noncomputable def DX8_makeSeries : Fz := mfz 8 EX8_makeSeries
set_option maxRecDepth 4000 in
theorem BX8_makeSeries : Vs RX8 cX8_makeSeries 8 (rmk 3 82) 0 0 EX8_makeSeries := (v_seq (v_cut (n := 3) (v_seq (v_istore_n (i := 3) (v_iconst (v := 0) dX8_makeSeries_0 (by decide) (rfl : 0 + 1 = 1)) dX8_makeSeries_1 rfl (by decide) (rfl : 1 + 1 = 2)) (v_wh (v_ilt_f (v_iload_n (i := 3) dX8_makeSeries_2 rfl (rfl : 2 + 1 = 3)) (v_iconst (v := 5) dX8_makeSeries_3 (by decide) (rfl : 3 + 1 = 4)) dX8_makeSeries_4 (rfl : ((4 : Nat) : Int) + 136 = ((140 : Nat) : Int)) (rfl : 4 + 3 = 7)) (vs_goto (v_seq (v_cut (n := 4) (v_seq (v_istore (i := 4) (v_iconst (v := 0) dX8_makeSeries_7 (by decide) (rfl : 7 + 1 = 8)) dX8_makeSeries_8 (by decide) (rfl : 8 + 2 = 10)) (v_seq (v_istore (i := 5) (v_iconst (v := (-1)) dX8_makeSeries_10 (by decide) (rfl : 10 + 1 = 11)) dX8_makeSeries_11 (by decide) (rfl : 11 + 2 = 13)) (v_seq (v_istore (i := 6) (v_iconst (v := (-1)) dX8_makeSeries_13 (by decide) (rfl : 13 + 1 = 14)) dX8_makeSeries_14 (by decide) (rfl : 14 + 2 = 16)) (v_seq (v_cut (n := 7) (v_seq (v_istore (i := 7) (v_iconst (v := 0) dX8_makeSeries_16 (by decide) (rfl : 16 + 1 = 17)) dX8_makeSeries_17 (by decide) (rfl : 17 + 2 = 19)) (v_wh (v_ilt_f (v_iload (i := 7) dX8_makeSeries_19 (rfl : 19 + 2 = 21)) (v_gfi kX8 lk1026 (by decide) rfl (v_aload_n (i := 0) dX8_makeSeries_21 rfl (rfl : 21 + 1 = 22)) dX8_makeSeries_22 (rfl : 22 + 3 = 25)) dX8_makeSeries_25 (rfl : ((25 : Nat) : Int) + 63 = ((88 : Nat) : Int)) (rfl : 25 + 3 = 28)) (vs_goto (v_seq (v_if (v_and (v_ine_f (v_iald (v_gfr kX8 lk1022 (by decide) rfl (v_aload_n (i := 0) dX8_makeSeries_28 rfl (rfl : 28 + 1 = 29)) dX8_makeSeries_29 (rfl : 29 + 3 = 32)) (v_iload (i := 7) dX8_makeSeries_32 (rfl : 32 + 2 = 34)) dX8_makeSeries_34 (rfl : 34 + 1 = 35)) (v_iconst (v := (-1)) dX8_makeSeries_35 (by decide) (rfl : 35 + 1 = 36)) dX8_makeSeries_36 (rfl : ((36 : Nat) : Int) + 46 = ((82 : Nat) : Int)) (rfl : 36 + 3 = 39)) (v_or (v_ieq_t (v_iald (v_gfr kX8 lk1022 (by decide) rfl (v_aload_n (i := 0) dX8_makeSeries_39 rfl (rfl : 39 + 1 = 40)) dX8_makeSeries_40 (rfl : 40 + 3 = 43)) (v_iload (i := 7) dX8_makeSeries_43 (rfl : 43 + 2 = 45)) dX8_makeSeries_45 (rfl : 45 + 1 = 46)) (v_iload_n (i := 3) dX8_makeSeries_46 rfl (rfl : 46 + 1 = 47)) dX8_makeSeries_47 (rfl : ((47 : Nat) : Int) + 14 = ((61 : Nat) : Int)) (rfl : 47 + 3 = 50)) (v_ieq_f (v_iald (v_gfr kX8 lk1023 (by decide) rfl (v_aload_n (i := 0) dX8_makeSeries_50 rfl (rfl : 50 + 1 = 51)) dX8_makeSeries_51 (rfl : 51 + 3 = 54)) (v_iload (i := 7) dX8_makeSeries_54 (rfl : 54 + 2 = 56)) dX8_makeSeries_56 (rfl : 56 + 1 = 57)) (v_iload_n (i := 3) dX8_makeSeries_57 rfl (rfl : 57 + 1 = 58)) dX8_makeSeries_58 (rfl : ((58 : Nat) : Int) + 24 = ((82 : Nat) : Int)) (rfl : 58 + 3 = 61)))) (v_seq (v_istore (i := 5) (v_ic (v_zeq_f (v_iload (i := 4) dX8_makeSeries_61 (rfl : 61 + 2 = 63)) dX8_makeSeries_63 (rfl : ((63 : Nat) : Int) + 8 = ((71 : Nat) : Int)) (rfl : 63 + 3 = 66)) (vi_goto (v_iload (i := 7) dX8_makeSeries_66 (rfl : 66 + 2 = 68)) dX8_makeSeries_68 (rfl : ((68 : Nat) : Int) + 5 = ((73 : Nat) : Int))) (v_iload (i := 5) dX8_makeSeries_71 (rfl : 71 + 2 = 73))) dX8_makeSeries_73 (by decide) (rfl : 73 + 2 = 75)) (v_seq (v_istore (i := 6) (v_iload (i := 7) dX8_makeSeries_75 (rfl : 75 + 2 = 77)) dX8_makeSeries_77 (by decide) (rfl : 77 + 2 = 79)) (v_iinc (v := 1) dX8_makeSeries_79 (by decide) (by decide) (rfl : 79 + 3 = 82)))) v_nop) (v_iinc (v := 1) dX8_makeSeries_82 (by decide) (by decide) (rfl : 82 + 3 = 85))) dX8_makeSeries_85 (rfl : ((85 : Nat) : Int) + (-66) = ((19 : Nat) : Int)))))) (v_if (v_and (v_and (v_ine_f (v_iload_n (i := 3) dX8_makeSeries_88 rfl (rfl : 88 + 1 = 89)) (v_iload_n (i := 1) dX8_makeSeries_89 rfl (rfl : 89 + 1 = 90)) dX8_makeSeries_90 (rfl : ((90 : Nat) : Int) + 44 = ((134 : Nat) : Int)) (rfl : 90 + 3 = 93)) (v_ine_f (v_iload_n (i := 3) dX8_makeSeries_93 rfl (rfl : 93 + 1 = 94)) (v_iload_n (i := 2) dX8_makeSeries_94 rfl (rfl : 94 + 1 = 95)) dX8_makeSeries_95 (rfl : ((95 : Nat) : Int) + 39 = ((134 : Nat) : Int)) (rfl : 95 + 3 = 98))) (v_or (v_ieq_t (v_iload (i := 4) dX8_makeSeries_98 (rfl : 98 + 2 = 100)) (v_iconst (v := 1) dX8_makeSeries_100 (by decide) (rfl : 100 + 1 = 101)) dX8_makeSeries_101 (rfl : ((101 : Nat) : Int) + 20 = ((121 : Nat) : Int)) (rfl : 101 + 3 = 104)) (v_and (v_ieq_f (v_iload (i := 4) dX8_makeSeries_104 (rfl : 104 + 2 = 106)) (v_iconst (v := 2) dX8_makeSeries_106 (by decide) (rfl : 106 + 1 = 107)) dX8_makeSeries_107 (rfl : ((107 : Nat) : Int) + 27 = ((134 : Nat) : Int)) (rfl : 107 + 3 = 110)) (v_not (v_zne_t (v_cvz kX8 IX8_joinsSame hX8_joinsSame lk1381 ⟨by decide, by decide⟩ (by decide) (v_aload_n (i := 0) dX8_makeSeries_110 rfl (rfl : 110 + 1 = 111)) (v_ai (v_iload (i := 5) dX8_makeSeries_111 (rfl : 111 + 2 = 113)) (v_ai (v_iload (i := 6) dX8_makeSeries_113 (rfl : 113 + 2 = 115)) v_anil)) dX8_makeSeries_115 (rfl : 115 + 3 = 118)) dX8_makeSeries_118 (rfl : ((118 : Nat) : Int) + 16 = ((134 : Nat) : Int)) (rfl : 118 + 3 = 121)))))) (v_seq (v_scv kX8 IX8_leaveOut hX8_leaveOut lk1393 ⟨by decide, by decide⟩ (v_aload_n (i := 0) dX8_makeSeries_121 rfl (rfl : 121 + 1 = 122)) (v_ai (v_iload_n (i := 3) dX8_makeSeries_122 rfl (rfl : 122 + 1 = 123)) (v_ai (v_iload (i := 5) dX8_makeSeries_123 (rfl : 123 + 2 = 125)) (v_ai (v_iload (i := 6) dX8_makeSeries_125 (rfl : 125 + 2 = 127)) (v_ai (v_iload (i := 4) dX8_makeSeries_127 (rfl : 127 + 2 = 129)) v_anil)))) dX8_makeSeries_129 (rfl : 129 + 3 = 132)) (v_ret (v_iconst (v := 1) dX8_makeSeries_132 (by decide) (rfl : 132 + 1 = 133)) dX8_makeSeries_133)) v_nop)))))) (v_iinc (v := 1) dX8_makeSeries_134 (by decide) (by decide) (rfl : 134 + 3 = 137))) dX8_makeSeries_137 (rfl : ((137 : Nat) : Int) + (-135) = ((2 : Nat) : Int)))))) (v_ret (v_iconst (v := 0) dX8_makeSeries_140 (by decide) (rfl : 140 + 1 = 141)) dX8_makeSeries_141))
theorem IX8_makeSeries : Mz yX8_makeSeries cX8_makeSeries 8 (rmk 3 82) DX8_makeSeries := mk_z (by decide +kernel) BX8_makeSeries

theorem dX8_matches_0 : decode cX8_matches 0 = .ok (.iconst 0, 1) := by decide +kernel
theorem dX8_matches_1 : decode cX8_matches 1 = .ok (.istore_n 1, 1) := by decide +kernel
theorem dX8_matches_2 : decode cX8_matches 2 = .ok (.iconst 0, 1) := by decide +kernel
theorem dX8_matches_3 : decode cX8_matches 3 = .ok (.istore_n 2, 1) := by decide +kernel
theorem dX8_matches_4 : decode cX8_matches 4 = .ok (.iload_n 2, 1) := by decide +kernel
theorem dX8_matches_5 : decode cX8_matches 5 = .ok (.aload_n 0, 1) := by decide +kernel
theorem dX8_matches_6 : decode cX8_matches 6 = .ok (.getfield 13, 3) := by decide +kernel
theorem dX8_matches_9 : decode cX8_matches 9 = .ok (.iconst 0, 1) := by decide +kernel
theorem dX8_matches_10 : decode cX8_matches 10 = .ok (.iaload, 1) := by decide +kernel
theorem dX8_matches_11 : decode cX8_matches 11 = .ok (.if_icmp .ge 38, 3) := by decide +kernel
theorem dX8_matches_14 : decode cX8_matches 14 = .ok (.iload_n 1, 1) := by decide +kernel
theorem dX8_matches_15 : decode cX8_matches 15 = .ok (.aload_n 0, 1) := by decide +kernel
theorem dX8_matches_16 : decode cX8_matches 16 = .ok (.getfield 13, 3) := by decide +kernel
theorem dX8_matches_19 : decode cX8_matches 19 = .ok (.iload_n 2, 1) := by decide +kernel
theorem dX8_matches_20 : decode cX8_matches 20 = .ok (.invokestatic 122, 3) := by decide +kernel
theorem dX8_matches_23 : decode cX8_matches 23 = .ok (.iconst 3, 1) := by decide +kernel
theorem dX8_matches_24 : decode cX8_matches 24 = .ok (.iadd, 1) := by decide +kernel
theorem dX8_matches_25 : decode cX8_matches 25 = .ok (.iaload, 1) := by decide +kernel
theorem dX8_matches_26 : decode cX8_matches 26 = .ok (.aload_n 0, 1) := by decide +kernel
theorem dX8_matches_27 : decode cX8_matches 27 = .ok (.iload_n 2, 1) := by decide +kernel
theorem dX8_matches_28 : decode cX8_matches 28 = .ok (.invokevirtual 257, 3) := by decide +kernel
theorem dX8_matches_31 : decode cX8_matches 31 = .ok (.iconst 1, 1) := by decide +kernel
theorem dX8_matches_32 : decode cX8_matches 32 = .ok (.iadd, 1) := by decide +kernel
theorem dX8_matches_33 : decode cX8_matches 33 = .ok (.if_icmp .ne 7, 3) := by decide +kernel
theorem dX8_matches_36 : decode cX8_matches 36 = .ok (.iconst 1, 1) := by decide +kernel
theorem dX8_matches_37 : decode cX8_matches 37 = .ok (.goto 4, 3) := by decide +kernel
theorem dX8_matches_40 : decode cX8_matches 40 = .ok (.iconst 0, 1) := by decide +kernel
theorem dX8_matches_41 : decode cX8_matches 41 = .ok (.iadd, 1) := by decide +kernel
theorem dX8_matches_42 : decode cX8_matches 42 = .ok (.istore_n 1, 1) := by decide +kernel
theorem dX8_matches_43 : decode cX8_matches 43 = .ok (.iinc 2 1, 3) := by decide +kernel
theorem dX8_matches_46 : decode cX8_matches 46 = .ok (.goto (-42), 3) := by decide +kernel
theorem dX8_matches_49 : decode cX8_matches 49 = .ok (.iload_n 1, 1) := by decide +kernel
theorem dX8_matches_50 : decode cX8_matches 50 = .ok (.ireturn, 1) := by decide +kernel
noncomputable def qX8_matches_1 : Bx := (bc clt (il 2) (iald (fgr 7 3 (rl 0)) (ik 0)))
noncomputable def wX8_matches_1 : Sx := (sseq (ssi 1 (i2 (· + ·) (il 1) (ic (bc ceq (iald (fgr 7 3 (rl 0)) (i2 (· + ·) (csi DX8_chamberAt (ai (il 2) anil)) (ik 3))) (i2 (· + ·) (cvi 7 DX8_readingOf (rl 0) (ai (il 2) anil)) (ik 1))) (ik 1) (ik 0)))) (sinc 2 1))
noncomputable def EX8_matches : Sx := (sseq (ssi 1 (ik 0)) (sseq (scut 2 (sseq (ssi 2 (ik 0)) (swh qX8_matches_1 wX8_matches_1))) (sret (il 1))))
noncomputable def DX8_matches : Fi := mfi 3 EX8_matches
set_option maxRecDepth 4000 in
theorem BX8_matches : Vs RX8 cX8_matches 3 (rmk 1 23) 0 0 EX8_matches := (v_seq (v_istore_n (i := 1) (v_iconst (v := 0) dX8_matches_0 (by decide) (rfl : 0 + 1 = 1)) dX8_matches_1 rfl (by decide) (rfl : 1 + 1 = 2)) (v_seq (v_cut (n := 2) (v_seq (v_istore_n (i := 2) (v_iconst (v := 0) dX8_matches_2 (by decide) (rfl : 2 + 1 = 3)) dX8_matches_3 rfl (by decide) (rfl : 3 + 1 = 4)) (v_wh (v_ilt_f (v_iload_n (i := 2) dX8_matches_4 rfl (rfl : 4 + 1 = 5)) (v_iald (v_gfr kX8 lk998 (by decide) rfl (v_aload_n (i := 0) dX8_matches_5 rfl (rfl : 5 + 1 = 6)) dX8_matches_6 (rfl : 6 + 3 = 9)) (v_iconst (v := 0) dX8_matches_9 (by decide) (rfl : 9 + 1 = 10)) dX8_matches_10 (rfl : 10 + 1 = 11)) dX8_matches_11 (rfl : ((11 : Nat) : Int) + 38 = ((49 : Nat) : Int)) (rfl : 11 + 3 = 14)) (vs_goto (v_seq (v_istore_n (i := 1) (v_iadd (v_iload_n (i := 1) dX8_matches_14 rfl (rfl : 14 + 1 = 15)) (v_ic (v_ieq_f (v_iald (v_gfr kX8 lk998 (by decide) rfl (v_aload_n (i := 0) dX8_matches_15 rfl (rfl : 15 + 1 = 16)) dX8_matches_16 (rfl : 16 + 3 = 19)) (v_iadd (v_csi IX8_chamberAt hX8_chamberAt lk1137 ⟨by decide, by decide⟩ (by decide) (v_ai (v_iload_n (i := 2) dX8_matches_19 rfl (rfl : 19 + 1 = 20)) v_anil) dX8_matches_20 (rfl : 20 + 3 = 23)) (v_iconst (v := 3) dX8_matches_23 (by decide) (rfl : 23 + 1 = 24)) dX8_matches_24 (rfl : 24 + 1 = 25)) dX8_matches_25 (rfl : 25 + 1 = 26)) (v_iadd (v_cvi kX8 IX8_readingOf hX8_readingOf lk1309 ⟨by decide, by decide⟩ (by decide) (v_aload_n (i := 0) dX8_matches_26 rfl (rfl : 26 + 1 = 27)) (v_ai (v_iload_n (i := 2) dX8_matches_27 rfl (rfl : 27 + 1 = 28)) v_anil) dX8_matches_28 (rfl : 28 + 3 = 31)) (v_iconst (v := 1) dX8_matches_31 (by decide) (rfl : 31 + 1 = 32)) dX8_matches_32 (rfl : 32 + 1 = 33)) dX8_matches_33 (rfl : ((33 : Nat) : Int) + 7 = ((40 : Nat) : Int)) (rfl : 33 + 3 = 36)) (vi_goto (v_iconst (v := 1) dX8_matches_36 (by decide) (rfl : 36 + 1 = 37)) dX8_matches_37 (rfl : ((37 : Nat) : Int) + 4 = ((41 : Nat) : Int))) (v_iconst (v := 0) dX8_matches_40 (by decide) (rfl : 40 + 1 = 41))) dX8_matches_41 (rfl : 41 + 1 = 42)) dX8_matches_42 rfl (by decide) (rfl : 42 + 1 = 43)) (v_iinc (v := 1) dX8_matches_43 (by decide) (by decide) (rfl : 43 + 3 = 46))) dX8_matches_46 (rfl : ((46 : Nat) : Int) + (-42) = ((4 : Nat) : Int)))))) (v_ret (v_iload_n (i := 1) dX8_matches_49 rfl (rfl : 49 + 1 = 50)) dX8_matches_50)))
theorem IX8_matches : Mi yX8_matches cX8_matches 3 (rmk 1 23) DX8_matches := mk_i (by decide +kernel) BX8_matches

theorem dX8_netBits_0 : decode cX8_netBits 0 = .ok (.aload_n 0, 1) := by decide +kernel
theorem dX8_netBits_1 : decode cX8_netBits 1 = .ok (.invokevirtual 225, 3) := by decide +kernel
theorem dX8_netBits_4 : decode cX8_netBits 4 = .ok (.iconst 0, 1) := by decide +kernel
theorem dX8_netBits_5 : decode cX8_netBits 5 = .ok (.istore_n 2, 1) := by decide +kernel
theorem dX8_netBits_6 : decode cX8_netBits 6 = .ok (.iconst 0, 1) := by decide +kernel
theorem dX8_netBits_7 : decode cX8_netBits 7 = .ok (.istore_n 3, 1) := by decide +kernel
theorem dX8_netBits_8 : decode cX8_netBits 8 = .ok (.iload_n 3, 1) := by decide +kernel
theorem dX8_netBits_9 : decode cX8_netBits 9 = .ok (.aload_n 0, 1) := by decide +kernel
theorem dX8_netBits_10 : decode cX8_netBits 10 = .ok (.getfield 13, 3) := by decide +kernel
theorem dX8_netBits_13 : decode cX8_netBits 13 = .ok (.iconst 0, 1) := by decide +kernel
theorem dX8_netBits_14 : decode cX8_netBits 14 = .ok (.iaload, 1) := by decide +kernel
theorem dX8_netBits_15 : decode cX8_netBits 15 = .ok (.if_icmp .ge 34, 3) := by decide +kernel
theorem dX8_netBits_18 : decode cX8_netBits 18 = .ok (.iload_n 2, 1) := by decide +kernel
theorem dX8_netBits_19 : decode cX8_netBits 19 = .ok (.aload_n 0, 1) := by decide +kernel
theorem dX8_netBits_20 : decode cX8_netBits 20 = .ok (.getfield 32, 3) := by decide +kernel
theorem dX8_netBits_23 : decode cX8_netBits 23 = .ok (.iload_n 3, 1) := by decide +kernel
theorem dX8_netBits_24 : decode cX8_netBits 24 = .ok (.iaload, 1) := by decide +kernel
theorem dX8_netBits_25 : decode cX8_netBits 25 = .ok (.aload_n 0, 1) := by decide +kernel
theorem dX8_netBits_26 : decode cX8_netBits 26 = .ok (.getfield 32, 3) := by decide +kernel
theorem dX8_netBits_29 : decode cX8_netBits 29 = .ok (.iload_n 1, 1) := by decide +kernel
theorem dX8_netBits_30 : decode cX8_netBits 30 = .ok (.iaload, 1) := by decide +kernel
theorem dX8_netBits_31 : decode cX8_netBits 31 = .ok (.if_icmp .ne 9, 3) := by decide +kernel
theorem dX8_netBits_34 : decode cX8_netBits 34 = .ok (.iconst 1, 1) := by decide +kernel
theorem dX8_netBits_35 : decode cX8_netBits 35 = .ok (.iload_n 3, 1) := by decide +kernel
theorem dX8_netBits_36 : decode cX8_netBits 36 = .ok (.ishl, 1) := by decide +kernel
theorem dX8_netBits_37 : decode cX8_netBits 37 = .ok (.goto 4, 3) := by decide +kernel
theorem dX8_netBits_40 : decode cX8_netBits 40 = .ok (.iconst 0, 1) := by decide +kernel
theorem dX8_netBits_41 : decode cX8_netBits 41 = .ok (.ior, 1) := by decide +kernel
theorem dX8_netBits_42 : decode cX8_netBits 42 = .ok (.istore_n 2, 1) := by decide +kernel
theorem dX8_netBits_43 : decode cX8_netBits 43 = .ok (.iinc 3 1, 3) := by decide +kernel
theorem dX8_netBits_46 : decode cX8_netBits 46 = .ok (.goto (-38), 3) := by decide +kernel
theorem dX8_netBits_49 : decode cX8_netBits 49 = .ok (.iload_n 2, 1) := by decide +kernel
theorem dX8_netBits_50 : decode cX8_netBits 50 = .ok (.ireturn, 1) := by decide +kernel
noncomputable def qX8_netBits_1 : Bx := (bc clt (il 3) (iald (fgr 7 3 (rl 0)) (ik 0)))
noncomputable def wX8_netBits_1 : Sx := (sseq (ssi 2 (i2 (· ||| ·) (il 2) (ic (bc ceq (iald (fgr 7 10 (rl 0)) (il 3)) (iald (fgr 7 10 (rl 0)) (il 1))) (i2 oshl (ik 1) (il 3)) (ik 0)))) (sinc 3 1))
noncomputable def EX8_netBits : Sx := (sseq (scv 7 DX8_layNets (rl 0) anil) (sseq (ssi 2 (ik 0)) (sseq (scut 3 (sseq (ssi 3 (ik 0)) (swh qX8_netBits_1 wX8_netBits_1))) (sret (il 2)))))
noncomputable def DX8_netBits : Fi := mfi 4 EX8_netBits
set_option maxRecDepth 4000 in
theorem BX8_netBits : Vs RX8 cX8_netBits 4 (rmk 3 66) 0 0 EX8_netBits := (v_seq (v_scv kX8 IX8_layNets hX8_layNets lk1253 ⟨by decide, by decide⟩ (v_aload_n (i := 0) dX8_netBits_0 rfl (rfl : 0 + 1 = 1)) v_anil dX8_netBits_1 (rfl : 1 + 3 = 4)) (v_seq (v_istore_n (i := 2) (v_iconst (v := 0) dX8_netBits_4 (by decide) (rfl : 4 + 1 = 5)) dX8_netBits_5 rfl (by decide) (rfl : 5 + 1 = 6)) (v_seq (v_cut (n := 3) (v_seq (v_istore_n (i := 3) (v_iconst (v := 0) dX8_netBits_6 (by decide) (rfl : 6 + 1 = 7)) dX8_netBits_7 rfl (by decide) (rfl : 7 + 1 = 8)) (v_wh (v_ilt_f (v_iload_n (i := 3) dX8_netBits_8 rfl (rfl : 8 + 1 = 9)) (v_iald (v_gfr kX8 lk998 (by decide) rfl (v_aload_n (i := 0) dX8_netBits_9 rfl (rfl : 9 + 1 = 10)) dX8_netBits_10 (rfl : 10 + 3 = 13)) (v_iconst (v := 0) dX8_netBits_13 (by decide) (rfl : 13 + 1 = 14)) dX8_netBits_14 (rfl : 14 + 1 = 15)) dX8_netBits_15 (rfl : ((15 : Nat) : Int) + 34 = ((49 : Nat) : Int)) (rfl : 15 + 3 = 18)) (vs_goto (v_seq (v_istore_n (i := 2) (v_ior (v_iload_n (i := 2) dX8_netBits_18 rfl (rfl : 18 + 1 = 19)) (v_ic (v_ieq_f (v_iald (v_gfr kX8 lk1005 (by decide) rfl (v_aload_n (i := 0) dX8_netBits_19 rfl (rfl : 19 + 1 = 20)) dX8_netBits_20 (rfl : 20 + 3 = 23)) (v_iload_n (i := 3) dX8_netBits_23 rfl (rfl : 23 + 1 = 24)) dX8_netBits_24 (rfl : 24 + 1 = 25)) (v_iald (v_gfr kX8 lk1005 (by decide) rfl (v_aload_n (i := 0) dX8_netBits_25 rfl (rfl : 25 + 1 = 26)) dX8_netBits_26 (rfl : 26 + 3 = 29)) (v_iload_n (i := 1) dX8_netBits_29 rfl (rfl : 29 + 1 = 30)) dX8_netBits_30 (rfl : 30 + 1 = 31)) dX8_netBits_31 (rfl : ((31 : Nat) : Int) + 9 = ((40 : Nat) : Int)) (rfl : 31 + 3 = 34)) (vi_goto (v_ishl (v_iconst (v := 1) dX8_netBits_34 (by decide) (rfl : 34 + 1 = 35)) (v_iload_n (i := 3) dX8_netBits_35 rfl (rfl : 35 + 1 = 36)) dX8_netBits_36 (rfl : 36 + 1 = 37)) dX8_netBits_37 (rfl : ((37 : Nat) : Int) + 4 = ((41 : Nat) : Int))) (v_iconst (v := 0) dX8_netBits_40 (by decide) (rfl : 40 + 1 = 41))) dX8_netBits_41 (rfl : 41 + 1 = 42)) dX8_netBits_42 rfl (by decide) (rfl : 42 + 1 = 43)) (v_iinc (v := 1) dX8_netBits_43 (by decide) (by decide) (rfl : 43 + 3 = 46))) dX8_netBits_46 (rfl : ((46 : Nat) : Int) + (-38) = ((8 : Nat) : Int)))))) (v_ret (v_iload_n (i := 2) dX8_netBits_49 rfl (rfl : 49 + 1 = 50)) dX8_netBits_50))))
theorem IX8_netBits : Mi yX8_netBits cX8_netBits 4 (rmk 3 66) DX8_netBits := mk_i (by decide +kernel) BX8_netBits

theorem dX8_note_0 : decode cX8_note 0 = .ok (.aload_n 0, 1) := by decide +kernel
theorem dX8_note_1 : decode cX8_note 1 = .ok (.iconst 0, 1) := by decide +kernel
theorem dX8_note_2 : decode cX8_note 2 = .ok (.putfield 84, 3) := by decide +kernel
theorem dX8_note_5 : decode cX8_note 5 = .ok (.iload_n 2, 1) := by decide +kernel
theorem dX8_note_6 : decode cX8_note 6 = .ok (.i2l, 1) := by decide +kernel
theorem dX8_note_7 : decode cX8_note 7 = .ok (.ldc2_w 279, 3) := by decide +kernel
theorem dX8_note_10 : decode cX8_note 10 = .ok (.ldc2_w 167, 3) := by decide +kernel
theorem dX8_note_13 : decode cX8_note 13 = .ok (.invokestatic 105, 3) := by decide +kernel
theorem dX8_note_16 : decode cX8_note 16 = .ok (.ifCond .ne 9, 3) := by decide +kernel
theorem dX8_note_19 : decode cX8_note 19 = .ok (.aload_n 0, 1) := by decide +kernel
theorem dX8_note_20 : decode cX8_note 20 = .ok (.iconst (-1), 1) := by decide +kernel
theorem dX8_note_21 : decode cX8_note 21 = .ok (.invokevirtual 98, 3) := by decide +kernel
theorem dX8_note_24 : decode cX8_note 24 = .ok (.ireturn, 1) := by decide +kernel
theorem dX8_note_25 : decode cX8_note 25 = .ok (.aload_n 0, 1) := by decide +kernel
theorem dX8_note_26 : decode cX8_note 26 = .ok (.iload_n 1, 1) := by decide +kernel
theorem dX8_note_27 : decode cX8_note 27 = .ok (.invokevirtual 109, 3) := by decide +kernel
theorem dX8_note_30 : decode cX8_note 30 = .ok (.ifCond .ne 10, 3) := by decide +kernel
theorem dX8_note_33 : decode cX8_note 33 = .ok (.aload_n 0, 1) := by decide +kernel
theorem dX8_note_34 : decode cX8_note 34 = .ok (.bipush (-2), 2) := by decide +kernel
theorem dX8_note_36 : decode cX8_note 36 = .ok (.invokevirtual 98, 3) := by decide +kernel
theorem dX8_note_39 : decode cX8_note 39 = .ok (.ireturn, 1) := by decide +kernel
theorem dX8_note_40 : decode cX8_note 40 = .ok (.aload_n 0, 1) := by decide +kernel
theorem dX8_note_41 : decode cX8_note 41 = .ok (.bipush 11, 2) := by decide +kernel
theorem dX8_note_43 : decode cX8_note 43 = .ok (.invokevirtual 136, 3) := by decide +kernel
theorem dX8_note_46 : decode cX8_note 46 = .ok (.aload_n 0, 1) := by decide +kernel
theorem dX8_note_47 : decode cX8_note 47 = .ok (.getfield 13, 3) := by decide +kernel
theorem dX8_note_50 : decode cX8_note 50 = .ok (.iload_n 1, 1) := by decide +kernel
theorem dX8_note_51 : decode cX8_note 51 = .ok (.invokestatic 122, 3) := by decide +kernel
theorem dX8_note_54 : decode cX8_note 54 = .ok (.iconst 3, 1) := by decide +kernel
theorem dX8_note_55 : decode cX8_note 55 = .ok (.iadd, 1) := by decide +kernel
theorem dX8_note_56 : decode cX8_note 56 = .ok (.iaload, 1) := by decide +kernel
theorem dX8_note_57 : decode cX8_note 57 = .ok (.iconst 1, 1) := by decide +kernel
theorem dX8_note_58 : decode cX8_note 58 = .ok (.isub, 1) := by decide +kernel
theorem dX8_note_59 : decode cX8_note 59 = .ok (.istore_n 3, 1) := by decide +kernel
theorem dX8_note_60 : decode cX8_note 60 = .ok (.aload_n 0, 1) := by decide +kernel
theorem dX8_note_61 : decode cX8_note 61 = .ok (.getfield 13, 3) := by decide +kernel
theorem dX8_note_64 : decode cX8_note 64 = .ok (.iload_n 1, 1) := by decide +kernel
theorem dX8_note_65 : decode cX8_note 65 = .ok (.invokestatic 122, 3) := by decide +kernel
theorem dX8_note_68 : decode cX8_note 68 = .ok (.iconst 3, 1) := by decide +kernel
theorem dX8_note_69 : decode cX8_note 69 = .ok (.iadd, 1) := by decide +kernel
theorem dX8_note_70 : decode cX8_note 70 = .ok (.iload_n 2, 1) := by decide +kernel
theorem dX8_note_71 : decode cX8_note 71 = .ok (.iconst 1, 1) := by decide +kernel
theorem dX8_note_72 : decode cX8_note 72 = .ok (.iadd, 1) := by decide +kernel
theorem dX8_note_73 : decode cX8_note 73 = .ok (.iastore, 1) := by decide +kernel
theorem dX8_note_74 : decode cX8_note 74 = .ok (.aload_n 0, 1) := by decide +kernel
theorem dX8_note_75 : decode cX8_note 75 = .ok (.iload_n 3, 1) := by decide +kernel
theorem dX8_note_76 : decode cX8_note 76 = .ok (.invokevirtual 102, 3) := by decide +kernel
theorem dX8_note_79 : decode cX8_note 79 = .ok (.ireturn, 1) := by decide +kernel
noncomputable def EX8_note : Sx := (sseq (fpi 7 0 (rl 0) (ik 0)) (sseq (sif (bnot (bz cne (csz DX8_in (aj (i2l (il 2)) (aj (jk (-1)) (aj (jk 99999999) anil)))))) (sret (cvi 7 DX8_refuse (rl 0) (ai (ik (-1)) anil))) snop) (sseq (sif (bnot (bz cne (cvz 7 DX8_isChamber (rl 0) (ai (il 1) anil)))) (sret (cvi 7 DX8_refuse (rl 0) (ai (ik (-2)) anil))) snop) (sseq (scv 7 DX8_remember (rl 0) (ai (ik 11) anil)) (sseq (ssi 3 (i2 (· - ·) (iald (fgr 7 3 (rl 0)) (i2 (· + ·) (csi DX8_chamberAt (ai (il 1) anil)) (ik 3))) (ik 1))) (sseq (aii (fgr 7 3 (rl 0)) (i2 (· + ·) (csi DX8_chamberAt (ai (il 1) anil)) (ik 3)) (i2 (· + ·) (il 2) (ik 1))) (sret (cvi 7 DX8_tell (rl 0) (ai (il 3) anil)))))))))
noncomputable def DX8_note : Fi := mfi 4 EX8_note
set_option maxRecDepth 4000 in
theorem BX8_note : Vs RX8 cX8_note 4 (rmk 2 46) 0 0 EX8_note := (v_seq (v_fpi kX8 lk995 (by decide) rfl rfl (by decide +kernel) (v_aload_n (i := 0) dX8_note_0 rfl (rfl : 0 + 1 = 1)) (v_iconst (v := 0) dX8_note_1 (by decide) (rfl : 1 + 1 = 2)) dX8_note_2 (rfl : 2 + 3 = 5)) (v_seq (v_if (v_not (v_zne_t (v_csz IX8_in hX8_in lk1120 ⟨by decide, by decide⟩ (by decide) (v_aj (v_i2l (v_iload_n (i := 2) dX8_note_5 rfl (rfl : 5 + 1 = 6)) dX8_note_6 (rfl : 6 + 1 = 7)) (v_aj (v_ldc2 (v := (-1)) lk1335 dX8_note_7 (rfl : 7 + 3 = 10)) (v_aj (v_ldc2 (v := 99999999) lk1216 dX8_note_10 (rfl : 10 + 3 = 13)) v_anil))) dX8_note_13 (rfl : 13 + 3 = 16)) dX8_note_16 (rfl : ((16 : Nat) : Int) + 9 = ((25 : Nat) : Int)) (rfl : 16 + 3 = 19))) (v_ret (v_cvi kX8 IX8_refuse hX8_refuse lk1105 ⟨by decide, by decide⟩ (by decide) (v_aload_n (i := 0) dX8_note_19 rfl (rfl : 19 + 1 = 20)) (v_ai (v_iconst (v := (-1)) dX8_note_20 (by decide) (rfl : 20 + 1 = 21)) v_anil) dX8_note_21 (rfl : 21 + 3 = 24)) dX8_note_24) v_nop) (v_seq (v_if (v_not (v_zne_t (v_cvz kX8 IX8_isChamber hX8_isChamber lk1145 ⟨by decide, by decide⟩ (by decide) (v_aload_n (i := 0) dX8_note_25 rfl (rfl : 25 + 1 = 26)) (v_ai (v_iload_n (i := 1) dX8_note_26 rfl (rfl : 26 + 1 = 27)) v_anil) dX8_note_27 (rfl : 27 + 3 = 30)) dX8_note_30 (rfl : ((30 : Nat) : Int) + 10 = ((40 : Nat) : Int)) (rfl : 30 + 3 = 33))) (v_ret (v_cvi kX8 IX8_refuse hX8_refuse lk1105 ⟨by decide, by decide⟩ (by decide) (v_aload_n (i := 0) dX8_note_33 rfl (rfl : 33 + 1 = 34)) (v_ai (v_bipush (v := (-2)) dX8_note_34 (by decide) (rfl : 34 + 2 = 36)) v_anil) dX8_note_36 (rfl : 36 + 3 = 39)) dX8_note_39) v_nop) (v_seq (v_scv kX8 IX8_remember hX8_remember lk1133 ⟨by decide, by decide⟩ (v_aload_n (i := 0) dX8_note_40 rfl (rfl : 40 + 1 = 41)) (v_ai (v_bipush (v := 11) dX8_note_41 (by decide) (rfl : 41 + 2 = 43)) v_anil) dX8_note_43 (rfl : 43 + 3 = 46)) (v_seq (v_istore_n (i := 3) (v_isub (v_iald (v_gfr kX8 lk998 (by decide) rfl (v_aload_n (i := 0) dX8_note_46 rfl (rfl : 46 + 1 = 47)) dX8_note_47 (rfl : 47 + 3 = 50)) (v_iadd (v_csi IX8_chamberAt hX8_chamberAt lk1137 ⟨by decide, by decide⟩ (by decide) (v_ai (v_iload_n (i := 1) dX8_note_50 rfl (rfl : 50 + 1 = 51)) v_anil) dX8_note_51 (rfl : 51 + 3 = 54)) (v_iconst (v := 3) dX8_note_54 (by decide) (rfl : 54 + 1 = 55)) dX8_note_55 (rfl : 55 + 1 = 56)) dX8_note_56 (rfl : 56 + 1 = 57)) (v_iconst (v := 1) dX8_note_57 (by decide) (rfl : 57 + 1 = 58)) dX8_note_58 (rfl : 58 + 1 = 59)) dX8_note_59 rfl (by decide) (rfl : 59 + 1 = 60)) (v_seq (v_aii (v_gfr kX8 lk998 (by decide) rfl (v_aload_n (i := 0) dX8_note_60 rfl (rfl : 60 + 1 = 61)) dX8_note_61 (rfl : 61 + 3 = 64)) (v_iadd (v_csi IX8_chamberAt hX8_chamberAt lk1137 ⟨by decide, by decide⟩ (by decide) (v_ai (v_iload_n (i := 1) dX8_note_64 rfl (rfl : 64 + 1 = 65)) v_anil) dX8_note_65 (rfl : 65 + 3 = 68)) (v_iconst (v := 3) dX8_note_68 (by decide) (rfl : 68 + 1 = 69)) dX8_note_69 (rfl : 69 + 1 = 70)) (v_iadd (v_iload_n (i := 2) dX8_note_70 rfl (rfl : 70 + 1 = 71)) (v_iconst (v := 1) dX8_note_71 (by decide) (rfl : 71 + 1 = 72)) dX8_note_72 (rfl : 72 + 1 = 73)) dX8_note_73 (rfl : 73 + 1 = 74)) (v_ret (v_cvi kX8 IX8_tell hX8_tell lk1112 ⟨by decide, by decide⟩ (by decide) (v_aload_n (i := 0) dX8_note_74 rfl (rfl : 74 + 1 = 75)) (v_ai (v_iload_n (i := 3) dX8_note_75 rfl (rfl : 75 + 1 = 76)) v_anil) dX8_note_76 (rfl : 76 + 3 = 79)) dX8_note_79)))))))
theorem IX8_note : Mi yX8_note cX8_note 4 (rmk 2 46) DX8_note := mk_i (by decide +kernel) BX8_note

theorem dX8_noteAll_0 : decode cX8_noteAll 0 = .ok (.aload_n 0, 1) := by decide +kernel
theorem dX8_noteAll_1 : decode cX8_noteAll 1 = .ok (.iconst 0, 1) := by decide +kernel
theorem dX8_noteAll_2 : decode cX8_noteAll 2 = .ok (.putfield 84, 3) := by decide +kernel
theorem dX8_noteAll_5 : decode cX8_noteAll 5 = .ok (.aload_n 0, 1) := by decide +kernel
theorem dX8_noteAll_6 : decode cX8_noteAll 6 = .ok (.invokevirtual 254, 3) := by decide +kernel
theorem dX8_noteAll_9 : decode cX8_noteAll 9 = .ok (.ifCond .ne 10, 3) := by decide +kernel
theorem dX8_noteAll_12 : decode cX8_noteAll 12 = .ok (.aload_n 0, 1) := by decide +kernel
theorem dX8_noteAll_13 : decode cX8_noteAll 13 = .ok (.bipush (-4), 2) := by decide +kernel
theorem dX8_noteAll_15 : decode cX8_noteAll 15 = .ok (.invokevirtual 98, 3) := by decide +kernel
theorem dX8_noteAll_18 : decode cX8_noteAll 18 = .ok (.ireturn, 1) := by decide +kernel
theorem dX8_noteAll_19 : decode cX8_noteAll 19 = .ok (.aload_n 0, 1) := by decide +kernel
theorem dX8_noteAll_20 : decode cX8_noteAll 20 = .ok (.bipush 12, 2) := by decide +kernel
theorem dX8_noteAll_22 : decode cX8_noteAll 22 = .ok (.invokevirtual 136, 3) := by decide +kernel
theorem dX8_noteAll_25 : decode cX8_noteAll 25 = .ok (.iconst 0, 1) := by decide +kernel
theorem dX8_noteAll_26 : decode cX8_noteAll 26 = .ok (.istore_n 1, 1) := by decide +kernel
theorem dX8_noteAll_27 : decode cX8_noteAll 27 = .ok (.iload_n 1, 1) := by decide +kernel
theorem dX8_noteAll_28 : decode cX8_noteAll 28 = .ok (.aload_n 0, 1) := by decide +kernel
theorem dX8_noteAll_29 : decode cX8_noteAll 29 = .ok (.getfield 13, 3) := by decide +kernel
theorem dX8_noteAll_32 : decode cX8_noteAll 32 = .ok (.iconst 0, 1) := by decide +kernel
theorem dX8_noteAll_33 : decode cX8_noteAll 33 = .ok (.iaload, 1) := by decide +kernel
theorem dX8_noteAll_34 : decode cX8_noteAll 34 = .ok (.if_icmp .ge 27, 3) := by decide +kernel
theorem dX8_noteAll_37 : decode cX8_noteAll 37 = .ok (.aload_n 0, 1) := by decide +kernel
theorem dX8_noteAll_38 : decode cX8_noteAll 38 = .ok (.getfield 13, 3) := by decide +kernel
theorem dX8_noteAll_41 : decode cX8_noteAll 41 = .ok (.iload_n 1, 1) := by decide +kernel
theorem dX8_noteAll_42 : decode cX8_noteAll 42 = .ok (.invokestatic 122, 3) := by decide +kernel
theorem dX8_noteAll_45 : decode cX8_noteAll 45 = .ok (.iconst 3, 1) := by decide +kernel
theorem dX8_noteAll_46 : decode cX8_noteAll 46 = .ok (.iadd, 1) := by decide +kernel
theorem dX8_noteAll_47 : decode cX8_noteAll 47 = .ok (.aload_n 0, 1) := by decide +kernel
theorem dX8_noteAll_48 : decode cX8_noteAll 48 = .ok (.iload_n 1, 1) := by decide +kernel
theorem dX8_noteAll_49 : decode cX8_noteAll 49 = .ok (.invokevirtual 257, 3) := by decide +kernel
theorem dX8_noteAll_52 : decode cX8_noteAll 52 = .ok (.iconst 1, 1) := by decide +kernel
theorem dX8_noteAll_53 : decode cX8_noteAll 53 = .ok (.iadd, 1) := by decide +kernel
theorem dX8_noteAll_54 : decode cX8_noteAll 54 = .ok (.iastore, 1) := by decide +kernel
theorem dX8_noteAll_55 : decode cX8_noteAll 55 = .ok (.iinc 1 1, 3) := by decide +kernel
theorem dX8_noteAll_58 : decode cX8_noteAll 58 = .ok (.goto (-31), 3) := by decide +kernel
theorem dX8_noteAll_61 : decode cX8_noteAll 61 = .ok (.aload_n 0, 1) := by decide +kernel
theorem dX8_noteAll_62 : decode cX8_noteAll 62 = .ok (.aload_n 0, 1) := by decide +kernel
theorem dX8_noteAll_63 : decode cX8_noteAll 63 = .ok (.getfield 13, 3) := by decide +kernel
theorem dX8_noteAll_66 : decode cX8_noteAll 66 = .ok (.iconst 0, 1) := by decide +kernel
theorem dX8_noteAll_67 : decode cX8_noteAll 67 = .ok (.iaload, 1) := by decide +kernel
theorem dX8_noteAll_68 : decode cX8_noteAll 68 = .ok (.invokevirtual 102, 3) := by decide +kernel
theorem dX8_noteAll_71 : decode cX8_noteAll 71 = .ok (.ireturn, 1) := by decide +kernel
noncomputable def qX8_noteAll_1 : Bx := (bc clt (il 1) (iald (fgr 7 3 (rl 0)) (ik 0)))
noncomputable def wX8_noteAll_1 : Sx := (sseq (aii (fgr 7 3 (rl 0)) (i2 (· + ·) (csi DX8_chamberAt (ai (il 1) anil)) (ik 3)) (i2 (· + ·) (cvi 7 DX8_readingOf (rl 0) (ai (il 1) anil)) (ik 1))) (sinc 1 1))
noncomputable def EX8_noteAll : Sx := (sseq (fpi 7 0 (rl 0) (ik 0)) (sseq (sif (bnot (bz cne (cvz 7 DX8_reckonNow (rl 0) anil))) (sret (cvi 7 DX8_refuse (rl 0) (ai (ik (-4)) anil))) snop) (sseq (scv 7 DX8_remember (rl 0) (ai (ik 12) anil)) (sseq (scut 1 (sseq (ssi 1 (ik 0)) (swh qX8_noteAll_1 wX8_noteAll_1))) (sret (cvi 7 DX8_tell (rl 0) (ai (iald (fgr 7 3 (rl 0)) (ik 0)) anil)))))))
noncomputable def DX8_noteAll : Fi := mfi 2 EX8_noteAll
set_option maxRecDepth 4000 in
theorem BX8_noteAll : Vs RX8 cX8_noteAll 2 (rmk 6 134) 0 0 EX8_noteAll := (v_seq (v_fpi kX8 lk995 (by decide) rfl rfl (by decide +kernel) (v_aload_n (i := 0) dX8_noteAll_0 rfl (rfl : 0 + 1 = 1)) (v_iconst (v := 0) dX8_noteAll_1 (by decide) (rfl : 1 + 1 = 2)) dX8_noteAll_2 (rfl : 2 + 3 = 5)) (v_seq (v_if (v_not (v_zne_t (v_cvz kX8 IX8_reckonNow hX8_reckonNow lk1241 ⟨by decide, by decide⟩ (by decide) (v_aload_n (i := 0) dX8_noteAll_5 rfl (rfl : 5 + 1 = 6)) v_anil dX8_noteAll_6 (rfl : 6 + 3 = 9)) dX8_noteAll_9 (rfl : ((9 : Nat) : Int) + 10 = ((19 : Nat) : Int)) (rfl : 9 + 3 = 12))) (v_ret (v_cvi kX8 IX8_refuse hX8_refuse lk1105 ⟨by decide, by decide⟩ (by decide) (v_aload_n (i := 0) dX8_noteAll_12 rfl (rfl : 12 + 1 = 13)) (v_ai (v_bipush (v := (-4)) dX8_noteAll_13 (by decide) (rfl : 13 + 2 = 15)) v_anil) dX8_noteAll_15 (rfl : 15 + 3 = 18)) dX8_noteAll_18) v_nop) (v_seq (v_scv kX8 IX8_remember hX8_remember lk1133 ⟨by decide, by decide⟩ (v_aload_n (i := 0) dX8_noteAll_19 rfl (rfl : 19 + 1 = 20)) (v_ai (v_bipush (v := 12) dX8_noteAll_20 (by decide) (rfl : 20 + 2 = 22)) v_anil) dX8_noteAll_22 (rfl : 22 + 3 = 25)) (v_seq (v_cut (n := 1) (v_seq (v_istore_n (i := 1) (v_iconst (v := 0) dX8_noteAll_25 (by decide) (rfl : 25 + 1 = 26)) dX8_noteAll_26 rfl (by decide) (rfl : 26 + 1 = 27)) (v_wh (v_ilt_f (v_iload_n (i := 1) dX8_noteAll_27 rfl (rfl : 27 + 1 = 28)) (v_iald (v_gfr kX8 lk998 (by decide) rfl (v_aload_n (i := 0) dX8_noteAll_28 rfl (rfl : 28 + 1 = 29)) dX8_noteAll_29 (rfl : 29 + 3 = 32)) (v_iconst (v := 0) dX8_noteAll_32 (by decide) (rfl : 32 + 1 = 33)) dX8_noteAll_33 (rfl : 33 + 1 = 34)) dX8_noteAll_34 (rfl : ((34 : Nat) : Int) + 27 = ((61 : Nat) : Int)) (rfl : 34 + 3 = 37)) (vs_goto (v_seq (v_aii (v_gfr kX8 lk998 (by decide) rfl (v_aload_n (i := 0) dX8_noteAll_37 rfl (rfl : 37 + 1 = 38)) dX8_noteAll_38 (rfl : 38 + 3 = 41)) (v_iadd (v_csi IX8_chamberAt hX8_chamberAt lk1137 ⟨by decide, by decide⟩ (by decide) (v_ai (v_iload_n (i := 1) dX8_noteAll_41 rfl (rfl : 41 + 1 = 42)) v_anil) dX8_noteAll_42 (rfl : 42 + 3 = 45)) (v_iconst (v := 3) dX8_noteAll_45 (by decide) (rfl : 45 + 1 = 46)) dX8_noteAll_46 (rfl : 46 + 1 = 47)) (v_iadd (v_cvi kX8 IX8_readingOf hX8_readingOf lk1309 ⟨by decide, by decide⟩ (by decide) (v_aload_n (i := 0) dX8_noteAll_47 rfl (rfl : 47 + 1 = 48)) (v_ai (v_iload_n (i := 1) dX8_noteAll_48 rfl (rfl : 48 + 1 = 49)) v_anil) dX8_noteAll_49 (rfl : 49 + 3 = 52)) (v_iconst (v := 1) dX8_noteAll_52 (by decide) (rfl : 52 + 1 = 53)) dX8_noteAll_53 (rfl : 53 + 1 = 54)) dX8_noteAll_54 (rfl : 54 + 1 = 55)) (v_iinc (v := 1) dX8_noteAll_55 (by decide) (by decide) (rfl : 55 + 3 = 58))) dX8_noteAll_58 (rfl : ((58 : Nat) : Int) + (-31) = ((27 : Nat) : Int)))))) (v_ret (v_cvi kX8 IX8_tell hX8_tell lk1112 ⟨by decide, by decide⟩ (by decide) (v_aload_n (i := 0) dX8_noteAll_61 rfl (rfl : 61 + 1 = 62)) (v_ai (v_iald (v_gfr kX8 lk998 (by decide) rfl (v_aload_n (i := 0) dX8_noteAll_62 rfl (rfl : 62 + 1 = 63)) dX8_noteAll_63 (rfl : 63 + 3 = 66)) (v_iconst (v := 0) dX8_noteAll_66 (by decide) (rfl : 66 + 1 = 67)) dX8_noteAll_67 (rfl : 67 + 1 = 68)) v_anil) dX8_noteAll_68 (rfl : 68 + 3 = 71)) dX8_noteAll_71)))))
theorem IX8_noteAll : Mi yX8_noteAll cX8_noteAll 2 (rmk 6 134) DX8_noteAll := mk_i (by decide +kernel) BX8_noteAll

theorem dX8_ofChamber_0 : decode cX8_ofChamber 0 = .ok (.aload_n 0, 1) := by decide +kernel
theorem dX8_ofChamber_1 : decode cX8_ofChamber 1 = .ok (.iconst 0, 1) := by decide +kernel
theorem dX8_ofChamber_2 : decode cX8_ofChamber 2 = .ok (.putfield 84, 3) := by decide +kernel
theorem dX8_ofChamber_5 : decode cX8_ofChamber 5 = .ok (.aload_n 0, 1) := by decide +kernel
theorem dX8_ofChamber_6 : decode cX8_ofChamber 6 = .ok (.iload_n 1, 1) := by decide +kernel
theorem dX8_ofChamber_7 : decode cX8_ofChamber 7 = .ok (.invokevirtual 109, 3) := by decide +kernel
theorem dX8_ofChamber_10 : decode cX8_ofChamber 10 = .ok (.ifCond .ne 5, 3) := by decide +kernel
theorem dX8_ofChamber_13 : decode cX8_ofChamber 13 = .ok (.iconst (-1), 1) := by decide +kernel
theorem dX8_ofChamber_14 : decode cX8_ofChamber 14 = .ok (.ireturn, 1) := by decide +kernel
theorem dX8_ofChamber_15 : decode cX8_ofChamber 15 = .ok (.iload_n 1, 1) := by decide +kernel
theorem dX8_ofChamber_16 : decode cX8_ofChamber 16 = .ok (.invokestatic 122, 3) := by decide +kernel
theorem dX8_ofChamber_19 : decode cX8_ofChamber 19 = .ok (.istore_n 3, 1) := by decide +kernel
theorem dX8_ofChamber_20 : decode cX8_ofChamber 20 = .ok (.iload_n 2, 1) := by decide +kernel
theorem dX8_ofChamber_21 : decode cX8_ofChamber 21 = .ok (.tableswitch 60 3 6 #[31, 37, 43, 54], 31) := by decide +kernel
theorem dX8_ofChamber_52 : decode cX8_ofChamber 52 = .ok (.aload_n 0, 1) := by decide +kernel
theorem dX8_ofChamber_53 : decode cX8_ofChamber 53 = .ok (.iload_n 1, 1) := by decide +kernel
theorem dX8_ofChamber_54 : decode cX8_ofChamber 54 = .ok (.invokevirtual 204, 3) := by decide +kernel
theorem dX8_ofChamber_57 : decode cX8_ofChamber 57 = .ok (.ireturn, 1) := by decide +kernel
theorem dX8_ofChamber_58 : decode cX8_ofChamber 58 = .ok (.aload_n 0, 1) := by decide +kernel
theorem dX8_ofChamber_59 : decode cX8_ofChamber 59 = .ok (.iload_n 1, 1) := by decide +kernel
theorem dX8_ofChamber_60 : decode cX8_ofChamber 60 = .ok (.invokevirtual 146, 3) := by decide +kernel
theorem dX8_ofChamber_63 : decode cX8_ofChamber 63 = .ok (.ireturn, 1) := by decide +kernel
theorem dX8_ofChamber_64 : decode cX8_ofChamber 64 = .ok (.aload_n 0, 1) := by decide +kernel
theorem dX8_ofChamber_65 : decode cX8_ofChamber 65 = .ok (.getfield 13, 3) := by decide +kernel
theorem dX8_ofChamber_68 : decode cX8_ofChamber 68 = .ok (.iload_n 3, 1) := by decide +kernel
theorem dX8_ofChamber_69 : decode cX8_ofChamber 69 = .ok (.iconst 3, 1) := by decide +kernel
theorem dX8_ofChamber_70 : decode cX8_ofChamber 70 = .ok (.iadd, 1) := by decide +kernel
theorem dX8_ofChamber_71 : decode cX8_ofChamber 71 = .ok (.iaload, 1) := by decide +kernel
theorem dX8_ofChamber_72 : decode cX8_ofChamber 72 = .ok (.iconst 1, 1) := by decide +kernel
theorem dX8_ofChamber_73 : decode cX8_ofChamber 73 = .ok (.isub, 1) := by decide +kernel
theorem dX8_ofChamber_74 : decode cX8_ofChamber 74 = .ok (.ireturn, 1) := by decide +kernel
theorem dX8_ofChamber_75 : decode cX8_ofChamber 75 = .ok (.aload_n 0, 1) := by decide +kernel
theorem dX8_ofChamber_76 : decode cX8_ofChamber 76 = .ok (.iload_n 1, 1) := by decide +kernel
theorem dX8_ofChamber_77 : decode cX8_ofChamber 77 = .ok (.invokevirtual 368, 3) := by decide +kernel
theorem dX8_ofChamber_80 : decode cX8_ofChamber 80 = .ok (.ireturn, 1) := by decide +kernel
theorem dX8_ofChamber_81 : decode cX8_ofChamber 81 = .ok (.iload_n 2, 1) := by decide +kernel
theorem dX8_ofChamber_82 : decode cX8_ofChamber 82 = .ok (.i2l, 1) := by decide +kernel
theorem dX8_ofChamber_83 : decode cX8_ofChamber 83 = .ok (.lconst 0, 1) := by decide +kernel
theorem dX8_ofChamber_84 : decode cX8_ofChamber 84 = .ok (.ldc2_w 158, 3) := by decide +kernel
theorem dX8_ofChamber_87 : decode cX8_ofChamber 87 = .ok (.invokestatic 105, 3) := by decide +kernel
theorem dX8_ofChamber_90 : decode cX8_ofChamber 90 = .ok (.ifCond .eq 14, 3) := by decide +kernel
theorem dX8_ofChamber_93 : decode cX8_ofChamber 93 = .ok (.aload_n 0, 1) := by decide +kernel
theorem dX8_ofChamber_94 : decode cX8_ofChamber 94 = .ok (.getfield 13, 3) := by decide +kernel
theorem dX8_ofChamber_97 : decode cX8_ofChamber 97 = .ok (.iload_n 3, 1) := by decide +kernel
theorem dX8_ofChamber_98 : decode cX8_ofChamber 98 = .ok (.iload_n 2, 1) := by decide +kernel
theorem dX8_ofChamber_99 : decode cX8_ofChamber 99 = .ok (.iadd, 1) := by decide +kernel
theorem dX8_ofChamber_100 : decode cX8_ofChamber 100 = .ok (.iaload, 1) := by decide +kernel
theorem dX8_ofChamber_101 : decode cX8_ofChamber 101 = .ok (.goto 4, 3) := by decide +kernel
theorem dX8_ofChamber_104 : decode cX8_ofChamber 104 = .ok (.iconst (-1), 1) := by decide +kernel
theorem dX8_ofChamber_105 : decode cX8_ofChamber 105 = .ok (.ireturn, 1) := by decide +kernel
noncomputable def EX8_ofChamber : Sx := (sseq (fpi 7 0 (rl 0) (ik 0)) (sseq (sif (bnot (bz cne (cvz 7 DX8_isChamber (rl 0) (ai (il 1) anil)))) (sret (ik (-1))) snop) (sseq (ssi 3 (csi DX8_chamberAt (ai (il 1) anil))) (ssw (il 2) [(3, (sret (cvi 7 DX8_load (rl 0) (ai (il 1) anil)))), (4, (sret (cvi 7 DX8_weight (rl 0) (ai (il 1) anil)))), (5, (sret (i2 (· - ·) (iald (fgr 7 3 (rl 0)) (i2 (· + ·) (il 3) (ik 3))) (ik 1)))), (6, (sret (cvi 7 DX8_netBits (rl 0) (ai (il 1) anil))))] (sret (ic (bz cne (csz DX8_in (aj (i2l (il 2)) (aj (jk 0) (aj (jk 2) anil))))) (iald (fgr 7 3 (rl 0)) (i2 (· + ·) (il 3) (il 2))) (ik (-1))))))))
noncomputable def DX8_ofChamber : Fi := mfi 4 EX8_ofChamber
set_option maxRecDepth 4000 in
theorem BX8_ofChamber : Vs RX8 cX8_ofChamber 4 (rmk 4 89) 0 0 EX8_ofChamber := (v_seq (v_fpi kX8 lk995 (by decide) rfl rfl (by decide +kernel) (v_aload_n (i := 0) dX8_ofChamber_0 rfl (rfl : 0 + 1 = 1)) (v_iconst (v := 0) dX8_ofChamber_1 (by decide) (rfl : 1 + 1 = 2)) dX8_ofChamber_2 (rfl : 2 + 3 = 5)) (v_seq (v_if (v_not (v_zne_t (v_cvz kX8 IX8_isChamber hX8_isChamber lk1145 ⟨by decide, by decide⟩ (by decide) (v_aload_n (i := 0) dX8_ofChamber_5 rfl (rfl : 5 + 1 = 6)) (v_ai (v_iload_n (i := 1) dX8_ofChamber_6 rfl (rfl : 6 + 1 = 7)) v_anil) dX8_ofChamber_7 (rfl : 7 + 3 = 10)) dX8_ofChamber_10 (rfl : ((10 : Nat) : Int) + 5 = ((15 : Nat) : Int)) (rfl : 10 + 3 = 13))) (v_ret (v_iconst (v := (-1)) dX8_ofChamber_13 (by decide) (rfl : 13 + 1 = 14)) dX8_ofChamber_14) v_nop) (v_seq (v_istore_n (i := 3) (v_csi IX8_chamberAt hX8_chamberAt lk1137 ⟨by decide, by decide⟩ (by decide) (v_ai (v_iload_n (i := 1) dX8_ofChamber_15 rfl (rfl : 15 + 1 = 16)) v_anil) dX8_ofChamber_16 (rfl : 16 + 3 = 19)) dX8_ofChamber_19 rfl (by decide) (rfl : 19 + 1 = 20)) (v_sw (v_iload_n (i := 2) dX8_ofChamber_20 rfl (rfl : 20 + 1 = 21)) dX8_ofChamber_21 (fun j hj => match j, hj with
  | 0, _ => ⟨31, 52, rfl, (rfl : ((21 : Nat) : Int) + 31 = ((52 : Nat) : Int)), (v_ret (v_cvi kX8 IX8_load hX8_load lk1265 ⟨by decide, by decide⟩ (by decide) (v_aload_n (i := 0) dX8_ofChamber_52 rfl (rfl : 52 + 1 = 53)) (v_ai (v_iload_n (i := 1) dX8_ofChamber_53 rfl (rfl : 53 + 1 = 54)) v_anil) dX8_ofChamber_54 (rfl : 54 + 3 = 57)) dX8_ofChamber_57)⟩
  | 1, _ => ⟨37, 58, rfl, (rfl : ((21 : Nat) : Int) + 37 = ((58 : Nat) : Int)), (v_ret (v_cvi kX8 IX8_weight hX8_weight lk1152 ⟨by decide, by decide⟩ (by decide) (v_aload_n (i := 0) dX8_ofChamber_58 rfl (rfl : 58 + 1 = 59)) (v_ai (v_iload_n (i := 1) dX8_ofChamber_59 rfl (rfl : 59 + 1 = 60)) v_anil) dX8_ofChamber_60 (rfl : 60 + 3 = 63)) dX8_ofChamber_63)⟩
  | 2, _ => ⟨43, 64, rfl, (rfl : ((21 : Nat) : Int) + 43 = ((64 : Nat) : Int)), (v_ret (v_isub (v_iald (v_gfr kX8 lk998 (by decide) rfl (v_aload_n (i := 0) dX8_ofChamber_64 rfl (rfl : 64 + 1 = 65)) dX8_ofChamber_65 (rfl : 65 + 3 = 68)) (v_iadd (v_iload_n (i := 3) dX8_ofChamber_68 rfl (rfl : 68 + 1 = 69)) (v_iconst (v := 3) dX8_ofChamber_69 (by decide) (rfl : 69 + 1 = 70)) dX8_ofChamber_70 (rfl : 70 + 1 = 71)) dX8_ofChamber_71 (rfl : 71 + 1 = 72)) (v_iconst (v := 1) dX8_ofChamber_72 (by decide) (rfl : 72 + 1 = 73)) dX8_ofChamber_73 (rfl : 73 + 1 = 74)) dX8_ofChamber_74)⟩
  | 3, _ => ⟨54, 75, rfl, (rfl : ((21 : Nat) : Int) + 54 = ((75 : Nat) : Int)), (v_ret (v_cvi kX8 IX8_netBits hX8_netBits lk1520 ⟨by decide, by decide⟩ (by decide) (v_aload_n (i := 0) dX8_ofChamber_75 rfl (rfl : 75 + 1 = 76)) (v_ai (v_iload_n (i := 1) dX8_ofChamber_76 rfl (rfl : 76 + 1 = 77)) v_anil) dX8_ofChamber_77 (rfl : 77 + 3 = 80)) dX8_ofChamber_80)⟩
  | j + 4, hj => absurd hj (by omega)) ⟨81, (rfl : ((21 : Nat) : Int) + 60 = ((81 : Nat) : Int)), fun x hx => by
    have e0 : sel [(3, (sret (cvi 7 DX8_load (rl 0) (ai (il 1) anil)))), (4, (sret (cvi 7 DX8_weight (rl 0) (ai (il 1) anil)))), (5, (sret (i2 (· - ·) (iald (fgr 7 3 (rl 0)) (i2 (· + ·) (il 3) (ik 3))) (ik 1)))), (6, (sret (cvi 7 DX8_netBits (rl 0) (ai (il 1) anil))))] (sret (ic (bz cne (csz DX8_in (aj (i2l (il 2)) (aj (jk 0) (aj (jk 2) anil))))) (iald (fgr 7 3 (rl 0)) (i2 (· + ·) (il 3) (il 2))) (ik (-1)))) x = (sret (ic (bz cne (csz DX8_in (aj (i2l (il 2)) (aj (jk 0) (aj (jk 2) anil))))) (iald (fgr 7 3 (rl 0)) (i2 (· + ·) (il 3) (il 2))) (ik (-1)))) := by simp only [sel]; rw [if_neg (by omega)]; rw [if_neg (by omega)]; rw [if_neg (by omega)]; rw [if_neg (by omega)]
    rw [e0]; exact (v_ret (v_ic (v_zne_f (v_csz IX8_in hX8_in lk1120 ⟨by decide, by decide⟩ (by decide) (v_aj (v_i2l (v_iload_n (i := 2) dX8_ofChamber_81 rfl (rfl : 81 + 1 = 82)) dX8_ofChamber_82 (rfl : 82 + 1 = 83)) (v_aj (v_lconst (v := 0) dX8_ofChamber_83 (by decide) (rfl : 83 + 1 = 84)) (v_aj (v_ldc2 (v := 2) lk1189 dX8_ofChamber_84 (rfl : 84 + 3 = 87)) v_anil))) dX8_ofChamber_87 (rfl : 87 + 3 = 90)) dX8_ofChamber_90 (rfl : ((90 : Nat) : Int) + 14 = ((104 : Nat) : Int)) (rfl : 90 + 3 = 93)) (vi_goto (v_iald (v_gfr kX8 lk998 (by decide) rfl (v_aload_n (i := 0) dX8_ofChamber_93 rfl (rfl : 93 + 1 = 94)) dX8_ofChamber_94 (rfl : 94 + 3 = 97)) (v_iadd (v_iload_n (i := 3) dX8_ofChamber_97 rfl (rfl : 97 + 1 = 98)) (v_iload_n (i := 2) dX8_ofChamber_98 rfl (rfl : 98 + 1 = 99)) dX8_ofChamber_99 (rfl : 99 + 1 = 100)) dX8_ofChamber_100 (rfl : 100 + 1 = 101)) dX8_ofChamber_101 (rfl : ((101 : Nat) : Int) + 4 = ((105 : Nat) : Int))) (v_iconst (v := (-1)) dX8_ofChamber_104 (by decide) (rfl : 104 + 1 = 105))) dX8_ofChamber_105)⟩))))
theorem IX8_ofChamber : Mi yX8_ofChamber cX8_ofChamber 4 (rmk 4 89) DX8_ofChamber := mk_i (by decide +kernel) BX8_ofChamber

theorem dX8_ofPump_0 : decode cX8_ofPump 0 = .ok (.aload_n 0, 1) := by decide +kernel
theorem dX8_ofPump_1 : decode cX8_ofPump 1 = .ok (.iconst 0, 1) := by decide +kernel
theorem dX8_ofPump_2 : decode cX8_ofPump 2 = .ok (.putfield 84, 3) := by decide +kernel
theorem dX8_ofPump_5 : decode cX8_ofPump 5 = .ok (.aload_n 0, 1) := by decide +kernel
theorem dX8_ofPump_6 : decode cX8_ofPump 6 = .ok (.iload_n 1, 1) := by decide +kernel
theorem dX8_ofPump_7 : decode cX8_ofPump 7 = .ok (.invokevirtual 155, 3) := by decide +kernel
theorem dX8_ofPump_10 : decode cX8_ofPump 10 = .ok (.ifCond .eq 29, 3) := by decide +kernel
theorem dX8_ofPump_13 : decode cX8_ofPump 13 = .ok (.iload_n 2, 1) := by decide +kernel
theorem dX8_ofPump_14 : decode cX8_ofPump 14 = .ok (.i2l, 1) := by decide +kernel
theorem dX8_ofPump_15 : decode cX8_ofPump 15 = .ok (.lconst 0, 1) := by decide +kernel
theorem dX8_ofPump_16 : decode cX8_ofPump 16 = .ok (.ldc2_w 373, 3) := by decide +kernel
theorem dX8_ofPump_19 : decode cX8_ofPump 19 = .ok (.invokestatic 105, 3) := by decide +kernel
theorem dX8_ofPump_22 : decode cX8_ofPump 22 = .ok (.ifCond .eq 17, 3) := by decide +kernel
theorem dX8_ofPump_25 : decode cX8_ofPump 25 = .ok (.aload_n 0, 1) := by decide +kernel
theorem dX8_ofPump_26 : decode cX8_ofPump 26 = .ok (.getfield 13, 3) := by decide +kernel
theorem dX8_ofPump_29 : decode cX8_ofPump 29 = .ok (.iload_n 1, 1) := by decide +kernel
theorem dX8_ofPump_30 : decode cX8_ofPump 30 = .ok (.invokestatic 119, 3) := by decide +kernel
theorem dX8_ofPump_33 : decode cX8_ofPump 33 = .ok (.iload_n 2, 1) := by decide +kernel
theorem dX8_ofPump_34 : decode cX8_ofPump 34 = .ok (.iadd, 1) := by decide +kernel
theorem dX8_ofPump_35 : decode cX8_ofPump 35 = .ok (.iaload, 1) := by decide +kernel
theorem dX8_ofPump_36 : decode cX8_ofPump 36 = .ok (.goto 4, 3) := by decide +kernel
theorem dX8_ofPump_39 : decode cX8_ofPump 39 = .ok (.iconst (-1), 1) := by decide +kernel
theorem dX8_ofPump_40 : decode cX8_ofPump 40 = .ok (.ireturn, 1) := by decide +kernel
noncomputable def EX8_ofPump : Sx := (sseq (fpi 7 0 (rl 0) (ik 0)) (sret (ic (band (bz cne (cvz 7 DX8_isPump (rl 0) (ai (il 1) anil))) (bz cne (csz DX8_in (aj (i2l (il 2)) (aj (jk 0) (aj (jk 8) anil)))))) (iald (fgr 7 3 (rl 0)) (i2 (· + ·) (csi DX8_pumpAt (ai (il 1) anil)) (il 2))) (ik (-1)))))
noncomputable def DX8_ofPump : Fi := mfi 3 EX8_ofPump
set_option maxRecDepth 4000 in
theorem BX8_ofPump : Vs RX8 cX8_ofPump 3 (rmk 2 46) 0 0 EX8_ofPump := (v_seq (v_fpi kX8 lk995 (by decide) rfl rfl (by decide +kernel) (v_aload_n (i := 0) dX8_ofPump_0 rfl (rfl : 0 + 1 = 1)) (v_iconst (v := 0) dX8_ofPump_1 (by decide) (rfl : 1 + 1 = 2)) dX8_ofPump_2 (rfl : 2 + 3 = 5)) (v_ret (v_ic (v_and (v_zne_f (v_cvz kX8 IX8_isPump hX8_isPump lk1181 ⟨by decide, by decide⟩ (by decide) (v_aload_n (i := 0) dX8_ofPump_5 rfl (rfl : 5 + 1 = 6)) (v_ai (v_iload_n (i := 1) dX8_ofPump_6 rfl (rfl : 6 + 1 = 7)) v_anil) dX8_ofPump_7 (rfl : 7 + 3 = 10)) dX8_ofPump_10 (rfl : ((10 : Nat) : Int) + 29 = ((39 : Nat) : Int)) (rfl : 10 + 3 = 13)) (v_zne_f (v_csz IX8_in hX8_in lk1120 ⟨by decide, by decide⟩ (by decide) (v_aj (v_i2l (v_iload_n (i := 2) dX8_ofPump_13 rfl (rfl : 13 + 1 = 14)) dX8_ofPump_14 (rfl : 14 + 1 = 15)) (v_aj (v_lconst (v := 0) dX8_ofPump_15 (by decide) (rfl : 15 + 1 = 16)) (v_aj (v_ldc2 (v := 8) lk1533 dX8_ofPump_16 (rfl : 16 + 3 = 19)) v_anil))) dX8_ofPump_19 (rfl : 19 + 3 = 22)) dX8_ofPump_22 (rfl : ((22 : Nat) : Int) + 17 = ((39 : Nat) : Int)) (rfl : 22 + 3 = 25))) (vi_goto (v_iald (v_gfr kX8 lk998 (by decide) rfl (v_aload_n (i := 0) dX8_ofPump_25 rfl (rfl : 25 + 1 = 26)) dX8_ofPump_26 (rfl : 26 + 3 = 29)) (v_iadd (v_csi IX8_pumpAt hX8_pumpAt lk1163 ⟨by decide, by decide⟩ (by decide) (v_ai (v_iload_n (i := 1) dX8_ofPump_29 rfl (rfl : 29 + 1 = 30)) v_anil) dX8_ofPump_30 (rfl : 30 + 3 = 33)) (v_iload_n (i := 2) dX8_ofPump_33 rfl (rfl : 33 + 1 = 34)) dX8_ofPump_34 (rfl : 34 + 1 = 35)) dX8_ofPump_35 (rfl : 35 + 1 = 36)) dX8_ofPump_36 (rfl : ((36 : Nat) : Int) + 4 = ((40 : Nat) : Int))) (v_iconst (v := (-1)) dX8_ofPump_39 (by decide) (rfl : 39 + 1 = 40))) dX8_ofPump_40))
theorem IX8_ofPump : Mi yX8_ofPump cX8_ofPump 3 (rmk 2 46) DX8_ofPump := mk_i (by decide +kernel) BX8_ofPump

theorem dX8_ofTube_0 : decode cX8_ofTube 0 = .ok (.aload_n 0, 1) := by decide +kernel
theorem dX8_ofTube_1 : decode cX8_ofTube 1 = .ok (.iconst 0, 1) := by decide +kernel
theorem dX8_ofTube_2 : decode cX8_ofTube 2 = .ok (.putfield 84, 3) := by decide +kernel
theorem dX8_ofTube_5 : decode cX8_ofTube 5 = .ok (.aload_n 0, 1) := by decide +kernel
theorem dX8_ofTube_6 : decode cX8_ofTube 6 = .ok (.iload_n 1, 1) := by decide +kernel
theorem dX8_ofTube_7 : decode cX8_ofTube 7 = .ok (.invokevirtual 113, 3) := by decide +kernel
theorem dX8_ofTube_10 : decode cX8_ofTube 10 = .ok (.ifCond .eq 29, 3) := by decide +kernel
theorem dX8_ofTube_13 : decode cX8_ofTube 13 = .ok (.iload_n 2, 1) := by decide +kernel
theorem dX8_ofTube_14 : decode cX8_ofTube 14 = .ok (.i2l, 1) := by decide +kernel
theorem dX8_ofTube_15 : decode cX8_ofTube 15 = .ok (.lconst 0, 1) := by decide +kernel
theorem dX8_ofTube_16 : decode cX8_ofTube 16 = .ok (.ldc2_w 371, 3) := by decide +kernel
theorem dX8_ofTube_19 : decode cX8_ofTube 19 = .ok (.invokestatic 105, 3) := by decide +kernel
theorem dX8_ofTube_22 : decode cX8_ofTube 22 = .ok (.ifCond .eq 17, 3) := by decide +kernel
theorem dX8_ofTube_25 : decode cX8_ofTube 25 = .ok (.aload_n 0, 1) := by decide +kernel
theorem dX8_ofTube_26 : decode cX8_ofTube 26 = .ok (.getfield 13, 3) := by decide +kernel
theorem dX8_ofTube_29 : decode cX8_ofTube 29 = .ok (.iload_n 1, 1) := by decide +kernel
theorem dX8_ofTube_30 : decode cX8_ofTube 30 = .ok (.invokestatic 116, 3) := by decide +kernel
theorem dX8_ofTube_33 : decode cX8_ofTube 33 = .ok (.iload_n 2, 1) := by decide +kernel
theorem dX8_ofTube_34 : decode cX8_ofTube 34 = .ok (.iadd, 1) := by decide +kernel
theorem dX8_ofTube_35 : decode cX8_ofTube 35 = .ok (.iaload, 1) := by decide +kernel
theorem dX8_ofTube_36 : decode cX8_ofTube 36 = .ok (.goto 4, 3) := by decide +kernel
theorem dX8_ofTube_39 : decode cX8_ofTube 39 = .ok (.iconst (-1), 1) := by decide +kernel
theorem dX8_ofTube_40 : decode cX8_ofTube 40 = .ok (.ireturn, 1) := by decide +kernel
noncomputable def EX8_ofTube : Sx := (sseq (fpi 7 0 (rl 0) (ik 0)) (sret (ic (band (bz cne (cvz 7 DX8_isTube (rl 0) (ai (il 1) anil))) (bz cne (csz DX8_in (aj (i2l (il 2)) (aj (jk 0) (aj (jk 3) anil)))))) (iald (fgr 7 3 (rl 0)) (i2 (· + ·) (csi DX8_tubeAt (ai (il 1) anil)) (il 2))) (ik (-1)))))
noncomputable def DX8_ofTube : Fi := mfi 3 EX8_ofTube
set_option maxRecDepth 4000 in
theorem BX8_ofTube : Vs RX8 cX8_ofTube 3 (rmk 2 46) 0 0 EX8_ofTube := (v_seq (v_fpi kX8 lk995 (by decide) rfl rfl (by decide +kernel) (v_aload_n (i := 0) dX8_ofTube_0 rfl (rfl : 0 + 1 = 1)) (v_iconst (v := 0) dX8_ofTube_1 (by decide) (rfl : 1 + 1 = 2)) dX8_ofTube_2 (rfl : 2 + 3 = 5)) (v_ret (v_ic (v_and (v_zne_f (v_cvz kX8 IX8_isTube hX8_isTube lk1195 ⟨by decide, by decide⟩ (by decide) (v_aload_n (i := 0) dX8_ofTube_5 rfl (rfl : 5 + 1 = 6)) (v_ai (v_iload_n (i := 1) dX8_ofTube_6 rfl (rfl : 6 + 1 = 7)) v_anil) dX8_ofTube_7 (rfl : 7 + 3 = 10)) dX8_ofTube_10 (rfl : ((10 : Nat) : Int) + 29 = ((39 : Nat) : Int)) (rfl : 10 + 3 = 13)) (v_zne_f (v_csz IX8_in hX8_in lk1120 ⟨by decide, by decide⟩ (by decide) (v_aj (v_i2l (v_iload_n (i := 2) dX8_ofTube_13 rfl (rfl : 13 + 1 = 14)) dX8_ofTube_14 (rfl : 14 + 1 = 15)) (v_aj (v_lconst (v := 0) dX8_ofTube_15 (by decide) (rfl : 15 + 1 = 16)) (v_aj (v_ldc2 (v := 3) lk1528 dX8_ofTube_16 (rfl : 16 + 3 = 19)) v_anil))) dX8_ofTube_19 (rfl : 19 + 3 = 22)) dX8_ofTube_22 (rfl : ((22 : Nat) : Int) + 17 = ((39 : Nat) : Int)) (rfl : 22 + 3 = 25))) (vi_goto (v_iald (v_gfr kX8 lk998 (by decide) rfl (v_aload_n (i := 0) dX8_ofTube_25 rfl (rfl : 25 + 1 = 26)) dX8_ofTube_26 (rfl : 26 + 3 = 29)) (v_iadd (v_csi IX8_tubeAt hX8_tubeAt lk1160 ⟨by decide, by decide⟩ (by decide) (v_ai (v_iload_n (i := 1) dX8_ofTube_29 rfl (rfl : 29 + 1 = 30)) v_anil) dX8_ofTube_30 (rfl : 30 + 3 = 33)) (v_iload_n (i := 2) dX8_ofTube_33 rfl (rfl : 33 + 1 = 34)) dX8_ofTube_34 (rfl : 34 + 1 = 35)) dX8_ofTube_35 (rfl : 35 + 1 = 36)) dX8_ofTube_36 (rfl : ((36 : Nat) : Int) + 4 = ((40 : Nat) : Int))) (v_iconst (v := (-1)) dX8_ofTube_39 (by decide) (rfl : 39 + 1 = 40))) dX8_ofTube_40))
theorem IX8_ofTube : Mi yX8_ofTube cX8_ofTube 3 (rmk 2 46) DX8_ofTube := mk_i (by decide +kernel) BX8_ofTube

theorem dX8_ofWatch_0 : decode cX8_ofWatch 0 = .ok (.aload_n 0, 1) := by decide +kernel
theorem dX8_ofWatch_1 : decode cX8_ofWatch 1 = .ok (.iconst 0, 1) := by decide +kernel
theorem dX8_ofWatch_2 : decode cX8_ofWatch 2 = .ok (.putfield 84, 3) := by decide +kernel
theorem dX8_ofWatch_5 : decode cX8_ofWatch 5 = .ok (.aload_n 0, 1) := by decide +kernel
theorem dX8_ofWatch_6 : decode cX8_ofWatch 6 = .ok (.iload_n 1, 1) := by decide +kernel
theorem dX8_ofWatch_7 : decode cX8_ofWatch 7 = .ok (.invokevirtual 174, 3) := by decide +kernel
theorem dX8_ofWatch_10 : decode cX8_ofWatch 10 = .ok (.ifCond .eq 29, 3) := by decide +kernel
theorem dX8_ofWatch_13 : decode cX8_ofWatch 13 = .ok (.iload_n 2, 1) := by decide +kernel
theorem dX8_ofWatch_14 : decode cX8_ofWatch 14 = .ok (.i2l, 1) := by decide +kernel
theorem dX8_ofWatch_15 : decode cX8_ofWatch 15 = .ok (.lconst 0, 1) := by decide +kernel
theorem dX8_ofWatch_16 : decode cX8_ofWatch 16 = .ok (.ldc2_w 151, 3) := by decide +kernel
theorem dX8_ofWatch_19 : decode cX8_ofWatch 19 = .ok (.invokestatic 105, 3) := by decide +kernel
theorem dX8_ofWatch_22 : decode cX8_ofWatch 22 = .ok (.ifCond .eq 17, 3) := by decide +kernel
theorem dX8_ofWatch_25 : decode cX8_ofWatch 25 = .ok (.aload_n 0, 1) := by decide +kernel
theorem dX8_ofWatch_26 : decode cX8_ofWatch 26 = .ok (.getfield 13, 3) := by decide +kernel
theorem dX8_ofWatch_29 : decode cX8_ofWatch 29 = .ok (.iload_n 1, 1) := by decide +kernel
theorem dX8_ofWatch_30 : decode cX8_ofWatch 30 = .ok (.invokestatic 171, 3) := by decide +kernel
theorem dX8_ofWatch_33 : decode cX8_ofWatch 33 = .ok (.iload_n 2, 1) := by decide +kernel
theorem dX8_ofWatch_34 : decode cX8_ofWatch 34 = .ok (.iadd, 1) := by decide +kernel
theorem dX8_ofWatch_35 : decode cX8_ofWatch 35 = .ok (.iaload, 1) := by decide +kernel
theorem dX8_ofWatch_36 : decode cX8_ofWatch 36 = .ok (.goto 4, 3) := by decide +kernel
theorem dX8_ofWatch_39 : decode cX8_ofWatch 39 = .ok (.iconst (-1), 1) := by decide +kernel
theorem dX8_ofWatch_40 : decode cX8_ofWatch 40 = .ok (.ireturn, 1) := by decide +kernel
noncomputable def EX8_ofWatch : Sx := (sseq (fpi 7 0 (rl 0) (ik 0)) (sret (ic (band (bz cne (cvz 7 DX8_isWatch (rl 0) (ai (il 1) anil))) (bz cne (csz DX8_in (aj (i2l (il 2)) (aj (jk 0) (aj (jk 5) anil)))))) (iald (fgr 7 3 (rl 0)) (i2 (· + ·) (csi DX8_watchAt (ai (il 1) anil)) (il 2))) (ik (-1)))))
noncomputable def DX8_ofWatch : Fi := mfi 3 EX8_ofWatch
set_option maxRecDepth 4000 in
theorem BX8_ofWatch : Vs RX8 cX8_ofWatch 3 (rmk 2 46) 0 0 EX8_ofWatch := (v_seq (v_fpi kX8 lk995 (by decide) rfl rfl (by decide +kernel) (v_aload_n (i := 0) dX8_ofWatch_0 rfl (rfl : 0 + 1 = 1)) (v_iconst (v := 0) dX8_ofWatch_1 (by decide) (rfl : 1 + 1 = 2)) dX8_ofWatch_2 (rfl : 2 + 3 = 5)) (v_ret (v_ic (v_and (v_zne_f (v_cvz kX8 IX8_isWatch hX8_isWatch lk1225 ⟨by decide, by decide⟩ (by decide) (v_aload_n (i := 0) dX8_ofWatch_5 rfl (rfl : 5 + 1 = 6)) (v_ai (v_iload_n (i := 1) dX8_ofWatch_6 rfl (rfl : 6 + 1 = 7)) v_anil) dX8_ofWatch_7 (rfl : 7 + 3 = 10)) dX8_ofWatch_10 (rfl : ((10 : Nat) : Int) + 29 = ((39 : Nat) : Int)) (rfl : 10 + 3 = 13)) (v_zne_f (v_csz IX8_in hX8_in lk1120 ⟨by decide, by decide⟩ (by decide) (v_aj (v_i2l (v_iload_n (i := 2) dX8_ofWatch_13 rfl (rfl : 13 + 1 = 14)) dX8_ofWatch_14 (rfl : 14 + 1 = 15)) (v_aj (v_lconst (v := 0) dX8_ofWatch_15 (by decide) (rfl : 15 + 1 = 16)) (v_aj (v_ldc2 (v := 5) lk1179 dX8_ofWatch_16 (rfl : 16 + 3 = 19)) v_anil))) dX8_ofWatch_19 (rfl : 19 + 3 = 22)) dX8_ofWatch_22 (rfl : ((22 : Nat) : Int) + 17 = ((39 : Nat) : Int)) (rfl : 22 + 3 = 25))) (vi_goto (v_iald (v_gfr kX8 lk998 (by decide) rfl (v_aload_n (i := 0) dX8_ofWatch_25 rfl (rfl : 25 + 1 = 26)) dX8_ofWatch_26 (rfl : 26 + 3 = 29)) (v_iadd (v_csi IX8_watchAt hX8_watchAt lk1218 ⟨by decide, by decide⟩ (by decide) (v_ai (v_iload_n (i := 1) dX8_ofWatch_29 rfl (rfl : 29 + 1 = 30)) v_anil) dX8_ofWatch_30 (rfl : 30 + 3 = 33)) (v_iload_n (i := 2) dX8_ofWatch_33 rfl (rfl : 33 + 1 = 34)) dX8_ofWatch_34 (rfl : 34 + 1 = 35)) dX8_ofWatch_35 (rfl : 35 + 1 = 36)) dX8_ofWatch_36 (rfl : ((36 : Nat) : Int) + 4 = ((40 : Nat) : Int))) (v_iconst (v := (-1)) dX8_ofWatch_39 (by decide) (rfl : 39 + 1 = 40))) dX8_ofWatch_40))
theorem IX8_ofWatch : Mi yX8_ofWatch cX8_ofWatch 3 (rmk 2 46) DX8_ofWatch := mk_i (by decide +kernel) BX8_ofWatch

theorem dX8_parts_0 : decode cX8_parts 0 = .ok (.aload_n 0, 1) := by decide +kernel
theorem dX8_parts_1 : decode cX8_parts 1 = .ok (.iconst 0, 1) := by decide +kernel
theorem dX8_parts_2 : decode cX8_parts 2 = .ok (.putfield 84, 3) := by decide +kernel
theorem dX8_parts_5 : decode cX8_parts 5 = .ok (.aload_n 0, 1) := by decide +kernel
theorem dX8_parts_6 : decode cX8_parts 6 = .ok (.iload_n 1, 1) := by decide +kernel
theorem dX8_parts_7 : decode cX8_parts 7 = .ok (.invokevirtual 109, 3) := by decide +kernel
theorem dX8_parts_10 : decode cX8_parts 10 = .ok (.ifCond .eq 36, 3) := by decide +kernel
theorem dX8_parts_13 : decode cX8_parts 13 = .ok (.aload_n 0, 1) := by decide +kernel
theorem dX8_parts_14 : decode cX8_parts 14 = .ok (.iload_n 2, 1) := by decide +kernel
theorem dX8_parts_15 : decode cX8_parts 15 = .ok (.invokevirtual 109, 3) := by decide +kernel
theorem dX8_parts_18 : decode cX8_parts 18 = .ok (.ifCond .eq 28, 3) := by decide +kernel
theorem dX8_parts_21 : decode cX8_parts 21 = .ok (.iload_n 1, 1) := by decide +kernel
theorem dX8_parts_22 : decode cX8_parts 22 = .ok (.iload_n 2, 1) := by decide +kernel
theorem dX8_parts_23 : decode cX8_parts 23 = .ok (.if_icmp .eq 23, 3) := by decide +kernel
theorem dX8_parts_26 : decode cX8_parts 26 = .ok (.iload_n 3, 1) := by decide +kernel
theorem dX8_parts_27 : decode cX8_parts 27 = .ok (.i2l, 1) := by decide +kernel
theorem dX8_parts_28 : decode cX8_parts 28 = .ok (.lconst 0, 1) := by decide +kernel
theorem dX8_parts_29 : decode cX8_parts 29 = .ok (.lconst 1, 1) := by decide +kernel
theorem dX8_parts_30 : decode cX8_parts 30 = .ok (.invokestatic 105, 3) := by decide +kernel
theorem dX8_parts_33 : decode cX8_parts 33 = .ok (.ifCond .eq 13, 3) := by decide +kernel
theorem dX8_parts_36 : decode cX8_parts 36 = .ok (.aload_n 0, 1) := by decide +kernel
theorem dX8_parts_37 : decode cX8_parts 37 = .ok (.iload_n 1, 1) := by decide +kernel
theorem dX8_parts_38 : decode cX8_parts 38 = .ok (.iload_n 2, 1) := by decide +kernel
theorem dX8_parts_39 : decode cX8_parts 39 = .ok (.iconst 0, 1) := by decide +kernel
theorem dX8_parts_40 : decode cX8_parts 40 = .ok (.invokevirtual 339, 3) := by decide +kernel
theorem dX8_parts_43 : decode cX8_parts 43 = .ok (.ifCond .ne 5, 3) := by decide +kernel
theorem dX8_parts_46 : decode cX8_parts 46 = .ok (.iconst (-1), 1) := by decide +kernel
theorem dX8_parts_47 : decode cX8_parts 47 = .ok (.ireturn, 1) := by decide +kernel
theorem dX8_parts_48 : decode cX8_parts 48 = .ok (.iconst (-1), 1) := by decide +kernel
theorem dX8_parts_49 : decode cX8_parts 49 = .ok (.istore 4, 2) := by decide +kernel
theorem dX8_parts_51 : decode cX8_parts 51 = .ok (.iconst 1, 1) := by decide +kernel
theorem dX8_parts_52 : decode cX8_parts 52 = .ok (.istore 5, 2) := by decide +kernel
theorem dX8_parts_54 : decode cX8_parts 54 = .ok (.iload 5, 2) := by decide +kernel
theorem dX8_parts_56 : decode cX8_parts 56 = .ok (.iconst 1, 1) := by decide +kernel
theorem dX8_parts_57 : decode cX8_parts 57 = .ok (.aload_n 0, 1) := by decide +kernel
theorem dX8_parts_58 : decode cX8_parts 58 = .ok (.getfield 13, 3) := by decide +kernel
theorem dX8_parts_61 : decode cX8_parts 61 = .ok (.iconst 1, 1) := by decide +kernel
theorem dX8_parts_62 : decode cX8_parts 62 = .ok (.iaload, 1) := by decide +kernel
theorem dX8_parts_63 : decode cX8_parts 63 = .ok (.ishl, 1) := by decide +kernel
theorem dX8_parts_64 : decode cX8_parts 64 = .ok (.if_icmp .ge 52, 3) := by decide +kernel
theorem dX8_parts_67 : decode cX8_parts 67 = .ok (.iload 4, 2) := by decide +kernel
theorem dX8_parts_69 : decode cX8_parts 69 = .ok (.iconst (-1), 1) := by decide +kernel
theorem dX8_parts_70 : decode cX8_parts 70 = .ok (.if_icmp .eq 16, 3) := by decide +kernel
theorem dX8_parts_73 : decode cX8_parts 73 = .ok (.iload 5, 2) := by decide +kernel
theorem dX8_parts_75 : decode cX8_parts 75 = .ok (.invokestatic 343, 3) := by decide +kernel
theorem dX8_parts_78 : decode cX8_parts 78 = .ok (.iload 4, 2) := by decide +kernel
theorem dX8_parts_80 : decode cX8_parts 80 = .ok (.invokestatic 343, 3) := by decide +kernel
theorem dX8_parts_83 : decode cX8_parts 83 = .ok (.if_icmp .ge 27, 3) := by decide +kernel
theorem dX8_parts_86 : decode cX8_parts 86 = .ok (.aload_n 0, 1) := by decide +kernel
theorem dX8_parts_87 : decode cX8_parts 87 = .ok (.iload 5, 2) := by decide +kernel
theorem dX8_parts_89 : decode cX8_parts 89 = .ok (.invokevirtual 346, 3) := by decide +kernel
theorem dX8_parts_92 : decode cX8_parts 92 = .ok (.ifCond .eq 18, 3) := by decide +kernel
theorem dX8_parts_95 : decode cX8_parts 95 = .ok (.aload_n 0, 1) := by decide +kernel
theorem dX8_parts_96 : decode cX8_parts 96 = .ok (.iload_n 1, 1) := by decide +kernel
theorem dX8_parts_97 : decode cX8_parts 97 = .ok (.iload_n 2, 1) := by decide +kernel
theorem dX8_parts_98 : decode cX8_parts 98 = .ok (.iload 5, 2) := by decide +kernel
theorem dX8_parts_100 : decode cX8_parts 100 = .ok (.invokevirtual 339, 3) := by decide +kernel
theorem dX8_parts_103 : decode cX8_parts 103 = .ok (.ifCond .ne 7, 3) := by decide +kernel
theorem dX8_parts_106 : decode cX8_parts 106 = .ok (.iload 5, 2) := by decide +kernel
theorem dX8_parts_108 : decode cX8_parts 108 = .ok (.istore 4, 2) := by decide +kernel
theorem dX8_parts_110 : decode cX8_parts 110 = .ok (.iinc 5 1, 3) := by decide +kernel
theorem dX8_parts_113 : decode cX8_parts 113 = .ok (.goto (-59), 3) := by decide +kernel
theorem dX8_parts_116 : decode cX8_parts 116 = .ok (.iload_n 3, 1) := by decide +kernel
theorem dX8_parts_117 : decode cX8_parts 117 = .ok (.ifCond .ne 11, 3) := by decide +kernel
theorem dX8_parts_120 : decode cX8_parts 120 = .ok (.iload 4, 2) := by decide +kernel
theorem dX8_parts_122 : decode cX8_parts 122 = .ok (.invokestatic 343, 3) := by decide +kernel
theorem dX8_parts_125 : decode cX8_parts 125 = .ok (.goto 5, 3) := by decide +kernel
theorem dX8_parts_128 : decode cX8_parts 128 = .ok (.iload 4, 2) := by decide +kernel
theorem dX8_parts_130 : decode cX8_parts 130 = .ok (.ireturn, 1) := by decide +kernel
noncomputable def qX8_parts_1 : Bx := (bc clt (il 5) (i2 oshl (ik 1) (iald (fgr 7 3 (rl 0)) (ik 1))))
noncomputable def wX8_parts_1 : Sx := (sseq (sif (band (band (bor (bc ceq (il 4) (ik (-1))) (bc clt (csi DX8_bits (ai (il 5) anil)) (csi DX8_bits (ai (il 4) anil)))) (bz cne (cvz 7 DX8_areOpen (rl 0) (ai (il 5) anil)))) (bnot (bz cne (cvz 7 DX8_hangs (rl 0) (ai (il 1) (ai (il 2) (ai (il 5) anil))))))) (ssi 4 (il 5)) snop) (sinc 5 1))
noncomputable def EX8_parts : Sx := (sseq (fpi 7 0 (rl 0) (ik 0)) (sseq (sif (bor (bor (bor (bor (bnot (bz cne (cvz 7 DX8_isChamber (rl 0) (ai (il 1) anil)))) (bnot (bz cne (cvz 7 DX8_isChamber (rl 0) (ai (il 2) anil))))) (bc ceq (il 1) (il 2))) (bnot (bz cne (csz DX8_in (aj (i2l (il 3)) (aj (jk 0) (aj (jk 1) anil))))))) (bnot (bz cne (cvz 7 DX8_hangs (rl 0) (ai (il 1) (ai (il 2) (ai (ik 0) anil))))))) (sret (ik (-1))) snop) (sseq (ssi 4 (ik (-1))) (sseq (scut 5 (sseq (ssi 5 (ik 1)) (swh qX8_parts_1 wX8_parts_1))) (sret (ic (bz ceq (il 3)) (csi DX8_bits (ai (il 4) anil)) (il 4)))))))
noncomputable def DX8_parts : Fi := mfi 6 EX8_parts
set_option maxRecDepth 4000 in
theorem BX8_parts : Vs RX8 cX8_parts 6 (rmk 3 69) 0 0 EX8_parts := (v_seq (v_fpi kX8 lk995 (by decide) rfl rfl (by decide +kernel) (v_aload_n (i := 0) dX8_parts_0 rfl (rfl : 0 + 1 = 1)) (v_iconst (v := 0) dX8_parts_1 (by decide) (rfl : 1 + 1 = 2)) dX8_parts_2 (rfl : 2 + 3 = 5)) (v_seq (v_if (v_or (v_or (v_or (v_or (v_not (v_zne_f (v_cvz kX8 IX8_isChamber hX8_isChamber lk1145 ⟨by decide, by decide⟩ (by decide) (v_aload_n (i := 0) dX8_parts_5 rfl (rfl : 5 + 1 = 6)) (v_ai (v_iload_n (i := 1) dX8_parts_6 rfl (rfl : 6 + 1 = 7)) v_anil) dX8_parts_7 (rfl : 7 + 3 = 10)) dX8_parts_10 (rfl : ((10 : Nat) : Int) + 36 = ((46 : Nat) : Int)) (rfl : 10 + 3 = 13))) (v_not (v_zne_f (v_cvz kX8 IX8_isChamber hX8_isChamber lk1145 ⟨by decide, by decide⟩ (by decide) (v_aload_n (i := 0) dX8_parts_13 rfl (rfl : 13 + 1 = 14)) (v_ai (v_iload_n (i := 2) dX8_parts_14 rfl (rfl : 14 + 1 = 15)) v_anil) dX8_parts_15 (rfl : 15 + 3 = 18)) dX8_parts_18 (rfl : ((18 : Nat) : Int) + 28 = ((46 : Nat) : Int)) (rfl : 18 + 3 = 21)))) (v_ieq_t (v_iload_n (i := 1) dX8_parts_21 rfl (rfl : 21 + 1 = 22)) (v_iload_n (i := 2) dX8_parts_22 rfl (rfl : 22 + 1 = 23)) dX8_parts_23 (rfl : ((23 : Nat) : Int) + 23 = ((46 : Nat) : Int)) (rfl : 23 + 3 = 26))) (v_not (v_zne_f (v_csz IX8_in hX8_in lk1120 ⟨by decide, by decide⟩ (by decide) (v_aj (v_i2l (v_iload_n (i := 3) dX8_parts_26 rfl (rfl : 26 + 1 = 27)) dX8_parts_27 (rfl : 27 + 1 = 28)) (v_aj (v_lconst (v := 0) dX8_parts_28 (by decide) (rfl : 28 + 1 = 29)) (v_aj (v_lconst (v := 1) dX8_parts_29 (by decide) (rfl : 29 + 1 = 30)) v_anil))) dX8_parts_30 (rfl : 30 + 3 = 33)) dX8_parts_33 (rfl : ((33 : Nat) : Int) + 13 = ((46 : Nat) : Int)) (rfl : 33 + 3 = 36)))) (v_not (v_zne_t (v_cvz kX8 IX8_hangs hX8_hangs lk1437 ⟨by decide, by decide⟩ (by decide) (v_aload_n (i := 0) dX8_parts_36 rfl (rfl : 36 + 1 = 37)) (v_ai (v_iload_n (i := 1) dX8_parts_37 rfl (rfl : 37 + 1 = 38)) (v_ai (v_iload_n (i := 2) dX8_parts_38 rfl (rfl : 38 + 1 = 39)) (v_ai (v_iconst (v := 0) dX8_parts_39 (by decide) (rfl : 39 + 1 = 40)) v_anil))) dX8_parts_40 (rfl : 40 + 3 = 43)) dX8_parts_43 (rfl : ((43 : Nat) : Int) + 5 = ((48 : Nat) : Int)) (rfl : 43 + 3 = 46)))) (v_ret (v_iconst (v := (-1)) dX8_parts_46 (by decide) (rfl : 46 + 1 = 47)) dX8_parts_47) v_nop) (v_seq (v_istore (i := 4) (v_iconst (v := (-1)) dX8_parts_48 (by decide) (rfl : 48 + 1 = 49)) dX8_parts_49 (by decide) (rfl : 49 + 2 = 51)) (v_seq (v_cut (n := 5) (v_seq (v_istore (i := 5) (v_iconst (v := 1) dX8_parts_51 (by decide) (rfl : 51 + 1 = 52)) dX8_parts_52 (by decide) (rfl : 52 + 2 = 54)) (v_wh (v_ilt_f (v_iload (i := 5) dX8_parts_54 (rfl : 54 + 2 = 56)) (v_ishl (v_iconst (v := 1) dX8_parts_56 (by decide) (rfl : 56 + 1 = 57)) (v_iald (v_gfr kX8 lk998 (by decide) rfl (v_aload_n (i := 0) dX8_parts_57 rfl (rfl : 57 + 1 = 58)) dX8_parts_58 (rfl : 58 + 3 = 61)) (v_iconst (v := 1) dX8_parts_61 (by decide) (rfl : 61 + 1 = 62)) dX8_parts_62 (rfl : 62 + 1 = 63)) dX8_parts_63 (rfl : 63 + 1 = 64)) dX8_parts_64 (rfl : ((64 : Nat) : Int) + 52 = ((116 : Nat) : Int)) (rfl : 64 + 3 = 67)) (vs_goto (v_seq (v_if (v_and (v_and (v_or (v_ieq_t (v_iload (i := 4) dX8_parts_67 (rfl : 67 + 2 = 69)) (v_iconst (v := (-1)) dX8_parts_69 (by decide) (rfl : 69 + 1 = 70)) dX8_parts_70 (rfl : ((70 : Nat) : Int) + 16 = ((86 : Nat) : Int)) (rfl : 70 + 3 = 73)) (v_ilt_f (v_csi IX8_bits hX8_bits lk1441 ⟨by decide, by decide⟩ (by decide) (v_ai (v_iload (i := 5) dX8_parts_73 (rfl : 73 + 2 = 75)) v_anil) dX8_parts_75 (rfl : 75 + 3 = 78)) (v_csi IX8_bits hX8_bits lk1441 ⟨by decide, by decide⟩ (by decide) (v_ai (v_iload (i := 4) dX8_parts_78 (rfl : 78 + 2 = 80)) v_anil) dX8_parts_80 (rfl : 80 + 3 = 83)) dX8_parts_83 (rfl : ((83 : Nat) : Int) + 27 = ((110 : Nat) : Int)) (rfl : 83 + 3 = 86))) (v_zne_f (v_cvz kX8 IX8_areOpen hX8_areOpen lk1444 ⟨by decide, by decide⟩ (by decide) (v_aload_n (i := 0) dX8_parts_86 rfl (rfl : 86 + 1 = 87)) (v_ai (v_iload (i := 5) dX8_parts_87 (rfl : 87 + 2 = 89)) v_anil) dX8_parts_89 (rfl : 89 + 3 = 92)) dX8_parts_92 (rfl : ((92 : Nat) : Int) + 18 = ((110 : Nat) : Int)) (rfl : 92 + 3 = 95))) (v_not (v_zne_t (v_cvz kX8 IX8_hangs hX8_hangs lk1437 ⟨by decide, by decide⟩ (by decide) (v_aload_n (i := 0) dX8_parts_95 rfl (rfl : 95 + 1 = 96)) (v_ai (v_iload_n (i := 1) dX8_parts_96 rfl (rfl : 96 + 1 = 97)) (v_ai (v_iload_n (i := 2) dX8_parts_97 rfl (rfl : 97 + 1 = 98)) (v_ai (v_iload (i := 5) dX8_parts_98 (rfl : 98 + 2 = 100)) v_anil))) dX8_parts_100 (rfl : 100 + 3 = 103)) dX8_parts_103 (rfl : ((103 : Nat) : Int) + 7 = ((110 : Nat) : Int)) (rfl : 103 + 3 = 106)))) (v_istore (i := 4) (v_iload (i := 5) dX8_parts_106 (rfl : 106 + 2 = 108)) dX8_parts_108 (by decide) (rfl : 108 + 2 = 110)) v_nop) (v_iinc (v := 1) dX8_parts_110 (by decide) (by decide) (rfl : 110 + 3 = 113))) dX8_parts_113 (rfl : ((113 : Nat) : Int) + (-59) = ((54 : Nat) : Int)))))) (v_ret (v_ic (v_zeq_f (v_iload_n (i := 3) dX8_parts_116 rfl (rfl : 116 + 1 = 117)) dX8_parts_117 (rfl : ((117 : Nat) : Int) + 11 = ((128 : Nat) : Int)) (rfl : 117 + 3 = 120)) (vi_goto (v_csi IX8_bits hX8_bits lk1441 ⟨by decide, by decide⟩ (by decide) (v_ai (v_iload (i := 4) dX8_parts_120 (rfl : 120 + 2 = 122)) v_anil) dX8_parts_122 (rfl : 122 + 3 = 125)) dX8_parts_125 (rfl : ((125 : Nat) : Int) + 5 = ((130 : Nat) : Int))) (v_iload (i := 4) dX8_parts_128 (rfl : 128 + 2 = 130))) dX8_parts_130)))))
theorem IX8_parts : Mi yX8_parts cX8_parts 6 (rmk 3 69) DX8_parts := mk_i (by decide +kernel) BX8_parts

theorem dX8_place_0 : decode cX8_place 0 = .ok (.aload_n 0, 1) := by decide +kernel
theorem dX8_place_1 : decode cX8_place 1 = .ok (.iconst 0, 1) := by decide +kernel
theorem dX8_place_2 : decode cX8_place 2 = .ok (.putfield 84, 3) := by decide +kernel
theorem dX8_place_5 : decode cX8_place 5 = .ok (.iload_n 1, 1) := by decide +kernel
theorem dX8_place_6 : decode cX8_place 6 = .ok (.i2l, 1) := by decide +kernel
theorem dX8_place_7 : decode cX8_place 7 = .ok (.lconst 1, 1) := by decide +kernel
theorem dX8_place_8 : decode cX8_place 8 = .ok (.ldc2_w 149, 3) := by decide +kernel
theorem dX8_place_11 : decode cX8_place 11 = .ok (.invokestatic 105, 3) := by decide +kernel
theorem dX8_place_14 : decode cX8_place 14 = .ok (.ifCond .ne 5, 3) := by decide +kernel
theorem dX8_place_17 : decode cX8_place 17 = .ok (.iconst (-1), 1) := by decide +kernel
theorem dX8_place_18 : decode cX8_place 18 = .ok (.ireturn, 1) := by decide +kernel
theorem dX8_place_19 : decode cX8_place 19 = .ok (.iconst (-1), 1) := by decide +kernel
theorem dX8_place_20 : decode cX8_place 20 = .ok (.istore_n 2, 1) := by decide +kernel
theorem dX8_place_21 : decode cX8_place 21 = .ok (.iconst 0, 1) := by decide +kernel
theorem dX8_place_22 : decode cX8_place 22 = .ok (.istore_n 3, 1) := by decide +kernel
theorem dX8_place_23 : decode cX8_place 23 = .ok (.iconst 0, 1) := by decide +kernel
theorem dX8_place_24 : decode cX8_place 24 = .ok (.istore 4, 2) := by decide +kernel
theorem dX8_place_26 : decode cX8_place 26 = .ok (.iload 4, 2) := by decide +kernel
theorem dX8_place_28 : decode cX8_place 28 = .ok (.aload_n 0, 1) := by decide +kernel
theorem dX8_place_29 : decode cX8_place 29 = .ok (.getfield 13, 3) := by decide +kernel
theorem dX8_place_32 : decode cX8_place 32 = .ok (.iconst 0, 1) := by decide +kernel
theorem dX8_place_33 : decode cX8_place 33 = .ok (.iaload, 1) := by decide +kernel
theorem dX8_place_34 : decode cX8_place 34 = .ok (.if_icmp .ge 70, 3) := by decide +kernel
theorem dX8_place_37 : decode cX8_place 37 = .ok (.aload_n 0, 1) := by decide +kernel
theorem dX8_place_38 : decode cX8_place 38 = .ok (.iload 4, 2) := by decide +kernel
theorem dX8_place_40 : decode cX8_place 40 = .ok (.invokevirtual 146, 3) := by decide +kernel
theorem dX8_place_43 : decode cX8_place 43 = .ok (.iload_n 1, 1) := by decide +kernel
theorem dX8_place_44 : decode cX8_place 44 = .ok (.iadd, 1) := by decide +kernel
theorem dX8_place_45 : decode cX8_place 45 = .ok (.sipush 160, 3) := by decide +kernel
theorem dX8_place_48 : decode cX8_place 48 = .ok (.if_icmp .gt 50, 3) := by decide +kernel
theorem dX8_place_51 : decode cX8_place 51 = .ok (.aload_n 0, 1) := by decide +kernel
theorem dX8_place_52 : decode cX8_place 52 = .ok (.iload 4, 2) := by decide +kernel
theorem dX8_place_54 : decode cX8_place 54 = .ok (.iload_n 1, 1) := by decide +kernel
theorem dX8_place_55 : decode cX8_place 55 = .ok (.invokevirtual 349, 3) := by decide +kernel
theorem dX8_place_58 : decode cX8_place 58 = .ok (.ifCond .eq 40, 3) := by decide +kernel
theorem dX8_place_61 : decode cX8_place 61 = .ok (.aload_n 0, 1) := by decide +kernel
theorem dX8_place_62 : decode cX8_place 62 = .ok (.invokevirtual 352, 3) := by decide +kernel
theorem dX8_place_65 : decode cX8_place 65 = .ok (.istore 5, 2) := by decide +kernel
theorem dX8_place_67 : decode cX8_place 67 = .ok (.iload_n 2, 1) := by decide +kernel
theorem dX8_place_68 : decode cX8_place 68 = .ok (.iconst (-1), 1) := by decide +kernel
theorem dX8_place_69 : decode cX8_place 69 = .ok (.if_icmp .eq 9, 3) := by decide +kernel
theorem dX8_place_72 : decode cX8_place 72 = .ok (.iload 5, 2) := by decide +kernel
theorem dX8_place_74 : decode cX8_place 74 = .ok (.iload_n 3, 1) := by decide +kernel
theorem dX8_place_75 : decode cX8_place 75 = .ok (.if_icmp .ge 8, 3) := by decide +kernel
theorem dX8_place_78 : decode cX8_place 78 = .ok (.iload 4, 2) := by decide +kernel
theorem dX8_place_80 : decode cX8_place 80 = .ok (.goto 4, 3) := by decide +kernel
theorem dX8_place_83 : decode cX8_place 83 = .ok (.iload_n 2, 1) := by decide +kernel
theorem dX8_place_84 : decode cX8_place 84 = .ok (.istore_n 2, 1) := by decide +kernel
theorem dX8_place_85 : decode cX8_place 85 = .ok (.iload_n 2, 1) := by decide +kernel
theorem dX8_place_86 : decode cX8_place 86 = .ok (.iload 4, 2) := by decide +kernel
theorem dX8_place_88 : decode cX8_place 88 = .ok (.if_icmp .ne 8, 3) := by decide +kernel
theorem dX8_place_91 : decode cX8_place 91 = .ok (.iload 5, 2) := by decide +kernel
theorem dX8_place_93 : decode cX8_place 93 = .ok (.goto 4, 3) := by decide +kernel
theorem dX8_place_96 : decode cX8_place 96 = .ok (.iload_n 3, 1) := by decide +kernel
theorem dX8_place_97 : decode cX8_place 97 = .ok (.istore_n 3, 1) := by decide +kernel
theorem dX8_place_98 : decode cX8_place 98 = .ok (.iinc 4 1, 3) := by decide +kernel
theorem dX8_place_101 : decode cX8_place 101 = .ok (.goto (-75), 3) := by decide +kernel
theorem dX8_place_104 : decode cX8_place 104 = .ok (.iload_n 2, 1) := by decide +kernel
theorem dX8_place_105 : decode cX8_place 105 = .ok (.ireturn, 1) := by decide +kernel
noncomputable def qX8_place_1 : Bx := (bc clt (il 4) (iald (fgr 7 3 (rl 0)) (ik 0)))
noncomputable def wX8_place_1 : Sx := (sseq (sif (band (bc cle (i2 (· + ·) (cvi 7 DX8_weight (rl 0) (ai (il 4) anil)) (il 1)) (ik 160)) (bz cne (cvz 7 DX8_reckonMore (rl 0) (ai (il 4) (ai (il 1) anil))))) (scut 5 (sseq (ssi 5 (cvi 7 DX8_greatestReading (rl 0) anil)) (sseq (ssi 2 (ic (bor (bc ceq (il 2) (ik (-1))) (bc clt (il 5) (il 3))) (il 4) (il 2))) (ssi 3 (ic (bc ceq (il 2) (il 4)) (il 5) (il 3)))))) snop) (sinc 4 1))
noncomputable def EX8_place : Sx := (sseq (fpi 7 0 (rl 0) (ik 0)) (sseq (sif (bnot (bz cne (csz DX8_in (aj (i2l (il 1)) (aj (jk 1) (aj (jk 40) anil)))))) (sret (ik (-1))) snop) (sseq (ssi 2 (ik (-1))) (sseq (ssi 3 (ik 0)) (sseq (scut 4 (sseq (ssi 4 (ik 0)) (swh qX8_place_1 wX8_place_1))) (sret (il 2)))))))
noncomputable def DX8_place : Fi := mfi 6 EX8_place
set_option maxRecDepth 4000 in
theorem BX8_place : Vs RX8 cX8_place 6 (rmk 6 136) 0 0 EX8_place := (v_seq (v_fpi kX8 lk995 (by decide) rfl rfl (by decide +kernel) (v_aload_n (i := 0) dX8_place_0 rfl (rfl : 0 + 1 = 1)) (v_iconst (v := 0) dX8_place_1 (by decide) (rfl : 1 + 1 = 2)) dX8_place_2 (rfl : 2 + 3 = 5)) (v_seq (v_if (v_not (v_zne_t (v_csz IX8_in hX8_in lk1120 ⟨by decide, by decide⟩ (by decide) (v_aj (v_i2l (v_iload_n (i := 1) dX8_place_5 rfl (rfl : 5 + 1 = 6)) dX8_place_6 (rfl : 6 + 1 = 7)) (v_aj (v_lconst (v := 1) dX8_place_7 (by decide) (rfl : 7 + 1 = 8)) (v_aj (v_ldc2 (v := 40) lk1174 dX8_place_8 (rfl : 8 + 3 = 11)) v_anil))) dX8_place_11 (rfl : 11 + 3 = 14)) dX8_place_14 (rfl : ((14 : Nat) : Int) + 5 = ((19 : Nat) : Int)) (rfl : 14 + 3 = 17))) (v_ret (v_iconst (v := (-1)) dX8_place_17 (by decide) (rfl : 17 + 1 = 18)) dX8_place_18) v_nop) (v_seq (v_istore_n (i := 2) (v_iconst (v := (-1)) dX8_place_19 (by decide) (rfl : 19 + 1 = 20)) dX8_place_20 rfl (by decide) (rfl : 20 + 1 = 21)) (v_seq (v_istore_n (i := 3) (v_iconst (v := 0) dX8_place_21 (by decide) (rfl : 21 + 1 = 22)) dX8_place_22 rfl (by decide) (rfl : 22 + 1 = 23)) (v_seq (v_cut (n := 4) (v_seq (v_istore (i := 4) (v_iconst (v := 0) dX8_place_23 (by decide) (rfl : 23 + 1 = 24)) dX8_place_24 (by decide) (rfl : 24 + 2 = 26)) (v_wh (v_ilt_f (v_iload (i := 4) dX8_place_26 (rfl : 26 + 2 = 28)) (v_iald (v_gfr kX8 lk998 (by decide) rfl (v_aload_n (i := 0) dX8_place_28 rfl (rfl : 28 + 1 = 29)) dX8_place_29 (rfl : 29 + 3 = 32)) (v_iconst (v := 0) dX8_place_32 (by decide) (rfl : 32 + 1 = 33)) dX8_place_33 (rfl : 33 + 1 = 34)) dX8_place_34 (rfl : ((34 : Nat) : Int) + 70 = ((104 : Nat) : Int)) (rfl : 34 + 3 = 37)) (vs_goto (v_seq (v_if (v_and (v_ile_f (v_iadd (v_cvi kX8 IX8_weight hX8_weight lk1152 ⟨by decide, by decide⟩ (by decide) (v_aload_n (i := 0) dX8_place_37 rfl (rfl : 37 + 1 = 38)) (v_ai (v_iload (i := 4) dX8_place_38 (rfl : 38 + 2 = 40)) v_anil) dX8_place_40 (rfl : 40 + 3 = 43)) (v_iload_n (i := 1) dX8_place_43 rfl (rfl : 43 + 1 = 44)) dX8_place_44 (rfl : 44 + 1 = 45)) (v_sipush (v := 160) dX8_place_45 (by decide) (rfl : 45 + 3 = 48)) dX8_place_48 (rfl : ((48 : Nat) : Int) + 50 = ((98 : Nat) : Int)) (rfl : 48 + 3 = 51)) (v_zne_f (v_cvz kX8 IX8_reckonMore hX8_reckonMore lk1452 ⟨by decide, by decide⟩ (by decide) (v_aload_n (i := 0) dX8_place_51 rfl (rfl : 51 + 1 = 52)) (v_ai (v_iload (i := 4) dX8_place_52 (rfl : 52 + 2 = 54)) (v_ai (v_iload_n (i := 1) dX8_place_54 rfl (rfl : 54 + 1 = 55)) v_anil)) dX8_place_55 (rfl : 55 + 3 = 58)) dX8_place_58 (rfl : ((58 : Nat) : Int) + 40 = ((98 : Nat) : Int)) (rfl : 58 + 3 = 61))) (v_cut (n := 5) (v_seq (v_istore (i := 5) (v_cvi kX8 IX8_greatestReading hX8_greatestReading lk1456 ⟨by decide, by decide⟩ (by decide) (v_aload_n (i := 0) dX8_place_61 rfl (rfl : 61 + 1 = 62)) v_anil dX8_place_62 (rfl : 62 + 3 = 65)) dX8_place_65 (by decide) (rfl : 65 + 2 = 67)) (v_seq (v_istore_n (i := 2) (v_ic (v_or (v_ieq_t (v_iload_n (i := 2) dX8_place_67 rfl (rfl : 67 + 1 = 68)) (v_iconst (v := (-1)) dX8_place_68 (by decide) (rfl : 68 + 1 = 69)) dX8_place_69 (rfl : ((69 : Nat) : Int) + 9 = ((78 : Nat) : Int)) (rfl : 69 + 3 = 72)) (v_ilt_f (v_iload (i := 5) dX8_place_72 (rfl : 72 + 2 = 74)) (v_iload_n (i := 3) dX8_place_74 rfl (rfl : 74 + 1 = 75)) dX8_place_75 (rfl : ((75 : Nat) : Int) + 8 = ((83 : Nat) : Int)) (rfl : 75 + 3 = 78))) (vi_goto (v_iload (i := 4) dX8_place_78 (rfl : 78 + 2 = 80)) dX8_place_80 (rfl : ((80 : Nat) : Int) + 4 = ((84 : Nat) : Int))) (v_iload_n (i := 2) dX8_place_83 rfl (rfl : 83 + 1 = 84))) dX8_place_84 rfl (by decide) (rfl : 84 + 1 = 85)) (v_istore_n (i := 3) (v_ic (v_ieq_f (v_iload_n (i := 2) dX8_place_85 rfl (rfl : 85 + 1 = 86)) (v_iload (i := 4) dX8_place_86 (rfl : 86 + 2 = 88)) dX8_place_88 (rfl : ((88 : Nat) : Int) + 8 = ((96 : Nat) : Int)) (rfl : 88 + 3 = 91)) (vi_goto (v_iload (i := 5) dX8_place_91 (rfl : 91 + 2 = 93)) dX8_place_93 (rfl : ((93 : Nat) : Int) + 4 = ((97 : Nat) : Int))) (v_iload_n (i := 3) dX8_place_96 rfl (rfl : 96 + 1 = 97))) dX8_place_97 rfl (by decide) (rfl : 97 + 1 = 98))))) v_nop) (v_iinc (v := 1) dX8_place_98 (by decide) (by decide) (rfl : 98 + 3 = 101))) dX8_place_101 (rfl : ((101 : Nat) : Int) + (-75) = ((26 : Nat) : Int)))))) (v_ret (v_iload_n (i := 2) dX8_place_104 rfl (rfl : 104 + 1 = 105)) dX8_place_105))))))
theorem IX8_place : Mi yX8_place cX8_place 6 (rmk 6 136) DX8_place := mk_i (by decide +kernel) BX8_place

theorem dX8_pressure_0 : decode cX8_pressure 0 = .ok (.aload_n 0, 1) := by decide +kernel
theorem dX8_pressure_1 : decode cX8_pressure 1 = .ok (.iconst 0, 1) := by decide +kernel
theorem dX8_pressure_2 : decode cX8_pressure 2 = .ok (.putfield 84, 3) := by decide +kernel
theorem dX8_pressure_5 : decode cX8_pressure 5 = .ok (.aload_n 0, 1) := by decide +kernel
theorem dX8_pressure_6 : decode cX8_pressure 6 = .ok (.iload_n 1, 1) := by decide +kernel
theorem dX8_pressure_7 : decode cX8_pressure 7 = .ok (.invokevirtual 109, 3) := by decide +kernel
theorem dX8_pressure_10 : decode cX8_pressure 10 = .ok (.ifCond .eq 13, 3) := by decide +kernel
theorem dX8_pressure_13 : decode cX8_pressure 13 = .ok (.iload_n 2, 1) := by decide +kernel
theorem dX8_pressure_14 : decode cX8_pressure 14 = .ok (.i2l, 1) := by decide +kernel
theorem dX8_pressure_15 : decode cX8_pressure 15 = .ok (.lconst 0, 1) := by decide +kernel
theorem dX8_pressure_16 : decode cX8_pressure 16 = .ok (.lconst 1, 1) := by decide +kernel
theorem dX8_pressure_17 : decode cX8_pressure 17 = .ok (.invokestatic 105, 3) := by decide +kernel
theorem dX8_pressure_20 : decode cX8_pressure 20 = .ok (.ifCond .ne 7, 3) := by decide +kernel
theorem dX8_pressure_23 : decode cX8_pressure 23 = .ok (.ldc2_w 279, 3) := by decide +kernel
theorem dX8_pressure_26 : decode cX8_pressure 26 = .ok (.lreturn, 1) := by decide +kernel
theorem dX8_pressure_27 : decode cX8_pressure 27 = .ok (.aload_n 0, 1) := by decide +kernel
theorem dX8_pressure_28 : decode cX8_pressure 28 = .ok (.invokevirtual 254, 3) := by decide +kernel
theorem dX8_pressure_31 : decode cX8_pressure 31 = .ok (.ifCond .ne 7, 3) := by decide +kernel
theorem dX8_pressure_34 : decode cX8_pressure 34 = .ok (.ldc2_w 285, 3) := by decide +kernel
theorem dX8_pressure_37 : decode cX8_pressure 37 = .ok (.lreturn, 1) := by decide +kernel
theorem dX8_pressure_38 : decode cX8_pressure 38 = .ok (.aload_n 0, 1) := by decide +kernel
theorem dX8_pressure_39 : decode cX8_pressure 39 = .ok (.getfield 54, 3) := by decide +kernel
theorem dX8_pressure_42 : decode cX8_pressure 42 = .ok (.iload_n 1, 1) := by decide +kernel
theorem dX8_pressure_43 : decode cX8_pressure 43 = .ok (.baload, 1) := by decide +kernel
theorem dX8_pressure_44 : decode cX8_pressure 44 = .ok (.ifCond .eq 9, 3) := by decide +kernel
theorem dX8_pressure_47 : decode cX8_pressure 47 = .ok (.ldc2_w 287, 3) := by decide +kernel
theorem dX8_pressure_50 : decode cX8_pressure 50 = .ok (.goto 17, 3) := by decide +kernel
theorem dX8_pressure_53 : decode cX8_pressure 53 = .ok (.aload_n 0, 1) := by decide +kernel
theorem dX8_pressure_54 : decode cX8_pressure 54 = .ok (.getfield 51, 3) := by decide +kernel
theorem dX8_pressure_57 : decode cX8_pressure 57 = .ok (.iload_n 1, 1) := by decide +kernel
theorem dX8_pressure_58 : decode cX8_pressure 58 = .ok (.laload, 1) := by decide +kernel
theorem dX8_pressure_59 : decode cX8_pressure 59 = .ok (.aload_n 0, 1) := by decide +kernel
theorem dX8_pressure_60 : decode cX8_pressure 60 = .ok (.getfield 219, 3) := by decide +kernel
theorem dX8_pressure_63 : decode cX8_pressure 63 = .ok (.iload_n 2, 1) := by decide +kernel
theorem dX8_pressure_64 : decode cX8_pressure 64 = .ok (.invokestatic 289, 3) := by decide +kernel
theorem dX8_pressure_67 : decode cX8_pressure 67 = .ok (.lreturn, 1) := by decide +kernel
noncomputable def EX8_pressure : Sx := (sseq (fpi 7 0 (rl 0) (ik 0)) (sseq (sif (bor (bnot (bz cne (cvz 7 DX8_isChamber (rl 0) (ai (il 1) anil)))) (bnot (bz cne (csz DX8_in (aj (i2l (il 2)) (aj (jk 0) (aj (jk 1) anil))))))) (sretj (jk (-1))) snop) (sseq (sif (bnot (bz cne (cvz 7 DX8_reckonNow (rl 0) anil))) (sretj (jk (-3))) snop) (sretj (jc (bz cne (zald (fgr 7 19 (rl 0)) (il 1))) (jk (-2)) (csj DX8_lowest (aj (jald (fgr 7 17 (rl 0)) (il 1)) (aj (fgj 7 18 (rl 0)) (ai (il 2) anil)))))))))
noncomputable def DX8_pressure : Fj := mfj 3 EX8_pressure
set_option maxRecDepth 4000 in
theorem BX8_pressure : Vs RX8 cX8_pressure 3 (rmk 6 134) 0 0 EX8_pressure := (v_seq (v_fpi kX8 lk995 (by decide) rfl rfl (by decide +kernel) (v_aload_n (i := 0) dX8_pressure_0 rfl (rfl : 0 + 1 = 1)) (v_iconst (v := 0) dX8_pressure_1 (by decide) (rfl : 1 + 1 = 2)) dX8_pressure_2 (rfl : 2 + 3 = 5)) (v_seq (v_if (v_or (v_not (v_zne_f (v_cvz kX8 IX8_isChamber hX8_isChamber lk1145 ⟨by decide, by decide⟩ (by decide) (v_aload_n (i := 0) dX8_pressure_5 rfl (rfl : 5 + 1 = 6)) (v_ai (v_iload_n (i := 1) dX8_pressure_6 rfl (rfl : 6 + 1 = 7)) v_anil) dX8_pressure_7 (rfl : 7 + 3 = 10)) dX8_pressure_10 (rfl : ((10 : Nat) : Int) + 13 = ((23 : Nat) : Int)) (rfl : 10 + 3 = 13))) (v_not (v_zne_t (v_csz IX8_in hX8_in lk1120 ⟨by decide, by decide⟩ (by decide) (v_aj (v_i2l (v_iload_n (i := 2) dX8_pressure_13 rfl (rfl : 13 + 1 = 14)) dX8_pressure_14 (rfl : 14 + 1 = 15)) (v_aj (v_lconst (v := 0) dX8_pressure_15 (by decide) (rfl : 15 + 1 = 16)) (v_aj (v_lconst (v := 1) dX8_pressure_16 (by decide) (rfl : 16 + 1 = 17)) v_anil))) dX8_pressure_17 (rfl : 17 + 3 = 20)) dX8_pressure_20 (rfl : ((20 : Nat) : Int) + 7 = ((27 : Nat) : Int)) (rfl : 20 + 3 = 23)))) (v_retj (v_ldc2 (v := (-1)) lk1335 dX8_pressure_23 (rfl : 23 + 3 = 26)) dX8_pressure_26) v_nop) (v_seq (v_if (v_not (v_zne_t (v_cvz kX8 IX8_reckonNow hX8_reckonNow lk1241 ⟨by decide, by decide⟩ (by decide) (v_aload_n (i := 0) dX8_pressure_27 rfl (rfl : 27 + 1 = 28)) v_anil dX8_pressure_28 (rfl : 28 + 3 = 31)) dX8_pressure_31 (rfl : ((31 : Nat) : Int) + 7 = ((38 : Nat) : Int)) (rfl : 31 + 3 = 34))) (v_retj (v_ldc2 (v := (-3)) lk1344 dX8_pressure_34 (rfl : 34 + 3 = 37)) dX8_pressure_37) v_nop) (v_retj (v_jc (v_zne_f (v_zald (v_gfr kX8 lk1014 (by decide) rfl (v_aload_n (i := 0) dX8_pressure_38 rfl (rfl : 38 + 1 = 39)) dX8_pressure_39 (rfl : 39 + 3 = 42)) (v_iload_n (i := 1) dX8_pressure_42 rfl (rfl : 42 + 1 = 43)) dX8_pressure_43 (rfl : 43 + 1 = 44)) dX8_pressure_44 (rfl : ((44 : Nat) : Int) + 9 = ((53 : Nat) : Int)) (rfl : 44 + 3 = 47)) (vj_goto (v_ldc2 (v := (-2)) lk1345 dX8_pressure_47 (rfl : 47 + 3 = 50)) dX8_pressure_50 (rfl : ((50 : Nat) : Int) + 17 = ((67 : Nat) : Int))) (v_csj IX8_lowest hX8_lowest lk1346 ⟨by decide, by decide⟩ (by decide) (v_aj (v_jald (v_gfr kX8 lk1012 (by decide) rfl (v_aload_n (i := 0) dX8_pressure_53 rfl (rfl : 53 + 1 = 54)) dX8_pressure_54 (rfl : 54 + 3 = 57)) (v_iload_n (i := 1) dX8_pressure_57 rfl (rfl : 57 + 1 = 58)) dX8_pressure_58 (rfl : 58 + 1 = 59)) (v_aj (v_gfj kX8 lk1013 (by decide) rfl (v_aload_n (i := 0) dX8_pressure_59 rfl (rfl : 59 + 1 = 60)) dX8_pressure_60 (rfl : 60 + 3 = 63)) (v_ai (v_iload_n (i := 2) dX8_pressure_63 rfl (rfl : 63 + 1 = 64)) v_anil))) dX8_pressure_64 (rfl : 64 + 3 = 67))) dX8_pressure_67))))
theorem IX8_pressure : Mj yX8_pressure cX8_pressure 3 (rmk 6 134) DX8_pressure := mk_j (by decide +kernel) BX8_pressure

theorem dX8_seek_0 : decode cX8_seek 0 = .ok (.aload_n 0, 1) := by decide +kernel
theorem dX8_seek_1 : decode cX8_seek 1 = .ok (.invokevirtual 320, 3) := by decide +kernel
theorem dX8_seek_4 : decode cX8_seek 4 = .ok (.istore_n 2, 1) := by decide +kernel
theorem dX8_seek_5 : decode cX8_seek 5 = .ok (.iconst 0, 1) := by decide +kernel
theorem dX8_seek_6 : decode cX8_seek 6 = .ok (.istore_n 3, 1) := by decide +kernel
theorem dX8_seek_7 : decode cX8_seek 7 = .ok (.iconst (-1), 1) := by decide +kernel
theorem dX8_seek_8 : decode cX8_seek 8 = .ok (.istore 4, 2) := by decide +kernel
theorem dX8_seek_10 : decode cX8_seek 10 = .ok (.iconst (-1), 1) := by decide +kernel
theorem dX8_seek_11 : decode cX8_seek 11 = .ok (.istore 5, 2) := by decide +kernel
theorem dX8_seek_13 : decode cX8_seek 13 = .ok (.iconst 0, 1) := by decide +kernel
theorem dX8_seek_14 : decode cX8_seek 14 = .ok (.istore 6, 2) := by decide +kernel
theorem dX8_seek_16 : decode cX8_seek 16 = .ok (.iconst 0, 1) := by decide +kernel
theorem dX8_seek_17 : decode cX8_seek 17 = .ok (.istore 7, 2) := by decide +kernel
theorem dX8_seek_19 : decode cX8_seek 19 = .ok (.iconst 0, 1) := by decide +kernel
theorem dX8_seek_20 : decode cX8_seek 20 = .ok (.istore 8, 2) := by decide +kernel
theorem dX8_seek_22 : decode cX8_seek 22 = .ok (.iload 8, 2) := by decide +kernel
theorem dX8_seek_24 : decode cX8_seek 24 = .ok (.bipush 20, 2) := by decide +kernel
theorem dX8_seek_26 : decode cX8_seek 26 = .ok (.if_icmp .ge 145, 3) := by decide +kernel
theorem dX8_seek_29 : decode cX8_seek 29 = .ok (.iconst 0, 1) := by decide +kernel
theorem dX8_seek_30 : decode cX8_seek 30 = .ok (.istore 9, 2) := by decide +kernel
theorem dX8_seek_32 : decode cX8_seek 32 = .ok (.iconst 1, 1) := by decide +kernel
theorem dX8_seek_33 : decode cX8_seek 33 = .ok (.istore 10, 2) := by decide +kernel
theorem dX8_seek_35 : decode cX8_seek 35 = .ok (.iload 10, 2) := by decide +kernel
theorem dX8_seek_37 : decode cX8_seek 37 = .ok (.bipush 60, 2) := by decide +kernel
theorem dX8_seek_39 : decode cX8_seek 39 = .ok (.if_icmp .gt 111, 3) := by decide +kernel
theorem dX8_seek_42 : decode cX8_seek 42 = .ok (.aload_n 0, 1) := by decide +kernel
theorem dX8_seek_43 : decode cX8_seek 43 = .ok (.iload 8, 2) := by decide +kernel
theorem dX8_seek_45 : decode cX8_seek 45 = .ok (.invokevirtual 164, 3) := by decide +kernel
theorem dX8_seek_48 : decode cX8_seek 48 = .ok (.ifCond .eq 102, 3) := by decide +kernel
theorem dX8_seek_51 : decode cX8_seek 51 = .ok (.aload_n 0, 1) := by decide +kernel
theorem dX8_seek_52 : decode cX8_seek 52 = .ok (.iload 8, 2) := by decide +kernel
theorem dX8_seek_54 : decode cX8_seek 54 = .ok (.iload 10, 2) := by decide +kernel
theorem dX8_seek_56 : decode cX8_seek 56 = .ok (.invokevirtual 323, 3) := by decide +kernel
theorem dX8_seek_59 : decode cX8_seek 59 = .ok (.ifCond .eq 85, 3) := by decide +kernel
theorem dX8_seek_62 : decode cX8_seek 62 = .ok (.aload_n 0, 1) := by decide +kernel
theorem dX8_seek_63 : decode cX8_seek 63 = .ok (.invokevirtual 326, 3) := by decide +kernel
theorem dX8_seek_66 : decode cX8_seek 66 = .ok (.istore 11, 2) := by decide +kernel
theorem dX8_seek_68 : decode cX8_seek 68 = .ok (.iload 11, 2) := by decide +kernel
theorem dX8_seek_70 : decode cX8_seek 70 = .ok (.iload 7, 2) := by decide +kernel
theorem dX8_seek_72 : decode cX8_seek 72 = .ok (.if_icmp .le 8, 3) := by decide +kernel
theorem dX8_seek_75 : decode cX8_seek 75 = .ok (.iload 11, 2) := by decide +kernel
theorem dX8_seek_77 : decode cX8_seek 77 = .ok (.goto 5, 3) := by decide +kernel
theorem dX8_seek_80 : decode cX8_seek 80 = .ok (.iload 7, 2) := by decide +kernel
theorem dX8_seek_82 : decode cX8_seek 82 = .ok (.istore 7, 2) := by decide +kernel
theorem dX8_seek_84 : decode cX8_seek 84 = .ok (.iload 11, 2) := by decide +kernel
theorem dX8_seek_86 : decode cX8_seek 86 = .ok (.iload_n 2, 1) := by decide +kernel
theorem dX8_seek_87 : decode cX8_seek 87 = .ok (.if_icmp .ne 57, 3) := by decide +kernel
theorem dX8_seek_90 : decode cX8_seek 90 = .ok (.iload_n 3, 1) := by decide +kernel
theorem dX8_seek_91 : decode cX8_seek 91 = .ok (.ifCond .ne 8, 3) := by decide +kernel
theorem dX8_seek_94 : decode cX8_seek 94 = .ok (.iload 10, 2) := by decide +kernel
theorem dX8_seek_96 : decode cX8_seek 96 = .ok (.goto 5, 3) := by decide +kernel
theorem dX8_seek_99 : decode cX8_seek 99 = .ok (.iload 5, 2) := by decide +kernel
theorem dX8_seek_101 : decode cX8_seek 101 = .ok (.istore 5, 2) := by decide +kernel
theorem dX8_seek_103 : decode cX8_seek 103 = .ok (.iload_n 3, 1) := by decide +kernel
theorem dX8_seek_104 : decode cX8_seek 104 = .ok (.ifCond .ne 8, 3) := by decide +kernel
theorem dX8_seek_107 : decode cX8_seek 107 = .ok (.iload 8, 2) := by decide +kernel
theorem dX8_seek_109 : decode cX8_seek 109 = .ok (.goto 5, 3) := by decide +kernel
theorem dX8_seek_112 : decode cX8_seek 112 = .ok (.iload 4, 2) := by decide +kernel
theorem dX8_seek_114 : decode cX8_seek 114 = .ok (.istore 4, 2) := by decide +kernel
theorem dX8_seek_116 : decode cX8_seek 116 = .ok (.iload_n 3, 1) := by decide +kernel
theorem dX8_seek_117 : decode cX8_seek 117 = .ok (.bipush 20, 2) := by decide +kernel
theorem dX8_seek_119 : decode cX8_seek 119 = .ok (.if_icmp .ge 19, 3) := by decide +kernel
theorem dX8_seek_122 : decode cX8_seek 122 = .ok (.aload_n 0, 1) := by decide +kernel
theorem dX8_seek_123 : decode cX8_seek 123 = .ok (.getfield 75, 3) := by decide +kernel
theorem dX8_seek_126 : decode cX8_seek 126 = .ok (.iload_n 3, 1) := by decide +kernel
theorem dX8_seek_127 : decode cX8_seek 127 = .ok (.iload 8, 2) := by decide +kernel
theorem dX8_seek_129 : decode cX8_seek 129 = .ok (.iastore, 1) := by decide +kernel
theorem dX8_seek_130 : decode cX8_seek 130 = .ok (.aload_n 0, 1) := by decide +kernel
theorem dX8_seek_131 : decode cX8_seek 131 = .ok (.getfield 78, 3) := by decide +kernel
theorem dX8_seek_134 : decode cX8_seek 134 = .ok (.iload_n 3, 1) := by decide +kernel
theorem dX8_seek_135 : decode cX8_seek 135 = .ok (.iload 10, 2) := by decide +kernel
theorem dX8_seek_137 : decode cX8_seek 137 = .ok (.iastore, 1) := by decide +kernel
theorem dX8_seek_138 : decode cX8_seek 138 = .ok (.iinc 3 1, 3) := by decide +kernel
theorem dX8_seek_141 : decode cX8_seek 141 = .ok (.iconst 1, 1) := by decide +kernel
theorem dX8_seek_142 : decode cX8_seek 142 = .ok (.istore 9, 2) := by decide +kernel
theorem dX8_seek_144 : decode cX8_seek 144 = .ok (.iinc 10 1, 3) := by decide +kernel
theorem dX8_seek_147 : decode cX8_seek 147 = .ok (.goto (-112), 3) := by decide +kernel
theorem dX8_seek_150 : decode cX8_seek 150 = .ok (.iload 6, 2) := by decide +kernel
theorem dX8_seek_152 : decode cX8_seek 152 = .ok (.iload 9, 2) := by decide +kernel
theorem dX8_seek_154 : decode cX8_seek 154 = .ok (.ifCond .eq 7, 3) := by decide +kernel
theorem dX8_seek_157 : decode cX8_seek 157 = .ok (.iconst 1, 1) := by decide +kernel
theorem dX8_seek_158 : decode cX8_seek 158 = .ok (.goto 4, 3) := by decide +kernel
theorem dX8_seek_161 : decode cX8_seek 161 = .ok (.iconst 0, 1) := by decide +kernel
theorem dX8_seek_162 : decode cX8_seek 162 = .ok (.iadd, 1) := by decide +kernel
theorem dX8_seek_163 : decode cX8_seek 163 = .ok (.istore 6, 2) := by decide +kernel
theorem dX8_seek_165 : decode cX8_seek 165 = .ok (.iinc 8 1, 3) := by decide +kernel
theorem dX8_seek_168 : decode cX8_seek 168 = .ok (.goto (-146), 3) := by decide +kernel
theorem dX8_seek_171 : decode cX8_seek 171 = .ok (.iload_n 1, 1) := by decide +kernel
theorem dX8_seek_172 : decode cX8_seek 172 = .ok (.ifCond .ne 7, 3) := by decide +kernel
theorem dX8_seek_175 : decode cX8_seek 175 = .ok (.iload_n 3, 1) := by decide +kernel
theorem dX8_seek_176 : decode cX8_seek 176 = .ok (.goto 35, 3) := by decide +kernel
theorem dX8_seek_179 : decode cX8_seek 179 = .ok (.iload_n 1, 1) := by decide +kernel
theorem dX8_seek_180 : decode cX8_seek 180 = .ok (.iconst 1, 1) := by decide +kernel
theorem dX8_seek_181 : decode cX8_seek 181 = .ok (.if_icmp .ne 8, 3) := by decide +kernel
theorem dX8_seek_184 : decode cX8_seek 184 = .ok (.iload 4, 2) := by decide +kernel
theorem dX8_seek_186 : decode cX8_seek 186 = .ok (.goto 25, 3) := by decide +kernel
theorem dX8_seek_189 : decode cX8_seek 189 = .ok (.iload_n 1, 1) := by decide +kernel
theorem dX8_seek_190 : decode cX8_seek 190 = .ok (.iconst 2, 1) := by decide +kernel
theorem dX8_seek_191 : decode cX8_seek 191 = .ok (.if_icmp .ne 8, 3) := by decide +kernel
theorem dX8_seek_194 : decode cX8_seek 194 = .ok (.iload 5, 2) := by decide +kernel
theorem dX8_seek_196 : decode cX8_seek 196 = .ok (.goto 15, 3) := by decide +kernel
theorem dX8_seek_199 : decode cX8_seek 199 = .ok (.iload_n 1, 1) := by decide +kernel
theorem dX8_seek_200 : decode cX8_seek 200 = .ok (.iconst 3, 1) := by decide +kernel
theorem dX8_seek_201 : decode cX8_seek 201 = .ok (.if_icmp .ne 8, 3) := by decide +kernel
theorem dX8_seek_204 : decode cX8_seek 204 = .ok (.iload 6, 2) := by decide +kernel
theorem dX8_seek_206 : decode cX8_seek 206 = .ok (.goto 5, 3) := by decide +kernel
theorem dX8_seek_209 : decode cX8_seek 209 = .ok (.iload 7, 2) := by decide +kernel
theorem dX8_seek_211 : decode cX8_seek 211 = .ok (.ireturn, 1) := by decide +kernel
noncomputable def qX8_seek_1 : Bx := (band (bc cle (il 10) (ik 60)) (bz cne (cvz 7 DX8_isJoint (rl 0) (ai (il 8) anil))))
noncomputable def wX8_seek_1 : Sx := (sseq (sif (bz cne (cvz 7 DX8_reckonLeak (rl 0) (ai (il 8) (ai (il 10) anil)))) (scut 11 (sseq (ssi 11 (cvi 7 DX8_matches (rl 0) anil)) (sseq (ssi 7 (ic (bc cgt (il 11) (il 7)) (il 11) (il 7))) (sif (bc ceq (il 11) (il 2)) (sseq (ssi 5 (ic (bz ceq (il 3)) (il 10) (il 5))) (sseq (ssi 4 (ic (bz ceq (il 3)) (il 8) (il 4))) (sseq (sif (bc clt (il 3) (ik 20)) (sseq (aii (fgr 7 32 (rl 0)) (il 3) (il 8)) (aii (fgr 7 33 (rl 0)) (il 3) (il 10))) snop) (sseq (sinc 3 1) (ssi 9 (ik 1)))))) snop)))) snop) (sinc 10 1))
noncomputable def qX8_seek_2 : Bx := (bc clt (il 8) (ik 20))
noncomputable def wX8_seek_2 : Sx := (sseq (scut 9 (sseq (ssi 9 (ik 0)) (sseq (scut 10 (sseq (ssi 10 (ik 1)) (swh qX8_seek_1 wX8_seek_1))) (ssi 6 (i2 (· + ·) (il 6) (ic (bz cne (il 9)) (ik 1) (ik 0))))))) (sinc 8 1))
noncomputable def EX8_seek : Sx := (sseq (ssi 2 (cvi 7 DX8_notedOnes (rl 0) anil)) (sseq (ssi 3 (ik 0)) (sseq (ssi 4 (ik (-1))) (sseq (ssi 5 (ik (-1))) (sseq (ssi 6 (ik 0)) (sseq (ssi 7 (ik 0)) (sseq (scut 8 (sseq (ssi 8 (ik 0)) (swh qX8_seek_2 wX8_seek_2))) (sret (ic (bz ceq (il 1)) (il 3) (ic (bc ceq (il 1) (ik 1)) (il 4) (ic (bc ceq (il 1) (ik 2)) (il 5) (ic (bc ceq (il 1) (ik 3)) (il 6) (il 7)))))))))))))
noncomputable def DX8_seek : Fi := mfi 12 EX8_seek
set_option maxRecDepth 4000 in
theorem BX8_seek : Vs RX8 cX8_seek 12 (rmk 6 136) 0 0 EX8_seek := (v_seq (v_istore_n (i := 2) (v_cvi kX8 IX8_notedOnes hX8_notedOnes lk1405 ⟨by decide, by decide⟩ (by decide) (v_aload_n (i := 0) dX8_seek_0 rfl (rfl : 0 + 1 = 1)) v_anil dX8_seek_1 (rfl : 1 + 3 = 4)) dX8_seek_4 rfl (by decide) (rfl : 4 + 1 = 5)) (v_seq (v_istore_n (i := 3) (v_iconst (v := 0) dX8_seek_5 (by decide) (rfl : 5 + 1 = 6)) dX8_seek_6 rfl (by decide) (rfl : 6 + 1 = 7)) (v_seq (v_istore (i := 4) (v_iconst (v := (-1)) dX8_seek_7 (by decide) (rfl : 7 + 1 = 8)) dX8_seek_8 (by decide) (rfl : 8 + 2 = 10)) (v_seq (v_istore (i := 5) (v_iconst (v := (-1)) dX8_seek_10 (by decide) (rfl : 10 + 1 = 11)) dX8_seek_11 (by decide) (rfl : 11 + 2 = 13)) (v_seq (v_istore (i := 6) (v_iconst (v := 0) dX8_seek_13 (by decide) (rfl : 13 + 1 = 14)) dX8_seek_14 (by decide) (rfl : 14 + 2 = 16)) (v_seq (v_istore (i := 7) (v_iconst (v := 0) dX8_seek_16 (by decide) (rfl : 16 + 1 = 17)) dX8_seek_17 (by decide) (rfl : 17 + 2 = 19)) (v_seq (v_cut (n := 8) (v_seq (v_istore (i := 8) (v_iconst (v := 0) dX8_seek_19 (by decide) (rfl : 19 + 1 = 20)) dX8_seek_20 (by decide) (rfl : 20 + 2 = 22)) (v_wh (v_ilt_f (v_iload (i := 8) dX8_seek_22 (rfl : 22 + 2 = 24)) (v_bipush (v := 20) dX8_seek_24 (by decide) (rfl : 24 + 2 = 26)) dX8_seek_26 (rfl : ((26 : Nat) : Int) + 145 = ((171 : Nat) : Int)) (rfl : 26 + 3 = 29)) (vs_goto (v_seq (v_cut (n := 9) (v_seq (v_istore (i := 9) (v_iconst (v := 0) dX8_seek_29 (by decide) (rfl : 29 + 1 = 30)) dX8_seek_30 (by decide) (rfl : 30 + 2 = 32)) (v_seq (v_cut (n := 10) (v_seq (v_istore (i := 10) (v_iconst (v := 1) dX8_seek_32 (by decide) (rfl : 32 + 1 = 33)) dX8_seek_33 (by decide) (rfl : 33 + 2 = 35)) (v_wh (v_and (v_ile_f (v_iload (i := 10) dX8_seek_35 (rfl : 35 + 2 = 37)) (v_bipush (v := 60) dX8_seek_37 (by decide) (rfl : 37 + 2 = 39)) dX8_seek_39 (rfl : ((39 : Nat) : Int) + 111 = ((150 : Nat) : Int)) (rfl : 39 + 3 = 42)) (v_zne_f (v_cvz kX8 IX8_isJoint hX8_isJoint lk1208 ⟨by decide, by decide⟩ (by decide) (v_aload_n (i := 0) dX8_seek_42 rfl (rfl : 42 + 1 = 43)) (v_ai (v_iload (i := 8) dX8_seek_43 (rfl : 43 + 2 = 45)) v_anil) dX8_seek_45 (rfl : 45 + 3 = 48)) dX8_seek_48 (rfl : ((48 : Nat) : Int) + 102 = ((150 : Nat) : Int)) (rfl : 48 + 3 = 51))) (vs_goto (v_seq (v_if (v_zne_f (v_cvz kX8 IX8_reckonLeak hX8_reckonLeak lk1409 ⟨by decide, by decide⟩ (by decide) (v_aload_n (i := 0) dX8_seek_51 rfl (rfl : 51 + 1 = 52)) (v_ai (v_iload (i := 8) dX8_seek_52 (rfl : 52 + 2 = 54)) (v_ai (v_iload (i := 10) dX8_seek_54 (rfl : 54 + 2 = 56)) v_anil)) dX8_seek_56 (rfl : 56 + 3 = 59)) dX8_seek_59 (rfl : ((59 : Nat) : Int) + 85 = ((144 : Nat) : Int)) (rfl : 59 + 3 = 62)) (v_cut (n := 11) (v_seq (v_istore (i := 11) (v_cvi kX8 IX8_matches hX8_matches lk1413 ⟨by decide, by decide⟩ (by decide) (v_aload_n (i := 0) dX8_seek_62 rfl (rfl : 62 + 1 = 63)) v_anil dX8_seek_63 (rfl : 63 + 3 = 66)) dX8_seek_66 (by decide) (rfl : 66 + 2 = 68)) (v_seq (v_istore (i := 7) (v_ic (v_igt_f (v_iload (i := 11) dX8_seek_68 (rfl : 68 + 2 = 70)) (v_iload (i := 7) dX8_seek_70 (rfl : 70 + 2 = 72)) dX8_seek_72 (rfl : ((72 : Nat) : Int) + 8 = ((80 : Nat) : Int)) (rfl : 72 + 3 = 75)) (vi_goto (v_iload (i := 11) dX8_seek_75 (rfl : 75 + 2 = 77)) dX8_seek_77 (rfl : ((77 : Nat) : Int) + 5 = ((82 : Nat) : Int))) (v_iload (i := 7) dX8_seek_80 (rfl : 80 + 2 = 82))) dX8_seek_82 (by decide) (rfl : 82 + 2 = 84)) (v_if (v_ieq_f (v_iload (i := 11) dX8_seek_84 (rfl : 84 + 2 = 86)) (v_iload_n (i := 2) dX8_seek_86 rfl (rfl : 86 + 1 = 87)) dX8_seek_87 (rfl : ((87 : Nat) : Int) + 57 = ((144 : Nat) : Int)) (rfl : 87 + 3 = 90)) (v_seq (v_istore (i := 5) (v_ic (v_zeq_f (v_iload_n (i := 3) dX8_seek_90 rfl (rfl : 90 + 1 = 91)) dX8_seek_91 (rfl : ((91 : Nat) : Int) + 8 = ((99 : Nat) : Int)) (rfl : 91 + 3 = 94)) (vi_goto (v_iload (i := 10) dX8_seek_94 (rfl : 94 + 2 = 96)) dX8_seek_96 (rfl : ((96 : Nat) : Int) + 5 = ((101 : Nat) : Int))) (v_iload (i := 5) dX8_seek_99 (rfl : 99 + 2 = 101))) dX8_seek_101 (by decide) (rfl : 101 + 2 = 103)) (v_seq (v_istore (i := 4) (v_ic (v_zeq_f (v_iload_n (i := 3) dX8_seek_103 rfl (rfl : 103 + 1 = 104)) dX8_seek_104 (rfl : ((104 : Nat) : Int) + 8 = ((112 : Nat) : Int)) (rfl : 104 + 3 = 107)) (vi_goto (v_iload (i := 8) dX8_seek_107 (rfl : 107 + 2 = 109)) dX8_seek_109 (rfl : ((109 : Nat) : Int) + 5 = ((114 : Nat) : Int))) (v_iload (i := 4) dX8_seek_112 (rfl : 112 + 2 = 114))) dX8_seek_114 (by decide) (rfl : 114 + 2 = 116)) (v_seq (v_if (v_ilt_f (v_iload_n (i := 3) dX8_seek_116 rfl (rfl : 116 + 1 = 117)) (v_bipush (v := 20) dX8_seek_117 (by decide) (rfl : 117 + 2 = 119)) dX8_seek_119 (rfl : ((119 : Nat) : Int) + 19 = ((138 : Nat) : Int)) (rfl : 119 + 3 = 122)) (v_seq (v_aii (v_gfr kX8 lk1027 (by decide) rfl (v_aload_n (i := 0) dX8_seek_122 rfl (rfl : 122 + 1 = 123)) dX8_seek_123 (rfl : 123 + 3 = 126)) (v_iload_n (i := 3) dX8_seek_126 rfl (rfl : 126 + 1 = 127)) (v_iload (i := 8) dX8_seek_127 (rfl : 127 + 2 = 129)) dX8_seek_129 (rfl : 129 + 1 = 130)) (v_aii (v_gfr kX8 lk1028 (by decide) rfl (v_aload_n (i := 0) dX8_seek_130 rfl (rfl : 130 + 1 = 131)) dX8_seek_131 (rfl : 131 + 3 = 134)) (v_iload_n (i := 3) dX8_seek_134 rfl (rfl : 134 + 1 = 135)) (v_iload (i := 10) dX8_seek_135 (rfl : 135 + 2 = 137)) dX8_seek_137 (rfl : 137 + 1 = 138))) v_nop) (v_seq (v_iinc (v := 1) dX8_seek_138 (by decide) (by decide) (rfl : 138 + 3 = 141)) (v_istore (i := 9) (v_iconst (v := 1) dX8_seek_141 (by decide) (rfl : 141 + 1 = 142)) dX8_seek_142 (by decide) (rfl : 142 + 2 = 144)))))) v_nop)))) v_nop) (v_iinc (v := 1) dX8_seek_144 (by decide) (by decide) (rfl : 144 + 3 = 147))) dX8_seek_147 (rfl : ((147 : Nat) : Int) + (-112) = ((35 : Nat) : Int)))))) (v_istore (i := 6) (v_iadd (v_iload (i := 6) dX8_seek_150 (rfl : 150 + 2 = 152)) (v_ic (v_zne_f (v_iload (i := 9) dX8_seek_152 (rfl : 152 + 2 = 154)) dX8_seek_154 (rfl : ((154 : Nat) : Int) + 7 = ((161 : Nat) : Int)) (rfl : 154 + 3 = 157)) (vi_goto (v_iconst (v := 1) dX8_seek_157 (by decide) (rfl : 157 + 1 = 158)) dX8_seek_158 (rfl : ((158 : Nat) : Int) + 4 = ((162 : Nat) : Int))) (v_iconst (v := 0) dX8_seek_161 (by decide) (rfl : 161 + 1 = 162))) dX8_seek_162 (rfl : 162 + 1 = 163)) dX8_seek_163 (by decide) (rfl : 163 + 2 = 165))))) (v_iinc (v := 1) dX8_seek_165 (by decide) (by decide) (rfl : 165 + 3 = 168))) dX8_seek_168 (rfl : ((168 : Nat) : Int) + (-146) = ((22 : Nat) : Int)))))) (v_ret (v_ic (v_zeq_f (v_iload_n (i := 1) dX8_seek_171 rfl (rfl : 171 + 1 = 172)) dX8_seek_172 (rfl : ((172 : Nat) : Int) + 7 = ((179 : Nat) : Int)) (rfl : 172 + 3 = 175)) (vi_goto (v_iload_n (i := 3) dX8_seek_175 rfl (rfl : 175 + 1 = 176)) dX8_seek_176 (rfl : ((176 : Nat) : Int) + 35 = ((211 : Nat) : Int))) (v_ic (v_ieq_f (v_iload_n (i := 1) dX8_seek_179 rfl (rfl : 179 + 1 = 180)) (v_iconst (v := 1) dX8_seek_180 (by decide) (rfl : 180 + 1 = 181)) dX8_seek_181 (rfl : ((181 : Nat) : Int) + 8 = ((189 : Nat) : Int)) (rfl : 181 + 3 = 184)) (vi_goto (v_iload (i := 4) dX8_seek_184 (rfl : 184 + 2 = 186)) dX8_seek_186 (rfl : ((186 : Nat) : Int) + 25 = ((211 : Nat) : Int))) (v_ic (v_ieq_f (v_iload_n (i := 1) dX8_seek_189 rfl (rfl : 189 + 1 = 190)) (v_iconst (v := 2) dX8_seek_190 (by decide) (rfl : 190 + 1 = 191)) dX8_seek_191 (rfl : ((191 : Nat) : Int) + 8 = ((199 : Nat) : Int)) (rfl : 191 + 3 = 194)) (vi_goto (v_iload (i := 5) dX8_seek_194 (rfl : 194 + 2 = 196)) dX8_seek_196 (rfl : ((196 : Nat) : Int) + 15 = ((211 : Nat) : Int))) (v_ic (v_ieq_f (v_iload_n (i := 1) dX8_seek_199 rfl (rfl : 199 + 1 = 200)) (v_iconst (v := 3) dX8_seek_200 (by decide) (rfl : 200 + 1 = 201)) dX8_seek_201 (rfl : ((201 : Nat) : Int) + 8 = ((209 : Nat) : Int)) (rfl : 201 + 3 = 204)) (vi_goto (v_iload (i := 6) dX8_seek_204 (rfl : 204 + 2 = 206)) dX8_seek_206 (rfl : ((206 : Nat) : Int) + 5 = ((211 : Nat) : Int))) (v_iload (i := 7) dX8_seek_209 (rfl : 209 + 2 = 211)))))) dX8_seek_211))))))))
theorem IX8_seek : Mi yX8_seek cX8_seek 12 (rmk 6 136) DX8_seek := mk_i (by decide +kernel) BX8_seek

theorem dX8_probe_0 : decode cX8_probe 0 = .ok (.aload_n 0, 1) := by decide +kernel
theorem dX8_probe_1 : decode cX8_probe 1 = .ok (.iconst 0, 1) := by decide +kernel
theorem dX8_probe_2 : decode cX8_probe 2 = .ok (.putfield 84, 3) := by decide +kernel
theorem dX8_probe_5 : decode cX8_probe 5 = .ok (.iload_n 1, 1) := by decide +kernel
theorem dX8_probe_6 : decode cX8_probe 6 = .ok (.i2l, 1) := by decide +kernel
theorem dX8_probe_7 : decode cX8_probe 7 = .ok (.lconst 0, 1) := by decide +kernel
theorem dX8_probe_8 : decode cX8_probe 8 = .ok (.lconst 1, 1) := by decide +kernel
theorem dX8_probe_9 : decode cX8_probe 9 = .ok (.invokestatic 105, 3) := by decide +kernel
theorem dX8_probe_12 : decode cX8_probe 12 = .ok (.ifCond .ne 5, 3) := by decide +kernel
theorem dX8_probe_15 : decode cX8_probe 15 = .ok (.iconst (-1), 1) := by decide +kernel
theorem dX8_probe_16 : decode cX8_probe 16 = .ok (.ireturn, 1) := by decide +kernel
theorem dX8_probe_17 : decode cX8_probe 17 = .ok (.aload_n 0, 1) := by decide +kernel
theorem dX8_probe_18 : decode cX8_probe 18 = .ok (.iconst 0, 1) := by decide +kernel
theorem dX8_probe_19 : decode cX8_probe 19 = .ok (.invokevirtual 317, 3) := by decide +kernel
theorem dX8_probe_22 : decode cX8_probe 22 = .ok (.istore_n 2, 1) := by decide +kernel
theorem dX8_probe_23 : decode cX8_probe 23 = .ok (.iload_n 2, 1) := by decide +kernel
theorem dX8_probe_24 : decode cX8_probe 24 = .ok (.bipush 20, 2) := by decide +kernel
theorem dX8_probe_26 : decode cX8_probe 26 = .ok (.if_icmp .le 8, 3) := by decide +kernel
theorem dX8_probe_29 : decode cX8_probe 29 = .ok (.bipush 20, 2) := by decide +kernel
theorem dX8_probe_31 : decode cX8_probe 31 = .ok (.goto 4, 3) := by decide +kernel
theorem dX8_probe_34 : decode cX8_probe 34 = .ok (.iload_n 2, 1) := by decide +kernel
theorem dX8_probe_35 : decode cX8_probe 35 = .ok (.istore_n 3, 1) := by decide +kernel
theorem dX8_probe_36 : decode cX8_probe 36 = .ok (.iconst (-1), 1) := by decide +kernel
theorem dX8_probe_37 : decode cX8_probe 37 = .ok (.istore 4, 2) := by decide +kernel
theorem dX8_probe_39 : decode cX8_probe 39 = .ok (.iconst (-1), 1) := by decide +kernel
theorem dX8_probe_40 : decode cX8_probe 40 = .ok (.istore 5, 2) := by decide +kernel
theorem dX8_probe_42 : decode cX8_probe 42 = .ok (.iconst 0, 1) := by decide +kernel
theorem dX8_probe_43 : decode cX8_probe 43 = .ok (.istore 6, 2) := by decide +kernel
theorem dX8_probe_45 : decode cX8_probe 45 = .ok (.iload 6, 2) := by decide +kernel
theorem dX8_probe_47 : decode cX8_probe 47 = .ok (.aload_n 0, 1) := by decide +kernel
theorem dX8_probe_48 : decode cX8_probe 48 = .ok (.getfield 13, 3) := by decide +kernel
theorem dX8_probe_51 : decode cX8_probe 51 = .ok (.iconst 1, 1) := by decide +kernel
theorem dX8_probe_52 : decode cX8_probe 52 = .ok (.iaload, 1) := by decide +kernel
theorem dX8_probe_53 : decode cX8_probe 53 = .ok (.if_icmp .ge 66, 3) := by decide +kernel
theorem dX8_probe_56 : decode cX8_probe 56 = .ok (.iload_n 3, 1) := by decide +kernel
theorem dX8_probe_57 : decode cX8_probe 57 = .ok (.ifCond .le 62, 3) := by decide +kernel
theorem dX8_probe_60 : decode cX8_probe 60 = .ok (.aload_n 0, 1) := by decide +kernel
theorem dX8_probe_61 : decode cX8_probe 61 = .ok (.iload 6, 2) := by decide +kernel
theorem dX8_probe_63 : decode cX8_probe 63 = .ok (.iload_n 3, 1) := by decide +kernel
theorem dX8_probe_64 : decode cX8_probe 64 = .ok (.invokevirtual 335, 3) := by decide +kernel
theorem dX8_probe_67 : decode cX8_probe 67 = .ok (.istore 7, 2) := by decide +kernel
theorem dX8_probe_69 : decode cX8_probe 69 = .ok (.iload 5, 2) := by decide +kernel
theorem dX8_probe_71 : decode cX8_probe 71 = .ok (.iconst (-1), 1) := by decide +kernel
theorem dX8_probe_72 : decode cX8_probe 72 = .ok (.if_icmp .eq 10, 3) := by decide +kernel
theorem dX8_probe_75 : decode cX8_probe 75 = .ok (.iload 7, 2) := by decide +kernel
theorem dX8_probe_77 : decode cX8_probe 77 = .ok (.iload 5, 2) := by decide +kernel
theorem dX8_probe_79 : decode cX8_probe 79 = .ok (.if_icmp .ge 8, 3) := by decide +kernel
theorem dX8_probe_82 : decode cX8_probe 82 = .ok (.iload 6, 2) := by decide +kernel
theorem dX8_probe_84 : decode cX8_probe 84 = .ok (.goto 5, 3) := by decide +kernel
theorem dX8_probe_87 : decode cX8_probe 87 = .ok (.iload 4, 2) := by decide +kernel
theorem dX8_probe_89 : decode cX8_probe 89 = .ok (.istore 4, 2) := by decide +kernel
theorem dX8_probe_91 : decode cX8_probe 91 = .ok (.iload 5, 2) := by decide +kernel
theorem dX8_probe_93 : decode cX8_probe 93 = .ok (.iconst (-1), 1) := by decide +kernel
theorem dX8_probe_94 : decode cX8_probe 94 = .ok (.if_icmp .eq 10, 3) := by decide +kernel
theorem dX8_probe_97 : decode cX8_probe 97 = .ok (.iload 7, 2) := by decide +kernel
theorem dX8_probe_99 : decode cX8_probe 99 = .ok (.iload 5, 2) := by decide +kernel
theorem dX8_probe_101 : decode cX8_probe 101 = .ok (.if_icmp .ge 8, 3) := by decide +kernel
theorem dX8_probe_104 : decode cX8_probe 104 = .ok (.iload 7, 2) := by decide +kernel
theorem dX8_probe_106 : decode cX8_probe 106 = .ok (.goto 5, 3) := by decide +kernel
theorem dX8_probe_109 : decode cX8_probe 109 = .ok (.iload 5, 2) := by decide +kernel
theorem dX8_probe_111 : decode cX8_probe 111 = .ok (.istore 5, 2) := by decide +kernel
theorem dX8_probe_113 : decode cX8_probe 113 = .ok (.iinc 6 1, 3) := by decide +kernel
theorem dX8_probe_116 : decode cX8_probe 116 = .ok (.goto (-71), 3) := by decide +kernel
theorem dX8_probe_119 : decode cX8_probe 119 = .ok (.iload_n 1, 1) := by decide +kernel
theorem dX8_probe_120 : decode cX8_probe 120 = .ok (.ifCond .ne 8, 3) := by decide +kernel
theorem dX8_probe_123 : decode cX8_probe 123 = .ok (.iload 4, 2) := by decide +kernel
theorem dX8_probe_125 : decode cX8_probe 125 = .ok (.goto 5, 3) := by decide +kernel
theorem dX8_probe_128 : decode cX8_probe 128 = .ok (.iload 5, 2) := by decide +kernel
theorem dX8_probe_130 : decode cX8_probe 130 = .ok (.ireturn, 1) := by decide +kernel
noncomputable def qX8_probe_1 : Bx := (band (bc clt (il 6) (iald (fgr 7 3 (rl 0)) (ik 1))) (bz cgt (il 3)))
noncomputable def wX8_probe_1 : Sx := (sseq (scut 7 (sseq (ssi 7 (cvi 7 DX8_leaves (rl 0) (ai (il 6) (ai (il 3) anil)))) (sseq (ssi 4 (ic (bor (bc ceq (il 5) (ik (-1))) (bc clt (il 7) (il 5))) (il 6) (il 4))) (ssi 5 (ic (bor (bc ceq (il 5) (ik (-1))) (bc clt (il 7) (il 5))) (il 7) (il 5)))))) (sinc 6 1))
noncomputable def EX8_probe : Sx := (sseq (fpi 7 0 (rl 0) (ik 0)) (sseq (sif (bnot (bz cne (csz DX8_in (aj (i2l (il 1)) (aj (jk 0) (aj (jk 1) anil)))))) (sret (ik (-1))) snop) (sseq (ssi 2 (cvi 7 DX8_seek (rl 0) (ai (ik 0) anil))) (sseq (ssi 3 (ic (bc cgt (il 2) (ik 20)) (ik 20) (il 2))) (sseq (ssi 4 (ik (-1))) (sseq (ssi 5 (ik (-1))) (sseq (scut 6 (sseq (ssi 6 (ik 0)) (swh qX8_probe_1 wX8_probe_1))) (sret (ic (bz ceq (il 1)) (il 4) (il 5))))))))))
noncomputable def DX8_probe : Fi := mfi 8 EX8_probe
set_option maxRecDepth 4000 in
theorem BX8_probe : Vs RX8 cX8_probe 8 (rmk 8 186) 0 0 EX8_probe := (v_seq (v_fpi kX8 lk995 (by decide) rfl rfl (by decide +kernel) (v_aload_n (i := 0) dX8_probe_0 rfl (rfl : 0 + 1 = 1)) (v_iconst (v := 0) dX8_probe_1 (by decide) (rfl : 1 + 1 = 2)) dX8_probe_2 (rfl : 2 + 3 = 5)) (v_seq (v_if (v_not (v_zne_t (v_csz IX8_in hX8_in lk1120 ⟨by decide, by decide⟩ (by decide) (v_aj (v_i2l (v_iload_n (i := 1) dX8_probe_5 rfl (rfl : 5 + 1 = 6)) dX8_probe_6 (rfl : 6 + 1 = 7)) (v_aj (v_lconst (v := 0) dX8_probe_7 (by decide) (rfl : 7 + 1 = 8)) (v_aj (v_lconst (v := 1) dX8_probe_8 (by decide) (rfl : 8 + 1 = 9)) v_anil))) dX8_probe_9 (rfl : 9 + 3 = 12)) dX8_probe_12 (rfl : ((12 : Nat) : Int) + 5 = ((17 : Nat) : Int)) (rfl : 12 + 3 = 15))) (v_ret (v_iconst (v := (-1)) dX8_probe_15 (by decide) (rfl : 15 + 1 = 16)) dX8_probe_16) v_nop) (v_seq (v_istore_n (i := 2) (v_cvi kX8 IX8_seek hX8_seek lk1401 ⟨by decide, by decide⟩ (by decide) (v_aload_n (i := 0) dX8_probe_17 rfl (rfl : 17 + 1 = 18)) (v_ai (v_iconst (v := 0) dX8_probe_18 (by decide) (rfl : 18 + 1 = 19)) v_anil) dX8_probe_19 (rfl : 19 + 3 = 22)) dX8_probe_22 rfl (by decide) (rfl : 22 + 1 = 23)) (v_seq (v_istore_n (i := 3) (v_ic (v_igt_f (v_iload_n (i := 2) dX8_probe_23 rfl (rfl : 23 + 1 = 24)) (v_bipush (v := 20) dX8_probe_24 (by decide) (rfl : 24 + 2 = 26)) dX8_probe_26 (rfl : ((26 : Nat) : Int) + 8 = ((34 : Nat) : Int)) (rfl : 26 + 3 = 29)) (vi_goto (v_bipush (v := 20) dX8_probe_29 (by decide) (rfl : 29 + 2 = 31)) dX8_probe_31 (rfl : ((31 : Nat) : Int) + 4 = ((35 : Nat) : Int))) (v_iload_n (i := 2) dX8_probe_34 rfl (rfl : 34 + 1 = 35))) dX8_probe_35 rfl (by decide) (rfl : 35 + 1 = 36)) (v_seq (v_istore (i := 4) (v_iconst (v := (-1)) dX8_probe_36 (by decide) (rfl : 36 + 1 = 37)) dX8_probe_37 (by decide) (rfl : 37 + 2 = 39)) (v_seq (v_istore (i := 5) (v_iconst (v := (-1)) dX8_probe_39 (by decide) (rfl : 39 + 1 = 40)) dX8_probe_40 (by decide) (rfl : 40 + 2 = 42)) (v_seq (v_cut (n := 6) (v_seq (v_istore (i := 6) (v_iconst (v := 0) dX8_probe_42 (by decide) (rfl : 42 + 1 = 43)) dX8_probe_43 (by decide) (rfl : 43 + 2 = 45)) (v_wh (v_and (v_ilt_f (v_iload (i := 6) dX8_probe_45 (rfl : 45 + 2 = 47)) (v_iald (v_gfr kX8 lk998 (by decide) rfl (v_aload_n (i := 0) dX8_probe_47 rfl (rfl : 47 + 1 = 48)) dX8_probe_48 (rfl : 48 + 3 = 51)) (v_iconst (v := 1) dX8_probe_51 (by decide) (rfl : 51 + 1 = 52)) dX8_probe_52 (rfl : 52 + 1 = 53)) dX8_probe_53 (rfl : ((53 : Nat) : Int) + 66 = ((119 : Nat) : Int)) (rfl : 53 + 3 = 56)) (v_zgt_f (v_iload_n (i := 3) dX8_probe_56 rfl (rfl : 56 + 1 = 57)) dX8_probe_57 (rfl : ((57 : Nat) : Int) + 62 = ((119 : Nat) : Int)) (rfl : 57 + 3 = 60))) (vs_goto (v_seq (v_cut (n := 7) (v_seq (v_istore (i := 7) (v_cvi kX8 IX8_leaves hX8_leaves lk1421 ⟨by decide, by decide⟩ (by decide) (v_aload_n (i := 0) dX8_probe_60 rfl (rfl : 60 + 1 = 61)) (v_ai (v_iload (i := 6) dX8_probe_61 (rfl : 61 + 2 = 63)) (v_ai (v_iload_n (i := 3) dX8_probe_63 rfl (rfl : 63 + 1 = 64)) v_anil)) dX8_probe_64 (rfl : 64 + 3 = 67)) dX8_probe_67 (by decide) (rfl : 67 + 2 = 69)) (v_seq (v_istore (i := 4) (v_ic (v_or (v_ieq_t (v_iload (i := 5) dX8_probe_69 (rfl : 69 + 2 = 71)) (v_iconst (v := (-1)) dX8_probe_71 (by decide) (rfl : 71 + 1 = 72)) dX8_probe_72 (rfl : ((72 : Nat) : Int) + 10 = ((82 : Nat) : Int)) (rfl : 72 + 3 = 75)) (v_ilt_f (v_iload (i := 7) dX8_probe_75 (rfl : 75 + 2 = 77)) (v_iload (i := 5) dX8_probe_77 (rfl : 77 + 2 = 79)) dX8_probe_79 (rfl : ((79 : Nat) : Int) + 8 = ((87 : Nat) : Int)) (rfl : 79 + 3 = 82))) (vi_goto (v_iload (i := 6) dX8_probe_82 (rfl : 82 + 2 = 84)) dX8_probe_84 (rfl : ((84 : Nat) : Int) + 5 = ((89 : Nat) : Int))) (v_iload (i := 4) dX8_probe_87 (rfl : 87 + 2 = 89))) dX8_probe_89 (by decide) (rfl : 89 + 2 = 91)) (v_istore (i := 5) (v_ic (v_or (v_ieq_t (v_iload (i := 5) dX8_probe_91 (rfl : 91 + 2 = 93)) (v_iconst (v := (-1)) dX8_probe_93 (by decide) (rfl : 93 + 1 = 94)) dX8_probe_94 (rfl : ((94 : Nat) : Int) + 10 = ((104 : Nat) : Int)) (rfl : 94 + 3 = 97)) (v_ilt_f (v_iload (i := 7) dX8_probe_97 (rfl : 97 + 2 = 99)) (v_iload (i := 5) dX8_probe_99 (rfl : 99 + 2 = 101)) dX8_probe_101 (rfl : ((101 : Nat) : Int) + 8 = ((109 : Nat) : Int)) (rfl : 101 + 3 = 104))) (vi_goto (v_iload (i := 7) dX8_probe_104 (rfl : 104 + 2 = 106)) dX8_probe_106 (rfl : ((106 : Nat) : Int) + 5 = ((111 : Nat) : Int))) (v_iload (i := 5) dX8_probe_109 (rfl : 109 + 2 = 111))) dX8_probe_111 (by decide) (rfl : 111 + 2 = 113))))) (v_iinc (v := 1) dX8_probe_113 (by decide) (by decide) (rfl : 113 + 3 = 116))) dX8_probe_116 (rfl : ((116 : Nat) : Int) + (-71) = ((45 : Nat) : Int)))))) (v_ret (v_ic (v_zeq_f (v_iload_n (i := 1) dX8_probe_119 rfl (rfl : 119 + 1 = 120)) dX8_probe_120 (rfl : ((120 : Nat) : Int) + 8 = ((128 : Nat) : Int)) (rfl : 120 + 3 = 123)) (vi_goto (v_iload (i := 4) dX8_probe_123 (rfl : 123 + 2 = 125)) dX8_probe_125 (rfl : ((125 : Nat) : Int) + 5 = ((130 : Nat) : Int))) (v_iload (i := 5) dX8_probe_128 (rfl : 128 + 2 = 130))) dX8_probe_130))))))))
theorem IX8_probe : Mi yX8_probe cX8_probe 8 (rmk 8 186) DX8_probe := mk_i (by decide +kernel) BX8_probe
