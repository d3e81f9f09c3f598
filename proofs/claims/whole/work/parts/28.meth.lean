theorem dX8_pump_0 : decode cX8_pump 0 = .ok (.aload_n 0, 1) := by decide +kernel
theorem dX8_pump_1 : decode cX8_pump 1 = .ok (.iconst 0, 1) := by decide +kernel
theorem dX8_pump_2 : decode cX8_pump 2 = .ok (.putfield 84, 3) := by decide +kernel
theorem dX8_pump_5 : decode cX8_pump 5 = .ok (.iload_n 2, 1) := by decide +kernel
theorem dX8_pump_6 : decode cX8_pump 6 = .ok (.i2l, 1) := by decide +kernel
theorem dX8_pump_7 : decode cX8_pump 7 = .ok (.lconst 1, 1) := by decide +kernel
theorem dX8_pump_8 : decode cX8_pump 8 = .ok (.ldc2_w 149, 3) := by decide +kernel
theorem dX8_pump_11 : decode cX8_pump 11 = .ok (.invokestatic 105, 3) := by decide +kernel
theorem dX8_pump_14 : decode cX8_pump 14 = .ok (.ifCond .ne 9, 3) := by decide +kernel
theorem dX8_pump_17 : decode cX8_pump 17 = .ok (.aload_n 0, 1) := by decide +kernel
theorem dX8_pump_18 : decode cX8_pump 18 = .ok (.iconst (-1), 1) := by decide +kernel
theorem dX8_pump_19 : decode cX8_pump 19 = .ok (.invokevirtual 98, 3) := by decide +kernel
theorem dX8_pump_22 : decode cX8_pump 22 = .ok (.ireturn, 1) := by decide +kernel
theorem dX8_pump_23 : decode cX8_pump 23 = .ok (.aload_n 0, 1) := by decide +kernel
theorem dX8_pump_24 : decode cX8_pump 24 = .ok (.iload_n 1, 1) := by decide +kernel
theorem dX8_pump_25 : decode cX8_pump 25 = .ok (.invokevirtual 109, 3) := by decide +kernel
theorem dX8_pump_28 : decode cX8_pump 28 = .ok (.ifCond .ne 10, 3) := by decide +kernel
theorem dX8_pump_31 : decode cX8_pump 31 = .ok (.aload_n 0, 1) := by decide +kernel
theorem dX8_pump_32 : decode cX8_pump 32 = .ok (.bipush (-2), 2) := by decide +kernel
theorem dX8_pump_34 : decode cX8_pump 34 = .ok (.invokevirtual 98, 3) := by decide +kernel
theorem dX8_pump_37 : decode cX8_pump 37 = .ok (.ireturn, 1) := by decide +kernel
theorem dX8_pump_38 : decode cX8_pump 38 = .ok (.aload_n 0, 1) := by decide +kernel
theorem dX8_pump_39 : decode cX8_pump 39 = .ok (.getfield 13, 3) := by decide +kernel
theorem dX8_pump_42 : decode cX8_pump 42 = .ok (.iconst 2, 1) := by decide +kernel
theorem dX8_pump_43 : decode cX8_pump 43 = .ok (.iaload, 1) := by decide +kernel
theorem dX8_pump_44 : decode cX8_pump 44 = .ok (.istore_n 3, 1) := by decide +kernel
theorem dX8_pump_45 : decode cX8_pump 45 = .ok (.iload_n 3, 1) := by decide +kernel
theorem dX8_pump_46 : decode cX8_pump 46 = .ok (.iconst 3, 1) := by decide +kernel
theorem dX8_pump_47 : decode cX8_pump 47 = .ok (.if_icmp .eq 15, 3) := by decide +kernel
theorem dX8_pump_50 : decode cX8_pump 50 = .ok (.aload_n 0, 1) := by decide +kernel
theorem dX8_pump_51 : decode cX8_pump 51 = .ok (.iload_n 1, 1) := by decide +kernel
theorem dX8_pump_52 : decode cX8_pump 52 = .ok (.invokevirtual 146, 3) := by decide +kernel
theorem dX8_pump_55 : decode cX8_pump 55 = .ok (.iload_n 2, 1) := by decide +kernel
theorem dX8_pump_56 : decode cX8_pump 56 = .ok (.iadd, 1) := by decide +kernel
theorem dX8_pump_57 : decode cX8_pump 57 = .ok (.bipush 120, 2) := by decide +kernel
theorem dX8_pump_59 : decode cX8_pump 59 = .ok (.if_icmp .le 10, 3) := by decide +kernel
theorem dX8_pump_62 : decode cX8_pump 62 = .ok (.aload_n 0, 1) := by decide +kernel
theorem dX8_pump_63 : decode cX8_pump 63 = .ok (.bipush (-5), 2) := by decide +kernel
theorem dX8_pump_65 : decode cX8_pump 65 = .ok (.invokevirtual 98, 3) := by decide +kernel
theorem dX8_pump_68 : decode cX8_pump 68 = .ok (.ireturn, 1) := by decide +kernel
theorem dX8_pump_69 : decode cX8_pump 69 = .ok (.aload_n 0, 1) := by decide +kernel
theorem dX8_pump_70 : decode cX8_pump 70 = .ok (.iconst 2, 1) := by decide +kernel
theorem dX8_pump_71 : decode cX8_pump 71 = .ok (.invokevirtual 136, 3) := by decide +kernel
theorem dX8_pump_74 : decode cX8_pump 74 = .ok (.iload_n 3, 1) := by decide +kernel
theorem dX8_pump_75 : decode cX8_pump 75 = .ok (.invokestatic 119, 3) := by decide +kernel
theorem dX8_pump_78 : decode cX8_pump 78 = .ok (.istore 4, 2) := by decide +kernel
theorem dX8_pump_80 : decode cX8_pump 80 = .ok (.aload_n 0, 1) := by decide +kernel
theorem dX8_pump_81 : decode cX8_pump 81 = .ok (.getfield 13, 3) := by decide +kernel
theorem dX8_pump_84 : decode cX8_pump 84 = .ok (.iload 4, 2) := by decide +kernel
theorem dX8_pump_86 : decode cX8_pump 86 = .ok (.iload_n 1, 1) := by decide +kernel
theorem dX8_pump_87 : decode cX8_pump 87 = .ok (.iastore, 1) := by decide +kernel
theorem dX8_pump_88 : decode cX8_pump 88 = .ok (.aload_n 0, 1) := by decide +kernel
theorem dX8_pump_89 : decode cX8_pump 89 = .ok (.getfield 13, 3) := by decide +kernel
theorem dX8_pump_92 : decode cX8_pump 92 = .ok (.iload 4, 2) := by decide +kernel
theorem dX8_pump_94 : decode cX8_pump 94 = .ok (.iconst 1, 1) := by decide +kernel
theorem dX8_pump_95 : decode cX8_pump 95 = .ok (.iadd, 1) := by decide +kernel
theorem dX8_pump_96 : decode cX8_pump 96 = .ok (.iconst 1, 1) := by decide +kernel
theorem dX8_pump_97 : decode cX8_pump 97 = .ok (.iastore, 1) := by decide +kernel
theorem dX8_pump_98 : decode cX8_pump 98 = .ok (.iconst 0, 1) := by decide +kernel
theorem dX8_pump_99 : decode cX8_pump 99 = .ok (.istore 5, 2) := by decide +kernel
theorem dX8_pump_101 : decode cX8_pump 101 = .ok (.iload 5, 2) := by decide +kernel
theorem dX8_pump_103 : decode cX8_pump 103 = .ok (.iconst 3, 1) := by decide +kernel
theorem dX8_pump_104 : decode cX8_pump 104 = .ok (.if_icmp .ge 22, 3) := by decide +kernel
theorem dX8_pump_107 : decode cX8_pump 107 = .ok (.aload_n 0, 1) := by decide +kernel
theorem dX8_pump_108 : decode cX8_pump 108 = .ok (.getfield 13, 3) := by decide +kernel
theorem dX8_pump_111 : decode cX8_pump 111 = .ok (.iload 4, 2) := by decide +kernel
theorem dX8_pump_113 : decode cX8_pump 113 = .ok (.iconst 2, 1) := by decide +kernel
theorem dX8_pump_114 : decode cX8_pump 114 = .ok (.iadd, 1) := by decide +kernel
theorem dX8_pump_115 : decode cX8_pump 115 = .ok (.iload 5, 2) := by decide +kernel
theorem dX8_pump_117 : decode cX8_pump 117 = .ok (.iadd, 1) := by decide +kernel
theorem dX8_pump_118 : decode cX8_pump 118 = .ok (.iload_n 2, 1) := by decide +kernel
theorem dX8_pump_119 : decode cX8_pump 119 = .ok (.iastore, 1) := by decide +kernel
theorem dX8_pump_120 : decode cX8_pump 120 = .ok (.iinc 5 1, 3) := by decide +kernel
theorem dX8_pump_123 : decode cX8_pump 123 = .ok (.goto (-22), 3) := by decide +kernel
theorem dX8_pump_126 : decode cX8_pump 126 = .ok (.aload_n 0, 1) := by decide +kernel
theorem dX8_pump_127 : decode cX8_pump 127 = .ok (.getfield 13, 3) := by decide +kernel
theorem dX8_pump_130 : decode cX8_pump 130 = .ok (.iload 4, 2) := by decide +kernel
theorem dX8_pump_132 : decode cX8_pump 132 = .ok (.iconst 5, 1) := by decide +kernel
theorem dX8_pump_133 : decode cX8_pump 133 = .ok (.iadd, 1) := by decide +kernel
theorem dX8_pump_134 : decode cX8_pump 134 = .ok (.iconst 1, 1) := by decide +kernel
theorem dX8_pump_135 : decode cX8_pump 135 = .ok (.iastore, 1) := by decide +kernel
theorem dX8_pump_136 : decode cX8_pump 136 = .ok (.aload_n 0, 1) := by decide +kernel
theorem dX8_pump_137 : decode cX8_pump 137 = .ok (.getfield 13, 3) := by decide +kernel
theorem dX8_pump_140 : decode cX8_pump 140 = .ok (.iload 4, 2) := by decide +kernel
theorem dX8_pump_142 : decode cX8_pump 142 = .ok (.iconst 5, 1) := by decide +kernel
theorem dX8_pump_143 : decode cX8_pump 143 = .ok (.iadd, 1) := by decide +kernel
theorem dX8_pump_144 : decode cX8_pump 144 = .ok (.iconst 1, 1) := by decide +kernel
theorem dX8_pump_145 : decode cX8_pump 145 = .ok (.iadd, 1) := by decide +kernel
theorem dX8_pump_146 : decode cX8_pump 146 = .ok (.iconst 2, 1) := by decide +kernel
theorem dX8_pump_147 : decode cX8_pump 147 = .ok (.iastore, 1) := by decide +kernel
theorem dX8_pump_148 : decode cX8_pump 148 = .ok (.aload_n 0, 1) := by decide +kernel
theorem dX8_pump_149 : decode cX8_pump 149 = .ok (.getfield 13, 3) := by decide +kernel
theorem dX8_pump_152 : decode cX8_pump 152 = .ok (.iload 4, 2) := by decide +kernel
theorem dX8_pump_154 : decode cX8_pump 154 = .ok (.bipush 7, 2) := by decide +kernel
theorem dX8_pump_156 : decode cX8_pump 156 = .ok (.iadd, 1) := by decide +kernel
theorem dX8_pump_157 : decode cX8_pump 157 = .ok (.iconst 0, 1) := by decide +kernel
theorem dX8_pump_158 : decode cX8_pump 158 = .ok (.iastore, 1) := by decide +kernel
theorem dX8_pump_159 : decode cX8_pump 159 = .ok (.aload_n 0, 1) := by decide +kernel
theorem dX8_pump_160 : decode cX8_pump 160 = .ok (.getfield 13, 3) := by decide +kernel
theorem dX8_pump_163 : decode cX8_pump 163 = .ok (.iload 4, 2) := by decide +kernel
theorem dX8_pump_165 : decode cX8_pump 165 = .ok (.bipush 8, 2) := by decide +kernel
theorem dX8_pump_167 : decode cX8_pump 167 = .ok (.iadd, 1) := by decide +kernel
theorem dX8_pump_168 : decode cX8_pump 168 = .ok (.iconst 0, 1) := by decide +kernel
theorem dX8_pump_169 : decode cX8_pump 169 = .ok (.iastore, 1) := by decide +kernel
theorem dX8_pump_170 : decode cX8_pump 170 = .ok (.aload_n 0, 1) := by decide +kernel
theorem dX8_pump_171 : decode cX8_pump 171 = .ok (.getfield 13, 3) := by decide +kernel
theorem dX8_pump_174 : decode cX8_pump 174 = .ok (.iconst 2, 1) := by decide +kernel
theorem dX8_pump_175 : decode cX8_pump 175 = .ok (.dup2, 1) := by decide +kernel
theorem dX8_pump_176 : decode cX8_pump 176 = .ok (.iaload, 1) := by decide +kernel
theorem dX8_pump_177 : decode cX8_pump 177 = .ok (.iconst 1, 1) := by decide +kernel
theorem dX8_pump_178 : decode cX8_pump 178 = .ok (.iadd, 1) := by decide +kernel
theorem dX8_pump_179 : decode cX8_pump 179 = .ok (.iastore, 1) := by decide +kernel
theorem dX8_pump_180 : decode cX8_pump 180 = .ok (.aload_n 0, 1) := by decide +kernel
theorem dX8_pump_181 : decode cX8_pump 181 = .ok (.iload_n 3, 1) := by decide +kernel
theorem dX8_pump_182 : decode cX8_pump 182 = .ok (.invokevirtual 102, 3) := by decide +kernel
theorem dX8_pump_185 : decode cX8_pump 185 = .ok (.ireturn, 1) := by decide +kernel
noncomputable def qX8_pump_1 : Bx := (bc clt (il 5) (ik 3))
noncomputable def wX8_pump_1 : Sx := (sseq (aii (fgr 7 3 (rl 0)) (i2 (· + ·) (i2 (· + ·) (il 4) (ik 2)) (il 5)) (il 2)) (sinc 5 1))
noncomputable def EX8_pump : Sx := (sseq (fpi 7 0 (rl 0) (ik 0)) (sseq (sif (bnot (bz cne (csz DX8_in (aj (i2l (il 2)) (aj (jk 1) (aj (jk 40) anil)))))) (sret (cvi 7 DX8_refuse (rl 0) (ai (ik (-1)) anil))) snop) (sseq (sif (bnot (bz cne (cvz 7 DX8_isChamber (rl 0) (ai (il 1) anil)))) (sret (cvi 7 DX8_refuse (rl 0) (ai (ik (-2)) anil))) snop) (sseq (ssi 3 (iald (fgr 7 3 (rl 0)) (ik 2))) (sseq (sif (bor (bc ceq (il 3) (ik 3)) (bc cgt (i2 (· + ·) (cvi 7 DX8_weight (rl 0) (ai (il 1) anil)) (il 2)) (ik 120))) (sret (cvi 7 DX8_refuse (rl 0) (ai (ik (-5)) anil))) snop) (sseq (scv 7 DX8_remember (rl 0) (ai (ik 2) anil)) (sseq (ssi 4 (csi DX8_pumpAt (ai (il 3) anil))) (sseq (aii (fgr 7 3 (rl 0)) (il 4) (il 1)) (sseq (aii (fgr 7 3 (rl 0)) (i2 (· + ·) (il 4) (ik 1)) (ik 1)) (sseq (scut 5 (sseq (ssi 5 (ik 0)) (swh qX8_pump_1 wX8_pump_1))) (sseq (aii (fgr 7 3 (rl 0)) (i2 (· + ·) (il 4) (ik 5)) (ik 1)) (sseq (aii (fgr 7 3 (rl 0)) (i2 (· + ·) (i2 (· + ·) (il 4) (ik 5)) (ik 1)) (ik 2)) (sseq (aii (fgr 7 3 (rl 0)) (i2 (· + ·) (il 4) (ik 7)) (ik 0)) (sseq (aii (fgr 7 3 (rl 0)) (i2 (· + ·) (il 4) (ik 8)) (ik 0)) (sseq (aoi (· + ·) (fgr 7 3 (rl 0)) (ik 2) (ik 1)) (sret (cvi 7 DX8_tell (rl 0) (ai (il 3) anil))))))))))))))))))
noncomputable def DX8_pump : Fi := mfi 6 EX8_pump
set_option maxRecDepth 4000 in
theorem BX8_pump : Vs RX8 cX8_pump 6 (rmk 3 67) 0 0 EX8_pump := (v_seq (v_fpi kX8 lk995 (by decide) rfl rfl (by decide +kernel) (v_aload_n (i := 0) dX8_pump_0 rfl (rfl : 0 + 1 = 1)) (v_iconst (v := 0) dX8_pump_1 (by decide) (rfl : 1 + 1 = 2)) dX8_pump_2 (rfl : 2 + 3 = 5)) (v_seq (v_if (v_not (v_zne_t (v_csz IX8_in hX8_in lk1120 ⟨by decide, by decide⟩ (by decide) (v_aj (v_i2l (v_iload_n (i := 2) dX8_pump_5 rfl (rfl : 5 + 1 = 6)) dX8_pump_6 (rfl : 6 + 1 = 7)) (v_aj (v_lconst (v := 1) dX8_pump_7 (by decide) (rfl : 7 + 1 = 8)) (v_aj (v_ldc2 (v := 40) lk1174 dX8_pump_8 (rfl : 8 + 3 = 11)) v_anil))) dX8_pump_11 (rfl : 11 + 3 = 14)) dX8_pump_14 (rfl : ((14 : Nat) : Int) + 9 = ((23 : Nat) : Int)) (rfl : 14 + 3 = 17))) (v_ret (v_cvi kX8 IX8_refuse hX8_refuse lk1105 ⟨by decide, by decide⟩ (by decide) (v_aload_n (i := 0) dX8_pump_17 rfl (rfl : 17 + 1 = 18)) (v_ai (v_iconst (v := (-1)) dX8_pump_18 (by decide) (rfl : 18 + 1 = 19)) v_anil) dX8_pump_19 (rfl : 19 + 3 = 22)) dX8_pump_22) v_nop) (v_seq (v_if (v_not (v_zne_t (v_cvz kX8 IX8_isChamber hX8_isChamber lk1145 ⟨by decide, by decide⟩ (by decide) (v_aload_n (i := 0) dX8_pump_23 rfl (rfl : 23 + 1 = 24)) (v_ai (v_iload_n (i := 1) dX8_pump_24 rfl (rfl : 24 + 1 = 25)) v_anil) dX8_pump_25 (rfl : 25 + 3 = 28)) dX8_pump_28 (rfl : ((28 : Nat) : Int) + 10 = ((38 : Nat) : Int)) (rfl : 28 + 3 = 31))) (v_ret (v_cvi kX8 IX8_refuse hX8_refuse lk1105 ⟨by decide, by decide⟩ (by decide) (v_aload_n (i := 0) dX8_pump_31 rfl (rfl : 31 + 1 = 32)) (v_ai (v_bipush (v := (-2)) dX8_pump_32 (by decide) (rfl : 32 + 2 = 34)) v_anil) dX8_pump_34 (rfl : 34 + 3 = 37)) dX8_pump_37) v_nop) (v_seq (v_istore_n (i := 3) (v_iald (v_gfr kX8 lk998 (by decide) rfl (v_aload_n (i := 0) dX8_pump_38 rfl (rfl : 38 + 1 = 39)) dX8_pump_39 (rfl : 39 + 3 = 42)) (v_iconst (v := 2) dX8_pump_42 (by decide) (rfl : 42 + 1 = 43)) dX8_pump_43 (rfl : 43 + 1 = 44)) dX8_pump_44 rfl (by decide) (rfl : 44 + 1 = 45)) (v_seq (v_if (v_or (v_ieq_t (v_iload_n (i := 3) dX8_pump_45 rfl (rfl : 45 + 1 = 46)) (v_iconst (v := 3) dX8_pump_46 (by decide) (rfl : 46 + 1 = 47)) dX8_pump_47 (rfl : ((47 : Nat) : Int) + 15 = ((62 : Nat) : Int)) (rfl : 47 + 3 = 50)) (v_igt_f (v_iadd (v_cvi kX8 IX8_weight hX8_weight lk1152 ⟨by decide, by decide⟩ (by decide) (v_aload_n (i := 0) dX8_pump_50 rfl (rfl : 50 + 1 = 51)) (v_ai (v_iload_n (i := 1) dX8_pump_51 rfl (rfl : 51 + 1 = 52)) v_anil) dX8_pump_52 (rfl : 52 + 3 = 55)) (v_iload_n (i := 2) dX8_pump_55 rfl (rfl : 55 + 1 = 56)) dX8_pump_56 (rfl : 56 + 1 = 57)) (v_bipush (v := 120) dX8_pump_57 (by decide) (rfl : 57 + 2 = 59)) dX8_pump_59 (rfl : ((59 : Nat) : Int) + 10 = ((69 : Nat) : Int)) (rfl : 59 + 3 = 62))) (v_ret (v_cvi kX8 IX8_refuse hX8_refuse lk1105 ⟨by decide, by decide⟩ (by decide) (v_aload_n (i := 0) dX8_pump_62 rfl (rfl : 62 + 1 = 63)) (v_ai (v_bipush (v := (-5)) dX8_pump_63 (by decide) (rfl : 63 + 2 = 65)) v_anil) dX8_pump_65 (rfl : 65 + 3 = 68)) dX8_pump_68) v_nop) (v_seq (v_scv kX8 IX8_remember hX8_remember lk1133 ⟨by decide, by decide⟩ (v_aload_n (i := 0) dX8_pump_69 rfl (rfl : 69 + 1 = 70)) (v_ai (v_iconst (v := 2) dX8_pump_70 (by decide) (rfl : 70 + 1 = 71)) v_anil) dX8_pump_71 (rfl : 71 + 3 = 74)) (v_seq (v_istore (i := 4) (v_csi IX8_pumpAt hX8_pumpAt lk1163 ⟨by decide, by decide⟩ (by decide) (v_ai (v_iload_n (i := 3) dX8_pump_74 rfl (rfl : 74 + 1 = 75)) v_anil) dX8_pump_75 (rfl : 75 + 3 = 78)) dX8_pump_78 (by decide) (rfl : 78 + 2 = 80)) (v_seq (v_aii (v_gfr kX8 lk998 (by decide) rfl (v_aload_n (i := 0) dX8_pump_80 rfl (rfl : 80 + 1 = 81)) dX8_pump_81 (rfl : 81 + 3 = 84)) (v_iload (i := 4) dX8_pump_84 (rfl : 84 + 2 = 86)) (v_iload_n (i := 1) dX8_pump_86 rfl (rfl : 86 + 1 = 87)) dX8_pump_87 (rfl : 87 + 1 = 88)) (v_seq (v_aii (v_gfr kX8 lk998 (by decide) rfl (v_aload_n (i := 0) dX8_pump_88 rfl (rfl : 88 + 1 = 89)) dX8_pump_89 (rfl : 89 + 3 = 92)) (v_iadd (v_iload (i := 4) dX8_pump_92 (rfl : 92 + 2 = 94)) (v_iconst (v := 1) dX8_pump_94 (by decide) (rfl : 94 + 1 = 95)) dX8_pump_95 (rfl : 95 + 1 = 96)) (v_iconst (v := 1) dX8_pump_96 (by decide) (rfl : 96 + 1 = 97)) dX8_pump_97 (rfl : 97 + 1 = 98)) (v_seq (v_cut (n := 5) (v_seq (v_istore (i := 5) (v_iconst (v := 0) dX8_pump_98 (by decide) (rfl : 98 + 1 = 99)) dX8_pump_99 (by decide) (rfl : 99 + 2 = 101)) (v_wh (v_ilt_f (v_iload (i := 5) dX8_pump_101 (rfl : 101 + 2 = 103)) (v_iconst (v := 3) dX8_pump_103 (by decide) (rfl : 103 + 1 = 104)) dX8_pump_104 (rfl : ((104 : Nat) : Int) + 22 = ((126 : Nat) : Int)) (rfl : 104 + 3 = 107)) (vs_goto (v_seq (v_aii (v_gfr kX8 lk998 (by decide) rfl (v_aload_n (i := 0) dX8_pump_107 rfl (rfl : 107 + 1 = 108)) dX8_pump_108 (rfl : 108 + 3 = 111)) (v_iadd (v_iadd (v_iload (i := 4) dX8_pump_111 (rfl : 111 + 2 = 113)) (v_iconst (v := 2) dX8_pump_113 (by decide) (rfl : 113 + 1 = 114)) dX8_pump_114 (rfl : 114 + 1 = 115)) (v_iload (i := 5) dX8_pump_115 (rfl : 115 + 2 = 117)) dX8_pump_117 (rfl : 117 + 1 = 118)) (v_iload_n (i := 2) dX8_pump_118 rfl (rfl : 118 + 1 = 119)) dX8_pump_119 (rfl : 119 + 1 = 120)) (v_iinc (v := 1) dX8_pump_120 (by decide) (by decide) (rfl : 120 + 3 = 123))) dX8_pump_123 (rfl : ((123 : Nat) : Int) + (-22) = ((101 : Nat) : Int)))))) (v_seq (v_aii (v_gfr kX8 lk998 (by decide) rfl (v_aload_n (i := 0) dX8_pump_126 rfl (rfl : 126 + 1 = 127)) dX8_pump_127 (rfl : 127 + 3 = 130)) (v_iadd (v_iload (i := 4) dX8_pump_130 (rfl : 130 + 2 = 132)) (v_iconst (v := 5) dX8_pump_132 (by decide) (rfl : 132 + 1 = 133)) dX8_pump_133 (rfl : 133 + 1 = 134)) (v_iconst (v := 1) dX8_pump_134 (by decide) (rfl : 134 + 1 = 135)) dX8_pump_135 (rfl : 135 + 1 = 136)) (v_seq (v_aii (v_gfr kX8 lk998 (by decide) rfl (v_aload_n (i := 0) dX8_pump_136 rfl (rfl : 136 + 1 = 137)) dX8_pump_137 (rfl : 137 + 3 = 140)) (v_iadd (v_iadd (v_iload (i := 4) dX8_pump_140 (rfl : 140 + 2 = 142)) (v_iconst (v := 5) dX8_pump_142 (by decide) (rfl : 142 + 1 = 143)) dX8_pump_143 (rfl : 143 + 1 = 144)) (v_iconst (v := 1) dX8_pump_144 (by decide) (rfl : 144 + 1 = 145)) dX8_pump_145 (rfl : 145 + 1 = 146)) (v_iconst (v := 2) dX8_pump_146 (by decide) (rfl : 146 + 1 = 147)) dX8_pump_147 (rfl : 147 + 1 = 148)) (v_seq (v_aii (v_gfr kX8 lk998 (by decide) rfl (v_aload_n (i := 0) dX8_pump_148 rfl (rfl : 148 + 1 = 149)) dX8_pump_149 (rfl : 149 + 3 = 152)) (v_iadd (v_iload (i := 4) dX8_pump_152 (rfl : 152 + 2 = 154)) (v_bipush (v := 7) dX8_pump_154 (by decide) (rfl : 154 + 2 = 156)) dX8_pump_156 (rfl : 156 + 1 = 157)) (v_iconst (v := 0) dX8_pump_157 (by decide) (rfl : 157 + 1 = 158)) dX8_pump_158 (rfl : 158 + 1 = 159)) (v_seq (v_aii (v_gfr kX8 lk998 (by decide) rfl (v_aload_n (i := 0) dX8_pump_159 rfl (rfl : 159 + 1 = 160)) dX8_pump_160 (rfl : 160 + 3 = 163)) (v_iadd (v_iload (i := 4) dX8_pump_163 (rfl : 163 + 2 = 165)) (v_bipush (v := 8) dX8_pump_165 (by decide) (rfl : 165 + 2 = 167)) dX8_pump_167 (rfl : 167 + 1 = 168)) (v_iconst (v := 0) dX8_pump_168 (by decide) (rfl : 168 + 1 = 169)) dX8_pump_169 (rfl : 169 + 1 = 170)) (v_seq (v_aoi_iadd (v_gfr kX8 lk998 (by decide) rfl (v_aload_n (i := 0) dX8_pump_170 rfl (rfl : 170 + 1 = 171)) dX8_pump_171 (rfl : 171 + 3 = 174)) (v_iconst (v := 2) dX8_pump_174 (by decide) (rfl : 174 + 1 = 175)) dX8_pump_175 dX8_pump_176 (rfl : 175 + 1 + 1 = 177) (v_iconst (v := 1) dX8_pump_177 (by decide) (rfl : 177 + 1 = 178)) dX8_pump_178 dX8_pump_179 (rfl : 178 + 1 + 1 = 180)) (v_ret (v_cvi kX8 IX8_tell hX8_tell lk1112 ⟨by decide, by decide⟩ (by decide) (v_aload_n (i := 0) dX8_pump_180 rfl (rfl : 180 + 1 = 181)) (v_ai (v_iload_n (i := 3) dX8_pump_181 rfl (rfl : 181 + 1 = 182)) v_anil) dX8_pump_182 (rfl : 182 + 3 = 185)) dX8_pump_185))))))))))))))))
theorem IX8_pump : Mi yX8_pump cX8_pump 6 (rmk 3 67) DX8_pump := mk_i (by decide +kernel) BX8_pump

theorem dX8_reading_0 : decode cX8_reading 0 = .ok (.aload_n 0, 1) := by decide +kernel
theorem dX8_reading_1 : decode cX8_reading 1 = .ok (.iconst 0, 1) := by decide +kernel
theorem dX8_reading_2 : decode cX8_reading 2 = .ok (.putfield 84, 3) := by decide +kernel
theorem dX8_reading_5 : decode cX8_reading 5 = .ok (.aload_n 0, 1) := by decide +kernel
theorem dX8_reading_6 : decode cX8_reading 6 = .ok (.iload_n 1, 1) := by decide +kernel
theorem dX8_reading_7 : decode cX8_reading 7 = .ok (.invokevirtual 109, 3) := by decide +kernel
theorem dX8_reading_10 : decode cX8_reading 10 = .ok (.ifCond .ne 7, 3) := by decide +kernel
theorem dX8_reading_13 : decode cX8_reading 13 = .ok (.iconst (-1), 1) := by decide +kernel
theorem dX8_reading_14 : decode cX8_reading 14 = .ok (.goto 20, 3) := by decide +kernel
theorem dX8_reading_17 : decode cX8_reading 17 = .ok (.aload_n 0, 1) := by decide +kernel
theorem dX8_reading_18 : decode cX8_reading 18 = .ok (.invokevirtual 254, 3) := by decide +kernel
theorem dX8_reading_21 : decode cX8_reading 21 = .ok (.ifCond .eq 11, 3) := by decide +kernel
theorem dX8_reading_24 : decode cX8_reading 24 = .ok (.aload_n 0, 1) := by decide +kernel
theorem dX8_reading_25 : decode cX8_reading 25 = .ok (.iload_n 1, 1) := by decide +kernel
theorem dX8_reading_26 : decode cX8_reading 26 = .ok (.invokevirtual 257, 3) := by decide +kernel
theorem dX8_reading_29 : decode cX8_reading 29 = .ok (.goto 5, 3) := by decide +kernel
theorem dX8_reading_32 : decode cX8_reading 32 = .ok (.bipush (-3), 2) := by decide +kernel
theorem dX8_reading_34 : decode cX8_reading 34 = .ok (.ireturn, 1) := by decide +kernel
noncomputable def EX8_reading : Sx := (sseq (fpi 7 0 (rl 0) (ik 0)) (sret (ic (bnot (bz cne (cvz 7 DX8_isChamber (rl 0) (ai (il 1) anil)))) (ik (-1)) (ic (bz cne (cvz 7 DX8_reckonNow (rl 0) anil)) (cvi 7 DX8_readingOf (rl 0) (ai (il 1) anil)) (ik (-3))))))
noncomputable def DX8_reading : Fi := mfi 2 EX8_reading
set_option maxRecDepth 4000 in
theorem BX8_reading : Vs RX8 cX8_reading 2 (rmk 6 134) 0 0 EX8_reading := (v_seq (v_fpi kX8 lk995 (by decide) rfl rfl (by decide +kernel) (v_aload_n (i := 0) dX8_reading_0 rfl (rfl : 0 + 1 = 1)) (v_iconst (v := 0) dX8_reading_1 (by decide) (rfl : 1 + 1 = 2)) dX8_reading_2 (rfl : 2 + 3 = 5)) (v_ret (v_ic (v_not (v_zne_t (v_cvz kX8 IX8_isChamber hX8_isChamber lk1145 ⟨by decide, by decide⟩ (by decide) (v_aload_n (i := 0) dX8_reading_5 rfl (rfl : 5 + 1 = 6)) (v_ai (v_iload_n (i := 1) dX8_reading_6 rfl (rfl : 6 + 1 = 7)) v_anil) dX8_reading_7 (rfl : 7 + 3 = 10)) dX8_reading_10 (rfl : ((10 : Nat) : Int) + 7 = ((17 : Nat) : Int)) (rfl : 10 + 3 = 13))) (vi_goto (v_iconst (v := (-1)) dX8_reading_13 (by decide) (rfl : 13 + 1 = 14)) dX8_reading_14 (rfl : ((14 : Nat) : Int) + 20 = ((34 : Nat) : Int))) (v_ic (v_zne_f (v_cvz kX8 IX8_reckonNow hX8_reckonNow lk1241 ⟨by decide, by decide⟩ (by decide) (v_aload_n (i := 0) dX8_reading_17 rfl (rfl : 17 + 1 = 18)) v_anil dX8_reading_18 (rfl : 18 + 3 = 21)) dX8_reading_21 (rfl : ((21 : Nat) : Int) + 11 = ((32 : Nat) : Int)) (rfl : 21 + 3 = 24)) (vi_goto (v_cvi kX8 IX8_readingOf hX8_readingOf lk1309 ⟨by decide, by decide⟩ (by decide) (v_aload_n (i := 0) dX8_reading_24 rfl (rfl : 24 + 1 = 25)) (v_ai (v_iload_n (i := 1) dX8_reading_25 rfl (rfl : 25 + 1 = 26)) v_anil) dX8_reading_26 (rfl : 26 + 3 = 29)) dX8_reading_29 (rfl : ((29 : Nat) : Int) + 5 = ((34 : Nat) : Int))) (v_bipush (v := (-3)) dX8_reading_32 (by decide) (rfl : 32 + 2 = 34)))) dX8_reading_34))
theorem IX8_reading : Mi yX8_reading cX8_reading 2 (rmk 6 134) DX8_reading := mk_i (by decide +kernel) BX8_reading

theorem dX8_reduced_0 : decode cX8_reduced 0 = .ok (.aload_n 0, 1) := by decide +kernel
theorem dX8_reduced_1 : decode cX8_reduced 1 = .ok (.iconst 0, 1) := by decide +kernel
theorem dX8_reduced_2 : decode cX8_reduced 2 = .ok (.putfield 84, 3) := by decide +kernel
theorem dX8_reduced_5 : decode cX8_reduced 5 = .ok (.aload_n 0, 1) := by decide +kernel
theorem dX8_reduced_6 : decode cX8_reduced 6 = .ok (.iload_n 1, 1) := by decide +kernel
theorem dX8_reduced_7 : decode cX8_reduced 7 = .ok (.invokevirtual 109, 3) := by decide +kernel
theorem dX8_reduced_10 : decode cX8_reduced 10 = .ok (.ifCond .eq 28, 3) := by decide +kernel
theorem dX8_reduced_13 : decode cX8_reduced 13 = .ok (.aload_n 0, 1) := by decide +kernel
theorem dX8_reduced_14 : decode cX8_reduced 14 = .ok (.iload_n 2, 1) := by decide +kernel
theorem dX8_reduced_15 : decode cX8_reduced 15 = .ok (.invokevirtual 109, 3) := by decide +kernel
theorem dX8_reduced_18 : decode cX8_reduced 18 = .ok (.ifCond .eq 20, 3) := by decide +kernel
theorem dX8_reduced_21 : decode cX8_reduced 21 = .ok (.iload_n 1, 1) := by decide +kernel
theorem dX8_reduced_22 : decode cX8_reduced 22 = .ok (.iload_n 2, 1) := by decide +kernel
theorem dX8_reduced_23 : decode cX8_reduced 23 = .ok (.if_icmp .eq 15, 3) := by decide +kernel
theorem dX8_reduced_26 : decode cX8_reduced 26 = .ok (.iload_n 3, 1) := by decide +kernel
theorem dX8_reduced_27 : decode cX8_reduced 27 = .ok (.i2l, 1) := by decide +kernel
theorem dX8_reduced_28 : decode cX8_reduced 28 = .ok (.lconst 0, 1) := by decide +kernel
theorem dX8_reduced_29 : decode cX8_reduced 29 = .ok (.ldc2_w 158, 3) := by decide +kernel
theorem dX8_reduced_32 : decode cX8_reduced 32 = .ok (.invokestatic 105, 3) := by decide +kernel
theorem dX8_reduced_35 : decode cX8_reduced 35 = .ok (.ifCond .ne 7, 3) := by decide +kernel
theorem dX8_reduced_38 : decode cX8_reduced 38 = .ok (.ldc2_w 279, 3) := by decide +kernel
theorem dX8_reduced_41 : decode cX8_reduced 41 = .ok (.lreturn, 1) := by decide +kernel
theorem dX8_reduced_42 : decode cX8_reduced 42 = .ok (.aload_n 0, 1) := by decide +kernel
theorem dX8_reduced_43 : decode cX8_reduced 43 = .ok (.iconst 0, 1) := by decide +kernel
theorem dX8_reduced_44 : decode cX8_reduced 44 = .ok (.putfield 297, 3) := by decide +kernel
theorem dX8_reduced_47 : decode cX8_reduced 47 = .ok (.iconst 0, 1) := by decide +kernel
theorem dX8_reduced_48 : decode cX8_reduced 48 = .ok (.istore 4, 2) := by decide +kernel
theorem dX8_reduced_50 : decode cX8_reduced 50 = .ok (.iload 4, 2) := by decide +kernel
theorem dX8_reduced_52 : decode cX8_reduced 52 = .ok (.aload_n 0, 1) := by decide +kernel
theorem dX8_reduced_53 : decode cX8_reduced 53 = .ok (.getfield 13, 3) := by decide +kernel
theorem dX8_reduced_56 : decode cX8_reduced 56 = .ok (.iconst 1, 1) := by decide +kernel
theorem dX8_reduced_57 : decode cX8_reduced 57 = .ok (.iaload, 1) := by decide +kernel
theorem dX8_reduced_58 : decode cX8_reduced 58 = .ok (.if_icmp .ge 100, 3) := by decide +kernel
theorem dX8_reduced_61 : decode cX8_reduced 61 = .ok (.aload_n 0, 1) := by decide +kernel
theorem dX8_reduced_62 : decode cX8_reduced 62 = .ok (.iload 4, 2) := by decide +kernel
theorem dX8_reduced_64 : decode cX8_reduced 64 = .ok (.invokevirtual 177, 3) := by decide +kernel
theorem dX8_reduced_67 : decode cX8_reduced 67 = .ok (.ifCond .eq 85, 3) := by decide +kernel
theorem dX8_reduced_70 : decode cX8_reduced 70 = .ok (.aload_n 0, 1) := by decide +kernel
theorem dX8_reduced_71 : decode cX8_reduced 71 = .ok (.getfield 63, 3) := by decide +kernel
theorem dX8_reduced_74 : decode cX8_reduced 74 = .ok (.aload_n 0, 1) := by decide +kernel
theorem dX8_reduced_75 : decode cX8_reduced 75 = .ok (.getfield 297, 3) := by decide +kernel
theorem dX8_reduced_78 : decode cX8_reduced 78 = .ok (.aload_n 0, 1) := by decide +kernel
theorem dX8_reduced_79 : decode cX8_reduced 79 = .ok (.getfield 13, 3) := by decide +kernel
theorem dX8_reduced_82 : decode cX8_reduced 82 = .ok (.iload 4, 2) := by decide +kernel
theorem dX8_reduced_84 : decode cX8_reduced 84 = .ok (.invokestatic 116, 3) := by decide +kernel
theorem dX8_reduced_87 : decode cX8_reduced 87 = .ok (.iaload, 1) := by decide +kernel
theorem dX8_reduced_88 : decode cX8_reduced 88 = .ok (.iastore, 1) := by decide +kernel
theorem dX8_reduced_89 : decode cX8_reduced 89 = .ok (.aload_n 0, 1) := by decide +kernel
theorem dX8_reduced_90 : decode cX8_reduced 90 = .ok (.getfield 66, 3) := by decide +kernel
theorem dX8_reduced_93 : decode cX8_reduced 93 = .ok (.aload_n 0, 1) := by decide +kernel
theorem dX8_reduced_94 : decode cX8_reduced 94 = .ok (.getfield 297, 3) := by decide +kernel
theorem dX8_reduced_97 : decode cX8_reduced 97 = .ok (.aload_n 0, 1) := by decide +kernel
theorem dX8_reduced_98 : decode cX8_reduced 98 = .ok (.getfield 13, 3) := by decide +kernel
theorem dX8_reduced_101 : decode cX8_reduced 101 = .ok (.iload 4, 2) := by decide +kernel
theorem dX8_reduced_103 : decode cX8_reduced 103 = .ok (.invokestatic 116, 3) := by decide +kernel
theorem dX8_reduced_106 : decode cX8_reduced 106 = .ok (.iconst 1, 1) := by decide +kernel
theorem dX8_reduced_107 : decode cX8_reduced 107 = .ok (.iadd, 1) := by decide +kernel
theorem dX8_reduced_108 : decode cX8_reduced 108 = .ok (.iaload, 1) := by decide +kernel
theorem dX8_reduced_109 : decode cX8_reduced 109 = .ok (.iastore, 1) := by decide +kernel
theorem dX8_reduced_110 : decode cX8_reduced 110 = .ok (.aload_n 0, 1) := by decide +kernel
theorem dX8_reduced_111 : decode cX8_reduced 111 = .ok (.getfield 69, 3) := by decide +kernel
theorem dX8_reduced_114 : decode cX8_reduced 114 = .ok (.aload_n 0, 1) := by decide +kernel
theorem dX8_reduced_115 : decode cX8_reduced 115 = .ok (.getfield 297, 3) := by decide +kernel
theorem dX8_reduced_118 : decode cX8_reduced 118 = .ok (.aload_n 0, 1) := by decide +kernel
theorem dX8_reduced_119 : decode cX8_reduced 119 = .ok (.getfield 13, 3) := by decide +kernel
theorem dX8_reduced_122 : decode cX8_reduced 122 = .ok (.iload 4, 2) := by decide +kernel
theorem dX8_reduced_124 : decode cX8_reduced 124 = .ok (.invokestatic 116, 3) := by decide +kernel
theorem dX8_reduced_127 : decode cX8_reduced 127 = .ok (.iconst 2, 1) := by decide +kernel
theorem dX8_reduced_128 : decode cX8_reduced 128 = .ok (.iadd, 1) := by decide +kernel
theorem dX8_reduced_129 : decode cX8_reduced 129 = .ok (.iaload, 1) := by decide +kernel
theorem dX8_reduced_130 : decode cX8_reduced 130 = .ok (.i2l, 1) := by decide +kernel
theorem dX8_reduced_131 : decode cX8_reduced 131 = .ok (.lastore, 1) := by decide +kernel
theorem dX8_reduced_132 : decode cX8_reduced 132 = .ok (.aload_n 0, 1) := by decide +kernel
theorem dX8_reduced_133 : decode cX8_reduced 133 = .ok (.getfield 72, 3) := by decide +kernel
theorem dX8_reduced_136 : decode cX8_reduced 136 = .ok (.aload_n 0, 1) := by decide +kernel
theorem dX8_reduced_137 : decode cX8_reduced 137 = .ok (.getfield 297, 3) := by decide +kernel
theorem dX8_reduced_140 : decode cX8_reduced 140 = .ok (.lconst 1, 1) := by decide +kernel
theorem dX8_reduced_141 : decode cX8_reduced 141 = .ok (.lastore, 1) := by decide +kernel
theorem dX8_reduced_142 : decode cX8_reduced 142 = .ok (.aload_n 0, 1) := by decide +kernel
theorem dX8_reduced_143 : decode cX8_reduced 143 = .ok (.dup, 1) := by decide +kernel
theorem dX8_reduced_144 : decode cX8_reduced 144 = .ok (.getfield 297, 3) := by decide +kernel
theorem dX8_reduced_147 : decode cX8_reduced 147 = .ok (.iconst 1, 1) := by decide +kernel
theorem dX8_reduced_148 : decode cX8_reduced 148 = .ok (.iadd, 1) := by decide +kernel
theorem dX8_reduced_149 : decode cX8_reduced 149 = .ok (.putfield 297, 3) := by decide +kernel
theorem dX8_reduced_152 : decode cX8_reduced 152 = .ok (.iinc 4 1, 3) := by decide +kernel
theorem dX8_reduced_155 : decode cX8_reduced 155 = .ok (.goto (-105), 3) := by decide +kernel
theorem dX8_reduced_158 : decode cX8_reduced 158 = .ok (.iconst 1, 1) := by decide +kernel
theorem dX8_reduced_159 : decode cX8_reduced 159 = .ok (.istore 4, 2) := by decide +kernel
theorem dX8_reduced_161 : decode cX8_reduced 161 = .ok (.iload 4, 2) := by decide +kernel
theorem dX8_reduced_163 : decode cX8_reduced 163 = .ok (.ifCond .eq 29, 3) := by decide +kernel
theorem dX8_reduced_166 : decode cX8_reduced 166 = .ok (.aload_n 0, 1) := by decide +kernel
theorem dX8_reduced_167 : decode cX8_reduced 167 = .ok (.invokevirtual 311, 3) := by decide +kernel
theorem dX8_reduced_170 : decode cX8_reduced 170 = .ok (.ifCond .ne 12, 3) := by decide +kernel
theorem dX8_reduced_173 : decode cX8_reduced 173 = .ok (.aload_n 0, 1) := by decide +kernel
theorem dX8_reduced_174 : decode cX8_reduced 174 = .ok (.iload_n 1, 1) := by decide +kernel
theorem dX8_reduced_175 : decode cX8_reduced 175 = .ok (.iload_n 2, 1) := by decide +kernel
theorem dX8_reduced_176 : decode cX8_reduced 176 = .ok (.invokevirtual 314, 3) := by decide +kernel
theorem dX8_reduced_179 : decode cX8_reduced 179 = .ok (.ifCond .eq 7, 3) := by decide +kernel
theorem dX8_reduced_182 : decode cX8_reduced 182 = .ok (.iconst 1, 1) := by decide +kernel
theorem dX8_reduced_183 : decode cX8_reduced 183 = .ok (.goto 4, 3) := by decide +kernel
theorem dX8_reduced_186 : decode cX8_reduced 186 = .ok (.iconst 0, 1) := by decide +kernel
theorem dX8_reduced_187 : decode cX8_reduced 187 = .ok (.istore 4, 2) := by decide +kernel
theorem dX8_reduced_189 : decode cX8_reduced 189 = .ok (.goto (-28), 3) := by decide +kernel
theorem dX8_reduced_192 : decode cX8_reduced 192 = .ok (.iconst 0, 1) := by decide +kernel
theorem dX8_reduced_193 : decode cX8_reduced 193 = .ok (.istore 5, 2) := by decide +kernel
theorem dX8_reduced_195 : decode cX8_reduced 195 = .ok (.iconst (-1), 1) := by decide +kernel
theorem dX8_reduced_196 : decode cX8_reduced 196 = .ok (.istore 6, 2) := by decide +kernel
theorem dX8_reduced_198 : decode cX8_reduced 198 = .ok (.iconst 0, 1) := by decide +kernel
theorem dX8_reduced_199 : decode cX8_reduced 199 = .ok (.istore 7, 2) := by decide +kernel
theorem dX8_reduced_201 : decode cX8_reduced 201 = .ok (.iload 7, 2) := by decide +kernel
theorem dX8_reduced_203 : decode cX8_reduced 203 = .ok (.aload_n 0, 1) := by decide +kernel
theorem dX8_reduced_204 : decode cX8_reduced 204 = .ok (.getfield 297, 3) := by decide +kernel
theorem dX8_reduced_207 : decode cX8_reduced 207 = .ok (.if_icmp .ge 50, 3) := by decide +kernel
theorem dX8_reduced_210 : decode cX8_reduced 210 = .ok (.iload 5, 2) := by decide +kernel
theorem dX8_reduced_212 : decode cX8_reduced 212 = .ok (.aload_n 0, 1) := by decide +kernel
theorem dX8_reduced_213 : decode cX8_reduced 213 = .ok (.getfield 63, 3) := by decide +kernel
theorem dX8_reduced_216 : decode cX8_reduced 216 = .ok (.iload 7, 2) := by decide +kernel
theorem dX8_reduced_218 : decode cX8_reduced 218 = .ok (.iaload, 1) := by decide +kernel
theorem dX8_reduced_219 : decode cX8_reduced 219 = .ok (.iconst (-1), 1) := by decide +kernel
theorem dX8_reduced_220 : decode cX8_reduced 220 = .ok (.if_icmp .eq 7, 3) := by decide +kernel
theorem dX8_reduced_223 : decode cX8_reduced 223 = .ok (.iconst 1, 1) := by decide +kernel
theorem dX8_reduced_224 : decode cX8_reduced 224 = .ok (.goto 4, 3) := by decide +kernel
theorem dX8_reduced_227 : decode cX8_reduced 227 = .ok (.iconst 0, 1) := by decide +kernel
theorem dX8_reduced_228 : decode cX8_reduced 228 = .ok (.iadd, 1) := by decide +kernel
theorem dX8_reduced_229 : decode cX8_reduced 229 = .ok (.istore 5, 2) := by decide +kernel
theorem dX8_reduced_231 : decode cX8_reduced 231 = .ok (.aload_n 0, 1) := by decide +kernel
theorem dX8_reduced_232 : decode cX8_reduced 232 = .ok (.getfield 63, 3) := by decide +kernel
theorem dX8_reduced_235 : decode cX8_reduced 235 = .ok (.iload 7, 2) := by decide +kernel
theorem dX8_reduced_237 : decode cX8_reduced 237 = .ok (.iaload, 1) := by decide +kernel
theorem dX8_reduced_238 : decode cX8_reduced 238 = .ok (.iconst (-1), 1) := by decide +kernel
theorem dX8_reduced_239 : decode cX8_reduced 239 = .ok (.if_icmp .eq 8, 3) := by decide +kernel
theorem dX8_reduced_242 : decode cX8_reduced 242 = .ok (.iload 7, 2) := by decide +kernel
theorem dX8_reduced_244 : decode cX8_reduced 244 = .ok (.goto 5, 3) := by decide +kernel
theorem dX8_reduced_247 : decode cX8_reduced 247 = .ok (.iload 6, 2) := by decide +kernel
theorem dX8_reduced_249 : decode cX8_reduced 249 = .ok (.istore 6, 2) := by decide +kernel
theorem dX8_reduced_251 : decode cX8_reduced 251 = .ok (.iinc 7 1, 3) := by decide +kernel
theorem dX8_reduced_254 : decode cX8_reduced 254 = .ok (.goto (-53), 3) := by decide +kernel
theorem dX8_reduced_257 : decode cX8_reduced 257 = .ok (.iload 5, 2) := by decide +kernel
theorem dX8_reduced_259 : decode cX8_reduced 259 = .ok (.iconst 1, 1) := by decide +kernel
theorem dX8_reduced_260 : decode cX8_reduced 260 = .ok (.if_icmp .ne 51, 3) := by decide +kernel
theorem dX8_reduced_263 : decode cX8_reduced 263 = .ok (.aload_n 0, 1) := by decide +kernel
theorem dX8_reduced_264 : decode cX8_reduced 264 = .ok (.getfield 63, 3) := by decide +kernel
theorem dX8_reduced_267 : decode cX8_reduced 267 = .ok (.iload 6, 2) := by decide +kernel
theorem dX8_reduced_269 : decode cX8_reduced 269 = .ok (.iaload, 1) := by decide +kernel
theorem dX8_reduced_270 : decode cX8_reduced 270 = .ok (.iload_n 1, 1) := by decide +kernel
theorem dX8_reduced_271 : decode cX8_reduced 271 = .ok (.if_icmp .ne 14, 3) := by decide +kernel
theorem dX8_reduced_274 : decode cX8_reduced 274 = .ok (.aload_n 0, 1) := by decide +kernel
theorem dX8_reduced_275 : decode cX8_reduced 275 = .ok (.getfield 66, 3) := by decide +kernel
theorem dX8_reduced_278 : decode cX8_reduced 278 = .ok (.iload 6, 2) := by decide +kernel
theorem dX8_reduced_280 : decode cX8_reduced 280 = .ok (.iaload, 1) := by decide +kernel
theorem dX8_reduced_281 : decode cX8_reduced 281 = .ok (.iload_n 2, 1) := by decide +kernel
theorem dX8_reduced_282 : decode cX8_reduced 282 = .ok (.if_icmp .eq 25, 3) := by decide +kernel
theorem dX8_reduced_285 : decode cX8_reduced 285 = .ok (.aload_n 0, 1) := by decide +kernel
theorem dX8_reduced_286 : decode cX8_reduced 286 = .ok (.getfield 63, 3) := by decide +kernel
theorem dX8_reduced_289 : decode cX8_reduced 289 = .ok (.iload 6, 2) := by decide +kernel
theorem dX8_reduced_291 : decode cX8_reduced 291 = .ok (.iaload, 1) := by decide +kernel
theorem dX8_reduced_292 : decode cX8_reduced 292 = .ok (.iload_n 2, 1) := by decide +kernel
theorem dX8_reduced_293 : decode cX8_reduced 293 = .ok (.if_icmp .ne 18, 3) := by decide +kernel
theorem dX8_reduced_296 : decode cX8_reduced 296 = .ok (.aload_n 0, 1) := by decide +kernel
theorem dX8_reduced_297 : decode cX8_reduced 297 = .ok (.getfield 66, 3) := by decide +kernel
theorem dX8_reduced_300 : decode cX8_reduced 300 = .ok (.iload 6, 2) := by decide +kernel
theorem dX8_reduced_302 : decode cX8_reduced 302 = .ok (.iaload, 1) := by decide +kernel
theorem dX8_reduced_303 : decode cX8_reduced 303 = .ok (.iload_n 1, 1) := by decide +kernel
theorem dX8_reduced_304 : decode cX8_reduced 304 = .ok (.if_icmp .ne 7, 3) := by decide +kernel
theorem dX8_reduced_307 : decode cX8_reduced 307 = .ok (.iconst 1, 1) := by decide +kernel
theorem dX8_reduced_308 : decode cX8_reduced 308 = .ok (.goto 4, 3) := by decide +kernel
theorem dX8_reduced_311 : decode cX8_reduced 311 = .ok (.iconst 0, 1) := by decide +kernel
theorem dX8_reduced_312 : decode cX8_reduced 312 = .ok (.istore 7, 2) := by decide +kernel
theorem dX8_reduced_314 : decode cX8_reduced 314 = .ok (.iload_n 3, 1) := by decide +kernel
theorem dX8_reduced_315 : decode cX8_reduced 315 = .ok (.ifCond .ne 9, 3) := by decide +kernel
theorem dX8_reduced_318 : decode cX8_reduced 318 = .ok (.iload 5, 2) := by decide +kernel
theorem dX8_reduced_320 : decode cX8_reduced 320 = .ok (.i2l, 1) := by decide +kernel
theorem dX8_reduced_321 : decode cX8_reduced 321 = .ok (.goto 34, 3) := by decide +kernel
theorem dX8_reduced_324 : decode cX8_reduced 324 = .ok (.iload 7, 2) := by decide +kernel
theorem dX8_reduced_326 : decode cX8_reduced 326 = .ok (.ifCond .ne 7, 3) := by decide +kernel
theorem dX8_reduced_329 : decode cX8_reduced 329 = .ok (.lconst 0, 1) := by decide +kernel
theorem dX8_reduced_330 : decode cX8_reduced 330 = .ok (.goto 25, 3) := by decide +kernel
theorem dX8_reduced_333 : decode cX8_reduced 333 = .ok (.iload_n 3, 1) := by decide +kernel
theorem dX8_reduced_334 : decode cX8_reduced 334 = .ok (.iconst 1, 1) := by decide +kernel
theorem dX8_reduced_335 : decode cX8_reduced 335 = .ok (.if_icmp .ne 13, 3) := by decide +kernel
theorem dX8_reduced_338 : decode cX8_reduced 338 = .ok (.aload_n 0, 1) := by decide +kernel
theorem dX8_reduced_339 : decode cX8_reduced 339 = .ok (.getfield 69, 3) := by decide +kernel
theorem dX8_reduced_342 : decode cX8_reduced 342 = .ok (.iload 6, 2) := by decide +kernel
theorem dX8_reduced_344 : decode cX8_reduced 344 = .ok (.laload, 1) := by decide +kernel
theorem dX8_reduced_345 : decode cX8_reduced 345 = .ok (.goto 10, 3) := by decide +kernel
theorem dX8_reduced_348 : decode cX8_reduced 348 = .ok (.aload_n 0, 1) := by decide +kernel
theorem dX8_reduced_349 : decode cX8_reduced 349 = .ok (.getfield 72, 3) := by decide +kernel
theorem dX8_reduced_352 : decode cX8_reduced 352 = .ok (.iload 6, 2) := by decide +kernel
theorem dX8_reduced_354 : decode cX8_reduced 354 = .ok (.laload, 1) := by decide +kernel
theorem dX8_reduced_355 : decode cX8_reduced 355 = .ok (.lreturn, 1) := by decide +kernel
noncomputable def qX8_reduced_1 : Bx := (bc clt (il 4) (iald (fgr 7 3 (rl 0)) (ik 1)))
noncomputable def wX8_reduced_1 : Sx := (sseq (sif (bz cne (cvz 7 DX8_isOpen (rl 0) (ai (il 4) anil))) (sseq (aii (fgr 7 27 (rl 0)) (fgi 7 31 (rl 0)) (iald (fgr 7 3 (rl 0)) (csi DX8_tubeAt (ai (il 4) anil)))) (sseq (aii (fgr 7 28 (rl 0)) (fgi 7 31 (rl 0)) (iald (fgr 7 3 (rl 0)) (i2 (· + ·) (csi DX8_tubeAt (ai (il 4) anil)) (ik 1)))) (sseq (aij (fgr 7 29 (rl 0)) (fgi 7 31 (rl 0)) (i2l (iald (fgr 7 3 (rl 0)) (i2 (· + ·) (csi DX8_tubeAt (ai (il 4) anil)) (ik 2))))) (sseq (aij (fgr 7 30 (rl 0)) (fgi 7 31 (rl 0)) (jk 1)) (foi (· + ·) 7 31 (rl 0) (ik 1)))))) snop) (sinc 4 1))
noncomputable def qX8_reduced_2 : Bx := (bz cne (il 4))
noncomputable def wX8_reduced_2 : Sx := (ssi 4 (ic (bor (bz cne (cvz 7 DX8_makeParallel (rl 0) anil)) (bz cne (cvz 7 DX8_makeSeries (rl 0) (ai (il 1) (ai (il 2) anil))))) (ik 1) (ik 0)))
noncomputable def qX8_reduced_3 : Bx := (bc clt (il 7) (fgi 7 31 (rl 0)))
noncomputable def wX8_reduced_3 : Sx := (sseq (sseq (ssi 5 (i2 (· + ·) (il 5) (ic (bc cne (iald (fgr 7 27 (rl 0)) (il 7)) (ik (-1))) (ik 1) (ik 0)))) (ssi 6 (ic (bc cne (iald (fgr 7 27 (rl 0)) (il 7)) (ik (-1))) (il 7) (il 6)))) (sinc 7 1))
noncomputable def EX8_reduced : Sx := (sseq (fpi 7 0 (rl 0) (ik 0)) (sseq (sif (bor (bor (bor (bnot (bz cne (cvz 7 DX8_isChamber (rl 0) (ai (il 1) anil)))) (bnot (bz cne (cvz 7 DX8_isChamber (rl 0) (ai (il 2) anil))))) (bc ceq (il 1) (il 2))) (bnot (bz cne (csz DX8_in (aj (i2l (il 3)) (aj (jk 0) (aj (jk 2) anil))))))) (sretj (jk (-1))) snop) (sseq (fpi 7 31 (rl 0) (ik 0)) (sseq (scut 4 (sseq (ssi 4 (ik 0)) (swh qX8_reduced_1 wX8_reduced_1))) (sseq (ssi 4 (ik 1)) (sseq (swh qX8_reduced_2 wX8_reduced_2) (sseq (ssi 5 (ik 0)) (sseq (ssi 6 (ik (-1))) (sseq (scut 7 (sseq (ssi 7 (ik 0)) (swh qX8_reduced_3 wX8_reduced_3))) (sseq (ssi 7 (ic (band (bc ceq (il 5) (ik 1)) (bor (band (bc ceq (iald (fgr 7 27 (rl 0)) (il 6)) (il 1)) (bc ceq (iald (fgr 7 28 (rl 0)) (il 6)) (il 2))) (band (bc ceq (iald (fgr 7 27 (rl 0)) (il 6)) (il 2)) (bc ceq (iald (fgr 7 28 (rl 0)) (il 6)) (il 1))))) (ik 1) (ik 0))) (sretj (jc (bz ceq (il 3)) (i2l (il 5)) (jc (bnot (bz cne (il 7))) (jk 0) (jc (bc ceq (il 3) (ik 1)) (jald (fgr 7 29 (rl 0)) (il 6)) (jald (fgr 7 30 (rl 0)) (il 6))))))))))))))))
noncomputable def DX8_reduced : Fj := mfj 8 EX8_reduced
set_option maxRecDepth 4000 in
theorem BX8_reduced : Vs RX8 cX8_reduced 8 (rmk 4 109) 0 0 EX8_reduced := (v_seq (v_fpi kX8 lk995 (by decide) rfl rfl (by decide +kernel) (v_aload_n (i := 0) dX8_reduced_0 rfl (rfl : 0 + 1 = 1)) (v_iconst (v := 0) dX8_reduced_1 (by decide) (rfl : 1 + 1 = 2)) dX8_reduced_2 (rfl : 2 + 3 = 5)) (v_seq (v_if (v_or (v_or (v_or (v_not (v_zne_f (v_cvz kX8 IX8_isChamber hX8_isChamber lk1145 ⟨by decide, by decide⟩ (by decide) (v_aload_n (i := 0) dX8_reduced_5 rfl (rfl : 5 + 1 = 6)) (v_ai (v_iload_n (i := 1) dX8_reduced_6 rfl (rfl : 6 + 1 = 7)) v_anil) dX8_reduced_7 (rfl : 7 + 3 = 10)) dX8_reduced_10 (rfl : ((10 : Nat) : Int) + 28 = ((38 : Nat) : Int)) (rfl : 10 + 3 = 13))) (v_not (v_zne_f (v_cvz kX8 IX8_isChamber hX8_isChamber lk1145 ⟨by decide, by decide⟩ (by decide) (v_aload_n (i := 0) dX8_reduced_13 rfl (rfl : 13 + 1 = 14)) (v_ai (v_iload_n (i := 2) dX8_reduced_14 rfl (rfl : 14 + 1 = 15)) v_anil) dX8_reduced_15 (rfl : 15 + 3 = 18)) dX8_reduced_18 (rfl : ((18 : Nat) : Int) + 20 = ((38 : Nat) : Int)) (rfl : 18 + 3 = 21)))) (v_ieq_t (v_iload_n (i := 1) dX8_reduced_21 rfl (rfl : 21 + 1 = 22)) (v_iload_n (i := 2) dX8_reduced_22 rfl (rfl : 22 + 1 = 23)) dX8_reduced_23 (rfl : ((23 : Nat) : Int) + 15 = ((38 : Nat) : Int)) (rfl : 23 + 3 = 26))) (v_not (v_zne_t (v_csz IX8_in hX8_in lk1120 ⟨by decide, by decide⟩ (by decide) (v_aj (v_i2l (v_iload_n (i := 3) dX8_reduced_26 rfl (rfl : 26 + 1 = 27)) dX8_reduced_27 (rfl : 27 + 1 = 28)) (v_aj (v_lconst (v := 0) dX8_reduced_28 (by decide) (rfl : 28 + 1 = 29)) (v_aj (v_ldc2 (v := 2) lk1189 dX8_reduced_29 (rfl : 29 + 3 = 32)) v_anil))) dX8_reduced_32 (rfl : 32 + 3 = 35)) dX8_reduced_35 (rfl : ((35 : Nat) : Int) + 7 = ((42 : Nat) : Int)) (rfl : 35 + 3 = 38)))) (v_retj (v_ldc2 (v := (-1)) lk1335 dX8_reduced_38 (rfl : 38 + 3 = 41)) dX8_reduced_41) v_nop) (v_seq (v_fpi kX8 lk1026 (by decide) rfl rfl (by decide +kernel) (v_aload_n (i := 0) dX8_reduced_42 rfl (rfl : 42 + 1 = 43)) (v_iconst (v := 0) dX8_reduced_43 (by decide) (rfl : 43 + 1 = 44)) dX8_reduced_44 (rfl : 44 + 3 = 47)) (v_seq (v_cut (n := 4) (v_seq (v_istore (i := 4) (v_iconst (v := 0) dX8_reduced_47 (by decide) (rfl : 47 + 1 = 48)) dX8_reduced_48 (by decide) (rfl : 48 + 2 = 50)) (v_wh (v_ilt_f (v_iload (i := 4) dX8_reduced_50 (rfl : 50 + 2 = 52)) (v_iald (v_gfr kX8 lk998 (by decide) rfl (v_aload_n (i := 0) dX8_reduced_52 rfl (rfl : 52 + 1 = 53)) dX8_reduced_53 (rfl : 53 + 3 = 56)) (v_iconst (v := 1) dX8_reduced_56 (by decide) (rfl : 56 + 1 = 57)) dX8_reduced_57 (rfl : 57 + 1 = 58)) dX8_reduced_58 (rfl : ((58 : Nat) : Int) + 100 = ((158 : Nat) : Int)) (rfl : 58 + 3 = 61)) (vs_goto (v_seq (v_if (v_zne_f (v_cvz kX8 IX8_isOpen hX8_isOpen lk1257 ⟨by decide, by decide⟩ (by decide) (v_aload_n (i := 0) dX8_reduced_61 rfl (rfl : 61 + 1 = 62)) (v_ai (v_iload (i := 4) dX8_reduced_62 (rfl : 62 + 2 = 64)) v_anil) dX8_reduced_64 (rfl : 64 + 3 = 67)) dX8_reduced_67 (rfl : ((67 : Nat) : Int) + 85 = ((152 : Nat) : Int)) (rfl : 67 + 3 = 70)) (v_seq (v_aii (v_gfr kX8 lk1022 (by decide) rfl (v_aload_n (i := 0) dX8_reduced_70 rfl (rfl : 70 + 1 = 71)) dX8_reduced_71 (rfl : 71 + 3 = 74)) (v_gfi kX8 lk1026 (by decide) rfl (v_aload_n (i := 0) dX8_reduced_74 rfl (rfl : 74 + 1 = 75)) dX8_reduced_75 (rfl : 75 + 3 = 78)) (v_iald (v_gfr kX8 lk998 (by decide) rfl (v_aload_n (i := 0) dX8_reduced_78 rfl (rfl : 78 + 1 = 79)) dX8_reduced_79 (rfl : 79 + 3 = 82)) (v_csi IX8_tubeAt hX8_tubeAt lk1160 ⟨by decide, by decide⟩ (by decide) (v_ai (v_iload (i := 4) dX8_reduced_82 (rfl : 82 + 2 = 84)) v_anil) dX8_reduced_84 (rfl : 84 + 3 = 87)) dX8_reduced_87 (rfl : 87 + 1 = 88)) dX8_reduced_88 (rfl : 88 + 1 = 89)) (v_seq (v_aii (v_gfr kX8 lk1023 (by decide) rfl (v_aload_n (i := 0) dX8_reduced_89 rfl (rfl : 89 + 1 = 90)) dX8_reduced_90 (rfl : 90 + 3 = 93)) (v_gfi kX8 lk1026 (by decide) rfl (v_aload_n (i := 0) dX8_reduced_93 rfl (rfl : 93 + 1 = 94)) dX8_reduced_94 (rfl : 94 + 3 = 97)) (v_iald (v_gfr kX8 lk998 (by decide) rfl (v_aload_n (i := 0) dX8_reduced_97 rfl (rfl : 97 + 1 = 98)) dX8_reduced_98 (rfl : 98 + 3 = 101)) (v_iadd (v_csi IX8_tubeAt hX8_tubeAt lk1160 ⟨by decide, by decide⟩ (by decide) (v_ai (v_iload (i := 4) dX8_reduced_101 (rfl : 101 + 2 = 103)) v_anil) dX8_reduced_103 (rfl : 103 + 3 = 106)) (v_iconst (v := 1) dX8_reduced_106 (by decide) (rfl : 106 + 1 = 107)) dX8_reduced_107 (rfl : 107 + 1 = 108)) dX8_reduced_108 (rfl : 108 + 1 = 109)) dX8_reduced_109 (rfl : 109 + 1 = 110)) (v_seq (v_aij (v_gfr kX8 lk1024 (by decide) rfl (v_aload_n (i := 0) dX8_reduced_110 rfl (rfl : 110 + 1 = 111)) dX8_reduced_111 (rfl : 111 + 3 = 114)) (v_gfi kX8 lk1026 (by decide) rfl (v_aload_n (i := 0) dX8_reduced_114 rfl (rfl : 114 + 1 = 115)) dX8_reduced_115 (rfl : 115 + 3 = 118)) (v_i2l (v_iald (v_gfr kX8 lk998 (by decide) rfl (v_aload_n (i := 0) dX8_reduced_118 rfl (rfl : 118 + 1 = 119)) dX8_reduced_119 (rfl : 119 + 3 = 122)) (v_iadd (v_csi IX8_tubeAt hX8_tubeAt lk1160 ⟨by decide, by decide⟩ (by decide) (v_ai (v_iload (i := 4) dX8_reduced_122 (rfl : 122 + 2 = 124)) v_anil) dX8_reduced_124 (rfl : 124 + 3 = 127)) (v_iconst (v := 2) dX8_reduced_127 (by decide) (rfl : 127 + 1 = 128)) dX8_reduced_128 (rfl : 128 + 1 = 129)) dX8_reduced_129 (rfl : 129 + 1 = 130)) dX8_reduced_130 (rfl : 130 + 1 = 131)) dX8_reduced_131 (rfl : 131 + 1 = 132)) (v_seq (v_aij (v_gfr kX8 lk1025 (by decide) rfl (v_aload_n (i := 0) dX8_reduced_132 rfl (rfl : 132 + 1 = 133)) dX8_reduced_133 (rfl : 133 + 3 = 136)) (v_gfi kX8 lk1026 (by decide) rfl (v_aload_n (i := 0) dX8_reduced_136 rfl (rfl : 136 + 1 = 137)) dX8_reduced_137 (rfl : 137 + 3 = 140)) (v_lconst (v := 1) dX8_reduced_140 (by decide) (rfl : 140 + 1 = 141)) dX8_reduced_141 (rfl : 141 + 1 = 142)) (v_foi_iadd kX8 lk1026 (by decide) rfl rfl (by decide +kernel) (v_aload_n (i := 0) dX8_reduced_142 rfl (rfl : 142 + 1 = 143)) dX8_reduced_143 dX8_reduced_144 (rfl : 143 + 1 + 3 = 147) (v_iconst (v := 1) dX8_reduced_147 (by decide) (rfl : 147 + 1 = 148)) dX8_reduced_148 dX8_reduced_149 (rfl : 148 + 1 + 3 = 152)))))) v_nop) (v_iinc (v := 1) dX8_reduced_152 (by decide) (by decide) (rfl : 152 + 3 = 155))) dX8_reduced_155 (rfl : ((155 : Nat) : Int) + (-105) = ((50 : Nat) : Int)))))) (v_seq (v_istore (i := 4) (v_iconst (v := 1) dX8_reduced_158 (by decide) (rfl : 158 + 1 = 159)) dX8_reduced_159 (by decide) (rfl : 159 + 2 = 161)) (v_seq (v_wh (v_zne_f (v_iload (i := 4) dX8_reduced_161 (rfl : 161 + 2 = 163)) dX8_reduced_163 (rfl : ((163 : Nat) : Int) + 29 = ((192 : Nat) : Int)) (rfl : 163 + 3 = 166)) (vs_goto (v_istore (i := 4) (v_ic (v_or (v_zne_t (v_cvz kX8 IX8_makeParallel hX8_makeParallel lk1377 ⟨by decide, by decide⟩ (by decide) (v_aload_n (i := 0) dX8_reduced_166 rfl (rfl : 166 + 1 = 167)) v_anil dX8_reduced_167 (rfl : 167 + 3 = 170)) dX8_reduced_170 (rfl : ((170 : Nat) : Int) + 12 = ((182 : Nat) : Int)) (rfl : 170 + 3 = 173)) (v_zne_f (v_cvz kX8 IX8_makeSeries hX8_makeSeries lk1389 ⟨by decide, by decide⟩ (by decide) (v_aload_n (i := 0) dX8_reduced_173 rfl (rfl : 173 + 1 = 174)) (v_ai (v_iload_n (i := 1) dX8_reduced_174 rfl (rfl : 174 + 1 = 175)) (v_ai (v_iload_n (i := 2) dX8_reduced_175 rfl (rfl : 175 + 1 = 176)) v_anil)) dX8_reduced_176 (rfl : 176 + 3 = 179)) dX8_reduced_179 (rfl : ((179 : Nat) : Int) + 7 = ((186 : Nat) : Int)) (rfl : 179 + 3 = 182))) (vi_goto (v_iconst (v := 1) dX8_reduced_182 (by decide) (rfl : 182 + 1 = 183)) dX8_reduced_183 (rfl : ((183 : Nat) : Int) + 4 = ((187 : Nat) : Int))) (v_iconst (v := 0) dX8_reduced_186 (by decide) (rfl : 186 + 1 = 187))) dX8_reduced_187 (by decide) (rfl : 187 + 2 = 189)) dX8_reduced_189 (rfl : ((189 : Nat) : Int) + (-28) = ((161 : Nat) : Int)))) (v_seq (v_istore (i := 5) (v_iconst (v := 0) dX8_reduced_192 (by decide) (rfl : 192 + 1 = 193)) dX8_reduced_193 (by decide) (rfl : 193 + 2 = 195)) (v_seq (v_istore (i := 6) (v_iconst (v := (-1)) dX8_reduced_195 (by decide) (rfl : 195 + 1 = 196)) dX8_reduced_196 (by decide) (rfl : 196 + 2 = 198)) (v_seq (v_cut (n := 7) (v_seq (v_istore (i := 7) (v_iconst (v := 0) dX8_reduced_198 (by decide) (rfl : 198 + 1 = 199)) dX8_reduced_199 (by decide) (rfl : 199 + 2 = 201)) (v_wh (v_ilt_f (v_iload (i := 7) dX8_reduced_201 (rfl : 201 + 2 = 203)) (v_gfi kX8 lk1026 (by decide) rfl (v_aload_n (i := 0) dX8_reduced_203 rfl (rfl : 203 + 1 = 204)) dX8_reduced_204 (rfl : 204 + 3 = 207)) dX8_reduced_207 (rfl : ((207 : Nat) : Int) + 50 = ((257 : Nat) : Int)) (rfl : 207 + 3 = 210)) (vs_goto (v_seq (v_seq (v_istore (i := 5) (v_iadd (v_iload (i := 5) dX8_reduced_210 (rfl : 210 + 2 = 212)) (v_ic (v_ine_f (v_iald (v_gfr kX8 lk1022 (by decide) rfl (v_aload_n (i := 0) dX8_reduced_212 rfl (rfl : 212 + 1 = 213)) dX8_reduced_213 (rfl : 213 + 3 = 216)) (v_iload (i := 7) dX8_reduced_216 (rfl : 216 + 2 = 218)) dX8_reduced_218 (rfl : 218 + 1 = 219)) (v_iconst (v := (-1)) dX8_reduced_219 (by decide) (rfl : 219 + 1 = 220)) dX8_reduced_220 (rfl : ((220 : Nat) : Int) + 7 = ((227 : Nat) : Int)) (rfl : 220 + 3 = 223)) (vi_goto (v_iconst (v := 1) dX8_reduced_223 (by decide) (rfl : 223 + 1 = 224)) dX8_reduced_224 (rfl : ((224 : Nat) : Int) + 4 = ((228 : Nat) : Int))) (v_iconst (v := 0) dX8_reduced_227 (by decide) (rfl : 227 + 1 = 228))) dX8_reduced_228 (rfl : 228 + 1 = 229)) dX8_reduced_229 (by decide) (rfl : 229 + 2 = 231)) (v_istore (i := 6) (v_ic (v_ine_f (v_iald (v_gfr kX8 lk1022 (by decide) rfl (v_aload_n (i := 0) dX8_reduced_231 rfl (rfl : 231 + 1 = 232)) dX8_reduced_232 (rfl : 232 + 3 = 235)) (v_iload (i := 7) dX8_reduced_235 (rfl : 235 + 2 = 237)) dX8_reduced_237 (rfl : 237 + 1 = 238)) (v_iconst (v := (-1)) dX8_reduced_238 (by decide) (rfl : 238 + 1 = 239)) dX8_reduced_239 (rfl : ((239 : Nat) : Int) + 8 = ((247 : Nat) : Int)) (rfl : 239 + 3 = 242)) (vi_goto (v_iload (i := 7) dX8_reduced_242 (rfl : 242 + 2 = 244)) dX8_reduced_244 (rfl : ((244 : Nat) : Int) + 5 = ((249 : Nat) : Int))) (v_iload (i := 6) dX8_reduced_247 (rfl : 247 + 2 = 249))) dX8_reduced_249 (by decide) (rfl : 249 + 2 = 251))) (v_iinc (v := 1) dX8_reduced_251 (by decide) (by decide) (rfl : 251 + 3 = 254))) dX8_reduced_254 (rfl : ((254 : Nat) : Int) + (-53) = ((201 : Nat) : Int)))))) (v_seq (v_istore (i := 7) (v_ic (v_and (v_ieq_f (v_iload (i := 5) dX8_reduced_257 (rfl : 257 + 2 = 259)) (v_iconst (v := 1) dX8_reduced_259 (by decide) (rfl : 259 + 1 = 260)) dX8_reduced_260 (rfl : ((260 : Nat) : Int) + 51 = ((311 : Nat) : Int)) (rfl : 260 + 3 = 263)) (v_or (v_and (v_ieq_f (v_iald (v_gfr kX8 lk1022 (by decide) rfl (v_aload_n (i := 0) dX8_reduced_263 rfl (rfl : 263 + 1 = 264)) dX8_reduced_264 (rfl : 264 + 3 = 267)) (v_iload (i := 6) dX8_reduced_267 (rfl : 267 + 2 = 269)) dX8_reduced_269 (rfl : 269 + 1 = 270)) (v_iload_n (i := 1) dX8_reduced_270 rfl (rfl : 270 + 1 = 271)) dX8_reduced_271 (rfl : ((271 : Nat) : Int) + 14 = ((285 : Nat) : Int)) (rfl : 271 + 3 = 274)) (v_ieq_t (v_iald (v_gfr kX8 lk1023 (by decide) rfl (v_aload_n (i := 0) dX8_reduced_274 rfl (rfl : 274 + 1 = 275)) dX8_reduced_275 (rfl : 275 + 3 = 278)) (v_iload (i := 6) dX8_reduced_278 (rfl : 278 + 2 = 280)) dX8_reduced_280 (rfl : 280 + 1 = 281)) (v_iload_n (i := 2) dX8_reduced_281 rfl (rfl : 281 + 1 = 282)) dX8_reduced_282 (rfl : ((282 : Nat) : Int) + 25 = ((307 : Nat) : Int)) (rfl : 282 + 3 = 285))) (v_and (v_ieq_f (v_iald (v_gfr kX8 lk1022 (by decide) rfl (v_aload_n (i := 0) dX8_reduced_285 rfl (rfl : 285 + 1 = 286)) dX8_reduced_286 (rfl : 286 + 3 = 289)) (v_iload (i := 6) dX8_reduced_289 (rfl : 289 + 2 = 291)) dX8_reduced_291 (rfl : 291 + 1 = 292)) (v_iload_n (i := 2) dX8_reduced_292 rfl (rfl : 292 + 1 = 293)) dX8_reduced_293 (rfl : ((293 : Nat) : Int) + 18 = ((311 : Nat) : Int)) (rfl : 293 + 3 = 296)) (v_ieq_f (v_iald (v_gfr kX8 lk1023 (by decide) rfl (v_aload_n (i := 0) dX8_reduced_296 rfl (rfl : 296 + 1 = 297)) dX8_reduced_297 (rfl : 297 + 3 = 300)) (v_iload (i := 6) dX8_reduced_300 (rfl : 300 + 2 = 302)) dX8_reduced_302 (rfl : 302 + 1 = 303)) (v_iload_n (i := 1) dX8_reduced_303 rfl (rfl : 303 + 1 = 304)) dX8_reduced_304 (rfl : ((304 : Nat) : Int) + 7 = ((311 : Nat) : Int)) (rfl : 304 + 3 = 307))))) (vi_goto (v_iconst (v := 1) dX8_reduced_307 (by decide) (rfl : 307 + 1 = 308)) dX8_reduced_308 (rfl : ((308 : Nat) : Int) + 4 = ((312 : Nat) : Int))) (v_iconst (v := 0) dX8_reduced_311 (by decide) (rfl : 311 + 1 = 312))) dX8_reduced_312 (by decide) (rfl : 312 + 2 = 314)) (v_retj (v_jc (v_zeq_f (v_iload_n (i := 3) dX8_reduced_314 rfl (rfl : 314 + 1 = 315)) dX8_reduced_315 (rfl : ((315 : Nat) : Int) + 9 = ((324 : Nat) : Int)) (rfl : 315 + 3 = 318)) (vj_goto (v_i2l (v_iload (i := 5) dX8_reduced_318 (rfl : 318 + 2 = 320)) dX8_reduced_320 (rfl : 320 + 1 = 321)) dX8_reduced_321 (rfl : ((321 : Nat) : Int) + 34 = ((355 : Nat) : Int))) (v_jc (v_not (v_zne_t (v_iload (i := 7) dX8_reduced_324 (rfl : 324 + 2 = 326)) dX8_reduced_326 (rfl : ((326 : Nat) : Int) + 7 = ((333 : Nat) : Int)) (rfl : 326 + 3 = 329))) (vj_goto (v_lconst (v := 0) dX8_reduced_329 (by decide) (rfl : 329 + 1 = 330)) dX8_reduced_330 (rfl : ((330 : Nat) : Int) + 25 = ((355 : Nat) : Int))) (v_jc (v_ieq_f (v_iload_n (i := 3) dX8_reduced_333 rfl (rfl : 333 + 1 = 334)) (v_iconst (v := 1) dX8_reduced_334 (by decide) (rfl : 334 + 1 = 335)) dX8_reduced_335 (rfl : ((335 : Nat) : Int) + 13 = ((348 : Nat) : Int)) (rfl : 335 + 3 = 338)) (vj_goto (v_jald (v_gfr kX8 lk1024 (by decide) rfl (v_aload_n (i := 0) dX8_reduced_338 rfl (rfl : 338 + 1 = 339)) dX8_reduced_339 (rfl : 339 + 3 = 342)) (v_iload (i := 6) dX8_reduced_342 (rfl : 342 + 2 = 344)) dX8_reduced_344 (rfl : 344 + 1 = 345)) dX8_reduced_345 (rfl : ((345 : Nat) : Int) + 10 = ((355 : Nat) : Int))) (v_jald (v_gfr kX8 lk1025 (by decide) rfl (v_aload_n (i := 0) dX8_reduced_348 rfl (rfl : 348 + 1 = 349)) dX8_reduced_349 (rfl : 349 + 3 = 352)) (v_iload (i := 6) dX8_reduced_352 (rfl : 352 + 2 = 354)) dX8_reduced_354 (rfl : 354 + 1 = 355))))) dX8_reduced_355)))))))))))
theorem IX8_reduced : Mj yX8_reduced cX8_reduced 8 (rmk 4 109) DX8_reduced := mk_j (by decide +kernel) BX8_reduced

theorem dX8_run_0 : decode cX8_run 0 = .ok (.aload_n 0, 1) := by decide +kernel
theorem dX8_run_1 : decode cX8_run 1 = .ok (.iconst 0, 1) := by decide +kernel
theorem dX8_run_2 : decode cX8_run 2 = .ok (.putfield 84, 3) := by decide +kernel
theorem dX8_run_5 : decode cX8_run 5 = .ok (.aload_n 0, 1) := by decide +kernel
theorem dX8_run_6 : decode cX8_run 6 = .ok (.iload_n 1, 1) := by decide +kernel
theorem dX8_run_7 : decode cX8_run 7 = .ok (.invokevirtual 155, 3) := by decide +kernel
theorem dX8_run_10 : decode cX8_run 10 = .ok (.ifCond .ne 10, 3) := by decide +kernel
theorem dX8_run_13 : decode cX8_run 13 = .ok (.aload_n 0, 1) := by decide +kernel
theorem dX8_run_14 : decode cX8_run 14 = .ok (.bipush (-2), 2) := by decide +kernel
theorem dX8_run_16 : decode cX8_run 16 = .ok (.invokevirtual 98, 3) := by decide +kernel
theorem dX8_run_19 : decode cX8_run 19 = .ok (.ireturn, 1) := by decide +kernel
theorem dX8_run_20 : decode cX8_run 20 = .ok (.aload_n 0, 1) := by decide +kernel
theorem dX8_run_21 : decode cX8_run 21 = .ok (.bipush 6, 2) := by decide +kernel
theorem dX8_run_23 : decode cX8_run 23 = .ok (.invokevirtual 136, 3) := by decide +kernel
theorem dX8_run_26 : decode cX8_run 26 = .ok (.aload_n 0, 1) := by decide +kernel
theorem dX8_run_27 : decode cX8_run 27 = .ok (.getfield 13, 3) := by decide +kernel
theorem dX8_run_30 : decode cX8_run 30 = .ok (.iload_n 1, 1) := by decide +kernel
theorem dX8_run_31 : decode cX8_run 31 = .ok (.invokestatic 119, 3) := by decide +kernel
theorem dX8_run_34 : decode cX8_run 34 = .ok (.iconst 1, 1) := by decide +kernel
theorem dX8_run_35 : decode cX8_run 35 = .ok (.iadd, 1) := by decide +kernel
theorem dX8_run_36 : decode cX8_run 36 = .ok (.dup2, 1) := by decide +kernel
theorem dX8_run_37 : decode cX8_run 37 = .ok (.iaload, 1) := by decide +kernel
theorem dX8_run_38 : decode cX8_run 38 = .ok (.iconst 1, 1) := by decide +kernel
theorem dX8_run_39 : decode cX8_run 39 = .ok (.ixor, 1) := by decide +kernel
theorem dX8_run_40 : decode cX8_run 40 = .ok (.iastore, 1) := by decide +kernel
theorem dX8_run_41 : decode cX8_run 41 = .ok (.aload_n 0, 1) := by decide +kernel
theorem dX8_run_42 : decode cX8_run 42 = .ok (.aload_n 0, 1) := by decide +kernel
theorem dX8_run_43 : decode cX8_run 43 = .ok (.getfield 13, 3) := by decide +kernel
theorem dX8_run_46 : decode cX8_run 46 = .ok (.iload_n 1, 1) := by decide +kernel
theorem dX8_run_47 : decode cX8_run 47 = .ok (.invokestatic 119, 3) := by decide +kernel
theorem dX8_run_50 : decode cX8_run 50 = .ok (.iconst 1, 1) := by decide +kernel
theorem dX8_run_51 : decode cX8_run 51 = .ok (.iadd, 1) := by decide +kernel
theorem dX8_run_52 : decode cX8_run 52 = .ok (.iaload, 1) := by decide +kernel
theorem dX8_run_53 : decode cX8_run 53 = .ok (.invokevirtual 102, 3) := by decide +kernel
theorem dX8_run_56 : decode cX8_run 56 = .ok (.ireturn, 1) := by decide +kernel
noncomputable def EX8_run : Sx := (sseq (fpi 7 0 (rl 0) (ik 0)) (sseq (sif (bnot (bz cne (cvz 7 DX8_isPump (rl 0) (ai (il 1) anil)))) (sret (cvi 7 DX8_refuse (rl 0) (ai (ik (-2)) anil))) snop) (sseq (scv 7 DX8_remember (rl 0) (ai (ik 6) anil)) (sseq (aoi (· ^^^ ·) (fgr 7 3 (rl 0)) (i2 (· + ·) (csi DX8_pumpAt (ai (il 1) anil)) (ik 1)) (ik 1)) (sret (cvi 7 DX8_tell (rl 0) (ai (iald (fgr 7 3 (rl 0)) (i2 (· + ·) (csi DX8_pumpAt (ai (il 1) anil)) (ik 1))) anil)))))))
noncomputable def DX8_run : Fi := mfi 2 EX8_run
set_option maxRecDepth 4000 in
theorem BX8_run : Vs RX8 cX8_run 2 (rmk 2 46) 0 0 EX8_run := (v_seq (v_fpi kX8 lk995 (by decide) rfl rfl (by decide +kernel) (v_aload_n (i := 0) dX8_run_0 rfl (rfl : 0 + 1 = 1)) (v_iconst (v := 0) dX8_run_1 (by decide) (rfl : 1 + 1 = 2)) dX8_run_2 (rfl : 2 + 3 = 5)) (v_seq (v_if (v_not (v_zne_t (v_cvz kX8 IX8_isPump hX8_isPump lk1181 ⟨by decide, by decide⟩ (by decide) (v_aload_n (i := 0) dX8_run_5 rfl (rfl : 5 + 1 = 6)) (v_ai (v_iload_n (i := 1) dX8_run_6 rfl (rfl : 6 + 1 = 7)) v_anil) dX8_run_7 (rfl : 7 + 3 = 10)) dX8_run_10 (rfl : ((10 : Nat) : Int) + 10 = ((20 : Nat) : Int)) (rfl : 10 + 3 = 13))) (v_ret (v_cvi kX8 IX8_refuse hX8_refuse lk1105 ⟨by decide, by decide⟩ (by decide) (v_aload_n (i := 0) dX8_run_13 rfl (rfl : 13 + 1 = 14)) (v_ai (v_bipush (v := (-2)) dX8_run_14 (by decide) (rfl : 14 + 2 = 16)) v_anil) dX8_run_16 (rfl : 16 + 3 = 19)) dX8_run_19) v_nop) (v_seq (v_scv kX8 IX8_remember hX8_remember lk1133 ⟨by decide, by decide⟩ (v_aload_n (i := 0) dX8_run_20 rfl (rfl : 20 + 1 = 21)) (v_ai (v_bipush (v := 6) dX8_run_21 (by decide) (rfl : 21 + 2 = 23)) v_anil) dX8_run_23 (rfl : 23 + 3 = 26)) (v_seq (v_aoi_ixor (v_gfr kX8 lk998 (by decide) rfl (v_aload_n (i := 0) dX8_run_26 rfl (rfl : 26 + 1 = 27)) dX8_run_27 (rfl : 27 + 3 = 30)) (v_iadd (v_csi IX8_pumpAt hX8_pumpAt lk1163 ⟨by decide, by decide⟩ (by decide) (v_ai (v_iload_n (i := 1) dX8_run_30 rfl (rfl : 30 + 1 = 31)) v_anil) dX8_run_31 (rfl : 31 + 3 = 34)) (v_iconst (v := 1) dX8_run_34 (by decide) (rfl : 34 + 1 = 35)) dX8_run_35 (rfl : 35 + 1 = 36)) dX8_run_36 dX8_run_37 (rfl : 36 + 1 + 1 = 38) (v_iconst (v := 1) dX8_run_38 (by decide) (rfl : 38 + 1 = 39)) dX8_run_39 dX8_run_40 (rfl : 39 + 1 + 1 = 41)) (v_ret (v_cvi kX8 IX8_tell hX8_tell lk1112 ⟨by decide, by decide⟩ (by decide) (v_aload_n (i := 0) dX8_run_41 rfl (rfl : 41 + 1 = 42)) (v_ai (v_iald (v_gfr kX8 lk998 (by decide) rfl (v_aload_n (i := 0) dX8_run_42 rfl (rfl : 42 + 1 = 43)) dX8_run_43 (rfl : 43 + 3 = 46)) (v_iadd (v_csi IX8_pumpAt hX8_pumpAt lk1163 ⟨by decide, by decide⟩ (by decide) (v_ai (v_iload_n (i := 1) dX8_run_46 rfl (rfl : 46 + 1 = 47)) v_anil) dX8_run_47 (rfl : 47 + 3 = 50)) (v_iconst (v := 1) dX8_run_50 (by decide) (rfl : 50 + 1 = 51)) dX8_run_51 (rfl : 51 + 1 = 52)) dX8_run_52 (rfl : 52 + 1 = 53)) v_anil) dX8_run_53 (rfl : 53 + 3 = 56)) dX8_run_56)))))
theorem IX8_run : Mi yX8_run cX8_run 2 (rmk 2 46) DX8_run := mk_i (by decide +kernel) BX8_run

theorem dX8_set_0 : decode cX8_set 0 = .ok (.aload_n 0, 1) := by decide +kernel
theorem dX8_set_1 : decode cX8_set 1 = .ok (.iconst 0, 1) := by decide +kernel
theorem dX8_set_2 : decode cX8_set 2 = .ok (.putfield 84, 3) := by decide +kernel
theorem dX8_set_5 : decode cX8_set 5 = .ok (.iload_n 2, 1) := by decide +kernel
theorem dX8_set_6 : decode cX8_set 6 = .ok (.i2l, 1) := by decide +kernel
theorem dX8_set_7 : decode cX8_set 7 = .ok (.lconst 0, 1) := by decide +kernel
theorem dX8_set_8 : decode cX8_set 8 = .ok (.ldc2_w 158, 3) := by decide +kernel
theorem dX8_set_11 : decode cX8_set 11 = .ok (.invokestatic 105, 3) := by decide +kernel
theorem dX8_set_14 : decode cX8_set 14 = .ok (.ifCond .eq 36, 3) := by decide +kernel
theorem dX8_set_17 : decode cX8_set 17 = .ok (.iload_n 3, 1) := by decide +kernel
theorem dX8_set_18 : decode cX8_set 18 = .ok (.i2l, 1) := by decide +kernel
theorem dX8_set_19 : decode cX8_set 19 = .ok (.lconst 0, 1) := by decide +kernel
theorem dX8_set_20 : decode cX8_set 20 = .ok (.iload_n 2, 1) := by decide +kernel
theorem dX8_set_21 : decode cX8_set 21 = .ok (.ifCond .ne 9, 3) := by decide +kernel
theorem dX8_set_24 : decode cX8_set 24 = .ok (.ldc2_w 132, 3) := by decide +kernel
theorem dX8_set_27 : decode cX8_set 27 = .ok (.goto 17, 3) := by decide +kernel
theorem dX8_set_30 : decode cX8_set 30 = .ok (.iload_n 2, 1) := by decide +kernel
theorem dX8_set_31 : decode cX8_set 31 = .ok (.iconst 1, 1) := by decide +kernel
theorem dX8_set_32 : decode cX8_set 32 = .ok (.if_icmp .ne 9, 3) := by decide +kernel
theorem dX8_set_35 : decode cX8_set 35 = .ok (.ldc2_w 134, 3) := by decide +kernel
theorem dX8_set_38 : decode cX8_set 38 = .ok (.goto 6, 3) := by decide +kernel
theorem dX8_set_41 : decode cX8_set 41 = .ok (.ldc2_w 160, 3) := by decide +kernel
theorem dX8_set_44 : decode cX8_set 44 = .ok (.invokestatic 105, 3) := by decide +kernel
theorem dX8_set_47 : decode cX8_set 47 = .ok (.ifCond .ne 9, 3) := by decide +kernel
theorem dX8_set_50 : decode cX8_set 50 = .ok (.aload_n 0, 1) := by decide +kernel
theorem dX8_set_51 : decode cX8_set 51 = .ok (.iconst (-1), 1) := by decide +kernel
theorem dX8_set_52 : decode cX8_set 52 = .ok (.invokevirtual 98, 3) := by decide +kernel
theorem dX8_set_55 : decode cX8_set 55 = .ok (.ireturn, 1) := by decide +kernel
theorem dX8_set_56 : decode cX8_set 56 = .ok (.aload_n 0, 1) := by decide +kernel
theorem dX8_set_57 : decode cX8_set 57 = .ok (.iload_n 1, 1) := by decide +kernel
theorem dX8_set_58 : decode cX8_set 58 = .ok (.invokevirtual 109, 3) := by decide +kernel
theorem dX8_set_61 : decode cX8_set 61 = .ok (.ifCond .ne 10, 3) := by decide +kernel
theorem dX8_set_64 : decode cX8_set 64 = .ok (.aload_n 0, 1) := by decide +kernel
theorem dX8_set_65 : decode cX8_set 65 = .ok (.bipush (-2), 2) := by decide +kernel
theorem dX8_set_67 : decode cX8_set 67 = .ok (.invokevirtual 98, 3) := by decide +kernel
theorem dX8_set_70 : decode cX8_set 70 = .ok (.ireturn, 1) := by decide +kernel
theorem dX8_set_71 : decode cX8_set 71 = .ok (.aload_n 0, 1) := by decide +kernel
theorem dX8_set_72 : decode cX8_set 72 = .ok (.iconst 4, 1) := by decide +kernel
theorem dX8_set_73 : decode cX8_set 73 = .ok (.invokevirtual 136, 3) := by decide +kernel
theorem dX8_set_76 : decode cX8_set 76 = .ok (.aload_n 0, 1) := by decide +kernel
theorem dX8_set_77 : decode cX8_set 77 = .ok (.getfield 13, 3) := by decide +kernel
theorem dX8_set_80 : decode cX8_set 80 = .ok (.iload_n 1, 1) := by decide +kernel
theorem dX8_set_81 : decode cX8_set 81 = .ok (.invokestatic 122, 3) := by decide +kernel
theorem dX8_set_84 : decode cX8_set 84 = .ok (.iload_n 2, 1) := by decide +kernel
theorem dX8_set_85 : decode cX8_set 85 = .ok (.iadd, 1) := by decide +kernel
theorem dX8_set_86 : decode cX8_set 86 = .ok (.iaload, 1) := by decide +kernel
theorem dX8_set_87 : decode cX8_set 87 = .ok (.istore 4, 2) := by decide +kernel
theorem dX8_set_89 : decode cX8_set 89 = .ok (.aload_n 0, 1) := by decide +kernel
theorem dX8_set_90 : decode cX8_set 90 = .ok (.getfield 13, 3) := by decide +kernel
theorem dX8_set_93 : decode cX8_set 93 = .ok (.iload_n 1, 1) := by decide +kernel
theorem dX8_set_94 : decode cX8_set 94 = .ok (.invokestatic 122, 3) := by decide +kernel
theorem dX8_set_97 : decode cX8_set 97 = .ok (.iload_n 2, 1) := by decide +kernel
theorem dX8_set_98 : decode cX8_set 98 = .ok (.iadd, 1) := by decide +kernel
theorem dX8_set_99 : decode cX8_set 99 = .ok (.iload_n 3, 1) := by decide +kernel
theorem dX8_set_100 : decode cX8_set 100 = .ok (.iastore, 1) := by decide +kernel
theorem dX8_set_101 : decode cX8_set 101 = .ok (.aload_n 0, 1) := by decide +kernel
theorem dX8_set_102 : decode cX8_set 102 = .ok (.iload 4, 2) := by decide +kernel
theorem dX8_set_104 : decode cX8_set 104 = .ok (.invokevirtual 102, 3) := by decide +kernel
theorem dX8_set_107 : decode cX8_set 107 = .ok (.ireturn, 1) := by decide +kernel
noncomputable def EX8_set : Sx := (sseq (fpi 7 0 (rl 0) (ik 0)) (sseq (sif (bor (bnot (bz cne (csz DX8_in (aj (i2l (il 2)) (aj (jk 0) (aj (jk 2) anil)))))) (bnot (bz cne (csz DX8_in (aj (i2l (il 3)) (aj (jk 0) (aj (jc (bz ceq (il 2)) (jk 99) (jc (bc ceq (il 2) (ik 1)) (jk 4999) (jk 9))) anil))))))) (sret (cvi 7 DX8_refuse (rl 0) (ai (ik (-1)) anil))) snop) (sseq (sif (bnot (bz cne (cvz 7 DX8_isChamber (rl 0) (ai (il 1) anil)))) (sret (cvi 7 DX8_refuse (rl 0) (ai (ik (-2)) anil))) snop) (sseq (scv 7 DX8_remember (rl 0) (ai (ik 4) anil)) (sseq (ssi 4 (iald (fgr 7 3 (rl 0)) (i2 (· + ·) (csi DX8_chamberAt (ai (il 1) anil)) (il 2)))) (sseq (aii (fgr 7 3 (rl 0)) (i2 (· + ·) (csi DX8_chamberAt (ai (il 1) anil)) (il 2)) (il 3)) (sret (cvi 7 DX8_tell (rl 0) (ai (il 4) anil)))))))))
noncomputable def DX8_set : Fi := mfi 5 EX8_set
set_option maxRecDepth 4000 in
theorem BX8_set : Vs RX8 cX8_set 5 (rmk 2 46) 0 0 EX8_set := (v_seq (v_fpi kX8 lk995 (by decide) rfl rfl (by decide +kernel) (v_aload_n (i := 0) dX8_set_0 rfl (rfl : 0 + 1 = 1)) (v_iconst (v := 0) dX8_set_1 (by decide) (rfl : 1 + 1 = 2)) dX8_set_2 (rfl : 2 + 3 = 5)) (v_seq (v_if (v_or (v_not (v_zne_f (v_csz IX8_in hX8_in lk1120 ⟨by decide, by decide⟩ (by decide) (v_aj (v_i2l (v_iload_n (i := 2) dX8_set_5 rfl (rfl : 5 + 1 = 6)) dX8_set_6 (rfl : 6 + 1 = 7)) (v_aj (v_lconst (v := 0) dX8_set_7 (by decide) (rfl : 7 + 1 = 8)) (v_aj (v_ldc2 (v := 2) lk1189 dX8_set_8 (rfl : 8 + 3 = 11)) v_anil))) dX8_set_11 (rfl : 11 + 3 = 14)) dX8_set_14 (rfl : ((14 : Nat) : Int) + 36 = ((50 : Nat) : Int)) (rfl : 14 + 3 = 17))) (v_not (v_zne_t (v_csz IX8_in hX8_in lk1120 ⟨by decide, by decide⟩ (by decide) (v_aj (v_i2l (v_iload_n (i := 3) dX8_set_17 rfl (rfl : 17 + 1 = 18)) dX8_set_18 (rfl : 18 + 1 = 19)) (v_aj (v_lconst (v := 0) dX8_set_19 (by decide) (rfl : 19 + 1 = 20)) (v_aj (v_jc (v_zeq_f (v_iload_n (i := 2) dX8_set_20 rfl (rfl : 20 + 1 = 21)) dX8_set_21 (rfl : ((21 : Nat) : Int) + 9 = ((30 : Nat) : Int)) (rfl : 21 + 3 = 24)) (vj_goto (v_ldc2 (v := 99) lk1131 dX8_set_24 (rfl : 24 + 3 = 27)) dX8_set_27 (rfl : ((27 : Nat) : Int) + 17 = ((44 : Nat) : Int))) (v_jc (v_ieq_f (v_iload_n (i := 2) dX8_set_30 rfl (rfl : 30 + 1 = 31)) (v_iconst (v := 1) dX8_set_31 (by decide) (rfl : 31 + 1 = 32)) dX8_set_32 (rfl : ((32 : Nat) : Int) + 9 = ((41 : Nat) : Int)) (rfl : 32 + 3 = 35)) (vj_goto (v_ldc2 (v := 4999) lk1132 dX8_set_35 (rfl : 35 + 3 = 38)) dX8_set_38 (rfl : ((38 : Nat) : Int) + 6 = ((44 : Nat) : Int))) (v_ldc2 (v := 9) lk1190 dX8_set_41 (rfl : 41 + 3 = 44)))) v_anil))) dX8_set_44 (rfl : 44 + 3 = 47)) dX8_set_47 (rfl : ((47 : Nat) : Int) + 9 = ((56 : Nat) : Int)) (rfl : 47 + 3 = 50)))) (v_ret (v_cvi kX8 IX8_refuse hX8_refuse lk1105 ⟨by decide, by decide⟩ (by decide) (v_aload_n (i := 0) dX8_set_50 rfl (rfl : 50 + 1 = 51)) (v_ai (v_iconst (v := (-1)) dX8_set_51 (by decide) (rfl : 51 + 1 = 52)) v_anil) dX8_set_52 (rfl : 52 + 3 = 55)) dX8_set_55) v_nop) (v_seq (v_if (v_not (v_zne_t (v_cvz kX8 IX8_isChamber hX8_isChamber lk1145 ⟨by decide, by decide⟩ (by decide) (v_aload_n (i := 0) dX8_set_56 rfl (rfl : 56 + 1 = 57)) (v_ai (v_iload_n (i := 1) dX8_set_57 rfl (rfl : 57 + 1 = 58)) v_anil) dX8_set_58 (rfl : 58 + 3 = 61)) dX8_set_61 (rfl : ((61 : Nat) : Int) + 10 = ((71 : Nat) : Int)) (rfl : 61 + 3 = 64))) (v_ret (v_cvi kX8 IX8_refuse hX8_refuse lk1105 ⟨by decide, by decide⟩ (by decide) (v_aload_n (i := 0) dX8_set_64 rfl (rfl : 64 + 1 = 65)) (v_ai (v_bipush (v := (-2)) dX8_set_65 (by decide) (rfl : 65 + 2 = 67)) v_anil) dX8_set_67 (rfl : 67 + 3 = 70)) dX8_set_70) v_nop) (v_seq (v_scv kX8 IX8_remember hX8_remember lk1133 ⟨by decide, by decide⟩ (v_aload_n (i := 0) dX8_set_71 rfl (rfl : 71 + 1 = 72)) (v_ai (v_iconst (v := 4) dX8_set_72 (by decide) (rfl : 72 + 1 = 73)) v_anil) dX8_set_73 (rfl : 73 + 3 = 76)) (v_seq (v_istore (i := 4) (v_iald (v_gfr kX8 lk998 (by decide) rfl (v_aload_n (i := 0) dX8_set_76 rfl (rfl : 76 + 1 = 77)) dX8_set_77 (rfl : 77 + 3 = 80)) (v_iadd (v_csi IX8_chamberAt hX8_chamberAt lk1137 ⟨by decide, by decide⟩ (by decide) (v_ai (v_iload_n (i := 1) dX8_set_80 rfl (rfl : 80 + 1 = 81)) v_anil) dX8_set_81 (rfl : 81 + 3 = 84)) (v_iload_n (i := 2) dX8_set_84 rfl (rfl : 84 + 1 = 85)) dX8_set_85 (rfl : 85 + 1 = 86)) dX8_set_86 (rfl : 86 + 1 = 87)) dX8_set_87 (by decide) (rfl : 87 + 2 = 89)) (v_seq (v_aii (v_gfr kX8 lk998 (by decide) rfl (v_aload_n (i := 0) dX8_set_89 rfl (rfl : 89 + 1 = 90)) dX8_set_90 (rfl : 90 + 3 = 93)) (v_iadd (v_csi IX8_chamberAt hX8_chamberAt lk1137 ⟨by decide, by decide⟩ (by decide) (v_ai (v_iload_n (i := 1) dX8_set_93 rfl (rfl : 93 + 1 = 94)) v_anil) dX8_set_94 (rfl : 94 + 3 = 97)) (v_iload_n (i := 2) dX8_set_97 rfl (rfl : 97 + 1 = 98)) dX8_set_98 (rfl : 98 + 1 = 99)) (v_iload_n (i := 3) dX8_set_99 rfl (rfl : 99 + 1 = 100)) dX8_set_100 (rfl : 100 + 1 = 101)) (v_ret (v_cvi kX8 IX8_tell hX8_tell lk1112 ⟨by decide, by decide⟩ (by decide) (v_aload_n (i := 0) dX8_set_101 rfl (rfl : 101 + 1 = 102)) (v_ai (v_iload (i := 4) dX8_set_102 (rfl : 102 + 2 = 104)) v_anil) dX8_set_104 (rfl : 104 + 3 = 107)) dX8_set_107)))))))
theorem IX8_set : Mi yX8_set cX8_set 5 (rmk 2 46) DX8_set := mk_i (by decide +kernel) BX8_set

theorem dX8_stage_0 : decode cX8_stage 0 = .ok (.aload_n 0, 1) := by decide +kernel
theorem dX8_stage_1 : decode cX8_stage 1 = .ok (.iconst 0, 1) := by decide +kernel
theorem dX8_stage_2 : decode cX8_stage 2 = .ok (.putfield 84, 3) := by decide +kernel
theorem dX8_stage_5 : decode cX8_stage 5 = .ok (.aload_n 0, 1) := by decide +kernel
theorem dX8_stage_6 : decode cX8_stage 6 = .ok (.iload_n 1, 1) := by decide +kernel
theorem dX8_stage_7 : decode cX8_stage 7 = .ok (.invokevirtual 155, 3) := by decide +kernel
theorem dX8_stage_10 : decode cX8_stage 10 = .ok (.ifCond .ne 7, 3) := by decide +kernel
theorem dX8_stage_13 : decode cX8_stage 13 = .ok (.iconst (-1), 1) := by decide +kernel
theorem dX8_stage_14 : decode cX8_stage 14 = .ok (.goto 21, 3) := by decide +kernel
theorem dX8_stage_17 : decode cX8_stage 17 = .ok (.aload_n 0, 1) := by decide +kernel
theorem dX8_stage_18 : decode cX8_stage 18 = .ok (.invokevirtual 254, 3) := by decide +kernel
theorem dX8_stage_21 : decode cX8_stage 21 = .ok (.ifCond .eq 12, 3) := by decide +kernel
theorem dX8_stage_24 : decode cX8_stage 24 = .ok (.aload_n 0, 1) := by decide +kernel
theorem dX8_stage_25 : decode cX8_stage 25 = .ok (.getfield 57, 3) := by decide +kernel
theorem dX8_stage_28 : decode cX8_stage 28 = .ok (.iload_n 1, 1) := by decide +kernel
theorem dX8_stage_29 : decode cX8_stage 29 = .ok (.iaload, 1) := by decide +kernel
theorem dX8_stage_30 : decode cX8_stage 30 = .ok (.goto 5, 3) := by decide +kernel
theorem dX8_stage_33 : decode cX8_stage 33 = .ok (.bipush (-3), 2) := by decide +kernel
theorem dX8_stage_35 : decode cX8_stage 35 = .ok (.ireturn, 1) := by decide +kernel
noncomputable def EX8_stage : Sx := (sseq (fpi 7 0 (rl 0) (ik 0)) (sret (ic (bnot (bz cne (cvz 7 DX8_isPump (rl 0) (ai (il 1) anil)))) (ik (-1)) (ic (bz cne (cvz 7 DX8_reckonNow (rl 0) anil)) (iald (fgr 7 20 (rl 0)) (il 1)) (ik (-3))))))
noncomputable def DX8_stage : Fi := mfi 2 EX8_stage
set_option maxRecDepth 4000 in
theorem BX8_stage : Vs RX8 cX8_stage 2 (rmk 6 134) 0 0 EX8_stage := (v_seq (v_fpi kX8 lk995 (by decide) rfl rfl (by decide +kernel) (v_aload_n (i := 0) dX8_stage_0 rfl (rfl : 0 + 1 = 1)) (v_iconst (v := 0) dX8_stage_1 (by decide) (rfl : 1 + 1 = 2)) dX8_stage_2 (rfl : 2 + 3 = 5)) (v_ret (v_ic (v_not (v_zne_t (v_cvz kX8 IX8_isPump hX8_isPump lk1181 ⟨by decide, by decide⟩ (by decide) (v_aload_n (i := 0) dX8_stage_5 rfl (rfl : 5 + 1 = 6)) (v_ai (v_iload_n (i := 1) dX8_stage_6 rfl (rfl : 6 + 1 = 7)) v_anil) dX8_stage_7 (rfl : 7 + 3 = 10)) dX8_stage_10 (rfl : ((10 : Nat) : Int) + 7 = ((17 : Nat) : Int)) (rfl : 10 + 3 = 13))) (vi_goto (v_iconst (v := (-1)) dX8_stage_13 (by decide) (rfl : 13 + 1 = 14)) dX8_stage_14 (rfl : ((14 : Nat) : Int) + 21 = ((35 : Nat) : Int))) (v_ic (v_zne_f (v_cvz kX8 IX8_reckonNow hX8_reckonNow lk1241 ⟨by decide, by decide⟩ (by decide) (v_aload_n (i := 0) dX8_stage_17 rfl (rfl : 17 + 1 = 18)) v_anil dX8_stage_18 (rfl : 18 + 3 = 21)) dX8_stage_21 (rfl : ((21 : Nat) : Int) + 12 = ((33 : Nat) : Int)) (rfl : 21 + 3 = 24)) (vi_goto (v_iald (v_gfr kX8 lk1015 (by decide) rfl (v_aload_n (i := 0) dX8_stage_24 rfl (rfl : 24 + 1 = 25)) dX8_stage_25 (rfl : 25 + 3 = 28)) (v_iload_n (i := 1) dX8_stage_28 rfl (rfl : 28 + 1 = 29)) dX8_stage_29 (rfl : 29 + 1 = 30)) dX8_stage_30 (rfl : ((30 : Nat) : Int) + 5 = ((35 : Nat) : Int))) (v_bipush (v := (-3)) dX8_stage_33 (by decide) (rfl : 33 + 2 = 35)))) dX8_stage_35))
theorem IX8_stage : Mi yX8_stage cX8_stage 2 (rmk 6 134) DX8_stage := mk_i (by decide +kernel) BX8_stage

theorem dX8_status_0 : decode cX8_status 0 = .ok (.aload_n 0, 1) := by decide +kernel
theorem dX8_status_1 : decode cX8_status 1 = .ok (.iconst 0, 1) := by decide +kernel
theorem dX8_status_2 : decode cX8_status 2 = .ok (.putfield 84, 3) := by decide +kernel
theorem dX8_status_5 : decode cX8_status 5 = .ok (.aload_n 0, 1) := by decide +kernel
theorem dX8_status_6 : decode cX8_status 6 = .ok (.getfield 88, 3) := by decide +kernel
theorem dX8_status_9 : decode cX8_status 9 = .ok (.ireturn, 1) := by decide +kernel
noncomputable def EX8_status : Sx := (sseq (fpi 7 0 (rl 0) (ik 0)) (sret (fgi 7 1 (rl 0))))
noncomputable def DX8_status : Fi := mfi 1 EX8_status
set_option maxRecDepth 4000 in
theorem BX8_status : Vs RX8 cX8_status 1 (rmk 0 0) 0 0 EX8_status := (v_seq (v_fpi kX8 lk995 (by decide) rfl rfl (by decide +kernel) (v_aload_n (i := 0) dX8_status_0 rfl (rfl : 0 + 1 = 1)) (v_iconst (v := 0) dX8_status_1 (by decide) (rfl : 1 + 1 = 2)) dX8_status_2 (rfl : 2 + 3 = 5)) (v_ret (v_gfi kX8 lk996 (by decide) rfl (v_aload_n (i := 0) dX8_status_5 rfl (rfl : 5 + 1 = 6)) dX8_status_6 (rfl : 6 + 3 = 9)) dX8_status_9))
theorem IX8_status : Mi yX8_status cX8_status 1 (rmk 0 0) DX8_status := mk_i (by decide +kernel) BX8_status

theorem dX8_trips_0 : decode cX8_trips 0 = .ok (.iconst 0, 1) := by decide +kernel
theorem dX8_trips_1 : decode cX8_trips 1 = .ok (.istore_n 1, 1) := by decide +kernel
theorem dX8_trips_2 : decode cX8_trips 2 = .ok (.aload_n 0, 1) := by decide +kernel
theorem dX8_trips_3 : decode cX8_trips 3 = .ok (.invokevirtual 254, 3) := by decide +kernel
theorem dX8_trips_6 : decode cX8_trips 6 = .ok (.istore_n 2, 1) := by decide +kernel
theorem dX8_trips_7 : decode cX8_trips 7 = .ok (.iconst 0, 1) := by decide +kernel
theorem dX8_trips_8 : decode cX8_trips 8 = .ok (.istore_n 3, 1) := by decide +kernel
theorem dX8_trips_9 : decode cX8_trips 9 = .ok (.iload_n 3, 1) := by decide +kernel
theorem dX8_trips_10 : decode cX8_trips 10 = .ok (.aload_n 0, 1) := by decide +kernel
theorem dX8_trips_11 : decode cX8_trips 11 = .ok (.getfield 13, 3) := by decide +kernel
theorem dX8_trips_14 : decode cX8_trips 14 = .ok (.iconst 2, 1) := by decide +kernel
theorem dX8_trips_15 : decode cX8_trips 15 = .ok (.iaload, 1) := by decide +kernel
theorem dX8_trips_16 : decode cX8_trips 16 = .ok (.if_icmp .ge 95, 3) := by decide +kernel
theorem dX8_trips_19 : decode cX8_trips 19 = .ok (.iload_n 2, 1) := by decide +kernel
theorem dX8_trips_20 : decode cX8_trips 20 = .ok (.ifCond .eq 91, 3) := by decide +kernel
theorem dX8_trips_23 : decode cX8_trips 23 = .ok (.iload_n 3, 1) := by decide +kernel
theorem dX8_trips_24 : decode cX8_trips 24 = .ok (.invokestatic 119, 3) := by decide +kernel
theorem dX8_trips_27 : decode cX8_trips 27 = .ok (.istore 4, 2) := by decide +kernel
theorem dX8_trips_29 : decode cX8_trips 29 = .ok (.aload_n 0, 1) := by decide +kernel
theorem dX8_trips_30 : decode cX8_trips 30 = .ok (.iload_n 3, 1) := by decide +kernel
theorem dX8_trips_31 : decode cX8_trips 31 = .ok (.invokevirtual 207, 3) := by decide +kernel
theorem dX8_trips_34 : decode cX8_trips 34 = .ok (.ifCond .eq 71, 3) := by decide +kernel
theorem dX8_trips_37 : decode cX8_trips 37 = .ok (.aload_n 0, 1) := by decide +kernel
theorem dX8_trips_38 : decode cX8_trips 38 = .ok (.getfield 13, 3) := by decide +kernel
theorem dX8_trips_41 : decode cX8_trips 41 = .ok (.iload 4, 2) := by decide +kernel
theorem dX8_trips_43 : decode cX8_trips 43 = .ok (.bipush 7, 2) := by decide +kernel
theorem dX8_trips_45 : decode cX8_trips 45 = .ok (.iadd, 1) := by decide +kernel
theorem dX8_trips_46 : decode cX8_trips 46 = .ok (.iaload, 1) := by decide +kernel
theorem dX8_trips_47 : decode cX8_trips 47 = .ok (.ifCond .le 58, 3) := by decide +kernel
theorem dX8_trips_50 : decode cX8_trips 50 = .ok (.aload_n 0, 1) := by decide +kernel
theorem dX8_trips_51 : decode cX8_trips 51 = .ok (.aload_n 0, 1) := by decide +kernel
theorem dX8_trips_52 : decode cX8_trips 52 = .ok (.getfield 13, 3) := by decide +kernel
theorem dX8_trips_55 : decode cX8_trips 55 = .ok (.iload 4, 2) := by decide +kernel
theorem dX8_trips_57 : decode cX8_trips 57 = .ok (.iaload, 1) := by decide +kernel
theorem dX8_trips_58 : decode cX8_trips 58 = .ok (.invokevirtual 257, 3) := by decide +kernel
theorem dX8_trips_61 : decode cX8_trips 61 = .ok (.sipush 1000, 3) := by decide +kernel
theorem dX8_trips_64 : decode cX8_trips 64 = .ok (.aload_n 0, 1) := by decide +kernel
theorem dX8_trips_65 : decode cX8_trips 65 = .ok (.getfield 13, 3) := by decide +kernel
theorem dX8_trips_68 : decode cX8_trips 68 = .ok (.iload 4, 2) := by decide +kernel
theorem dX8_trips_70 : decode cX8_trips 70 = .ok (.bipush 7, 2) := by decide +kernel
theorem dX8_trips_72 : decode cX8_trips 72 = .ok (.iadd, 1) := by decide +kernel
theorem dX8_trips_73 : decode cX8_trips 73 = .ok (.iaload, 1) := by decide +kernel
theorem dX8_trips_74 : decode cX8_trips 74 = .ok (.imul, 1) := by decide +kernel
theorem dX8_trips_75 : decode cX8_trips 75 = .ok (.if_icmp .lt 30, 3) := by decide +kernel
theorem dX8_trips_78 : decode cX8_trips 78 = .ok (.aload_n 0, 1) := by decide +kernel
theorem dX8_trips_79 : decode cX8_trips 79 = .ok (.getfield 13, 3) := by decide +kernel
theorem dX8_trips_82 : decode cX8_trips 82 = .ok (.iload 4, 2) := by decide +kernel
theorem dX8_trips_84 : decode cX8_trips 84 = .ok (.iconst 1, 1) := by decide +kernel
theorem dX8_trips_85 : decode cX8_trips 85 = .ok (.iadd, 1) := by decide +kernel
theorem dX8_trips_86 : decode cX8_trips 86 = .ok (.iconst 0, 1) := by decide +kernel
theorem dX8_trips_87 : decode cX8_trips 87 = .ok (.iastore, 1) := by decide +kernel
theorem dX8_trips_88 : decode cX8_trips 88 = .ok (.aload_n 0, 1) := by decide +kernel
theorem dX8_trips_89 : decode cX8_trips 89 = .ok (.getfield 13, 3) := by decide +kernel
theorem dX8_trips_92 : decode cX8_trips 92 = .ok (.iload 4, 2) := by decide +kernel
theorem dX8_trips_94 : decode cX8_trips 94 = .ok (.bipush 8, 2) := by decide +kernel
theorem dX8_trips_96 : decode cX8_trips 96 = .ok (.iadd, 1) := by decide +kernel
theorem dX8_trips_97 : decode cX8_trips 97 = .ok (.dup2, 1) := by decide +kernel
theorem dX8_trips_98 : decode cX8_trips 98 = .ok (.iaload, 1) := by decide +kernel
theorem dX8_trips_99 : decode cX8_trips 99 = .ok (.iconst 1, 1) := by decide +kernel
theorem dX8_trips_100 : decode cX8_trips 100 = .ok (.iadd, 1) := by decide +kernel
theorem dX8_trips_101 : decode cX8_trips 101 = .ok (.iastore, 1) := by decide +kernel
theorem dX8_trips_102 : decode cX8_trips 102 = .ok (.iinc 1 1, 3) := by decide +kernel
theorem dX8_trips_105 : decode cX8_trips 105 = .ok (.iinc 3 1, 3) := by decide +kernel
theorem dX8_trips_108 : decode cX8_trips 108 = .ok (.goto (-99), 3) := by decide +kernel
theorem dX8_trips_111 : decode cX8_trips 111 = .ok (.iload_n 1, 1) := by decide +kernel
theorem dX8_trips_112 : decode cX8_trips 112 = .ok (.ireturn, 1) := by decide +kernel
noncomputable def qX8_trips_1 : Bx := (band (bc clt (il 3) (iald (fgr 7 3 (rl 0)) (ik 2))) (bz cne (il 2)))
noncomputable def wX8_trips_1 : Sx := (sseq (scut 4 (sseq (ssi 4 (csi DX8_pumpAt (ai (il 3) anil))) (sif (band (band (bz cne (cvz 7 DX8_runs (rl 0) (ai (il 3) anil))) (bz cgt (iald (fgr 7 3 (rl 0)) (i2 (· + ·) (il 4) (ik 7))))) (bc cge (cvi 7 DX8_readingOf (rl 0) (ai (iald (fgr 7 3 (rl 0)) (il 4)) anil)) (i2 (· * ·) (ik 1000) (iald (fgr 7 3 (rl 0)) (i2 (· + ·) (il 4) (ik 7)))))) (sseq (aii (fgr 7 3 (rl 0)) (i2 (· + ·) (il 4) (ik 1)) (ik 0)) (sseq (aoi (· + ·) (fgr 7 3 (rl 0)) (i2 (· + ·) (il 4) (ik 8)) (ik 1)) (sinc 1 1))) snop))) (sinc 3 1))
noncomputable def EX8_trips : Sx := (sseq (ssi 1 (ik 0)) (sseq (ssi 2 (cvz 7 DX8_reckonNow (rl 0) anil)) (sseq (scut 3 (sseq (ssi 3 (ik 0)) (swh qX8_trips_1 wX8_trips_1))) (sret (il 1)))))
noncomputable def DX8_trips : Fi := mfi 5 EX8_trips
set_option maxRecDepth 4000 in
theorem BX8_trips : Vs RX8 cX8_trips 5 (rmk 6 134) 0 0 EX8_trips := (v_seq (v_istore_n (i := 1) (v_iconst (v := 0) dX8_trips_0 (by decide) (rfl : 0 + 1 = 1)) dX8_trips_1 rfl (by decide) (rfl : 1 + 1 = 2)) (v_seq (v_istore_n (i := 2) (v_cvz kX8 IX8_reckonNow hX8_reckonNow lk1241 ⟨by decide, by decide⟩ (by decide) (v_aload_n (i := 0) dX8_trips_2 rfl (rfl : 2 + 1 = 3)) v_anil dX8_trips_3 (rfl : 3 + 3 = 6)) dX8_trips_6 rfl (by decide) (rfl : 6 + 1 = 7)) (v_seq (v_cut (n := 3) (v_seq (v_istore_n (i := 3) (v_iconst (v := 0) dX8_trips_7 (by decide) (rfl : 7 + 1 = 8)) dX8_trips_8 rfl (by decide) (rfl : 8 + 1 = 9)) (v_wh (v_and (v_ilt_f (v_iload_n (i := 3) dX8_trips_9 rfl (rfl : 9 + 1 = 10)) (v_iald (v_gfr kX8 lk998 (by decide) rfl (v_aload_n (i := 0) dX8_trips_10 rfl (rfl : 10 + 1 = 11)) dX8_trips_11 (rfl : 11 + 3 = 14)) (v_iconst (v := 2) dX8_trips_14 (by decide) (rfl : 14 + 1 = 15)) dX8_trips_15 (rfl : 15 + 1 = 16)) dX8_trips_16 (rfl : ((16 : Nat) : Int) + 95 = ((111 : Nat) : Int)) (rfl : 16 + 3 = 19)) (v_zne_f (v_iload_n (i := 2) dX8_trips_19 rfl (rfl : 19 + 1 = 20)) dX8_trips_20 (rfl : ((20 : Nat) : Int) + 91 = ((111 : Nat) : Int)) (rfl : 20 + 3 = 23))) (vs_goto (v_seq (v_cut (n := 4) (v_seq (v_istore (i := 4) (v_csi IX8_pumpAt hX8_pumpAt lk1163 ⟨by decide, by decide⟩ (by decide) (v_ai (v_iload_n (i := 3) dX8_trips_23 rfl (rfl : 23 + 1 = 24)) v_anil) dX8_trips_24 (rfl : 24 + 3 = 27)) dX8_trips_27 (by decide) (rfl : 27 + 2 = 29)) (v_if (v_and (v_and (v_zne_f (v_cvz kX8 IX8_runs hX8_runs lk1273 ⟨by decide, by decide⟩ (by decide) (v_aload_n (i := 0) dX8_trips_29 rfl (rfl : 29 + 1 = 30)) (v_ai (v_iload_n (i := 3) dX8_trips_30 rfl (rfl : 30 + 1 = 31)) v_anil) dX8_trips_31 (rfl : 31 + 3 = 34)) dX8_trips_34 (rfl : ((34 : Nat) : Int) + 71 = ((105 : Nat) : Int)) (rfl : 34 + 3 = 37)) (v_zgt_f (v_iald (v_gfr kX8 lk998 (by decide) rfl (v_aload_n (i := 0) dX8_trips_37 rfl (rfl : 37 + 1 = 38)) dX8_trips_38 (rfl : 38 + 3 = 41)) (v_iadd (v_iload (i := 4) dX8_trips_41 (rfl : 41 + 2 = 43)) (v_bipush (v := 7) dX8_trips_43 (by decide) (rfl : 43 + 2 = 45)) dX8_trips_45 (rfl : 45 + 1 = 46)) dX8_trips_46 (rfl : 46 + 1 = 47)) dX8_trips_47 (rfl : ((47 : Nat) : Int) + 58 = ((105 : Nat) : Int)) (rfl : 47 + 3 = 50))) (v_ige_f (v_cvi kX8 IX8_readingOf hX8_readingOf lk1309 ⟨by decide, by decide⟩ (by decide) (v_aload_n (i := 0) dX8_trips_50 rfl (rfl : 50 + 1 = 51)) (v_ai (v_iald (v_gfr kX8 lk998 (by decide) rfl (v_aload_n (i := 0) dX8_trips_51 rfl (rfl : 51 + 1 = 52)) dX8_trips_52 (rfl : 52 + 3 = 55)) (v_iload (i := 4) dX8_trips_55 (rfl : 55 + 2 = 57)) dX8_trips_57 (rfl : 57 + 1 = 58)) v_anil) dX8_trips_58 (rfl : 58 + 3 = 61)) (v_imul (v_sipush (v := 1000) dX8_trips_61 (by decide) (rfl : 61 + 3 = 64)) (v_iald (v_gfr kX8 lk998 (by decide) rfl (v_aload_n (i := 0) dX8_trips_64 rfl (rfl : 64 + 1 = 65)) dX8_trips_65 (rfl : 65 + 3 = 68)) (v_iadd (v_iload (i := 4) dX8_trips_68 (rfl : 68 + 2 = 70)) (v_bipush (v := 7) dX8_trips_70 (by decide) (rfl : 70 + 2 = 72)) dX8_trips_72 (rfl : 72 + 1 = 73)) dX8_trips_73 (rfl : 73 + 1 = 74)) dX8_trips_74 (rfl : 74 + 1 = 75)) dX8_trips_75 (rfl : ((75 : Nat) : Int) + 30 = ((105 : Nat) : Int)) (rfl : 75 + 3 = 78))) (v_seq (v_aii (v_gfr kX8 lk998 (by decide) rfl (v_aload_n (i := 0) dX8_trips_78 rfl (rfl : 78 + 1 = 79)) dX8_trips_79 (rfl : 79 + 3 = 82)) (v_iadd (v_iload (i := 4) dX8_trips_82 (rfl : 82 + 2 = 84)) (v_iconst (v := 1) dX8_trips_84 (by decide) (rfl : 84 + 1 = 85)) dX8_trips_85 (rfl : 85 + 1 = 86)) (v_iconst (v := 0) dX8_trips_86 (by decide) (rfl : 86 + 1 = 87)) dX8_trips_87 (rfl : 87 + 1 = 88)) (v_seq (v_aoi_iadd (v_gfr kX8 lk998 (by decide) rfl (v_aload_n (i := 0) dX8_trips_88 rfl (rfl : 88 + 1 = 89)) dX8_trips_89 (rfl : 89 + 3 = 92)) (v_iadd (v_iload (i := 4) dX8_trips_92 (rfl : 92 + 2 = 94)) (v_bipush (v := 8) dX8_trips_94 (by decide) (rfl : 94 + 2 = 96)) dX8_trips_96 (rfl : 96 + 1 = 97)) dX8_trips_97 dX8_trips_98 (rfl : 97 + 1 + 1 = 99) (v_iconst (v := 1) dX8_trips_99 (by decide) (rfl : 99 + 1 = 100)) dX8_trips_100 dX8_trips_101 (rfl : 100 + 1 + 1 = 102)) (v_iinc (v := 1) dX8_trips_102 (by decide) (by decide) (rfl : 102 + 3 = 105)))) v_nop))) (v_iinc (v := 1) dX8_trips_105 (by decide) (by decide) (rfl : 105 + 3 = 108))) dX8_trips_108 (rfl : ((108 : Nat) : Int) + (-99) = ((9 : Nat) : Int)))))) (v_ret (v_iload_n (i := 1) dX8_trips_111 rfl (rfl : 111 + 1 = 112)) dX8_trips_112))))
theorem IX8_trips : Mi yX8_trips cX8_trips 5 (rmk 6 134) DX8_trips := mk_i (by decide +kernel) BX8_trips

theorem dX8_step_0 : decode cX8_step 0 = .ok (.iconst 0, 1) := by decide +kernel
theorem dX8_step_1 : decode cX8_step 1 = .ok (.istore_n 1, 1) := by decide +kernel
theorem dX8_step_2 : decode cX8_step 2 = .ok (.iconst 0, 1) := by decide +kernel
theorem dX8_step_3 : decode cX8_step 3 = .ok (.istore_n 2, 1) := by decide +kernel
theorem dX8_step_4 : decode cX8_step 4 = .ok (.iload_n 2, 1) := by decide +kernel
theorem dX8_step_5 : decode cX8_step 5 = .ok (.aload_n 0, 1) := by decide +kernel
theorem dX8_step_6 : decode cX8_step 6 = .ok (.getfield 13, 3) := by decide +kernel
theorem dX8_step_9 : decode cX8_step 9 = .ok (.iconst 3, 1) := by decide +kernel
theorem dX8_step_10 : decode cX8_step 10 = .ok (.iaload, 1) := by decide +kernel
theorem dX8_step_11 : decode cX8_step 11 = .ok (.if_icmp .ge 60, 3) := by decide +kernel
theorem dX8_step_14 : decode cX8_step 14 = .ok (.iload_n 2, 1) := by decide +kernel
theorem dX8_step_15 : decode cX8_step 15 = .ok (.invokestatic 171, 3) := by decide +kernel
theorem dX8_step_18 : decode cX8_step 18 = .ok (.istore_n 3, 1) := by decide +kernel
theorem dX8_step_19 : decode cX8_step 19 = .ok (.aload_n 0, 1) := by decide +kernel
theorem dX8_step_20 : decode cX8_step 20 = .ok (.iload_n 2, 1) := by decide +kernel
theorem dX8_step_21 : decode cX8_step 21 = .ok (.invokevirtual 263, 3) := by decide +kernel
theorem dX8_step_24 : decode cX8_step 24 = .ok (.ifCond .eq 41, 3) := by decide +kernel
theorem dX8_step_27 : decode cX8_step 27 = .ok (.aload_n 0, 1) := by decide +kernel
theorem dX8_step_28 : decode cX8_step 28 = .ok (.aload_n 0, 1) := by decide +kernel
theorem dX8_step_29 : decode cX8_step 29 = .ok (.getfield 13, 3) := by decide +kernel
theorem dX8_step_32 : decode cX8_step 32 = .ok (.iload_n 3, 1) := by decide +kernel
theorem dX8_step_33 : decode cX8_step 33 = .ok (.iconst 3, 1) := by decide +kernel
theorem dX8_step_34 : decode cX8_step 34 = .ok (.iadd, 1) := by decide +kernel
theorem dX8_step_35 : decode cX8_step 35 = .ok (.iaload, 1) := by decide +kernel
theorem dX8_step_36 : decode cX8_step 36 = .ok (.aload_n 0, 1) := by decide +kernel
theorem dX8_step_37 : decode cX8_step 37 = .ok (.getfield 13, 3) := by decide +kernel
theorem dX8_step_40 : decode cX8_step 40 = .ok (.iload_n 3, 1) := by decide +kernel
theorem dX8_step_41 : decode cX8_step 41 = .ok (.iconst 4, 1) := by decide +kernel
theorem dX8_step_42 : decode cX8_step 42 = .ok (.iadd, 1) := by decide +kernel
theorem dX8_step_43 : decode cX8_step 43 = .ok (.iaload, 1) := by decide +kernel
theorem dX8_step_44 : decode cX8_step 44 = .ok (.invokevirtual 266, 3) := by decide +kernel
theorem dX8_step_47 : decode cX8_step 47 = .ok (.ifCond .eq 18, 3) := by decide +kernel
theorem dX8_step_50 : decode cX8_step 50 = .ok (.aload_n 0, 1) := by decide +kernel
theorem dX8_step_51 : decode cX8_step 51 = .ok (.getfield 13, 3) := by decide +kernel
theorem dX8_step_54 : decode cX8_step 54 = .ok (.iload_n 3, 1) := by decide +kernel
theorem dX8_step_55 : decode cX8_step 55 = .ok (.iconst 5, 1) := by decide +kernel
theorem dX8_step_56 : decode cX8_step 56 = .ok (.iadd, 1) := by decide +kernel
theorem dX8_step_57 : decode cX8_step 57 = .ok (.dup2, 1) := by decide +kernel
theorem dX8_step_58 : decode cX8_step 58 = .ok (.iaload, 1) := by decide +kernel
theorem dX8_step_59 : decode cX8_step 59 = .ok (.iconst 1, 1) := by decide +kernel
theorem dX8_step_60 : decode cX8_step 60 = .ok (.iadd, 1) := by decide +kernel
theorem dX8_step_61 : decode cX8_step 61 = .ok (.iastore, 1) := by decide +kernel
theorem dX8_step_62 : decode cX8_step 62 = .ok (.iinc 1 1, 3) := by decide +kernel
theorem dX8_step_65 : decode cX8_step 65 = .ok (.iinc 2 1, 3) := by decide +kernel
theorem dX8_step_68 : decode cX8_step 68 = .ok (.goto (-64), 3) := by decide +kernel
theorem dX8_step_71 : decode cX8_step 71 = .ok (.iload_n 1, 1) := by decide +kernel
theorem dX8_step_72 : decode cX8_step 72 = .ok (.aload_n 0, 1) := by decide +kernel
theorem dX8_step_73 : decode cX8_step 73 = .ok (.invokevirtual 269, 3) := by decide +kernel
theorem dX8_step_76 : decode cX8_step 76 = .ok (.iadd, 1) := by decide +kernel
theorem dX8_step_77 : decode cX8_step 77 = .ok (.istore_n 1, 1) := by decide +kernel
theorem dX8_step_78 : decode cX8_step 78 = .ok (.aload_n 0, 1) := by decide +kernel
theorem dX8_step_79 : decode cX8_step 79 = .ok (.invokevirtual 273, 3) := by decide +kernel
theorem dX8_step_82 : decode cX8_step 82 = .ok (.iconst 0, 1) := by decide +kernel
theorem dX8_step_83 : decode cX8_step 83 = .ok (.istore_n 2, 1) := by decide +kernel
theorem dX8_step_84 : decode cX8_step 84 = .ok (.iload_n 2, 1) := by decide +kernel
theorem dX8_step_85 : decode cX8_step 85 = .ok (.aload_n 0, 1) := by decide +kernel
theorem dX8_step_86 : decode cX8_step 86 = .ok (.getfield 13, 3) := by decide +kernel
theorem dX8_step_89 : decode cX8_step 89 = .ok (.iconst 0, 1) := by decide +kernel
theorem dX8_step_90 : decode cX8_step 90 = .ok (.iaload, 1) := by decide +kernel
theorem dX8_step_91 : decode cX8_step 91 = .ok (.if_icmp .ge 45, 3) := by decide +kernel
theorem dX8_step_94 : decode cX8_step 94 = .ok (.iload_n 2, 1) := by decide +kernel
theorem dX8_step_95 : decode cX8_step 95 = .ok (.invokestatic 122, 3) := by decide +kernel
theorem dX8_step_98 : decode cX8_step 98 = .ok (.istore_n 3, 1) := by decide +kernel
theorem dX8_step_99 : decode cX8_step 99 = .ok (.aload_n 0, 1) := by decide +kernel
theorem dX8_step_100 : decode cX8_step 100 = .ok (.getfield 13, 3) := by decide +kernel
theorem dX8_step_103 : decode cX8_step 103 = .ok (.iload_n 3, 1) := by decide +kernel
theorem dX8_step_104 : decode cX8_step 104 = .ok (.iconst 1, 1) := by decide +kernel
theorem dX8_step_105 : decode cX8_step 105 = .ok (.iadd, 1) := by decide +kernel
theorem dX8_step_106 : decode cX8_step 106 = .ok (.dup2, 1) := by decide +kernel
theorem dX8_step_107 : decode cX8_step 107 = .ok (.iaload, 1) := by decide +kernel
theorem dX8_step_108 : decode cX8_step 108 = .ok (.aload_n 0, 1) := by decide +kernel
theorem dX8_step_109 : decode cX8_step 109 = .ok (.getfield 13, 3) := by decide +kernel
theorem dX8_step_112 : decode cX8_step 112 = .ok (.iload_n 3, 1) := by decide +kernel
theorem dX8_step_113 : decode cX8_step 113 = .ok (.iconst 1, 1) := by decide +kernel
theorem dX8_step_114 : decode cX8_step 114 = .ok (.iadd, 1) := by decide +kernel
theorem dX8_step_115 : decode cX8_step 115 = .ok (.iaload, 1) := by decide +kernel
theorem dX8_step_116 : decode cX8_step 116 = .ok (.aload_n 0, 1) := by decide +kernel
theorem dX8_step_117 : decode cX8_step 117 = .ok (.getfield 13, 3) := by decide +kernel
theorem dX8_step_120 : decode cX8_step 120 = .ok (.iload_n 3, 1) := by decide +kernel
theorem dX8_step_121 : decode cX8_step 121 = .ok (.iconst 2, 1) := by decide +kernel
theorem dX8_step_122 : decode cX8_step 122 = .ok (.iadd, 1) := by decide +kernel
theorem dX8_step_123 : decode cX8_step 123 = .ok (.iaload, 1) := by decide +kernel
theorem dX8_step_124 : decode cX8_step 124 = .ok (.imul, 1) := by decide +kernel
theorem dX8_step_125 : decode cX8_step 125 = .ok (.bipush 64, 2) := by decide +kernel
theorem dX8_step_127 : decode cX8_step 127 = .ok (.idiv, 1) := by decide +kernel
theorem dX8_step_128 : decode cX8_step 128 = .ok (.isub, 1) := by decide +kernel
theorem dX8_step_129 : decode cX8_step 129 = .ok (.iastore, 1) := by decide +kernel
theorem dX8_step_130 : decode cX8_step 130 = .ok (.iinc 2 1, 3) := by decide +kernel
theorem dX8_step_133 : decode cX8_step 133 = .ok (.goto (-49), 3) := by decide +kernel
theorem dX8_step_136 : decode cX8_step 136 = .ok (.aload_n 0, 1) := by decide +kernel
theorem dX8_step_137 : decode cX8_step 137 = .ok (.getfield 13, 3) := by decide +kernel
theorem dX8_step_140 : decode cX8_step 140 = .ok (.iconst 4, 1) := by decide +kernel
theorem dX8_step_141 : decode cX8_step 141 = .ok (.dup2, 1) := by decide +kernel
theorem dX8_step_142 : decode cX8_step 142 = .ok (.iaload, 1) := by decide +kernel
theorem dX8_step_143 : decode cX8_step 143 = .ok (.iconst 1, 1) := by decide +kernel
theorem dX8_step_144 : decode cX8_step 144 = .ok (.iadd, 1) := by decide +kernel
theorem dX8_step_145 : decode cX8_step 145 = .ok (.iastore, 1) := by decide +kernel
theorem dX8_step_146 : decode cX8_step 146 = .ok (.iload_n 1, 1) := by decide +kernel
theorem dX8_step_147 : decode cX8_step 147 = .ok (.ireturn, 1) := by decide +kernel
noncomputable def qX8_step_1 : Bx := (bc clt (il 2) (iald (fgr 7 3 (rl 0)) (ik 3)))
noncomputable def wX8_step_1 : Sx := (sseq (scut 3 (sseq (ssi 3 (csi DX8_watchAt (ai (il 2) anil))) (sif (band (bz cne (cvz 7 DX8_isSo (rl 0) (ai (il 2) anil))) (bz cne (cvz 7 DX8_acts (rl 0) (ai (iald (fgr 7 3 (rl 0)) (i2 (· + ·) (il 3) (ik 3))) (ai (iald (fgr 7 3 (rl 0)) (i2 (· + ·) (il 3) (ik 4))) anil))))) (sseq (aoi (· + ·) (fgr 7 3 (rl 0)) (i2 (· + ·) (il 3) (ik 5)) (ik 1)) (sinc 1 1)) snop))) (sinc 2 1))
noncomputable def qX8_step_2 : Bx := (bc clt (il 2) (iald (fgr 7 3 (rl 0)) (ik 0)))
noncomputable def wX8_step_2 : Sx := (sseq (scut 3 (sseq (ssi 3 (csi DX8_chamberAt (ai (il 2) anil))) (aoi (· - ·) (fgr 7 3 (rl 0)) (i2 (· + ·) (il 3) (ik 1)) (i2d (· / ·) (i2 (· * ·) (iald (fgr 7 3 (rl 0)) (i2 (· + ·) (il 3) (ik 1))) (iald (fgr 7 3 (rl 0)) (i2 (· + ·) (il 3) (ik 2)))) (ik 64))))) (sinc 2 1))
noncomputable def EX8_step : Sx := (sseq (ssi 1 (ik 0)) (sseq (scut 2 (sseq (ssi 2 (ik 0)) (swh qX8_step_1 wX8_step_1))) (sseq (ssi 1 (i2 (· + ·) (il 1) (cvi 7 DX8_trips (rl 0) anil))) (sseq (scv 7 DX8_logs (rl 0) anil) (sseq (scut 2 (sseq (ssi 2 (ik 0)) (swh qX8_step_2 wX8_step_2))) (sseq (aoi (· + ·) (fgr 7 3 (rl 0)) (ik 4) (ik 1)) (sret (il 1))))))))
noncomputable def DX8_step : Fi := mfi 4 EX8_step
set_option maxRecDepth 4000 in
theorem BX8_step : Vs RX8 cX8_step 4 (rmk 7 158) 0 0 EX8_step := (v_seq (v_istore_n (i := 1) (v_iconst (v := 0) dX8_step_0 (by decide) (rfl : 0 + 1 = 1)) dX8_step_1 rfl (by decide) (rfl : 1 + 1 = 2)) (v_seq (v_cut (n := 2) (v_seq (v_istore_n (i := 2) (v_iconst (v := 0) dX8_step_2 (by decide) (rfl : 2 + 1 = 3)) dX8_step_3 rfl (by decide) (rfl : 3 + 1 = 4)) (v_wh (v_ilt_f (v_iload_n (i := 2) dX8_step_4 rfl (rfl : 4 + 1 = 5)) (v_iald (v_gfr kX8 lk998 (by decide) rfl (v_aload_n (i := 0) dX8_step_5 rfl (rfl : 5 + 1 = 6)) dX8_step_6 (rfl : 6 + 3 = 9)) (v_iconst (v := 3) dX8_step_9 (by decide) (rfl : 9 + 1 = 10)) dX8_step_10 (rfl : 10 + 1 = 11)) dX8_step_11 (rfl : ((11 : Nat) : Int) + 60 = ((71 : Nat) : Int)) (rfl : 11 + 3 = 14)) (vs_goto (v_seq (v_cut (n := 3) (v_seq (v_istore_n (i := 3) (v_csi IX8_watchAt hX8_watchAt lk1218 ⟨by decide, by decide⟩ (by decide) (v_ai (v_iload_n (i := 2) dX8_step_14 rfl (rfl : 14 + 1 = 15)) v_anil) dX8_step_15 (rfl : 15 + 3 = 18)) dX8_step_18 rfl (by decide) (rfl : 18 + 1 = 19)) (v_if (v_and (v_zne_f (v_cvz kX8 IX8_isSo hX8_isSo lk1237 ⟨by decide, by decide⟩ (by decide) (v_aload_n (i := 0) dX8_step_19 rfl (rfl : 19 + 1 = 20)) (v_ai (v_iload_n (i := 2) dX8_step_20 rfl (rfl : 20 + 1 = 21)) v_anil) dX8_step_21 (rfl : 21 + 3 = 24)) dX8_step_24 (rfl : ((24 : Nat) : Int) + 41 = ((65 : Nat) : Int)) (rfl : 24 + 3 = 27)) (v_zne_f (v_cvz kX8 IX8_acts hX8_acts lk1315 ⟨by decide, by decide⟩ (by decide) (v_aload_n (i := 0) dX8_step_27 rfl (rfl : 27 + 1 = 28)) (v_ai (v_iald (v_gfr kX8 lk998 (by decide) rfl (v_aload_n (i := 0) dX8_step_28 rfl (rfl : 28 + 1 = 29)) dX8_step_29 (rfl : 29 + 3 = 32)) (v_iadd (v_iload_n (i := 3) dX8_step_32 rfl (rfl : 32 + 1 = 33)) (v_iconst (v := 3) dX8_step_33 (by decide) (rfl : 33 + 1 = 34)) dX8_step_34 (rfl : 34 + 1 = 35)) dX8_step_35 (rfl : 35 + 1 = 36)) (v_ai (v_iald (v_gfr kX8 lk998 (by decide) rfl (v_aload_n (i := 0) dX8_step_36 rfl (rfl : 36 + 1 = 37)) dX8_step_37 (rfl : 37 + 3 = 40)) (v_iadd (v_iload_n (i := 3) dX8_step_40 rfl (rfl : 40 + 1 = 41)) (v_iconst (v := 4) dX8_step_41 (by decide) (rfl : 41 + 1 = 42)) dX8_step_42 (rfl : 42 + 1 = 43)) dX8_step_43 (rfl : 43 + 1 = 44)) v_anil)) dX8_step_44 (rfl : 44 + 3 = 47)) dX8_step_47 (rfl : ((47 : Nat) : Int) + 18 = ((65 : Nat) : Int)) (rfl : 47 + 3 = 50))) (v_seq (v_aoi_iadd (v_gfr kX8 lk998 (by decide) rfl (v_aload_n (i := 0) dX8_step_50 rfl (rfl : 50 + 1 = 51)) dX8_step_51 (rfl : 51 + 3 = 54)) (v_iadd (v_iload_n (i := 3) dX8_step_54 rfl (rfl : 54 + 1 = 55)) (v_iconst (v := 5) dX8_step_55 (by decide) (rfl : 55 + 1 = 56)) dX8_step_56 (rfl : 56 + 1 = 57)) dX8_step_57 dX8_step_58 (rfl : 57 + 1 + 1 = 59) (v_iconst (v := 1) dX8_step_59 (by decide) (rfl : 59 + 1 = 60)) dX8_step_60 dX8_step_61 (rfl : 60 + 1 + 1 = 62)) (v_iinc (v := 1) dX8_step_62 (by decide) (by decide) (rfl : 62 + 3 = 65))) v_nop))) (v_iinc (v := 1) dX8_step_65 (by decide) (by decide) (rfl : 65 + 3 = 68))) dX8_step_68 (rfl : ((68 : Nat) : Int) + (-64) = ((4 : Nat) : Int)))))) (v_seq (v_istore_n (i := 1) (v_iadd (v_iload_n (i := 1) dX8_step_71 rfl (rfl : 71 + 1 = 72)) (v_cvi kX8 IX8_trips hX8_trips lk1323 ⟨by decide, by decide⟩ (by decide) (v_aload_n (i := 0) dX8_step_72 rfl (rfl : 72 + 1 = 73)) v_anil dX8_step_73 (rfl : 73 + 3 = 76)) dX8_step_76 (rfl : 76 + 1 = 77)) dX8_step_77 rfl (by decide) (rfl : 77 + 1 = 78)) (v_seq (v_scv kX8 IX8_logs hX8_logs lk1327 ⟨by decide, by decide⟩ (v_aload_n (i := 0) dX8_step_78 rfl (rfl : 78 + 1 = 79)) v_anil dX8_step_79 (rfl : 79 + 3 = 82)) (v_seq (v_cut (n := 2) (v_seq (v_istore_n (i := 2) (v_iconst (v := 0) dX8_step_82 (by decide) (rfl : 82 + 1 = 83)) dX8_step_83 rfl (by decide) (rfl : 83 + 1 = 84)) (v_wh (v_ilt_f (v_iload_n (i := 2) dX8_step_84 rfl (rfl : 84 + 1 = 85)) (v_iald (v_gfr kX8 lk998 (by decide) rfl (v_aload_n (i := 0) dX8_step_85 rfl (rfl : 85 + 1 = 86)) dX8_step_86 (rfl : 86 + 3 = 89)) (v_iconst (v := 0) dX8_step_89 (by decide) (rfl : 89 + 1 = 90)) dX8_step_90 (rfl : 90 + 1 = 91)) dX8_step_91 (rfl : ((91 : Nat) : Int) + 45 = ((136 : Nat) : Int)) (rfl : 91 + 3 = 94)) (vs_goto (v_seq (v_cut (n := 3) (v_seq (v_istore_n (i := 3) (v_csi IX8_chamberAt hX8_chamberAt lk1137 ⟨by decide, by decide⟩ (by decide) (v_ai (v_iload_n (i := 2) dX8_step_94 rfl (rfl : 94 + 1 = 95)) v_anil) dX8_step_95 (rfl : 95 + 3 = 98)) dX8_step_98 rfl (by decide) (rfl : 98 + 1 = 99)) (v_aoi_isub (v_gfr kX8 lk998 (by decide) rfl (v_aload_n (i := 0) dX8_step_99 rfl (rfl : 99 + 1 = 100)) dX8_step_100 (rfl : 100 + 3 = 103)) (v_iadd (v_iload_n (i := 3) dX8_step_103 rfl (rfl : 103 + 1 = 104)) (v_iconst (v := 1) dX8_step_104 (by decide) (rfl : 104 + 1 = 105)) dX8_step_105 (rfl : 105 + 1 = 106)) dX8_step_106 dX8_step_107 (rfl : 106 + 1 + 1 = 108) (v_idiv (v_imul (v_iald (v_gfr kX8 lk998 (by decide) rfl (v_aload_n (i := 0) dX8_step_108 rfl (rfl : 108 + 1 = 109)) dX8_step_109 (rfl : 109 + 3 = 112)) (v_iadd (v_iload_n (i := 3) dX8_step_112 rfl (rfl : 112 + 1 = 113)) (v_iconst (v := 1) dX8_step_113 (by decide) (rfl : 113 + 1 = 114)) dX8_step_114 (rfl : 114 + 1 = 115)) dX8_step_115 (rfl : 115 + 1 = 116)) (v_iald (v_gfr kX8 lk998 (by decide) rfl (v_aload_n (i := 0) dX8_step_116 rfl (rfl : 116 + 1 = 117)) dX8_step_117 (rfl : 117 + 3 = 120)) (v_iadd (v_iload_n (i := 3) dX8_step_120 rfl (rfl : 120 + 1 = 121)) (v_iconst (v := 2) dX8_step_121 (by decide) (rfl : 121 + 1 = 122)) dX8_step_122 (rfl : 122 + 1 = 123)) dX8_step_123 (rfl : 123 + 1 = 124)) dX8_step_124 (rfl : 124 + 1 = 125)) (v_bipush (v := 64) dX8_step_125 (by decide) (rfl : 125 + 2 = 127)) dX8_step_127 (rfl : 127 + 1 = 128)) dX8_step_128 dX8_step_129 (rfl : 128 + 1 + 1 = 130)))) (v_iinc (v := 1) dX8_step_130 (by decide) (by decide) (rfl : 130 + 3 = 133))) dX8_step_133 (rfl : ((133 : Nat) : Int) + (-49) = ((84 : Nat) : Int)))))) (v_seq (v_aoi_iadd (v_gfr kX8 lk998 (by decide) rfl (v_aload_n (i := 0) dX8_step_136 rfl (rfl : 136 + 1 = 137)) dX8_step_137 (rfl : 137 + 3 = 140)) (v_iconst (v := 4) dX8_step_140 (by decide) (rfl : 140 + 1 = 141)) dX8_step_141 dX8_step_142 (rfl : 141 + 1 + 1 = 143) (v_iconst (v := 1) dX8_step_143 (by decide) (rfl : 143 + 1 = 144)) dX8_step_144 dX8_step_145 (rfl : 144 + 1 + 1 = 146)) (v_ret (v_iload_n (i := 1) dX8_step_146 rfl (rfl : 146 + 1 = 147)) dX8_step_147)))))))
theorem IX8_step : Mi yX8_step cX8_step 4 (rmk 7 158) DX8_step := mk_i (by decide +kernel) BX8_step

theorem dX8_steps_0 : decode cX8_steps 0 = .ok (.aload_n 0, 1) := by decide +kernel
theorem dX8_steps_1 : decode cX8_steps 1 = .ok (.iconst 0, 1) := by decide +kernel
theorem dX8_steps_2 : decode cX8_steps 2 = .ok (.putfield 84, 3) := by decide +kernel
theorem dX8_steps_5 : decode cX8_steps 5 = .ok (.iload_n 1, 1) := by decide +kernel
theorem dX8_steps_6 : decode cX8_steps 6 = .ok (.i2l, 1) := by decide +kernel
theorem dX8_steps_7 : decode cX8_steps 7 = .ok (.lconst 1, 1) := by decide +kernel
theorem dX8_steps_8 : decode cX8_steps 8 = .ok (.ldc2_w 149, 3) := by decide +kernel
theorem dX8_steps_11 : decode cX8_steps 11 = .ok (.invokestatic 105, 3) := by decide +kernel
theorem dX8_steps_14 : decode cX8_steps 14 = .ok (.ifCond .ne 9, 3) := by decide +kernel
theorem dX8_steps_17 : decode cX8_steps 17 = .ok (.aload_n 0, 1) := by decide +kernel
theorem dX8_steps_18 : decode cX8_steps 18 = .ok (.iconst (-1), 1) := by decide +kernel
theorem dX8_steps_19 : decode cX8_steps 19 = .ok (.invokevirtual 98, 3) := by decide +kernel
theorem dX8_steps_22 : decode cX8_steps 22 = .ok (.ireturn, 1) := by decide +kernel
theorem dX8_steps_23 : decode cX8_steps 23 = .ok (.aload_n 0, 1) := by decide +kernel
theorem dX8_steps_24 : decode cX8_steps 24 = .ok (.getfield 13, 3) := by decide +kernel
theorem dX8_steps_27 : decode cX8_steps 27 = .ok (.iconst 4, 1) := by decide +kernel
theorem dX8_steps_28 : decode cX8_steps 28 = .ok (.iaload, 1) := by decide +kernel
theorem dX8_steps_29 : decode cX8_steps 29 = .ok (.iload_n 1, 1) := by decide +kernel
theorem dX8_steps_30 : decode cX8_steps 30 = .ok (.iadd, 1) := by decide +kernel
theorem dX8_steps_31 : decode cX8_steps 31 = .ok (.sipush 9999, 3) := by decide +kernel
theorem dX8_steps_34 : decode cX8_steps 34 = .ok (.if_icmp .le 10, 3) := by decide +kernel
theorem dX8_steps_37 : decode cX8_steps 37 = .ok (.aload_n 0, 1) := by decide +kernel
theorem dX8_steps_38 : decode cX8_steps 38 = .ok (.bipush (-4), 2) := by decide +kernel
theorem dX8_steps_40 : decode cX8_steps 40 = .ok (.invokevirtual 98, 3) := by decide +kernel
theorem dX8_steps_43 : decode cX8_steps 43 = .ok (.ireturn, 1) := by decide +kernel
theorem dX8_steps_44 : decode cX8_steps 44 = .ok (.aload_n 0, 1) := by decide +kernel
theorem dX8_steps_45 : decode cX8_steps 45 = .ok (.bipush 10, 2) := by decide +kernel
theorem dX8_steps_47 : decode cX8_steps 47 = .ok (.invokevirtual 136, 3) := by decide +kernel
theorem dX8_steps_50 : decode cX8_steps 50 = .ok (.iconst 0, 1) := by decide +kernel
theorem dX8_steps_51 : decode cX8_steps 51 = .ok (.istore_n 2, 1) := by decide +kernel
theorem dX8_steps_52 : decode cX8_steps 52 = .ok (.iconst 0, 1) := by decide +kernel
theorem dX8_steps_53 : decode cX8_steps 53 = .ok (.istore_n 3, 1) := by decide +kernel
theorem dX8_steps_54 : decode cX8_steps 54 = .ok (.iload_n 3, 1) := by decide +kernel
theorem dX8_steps_55 : decode cX8_steps 55 = .ok (.iload_n 1, 1) := by decide +kernel
theorem dX8_steps_56 : decode cX8_steps 56 = .ok (.if_icmp .ge 16, 3) := by decide +kernel
theorem dX8_steps_59 : decode cX8_steps 59 = .ok (.iload_n 2, 1) := by decide +kernel
theorem dX8_steps_60 : decode cX8_steps 60 = .ok (.aload_n 0, 1) := by decide +kernel
theorem dX8_steps_61 : decode cX8_steps 61 = .ok (.invokevirtual 276, 3) := by decide +kernel
theorem dX8_steps_64 : decode cX8_steps 64 = .ok (.iadd, 1) := by decide +kernel
theorem dX8_steps_65 : decode cX8_steps 65 = .ok (.istore_n 2, 1) := by decide +kernel
theorem dX8_steps_66 : decode cX8_steps 66 = .ok (.iinc 3 1, 3) := by decide +kernel
theorem dX8_steps_69 : decode cX8_steps 69 = .ok (.goto (-15), 3) := by decide +kernel
theorem dX8_steps_72 : decode cX8_steps 72 = .ok (.aload_n 0, 1) := by decide +kernel
theorem dX8_steps_73 : decode cX8_steps 73 = .ok (.iload_n 2, 1) := by decide +kernel
theorem dX8_steps_74 : decode cX8_steps 74 = .ok (.invokevirtual 102, 3) := by decide +kernel
theorem dX8_steps_77 : decode cX8_steps 77 = .ok (.ireturn, 1) := by decide +kernel
noncomputable def qX8_steps_1 : Bx := (bc clt (il 3) (il 1))
noncomputable def wX8_steps_1 : Sx := (sseq (ssi 2 (i2 (· + ·) (il 2) (cvi 7 DX8_step (rl 0) anil))) (sinc 3 1))
noncomputable def EX8_steps : Sx := (sseq (fpi 7 0 (rl 0) (ik 0)) (sseq (sif (bnot (bz cne (csz DX8_in (aj (i2l (il 1)) (aj (jk 1) (aj (jk 40) anil)))))) (sret (cvi 7 DX8_refuse (rl 0) (ai (ik (-1)) anil))) snop) (sseq (sif (bc cgt (i2 (· + ·) (iald (fgr 7 3 (rl 0)) (ik 4)) (il 1)) (ik 9999)) (sret (cvi 7 DX8_refuse (rl 0) (ai (ik (-4)) anil))) snop) (sseq (scv 7 DX8_remember (rl 0) (ai (ik 10) anil)) (sseq (ssi 2 (ik 0)) (sseq (scut 3 (sseq (ssi 3 (ik 0)) (swh qX8_steps_1 wX8_steps_1))) (sret (cvi 7 DX8_tell (rl 0) (ai (il 2) anil)))))))))
noncomputable def DX8_steps : Fi := mfi 4 EX8_steps
set_option maxRecDepth 4000 in
theorem BX8_steps : Vs RX8 cX8_steps 4 (rmk 8 181) 0 0 EX8_steps := (v_seq (v_fpi kX8 lk995 (by decide) rfl rfl (by decide +kernel) (v_aload_n (i := 0) dX8_steps_0 rfl (rfl : 0 + 1 = 1)) (v_iconst (v := 0) dX8_steps_1 (by decide) (rfl : 1 + 1 = 2)) dX8_steps_2 (rfl : 2 + 3 = 5)) (v_seq (v_if (v_not (v_zne_t (v_csz IX8_in hX8_in lk1120 ⟨by decide, by decide⟩ (by decide) (v_aj (v_i2l (v_iload_n (i := 1) dX8_steps_5 rfl (rfl : 5 + 1 = 6)) dX8_steps_6 (rfl : 6 + 1 = 7)) (v_aj (v_lconst (v := 1) dX8_steps_7 (by decide) (rfl : 7 + 1 = 8)) (v_aj (v_ldc2 (v := 40) lk1174 dX8_steps_8 (rfl : 8 + 3 = 11)) v_anil))) dX8_steps_11 (rfl : 11 + 3 = 14)) dX8_steps_14 (rfl : ((14 : Nat) : Int) + 9 = ((23 : Nat) : Int)) (rfl : 14 + 3 = 17))) (v_ret (v_cvi kX8 IX8_refuse hX8_refuse lk1105 ⟨by decide, by decide⟩ (by decide) (v_aload_n (i := 0) dX8_steps_17 rfl (rfl : 17 + 1 = 18)) (v_ai (v_iconst (v := (-1)) dX8_steps_18 (by decide) (rfl : 18 + 1 = 19)) v_anil) dX8_steps_19 (rfl : 19 + 3 = 22)) dX8_steps_22) v_nop) (v_seq (v_if (v_igt_f (v_iadd (v_iald (v_gfr kX8 lk998 (by decide) rfl (v_aload_n (i := 0) dX8_steps_23 rfl (rfl : 23 + 1 = 24)) dX8_steps_24 (rfl : 24 + 3 = 27)) (v_iconst (v := 4) dX8_steps_27 (by decide) (rfl : 27 + 1 = 28)) dX8_steps_28 (rfl : 28 + 1 = 29)) (v_iload_n (i := 1) dX8_steps_29 rfl (rfl : 29 + 1 = 30)) dX8_steps_30 (rfl : 30 + 1 = 31)) (v_sipush (v := 9999) dX8_steps_31 (by decide) (rfl : 31 + 3 = 34)) dX8_steps_34 (rfl : ((34 : Nat) : Int) + 10 = ((44 : Nat) : Int)) (rfl : 34 + 3 = 37)) (v_ret (v_cvi kX8 IX8_refuse hX8_refuse lk1105 ⟨by decide, by decide⟩ (by decide) (v_aload_n (i := 0) dX8_steps_37 rfl (rfl : 37 + 1 = 38)) (v_ai (v_bipush (v := (-4)) dX8_steps_38 (by decide) (rfl : 38 + 2 = 40)) v_anil) dX8_steps_40 (rfl : 40 + 3 = 43)) dX8_steps_43) v_nop) (v_seq (v_scv kX8 IX8_remember hX8_remember lk1133 ⟨by decide, by decide⟩ (v_aload_n (i := 0) dX8_steps_44 rfl (rfl : 44 + 1 = 45)) (v_ai (v_bipush (v := 10) dX8_steps_45 (by decide) (rfl : 45 + 2 = 47)) v_anil) dX8_steps_47 (rfl : 47 + 3 = 50)) (v_seq (v_istore_n (i := 2) (v_iconst (v := 0) dX8_steps_50 (by decide) (rfl : 50 + 1 = 51)) dX8_steps_51 rfl (by decide) (rfl : 51 + 1 = 52)) (v_seq (v_cut (n := 3) (v_seq (v_istore_n (i := 3) (v_iconst (v := 0) dX8_steps_52 (by decide) (rfl : 52 + 1 = 53)) dX8_steps_53 rfl (by decide) (rfl : 53 + 1 = 54)) (v_wh (v_ilt_f (v_iload_n (i := 3) dX8_steps_54 rfl (rfl : 54 + 1 = 55)) (v_iload_n (i := 1) dX8_steps_55 rfl (rfl : 55 + 1 = 56)) dX8_steps_56 (rfl : ((56 : Nat) : Int) + 16 = ((72 : Nat) : Int)) (rfl : 56 + 3 = 59)) (vs_goto (v_seq (v_istore_n (i := 2) (v_iadd (v_iload_n (i := 2) dX8_steps_59 rfl (rfl : 59 + 1 = 60)) (v_cvi kX8 IX8_step hX8_step lk1233 ⟨by decide, by decide⟩ (by decide) (v_aload_n (i := 0) dX8_steps_60 rfl (rfl : 60 + 1 = 61)) v_anil dX8_steps_61 (rfl : 61 + 3 = 64)) dX8_steps_64 (rfl : 64 + 1 = 65)) dX8_steps_65 rfl (by decide) (rfl : 65 + 1 = 66)) (v_iinc (v := 1) dX8_steps_66 (by decide) (by decide) (rfl : 66 + 3 = 69))) dX8_steps_69 (rfl : ((69 : Nat) : Int) + (-15) = ((54 : Nat) : Int)))))) (v_ret (v_cvi kX8 IX8_tell hX8_tell lk1112 ⟨by decide, by decide⟩ (by decide) (v_aload_n (i := 0) dX8_steps_72 rfl (rfl : 72 + 1 = 73)) (v_ai (v_iload_n (i := 2) dX8_steps_73 rfl (rfl : 73 + 1 = 74)) v_anil) dX8_steps_74 (rfl : 74 + 3 = 77)) dX8_steps_77)))))))
theorem IX8_steps : Mi yX8_steps cX8_steps 4 (rmk 8 181) DX8_steps := mk_i (by decide +kernel) BX8_steps

theorem dX8_suspects_0 : decode cX8_suspects 0 = .ok (.aload_n 0, 1) := by decide +kernel
theorem dX8_suspects_1 : decode cX8_suspects 1 = .ok (.iconst 0, 1) := by decide +kernel
theorem dX8_suspects_2 : decode cX8_suspects 2 = .ok (.putfield 84, 3) := by decide +kernel
theorem dX8_suspects_5 : decode cX8_suspects 5 = .ok (.iload_n 1, 1) := by decide +kernel
theorem dX8_suspects_6 : decode cX8_suspects 6 = .ok (.i2l, 1) := by decide +kernel
theorem dX8_suspects_7 : decode cX8_suspects 7 = .ok (.lconst 0, 1) := by decide +kernel
theorem dX8_suspects_8 : decode cX8_suspects 8 = .ok (.ldc2_w 169, 3) := by decide +kernel
theorem dX8_suspects_11 : decode cX8_suspects 11 = .ok (.invokestatic 105, 3) := by decide +kernel
theorem dX8_suspects_14 : decode cX8_suspects 14 = .ok (.ifCond .eq 11, 3) := by decide +kernel
theorem dX8_suspects_17 : decode cX8_suspects 17 = .ok (.aload_n 0, 1) := by decide +kernel
theorem dX8_suspects_18 : decode cX8_suspects 18 = .ok (.iload_n 1, 1) := by decide +kernel
theorem dX8_suspects_19 : decode cX8_suspects 19 = .ok (.invokevirtual 317, 3) := by decide +kernel
theorem dX8_suspects_22 : decode cX8_suspects 22 = .ok (.goto 4, 3) := by decide +kernel
theorem dX8_suspects_25 : decode cX8_suspects 25 = .ok (.iconst (-1), 1) := by decide +kernel
theorem dX8_suspects_26 : decode cX8_suspects 26 = .ok (.ireturn, 1) := by decide +kernel
noncomputable def EX8_suspects : Sx := (sseq (fpi 7 0 (rl 0) (ik 0)) (sret (ic (bz cne (csz DX8_in (aj (i2l (il 1)) (aj (jk 0) (aj (jk 4) anil))))) (cvi 7 DX8_seek (rl 0) (ai (il 1) anil)) (ik (-1)))))
noncomputable def DX8_suspects : Fi := mfi 2 EX8_suspects
set_option maxRecDepth 4000 in
theorem BX8_suspects : Vs RX8 cX8_suspects 2 (rmk 7 167) 0 0 EX8_suspects := (v_seq (v_fpi kX8 lk995 (by decide) rfl rfl (by decide +kernel) (v_aload_n (i := 0) dX8_suspects_0 rfl (rfl : 0 + 1 = 1)) (v_iconst (v := 0) dX8_suspects_1 (by decide) (rfl : 1 + 1 = 2)) dX8_suspects_2 (rfl : 2 + 3 = 5)) (v_ret (v_ic (v_zne_f (v_csz IX8_in hX8_in lk1120 ⟨by decide, by decide⟩ (by decide) (v_aj (v_i2l (v_iload_n (i := 1) dX8_suspects_5 rfl (rfl : 5 + 1 = 6)) dX8_suspects_6 (rfl : 6 + 1 = 7)) (v_aj (v_lconst (v := 0) dX8_suspects_7 (by decide) (rfl : 7 + 1 = 8)) (v_aj (v_ldc2 (v := 4) lk1217 dX8_suspects_8 (rfl : 8 + 3 = 11)) v_anil))) dX8_suspects_11 (rfl : 11 + 3 = 14)) dX8_suspects_14 (rfl : ((14 : Nat) : Int) + 11 = ((25 : Nat) : Int)) (rfl : 14 + 3 = 17)) (vi_goto (v_cvi kX8 IX8_seek hX8_seek lk1401 ⟨by decide, by decide⟩ (by decide) (v_aload_n (i := 0) dX8_suspects_17 rfl (rfl : 17 + 1 = 18)) (v_ai (v_iload_n (i := 1) dX8_suspects_18 rfl (rfl : 18 + 1 = 19)) v_anil) dX8_suspects_19 (rfl : 19 + 3 = 22)) dX8_suspects_22 (rfl : ((22 : Nat) : Int) + 4 = ((26 : Nat) : Int))) (v_iconst (v := (-1)) dX8_suspects_25 (by decide) (rfl : 25 + 1 = 26))) dX8_suspects_26))
theorem IX8_suspects : Mi yX8_suspects cX8_suspects 2 (rmk 7 167) DX8_suspects := mk_i (by decide +kernel) BX8_suspects

theorem dX8_tried_0 : decode cX8_tried 0 = .ok (.aload_n 0, 1) := by decide +kernel
theorem dX8_tried_1 : decode cX8_tried 1 = .ok (.iconst 0, 1) := by decide +kernel
theorem dX8_tried_2 : decode cX8_tried 2 = .ok (.putfield 84, 3) := by decide +kernel
theorem dX8_tried_5 : decode cX8_tried 5 = .ok (.aload_n 0, 1) := by decide +kernel
theorem dX8_tried_6 : decode cX8_tried 6 = .ok (.iload_n 1, 1) := by decide +kernel
theorem dX8_tried_7 : decode cX8_tried 7 = .ok (.invokevirtual 164, 3) := by decide +kernel
theorem dX8_tried_10 : decode cX8_tried 10 = .ok (.ifCond .eq 23, 3) := by decide +kernel
theorem dX8_tried_13 : decode cX8_tried 13 = .ok (.iload_n 2, 1) := by decide +kernel
theorem dX8_tried_14 : decode cX8_tried 14 = .ok (.i2l, 1) := by decide +kernel
theorem dX8_tried_15 : decode cX8_tried 15 = .ok (.lconst 0, 1) := by decide +kernel
theorem dX8_tried_16 : decode cX8_tried 16 = .ok (.ldc2_w 162, 3) := by decide +kernel
theorem dX8_tried_19 : decode cX8_tried 19 = .ok (.invokestatic 105, 3) := by decide +kernel
theorem dX8_tried_22 : decode cX8_tried 22 = .ok (.ifCond .eq 11, 3) := by decide +kernel
theorem dX8_tried_25 : decode cX8_tried 25 = .ok (.aload_n 0, 1) := by decide +kernel
theorem dX8_tried_26 : decode cX8_tried 26 = .ok (.iload_n 3, 1) := by decide +kernel
theorem dX8_tried_27 : decode cX8_tried 27 = .ok (.invokevirtual 109, 3) := by decide +kernel
theorem dX8_tried_30 : decode cX8_tried 30 = .ok (.ifCond .ne 5, 3) := by decide +kernel
theorem dX8_tried_33 : decode cX8_tried 33 = .ok (.iconst (-1), 1) := by decide +kernel
theorem dX8_tried_34 : decode cX8_tried 34 = .ok (.ireturn, 1) := by decide +kernel
theorem dX8_tried_35 : decode cX8_tried 35 = .ok (.aload_n 0, 1) := by decide +kernel
theorem dX8_tried_36 : decode cX8_tried 36 = .ok (.iload_n 1, 1) := by decide +kernel
theorem dX8_tried_37 : decode cX8_tried 37 = .ok (.iload_n 2, 1) := by decide +kernel
theorem dX8_tried_38 : decode cX8_tried 38 = .ok (.invokevirtual 323, 3) := by decide +kernel
theorem dX8_tried_41 : decode cX8_tried 41 = .ok (.ifCond .eq 11, 3) := by decide +kernel
theorem dX8_tried_44 : decode cX8_tried 44 = .ok (.aload_n 0, 1) := by decide +kernel
theorem dX8_tried_45 : decode cX8_tried 45 = .ok (.iload_n 3, 1) := by decide +kernel
theorem dX8_tried_46 : decode cX8_tried 46 = .ok (.invokevirtual 257, 3) := by decide +kernel
theorem dX8_tried_49 : decode cX8_tried 49 = .ok (.goto 5, 3) := by decide +kernel
theorem dX8_tried_52 : decode cX8_tried 52 = .ok (.bipush (-3), 2) := by decide +kernel
theorem dX8_tried_54 : decode cX8_tried 54 = .ok (.ireturn, 1) := by decide +kernel
noncomputable def EX8_tried : Sx := (sseq (fpi 7 0 (rl 0) (ik 0)) (sseq (sif (bor (bor (bnot (bz cne (cvz 7 DX8_isJoint (rl 0) (ai (il 1) anil)))) (bnot (bz cne (csz DX8_in (aj (i2l (il 2)) (aj (jk 0) (aj (jk 60) anil))))))) (bnot (bz cne (cvz 7 DX8_isChamber (rl 0) (ai (il 3) anil))))) (sret (ik (-1))) snop) (sret (ic (bz cne (cvz 7 DX8_reckonLeak (rl 0) (ai (il 1) (ai (il 2) anil)))) (cvi 7 DX8_readingOf (rl 0) (ai (il 3) anil)) (ik (-3))))))
noncomputable def DX8_tried : Fi := mfi 4 EX8_tried
set_option maxRecDepth 4000 in
theorem BX8_tried : Vs RX8 cX8_tried 4 (rmk 6 136) 0 0 EX8_tried := (v_seq (v_fpi kX8 lk995 (by decide) rfl rfl (by decide +kernel) (v_aload_n (i := 0) dX8_tried_0 rfl (rfl : 0 + 1 = 1)) (v_iconst (v := 0) dX8_tried_1 (by decide) (rfl : 1 + 1 = 2)) dX8_tried_2 (rfl : 2 + 3 = 5)) (v_seq (v_if (v_or (v_or (v_not (v_zne_f (v_cvz kX8 IX8_isJoint hX8_isJoint lk1208 ⟨by decide, by decide⟩ (by decide) (v_aload_n (i := 0) dX8_tried_5 rfl (rfl : 5 + 1 = 6)) (v_ai (v_iload_n (i := 1) dX8_tried_6 rfl (rfl : 6 + 1 = 7)) v_anil) dX8_tried_7 (rfl : 7 + 3 = 10)) dX8_tried_10 (rfl : ((10 : Nat) : Int) + 23 = ((33 : Nat) : Int)) (rfl : 10 + 3 = 13))) (v_not (v_zne_f (v_csz IX8_in hX8_in lk1120 ⟨by decide, by decide⟩ (by decide) (v_aj (v_i2l (v_iload_n (i := 2) dX8_tried_13 rfl (rfl : 13 + 1 = 14)) dX8_tried_14 (rfl : 14 + 1 = 15)) (v_aj (v_lconst (v := 0) dX8_tried_15 (by decide) (rfl : 15 + 1 = 16)) (v_aj (v_ldc2 (v := 60) lk1207 dX8_tried_16 (rfl : 16 + 3 = 19)) v_anil))) dX8_tried_19 (rfl : 19 + 3 = 22)) dX8_tried_22 (rfl : ((22 : Nat) : Int) + 11 = ((33 : Nat) : Int)) (rfl : 22 + 3 = 25)))) (v_not (v_zne_t (v_cvz kX8 IX8_isChamber hX8_isChamber lk1145 ⟨by decide, by decide⟩ (by decide) (v_aload_n (i := 0) dX8_tried_25 rfl (rfl : 25 + 1 = 26)) (v_ai (v_iload_n (i := 3) dX8_tried_26 rfl (rfl : 26 + 1 = 27)) v_anil) dX8_tried_27 (rfl : 27 + 3 = 30)) dX8_tried_30 (rfl : ((30 : Nat) : Int) + 5 = ((35 : Nat) : Int)) (rfl : 30 + 3 = 33)))) (v_ret (v_iconst (v := (-1)) dX8_tried_33 (by decide) (rfl : 33 + 1 = 34)) dX8_tried_34) v_nop) (v_ret (v_ic (v_zne_f (v_cvz kX8 IX8_reckonLeak hX8_reckonLeak lk1409 ⟨by decide, by decide⟩ (by decide) (v_aload_n (i := 0) dX8_tried_35 rfl (rfl : 35 + 1 = 36)) (v_ai (v_iload_n (i := 1) dX8_tried_36 rfl (rfl : 36 + 1 = 37)) (v_ai (v_iload_n (i := 2) dX8_tried_37 rfl (rfl : 37 + 1 = 38)) v_anil)) dX8_tried_38 (rfl : 38 + 3 = 41)) dX8_tried_41 (rfl : ((41 : Nat) : Int) + 11 = ((52 : Nat) : Int)) (rfl : 41 + 3 = 44)) (vi_goto (v_cvi kX8 IX8_readingOf hX8_readingOf lk1309 ⟨by decide, by decide⟩ (by decide) (v_aload_n (i := 0) dX8_tried_44 rfl (rfl : 44 + 1 = 45)) (v_ai (v_iload_n (i := 3) dX8_tried_45 rfl (rfl : 45 + 1 = 46)) v_anil) dX8_tried_46 (rfl : 46 + 3 = 49)) dX8_tried_49 (rfl : ((49 : Nat) : Int) + 5 = ((54 : Nat) : Int))) (v_bipush (v := (-3)) dX8_tried_52 (by decide) (rfl : 52 + 2 = 54))) dX8_tried_54)))
theorem IX8_tried : Mi yX8_tried cX8_tried 4 (rmk 6 136) DX8_tried := mk_i (by decide +kernel) BX8_tried

theorem dX8_trippedOnes_0 : decode cX8_trippedOnes 0 = .ok (.iconst 0, 1) := by decide +kernel
theorem dX8_trippedOnes_1 : decode cX8_trippedOnes 1 = .ok (.istore_n 1, 1) := by decide +kernel
theorem dX8_trippedOnes_2 : decode cX8_trippedOnes 2 = .ok (.iconst 0, 1) := by decide +kernel
theorem dX8_trippedOnes_3 : decode cX8_trippedOnes 3 = .ok (.istore_n 2, 1) := by decide +kernel
theorem dX8_trippedOnes_4 : decode cX8_trippedOnes 4 = .ok (.iload_n 2, 1) := by decide +kernel
theorem dX8_trippedOnes_5 : decode cX8_trippedOnes 5 = .ok (.aload_n 0, 1) := by decide +kernel
theorem dX8_trippedOnes_6 : decode cX8_trippedOnes 6 = .ok (.getfield 13, 3) := by decide +kernel
theorem dX8_trippedOnes_9 : decode cX8_trippedOnes 9 = .ok (.iconst 2, 1) := by decide +kernel
theorem dX8_trippedOnes_10 : decode cX8_trippedOnes 10 = .ok (.iaload, 1) := by decide +kernel
theorem dX8_trippedOnes_11 : decode cX8_trippedOnes 11 = .ok (.if_icmp .ge 24, 3) := by decide +kernel
theorem dX8_trippedOnes_14 : decode cX8_trippedOnes 14 = .ok (.iload_n 1, 1) := by decide +kernel
theorem dX8_trippedOnes_15 : decode cX8_trippedOnes 15 = .ok (.aload_n 0, 1) := by decide +kernel
theorem dX8_trippedOnes_16 : decode cX8_trippedOnes 16 = .ok (.getfield 13, 3) := by decide +kernel
theorem dX8_trippedOnes_19 : decode cX8_trippedOnes 19 = .ok (.iload_n 2, 1) := by decide +kernel
theorem dX8_trippedOnes_20 : decode cX8_trippedOnes 20 = .ok (.invokestatic 119, 3) := by decide +kernel
theorem dX8_trippedOnes_23 : decode cX8_trippedOnes 23 = .ok (.bipush 8, 2) := by decide +kernel
theorem dX8_trippedOnes_25 : decode cX8_trippedOnes 25 = .ok (.iadd, 1) := by decide +kernel
theorem dX8_trippedOnes_26 : decode cX8_trippedOnes 26 = .ok (.iaload, 1) := by decide +kernel
theorem dX8_trippedOnes_27 : decode cX8_trippedOnes 27 = .ok (.iadd, 1) := by decide +kernel
theorem dX8_trippedOnes_28 : decode cX8_trippedOnes 28 = .ok (.istore_n 1, 1) := by decide +kernel
theorem dX8_trippedOnes_29 : decode cX8_trippedOnes 29 = .ok (.iinc 2 1, 3) := by decide +kernel
theorem dX8_trippedOnes_32 : decode cX8_trippedOnes 32 = .ok (.goto (-28), 3) := by decide +kernel
theorem dX8_trippedOnes_35 : decode cX8_trippedOnes 35 = .ok (.iload_n 1, 1) := by decide +kernel
theorem dX8_trippedOnes_36 : decode cX8_trippedOnes 36 = .ok (.ireturn, 1) := by decide +kernel
noncomputable def qX8_trippedOnes_1 : Bx := (bc clt (il 2) (iald (fgr 7 3 (rl 0)) (ik 2)))
noncomputable def wX8_trippedOnes_1 : Sx := (sseq (ssi 1 (i2 (· + ·) (il 1) (iald (fgr 7 3 (rl 0)) (i2 (· + ·) (csi DX8_pumpAt (ai (il 2) anil)) (ik 8))))) (sinc 2 1))
noncomputable def EX8_trippedOnes : Sx := (sseq (ssi 1 (ik 0)) (sseq (scut 2 (sseq (ssi 2 (ik 0)) (swh qX8_trippedOnes_1 wX8_trippedOnes_1))) (sret (il 1))))
noncomputable def DX8_trippedOnes : Fi := mfi 3 EX8_trippedOnes
set_option maxRecDepth 4000 in
theorem BX8_trippedOnes : Vs RX8 cX8_trippedOnes 3 (rmk 1 20) 0 0 EX8_trippedOnes := (v_seq (v_istore_n (i := 1) (v_iconst (v := 0) dX8_trippedOnes_0 (by decide) (rfl : 0 + 1 = 1)) dX8_trippedOnes_1 rfl (by decide) (rfl : 1 + 1 = 2)) (v_seq (v_cut (n := 2) (v_seq (v_istore_n (i := 2) (v_iconst (v := 0) dX8_trippedOnes_2 (by decide) (rfl : 2 + 1 = 3)) dX8_trippedOnes_3 rfl (by decide) (rfl : 3 + 1 = 4)) (v_wh (v_ilt_f (v_iload_n (i := 2) dX8_trippedOnes_4 rfl (rfl : 4 + 1 = 5)) (v_iald (v_gfr kX8 lk998 (by decide) rfl (v_aload_n (i := 0) dX8_trippedOnes_5 rfl (rfl : 5 + 1 = 6)) dX8_trippedOnes_6 (rfl : 6 + 3 = 9)) (v_iconst (v := 2) dX8_trippedOnes_9 (by decide) (rfl : 9 + 1 = 10)) dX8_trippedOnes_10 (rfl : 10 + 1 = 11)) dX8_trippedOnes_11 (rfl : ((11 : Nat) : Int) + 24 = ((35 : Nat) : Int)) (rfl : 11 + 3 = 14)) (vs_goto (v_seq (v_istore_n (i := 1) (v_iadd (v_iload_n (i := 1) dX8_trippedOnes_14 rfl (rfl : 14 + 1 = 15)) (v_iald (v_gfr kX8 lk998 (by decide) rfl (v_aload_n (i := 0) dX8_trippedOnes_15 rfl (rfl : 15 + 1 = 16)) dX8_trippedOnes_16 (rfl : 16 + 3 = 19)) (v_iadd (v_csi IX8_pumpAt hX8_pumpAt lk1163 ⟨by decide, by decide⟩ (by decide) (v_ai (v_iload_n (i := 2) dX8_trippedOnes_19 rfl (rfl : 19 + 1 = 20)) v_anil) dX8_trippedOnes_20 (rfl : 20 + 3 = 23)) (v_bipush (v := 8) dX8_trippedOnes_23 (by decide) (rfl : 23 + 2 = 25)) dX8_trippedOnes_25 (rfl : 25 + 1 = 26)) dX8_trippedOnes_26 (rfl : 26 + 1 = 27)) dX8_trippedOnes_27 (rfl : 27 + 1 = 28)) dX8_trippedOnes_28 rfl (by decide) (rfl : 28 + 1 = 29)) (v_iinc (v := 1) dX8_trippedOnes_29 (by decide) (by decide) (rfl : 29 + 3 = 32))) dX8_trippedOnes_32 (rfl : ((32 : Nat) : Int) + (-28) = ((4 : Nat) : Int)))))) (v_ret (v_iload_n (i := 1) dX8_trippedOnes_35 rfl (rfl : 35 + 1 = 36)) dX8_trippedOnes_36)))
theorem IX8_trippedOnes : Mi yX8_trippedOnes cX8_trippedOnes 3 (rmk 1 20) DX8_trippedOnes := mk_i (by decide +kernel) BX8_trippedOnes

theorem dX8_trip_0 : decode cX8_trip 0 = .ok (.aload_n 0, 1) := by decide +kernel
theorem dX8_trip_1 : decode cX8_trip 1 = .ok (.iconst 0, 1) := by decide +kernel
theorem dX8_trip_2 : decode cX8_trip 2 = .ok (.putfield 84, 3) := by decide +kernel
theorem dX8_trip_5 : decode cX8_trip 5 = .ok (.iload_n 1, 1) := by decide +kernel
theorem dX8_trip_6 : decode cX8_trip 6 = .ok (.i2l, 1) := by decide +kernel
theorem dX8_trip_7 : decode cX8_trip 7 = .ok (.lconst 0, 1) := by decide +kernel
theorem dX8_trip_8 : decode cX8_trip 8 = .ok (.lconst 1, 1) := by decide +kernel
theorem dX8_trip_9 : decode cX8_trip 9 = .ok (.invokestatic 105, 3) := by decide +kernel
theorem dX8_trip_12 : decode cX8_trip 12 = .ok (.ifCond .ne 5, 3) := by decide +kernel
theorem dX8_trip_15 : decode cX8_trip 15 = .ok (.iconst (-1), 1) := by decide +kernel
theorem dX8_trip_16 : decode cX8_trip 16 = .ok (.ireturn, 1) := by decide +kernel
theorem dX8_trip_17 : decode cX8_trip 17 = .ok (.aload_n 0, 1) := by decide +kernel
theorem dX8_trip_18 : decode cX8_trip 18 = .ok (.getfield 13, 3) := by decide +kernel
theorem dX8_trip_21 : decode cX8_trip 21 = .ok (.iconst 0, 1) := by decide +kernel
theorem dX8_trip_22 : decode cX8_trip 22 = .ok (.aload_n 0, 1) := by decide +kernel
theorem dX8_trip_23 : decode cX8_trip 23 = .ok (.getfield 29, 3) := by decide +kernel
theorem dX8_trip_26 : decode cX8_trip 26 = .ok (.iconst 0, 1) := by decide +kernel
theorem dX8_trip_27 : decode cX8_trip 27 = .ok (.invokestatic 94, 3) := by decide +kernel
theorem dX8_trip_30 : decode cX8_trip 30 = .ok (.aload_n 0, 1) := by decide +kernel
theorem dX8_trip_31 : decode cX8_trip 31 = .ok (.invokevirtual 362, 3) := by decide +kernel
theorem dX8_trip_34 : decode cX8_trip 34 = .ok (.istore_n 2, 1) := by decide +kernel
theorem dX8_trip_35 : decode cX8_trip 35 = .ok (.iconst 0, 1) := by decide +kernel
theorem dX8_trip_36 : decode cX8_trip 36 = .ok (.istore_n 3, 1) := by decide +kernel
theorem dX8_trip_37 : decode cX8_trip 37 = .ok (.aload_n 0, 1) := by decide +kernel
theorem dX8_trip_38 : decode cX8_trip 38 = .ok (.invokevirtual 362, 3) := by decide +kernel
theorem dX8_trip_41 : decode cX8_trip 41 = .ok (.iload_n 2, 1) := by decide +kernel
theorem dX8_trip_42 : decode cX8_trip 42 = .ok (.if_icmp .ne 33, 3) := by decide +kernel
theorem dX8_trip_45 : decode cX8_trip 45 = .ok (.iload_n 3, 1) := by decide +kernel
theorem dX8_trip_46 : decode cX8_trip 46 = .ok (.sipush 200, 3) := by decide +kernel
theorem dX8_trip_49 : decode cX8_trip 49 = .ok (.if_icmp .ge 26, 3) := by decide +kernel
theorem dX8_trip_52 : decode cX8_trip 52 = .ok (.aload_n 0, 1) := by decide +kernel
theorem dX8_trip_53 : decode cX8_trip 53 = .ok (.getfield 13, 3) := by decide +kernel
theorem dX8_trip_56 : decode cX8_trip 56 = .ok (.iconst 4, 1) := by decide +kernel
theorem dX8_trip_57 : decode cX8_trip 57 = .ok (.iaload, 1) := by decide +kernel
theorem dX8_trip_58 : decode cX8_trip 58 = .ok (.sipush 9999, 3) := by decide +kernel
theorem dX8_trip_61 : decode cX8_trip 61 = .ok (.if_icmp .ge 14, 3) := by decide +kernel
theorem dX8_trip_64 : decode cX8_trip 64 = .ok (.aload_n 0, 1) := by decide +kernel
theorem dX8_trip_65 : decode cX8_trip 65 = .ok (.invokevirtual 276, 3) := by decide +kernel
theorem dX8_trip_68 : decode cX8_trip 68 = .ok (.pop, 1) := by decide +kernel
theorem dX8_trip_69 : decode cX8_trip 69 = .ok (.iinc 3 1, 3) := by decide +kernel
theorem dX8_trip_72 : decode cX8_trip 72 = .ok (.goto (-35), 3) := by decide +kernel
theorem dX8_trip_75 : decode cX8_trip 75 = .ok (.aload_n 0, 1) := by decide +kernel
theorem dX8_trip_76 : decode cX8_trip 76 = .ok (.invokevirtual 365, 3) := by decide +kernel
theorem dX8_trip_79 : decode cX8_trip 79 = .ok (.istore 4, 2) := by decide +kernel
theorem dX8_trip_81 : decode cX8_trip 81 = .ok (.aload_n 0, 1) := by decide +kernel
theorem dX8_trip_82 : decode cX8_trip 82 = .ok (.getfield 29, 3) := by decide +kernel
theorem dX8_trip_85 : decode cX8_trip 85 = .ok (.iconst 0, 1) := by decide +kernel
theorem dX8_trip_86 : decode cX8_trip 86 = .ok (.aload_n 0, 1) := by decide +kernel
theorem dX8_trip_87 : decode cX8_trip 87 = .ok (.getfield 13, 3) := by decide +kernel
theorem dX8_trip_90 : decode cX8_trip 90 = .ok (.iconst 0, 1) := by decide +kernel
theorem dX8_trip_91 : decode cX8_trip 91 = .ok (.invokestatic 94, 3) := by decide +kernel
theorem dX8_trip_94 : decode cX8_trip 94 = .ok (.iload 4, 2) := by decide +kernel
theorem dX8_trip_96 : decode cX8_trip 96 = .ok (.iconst (-1), 1) := by decide +kernel
theorem dX8_trip_97 : decode cX8_trip 97 = .ok (.if_icmp .eq 7, 3) := by decide +kernel
theorem dX8_trip_100 : decode cX8_trip 100 = .ok (.iload_n 1, 1) := by decide +kernel
theorem dX8_trip_101 : decode cX8_trip 101 = .ok (.ifCond .ne 8, 3) := by decide +kernel
theorem dX8_trip_104 : decode cX8_trip 104 = .ok (.iload 4, 2) := by decide +kernel
theorem dX8_trip_106 : decode cX8_trip 106 = .ok (.goto 4, 3) := by decide +kernel
theorem dX8_trip_109 : decode cX8_trip 109 = .ok (.iload_n 3, 1) := by decide +kernel
theorem dX8_trip_110 : decode cX8_trip 110 = .ok (.ireturn, 1) := by decide +kernel
noncomputable def qX8_trip_1 : Bx := (band (band (bc ceq (cvi 7 DX8_trippedOnes (rl 0) anil) (il 2)) (bc clt (il 3) (ik 200))) (bc clt (iald (fgr 7 3 (rl 0)) (ik 4)) (ik 9999)))
noncomputable def wX8_trip_1 : Sx := (sseq (spop (cvi 7 DX8_step (rl 0) anil)) (sinc 3 1))
noncomputable def EX8_trip : Sx := (sseq (fpi 7 0 (rl 0) (ik 0)) (sseq (sif (bnot (bz cne (csz DX8_in (aj (i2l (il 1)) (aj (jk 0) (aj (jk 1) anil)))))) (sret (ik (-1))) snop) (sseq (scs DX8_copy (ar (fgr 7 3 (rl 0)) (ai (ik 0) (ar (fgr 7 9 (rl 0)) (ai (ik 0) anil))))) (sseq (ssi 2 (cvi 7 DX8_trippedOnes (rl 0) anil)) (sseq (ssi 3 (ik 0)) (sseq (swh qX8_trip_1 wX8_trip_1) (sseq (ssi 4 (cvi 7 DX8_firstTripped (rl 0) anil)) (sseq (scs DX8_copy (ar (fgr 7 9 (rl 0)) (ai (ik 0) (ar (fgr 7 3 (rl 0)) (ai (ik 0) anil))))) (sret (ic (bor (bc ceq (il 4) (ik (-1))) (bz ceq (il 1))) (il 4) (il 3)))))))))))
noncomputable def DX8_trip : Fi := mfi 5 EX8_trip
set_option maxRecDepth 4000 in
theorem BX8_trip : Vs RX8 cX8_trip 5 (rmk 8 181) 0 0 EX8_trip := (v_seq (v_fpi kX8 lk995 (by decide) rfl rfl (by decide +kernel) (v_aload_n (i := 0) dX8_trip_0 rfl (rfl : 0 + 1 = 1)) (v_iconst (v := 0) dX8_trip_1 (by decide) (rfl : 1 + 1 = 2)) dX8_trip_2 (rfl : 2 + 3 = 5)) (v_seq (v_if (v_not (v_zne_t (v_csz IX8_in hX8_in lk1120 ⟨by decide, by decide⟩ (by decide) (v_aj (v_i2l (v_iload_n (i := 1) dX8_trip_5 rfl (rfl : 5 + 1 = 6)) dX8_trip_6 (rfl : 6 + 1 = 7)) (v_aj (v_lconst (v := 0) dX8_trip_7 (by decide) (rfl : 7 + 1 = 8)) (v_aj (v_lconst (v := 1) dX8_trip_8 (by decide) (rfl : 8 + 1 = 9)) v_anil))) dX8_trip_9 (rfl : 9 + 3 = 12)) dX8_trip_12 (rfl : ((12 : Nat) : Int) + 5 = ((17 : Nat) : Int)) (rfl : 12 + 3 = 15))) (v_ret (v_iconst (v := (-1)) dX8_trip_15 (by decide) (rfl : 15 + 1 = 16)) dX8_trip_16) v_nop) (v_seq (v_scs IX8_copy hX8_copy lk1109 ⟨by decide, by decide⟩ (v_ar (v_gfr kX8 lk998 (by decide) rfl (v_aload_n (i := 0) dX8_trip_17 rfl (rfl : 17 + 1 = 18)) dX8_trip_18 (rfl : 18 + 3 = 21)) (v_ai (v_iconst (v := 0) dX8_trip_21 (by decide) (rfl : 21 + 1 = 22)) (v_ar (v_gfr kX8 lk1004 (by decide) rfl (v_aload_n (i := 0) dX8_trip_22 rfl (rfl : 22 + 1 = 23)) dX8_trip_23 (rfl : 23 + 3 = 26)) (v_ai (v_iconst (v := 0) dX8_trip_26 (by decide) (rfl : 26 + 1 = 27)) v_anil)))) dX8_trip_27 (rfl : 27 + 3 = 30)) (v_seq (v_istore_n (i := 2) (v_cvi kX8 IX8_trippedOnes hX8_trippedOnes lk1488 ⟨by decide, by decide⟩ (by decide) (v_aload_n (i := 0) dX8_trip_30 rfl (rfl : 30 + 1 = 31)) v_anil dX8_trip_31 (rfl : 31 + 3 = 34)) dX8_trip_34 rfl (by decide) (rfl : 34 + 1 = 35)) (v_seq (v_istore_n (i := 3) (v_iconst (v := 0) dX8_trip_35 (by decide) (rfl : 35 + 1 = 36)) dX8_trip_36 rfl (by decide) (rfl : 36 + 1 = 37)) (v_seq (v_wh (v_and (v_and (v_ieq_f (v_cvi kX8 IX8_trippedOnes hX8_trippedOnes lk1488 ⟨by decide, by decide⟩ (by decide) (v_aload_n (i := 0) dX8_trip_37 rfl (rfl : 37 + 1 = 38)) v_anil dX8_trip_38 (rfl : 38 + 3 = 41)) (v_iload_n (i := 2) dX8_trip_41 rfl (rfl : 41 + 1 = 42)) dX8_trip_42 (rfl : ((42 : Nat) : Int) + 33 = ((75 : Nat) : Int)) (rfl : 42 + 3 = 45)) (v_ilt_f (v_iload_n (i := 3) dX8_trip_45 rfl (rfl : 45 + 1 = 46)) (v_sipush (v := 200) dX8_trip_46 (by decide) (rfl : 46 + 3 = 49)) dX8_trip_49 (rfl : ((49 : Nat) : Int) + 26 = ((75 : Nat) : Int)) (rfl : 49 + 3 = 52))) (v_ilt_f (v_iald (v_gfr kX8 lk998 (by decide) rfl (v_aload_n (i := 0) dX8_trip_52 rfl (rfl : 52 + 1 = 53)) dX8_trip_53 (rfl : 53 + 3 = 56)) (v_iconst (v := 4) dX8_trip_56 (by decide) (rfl : 56 + 1 = 57)) dX8_trip_57 (rfl : 57 + 1 = 58)) (v_sipush (v := 9999) dX8_trip_58 (by decide) (rfl : 58 + 3 = 61)) dX8_trip_61 (rfl : ((61 : Nat) : Int) + 14 = ((75 : Nat) : Int)) (rfl : 61 + 3 = 64))) (vs_goto (v_seq (v_pop (v_cvi kX8 IX8_step hX8_step lk1233 ⟨by decide, by decide⟩ (by decide) (v_aload_n (i := 0) dX8_trip_64 rfl (rfl : 64 + 1 = 65)) v_anil dX8_trip_65 (rfl : 65 + 3 = 68)) dX8_trip_68 (rfl : 68 + 1 = 69)) (v_iinc (v := 1) dX8_trip_69 (by decide) (by decide) (rfl : 69 + 3 = 72))) dX8_trip_72 (rfl : ((72 : Nat) : Int) + (-35) = ((37 : Nat) : Int)))) (v_seq (v_istore (i := 4) (v_cvi kX8 IX8_firstTripped hX8_firstTripped lk1492 ⟨by decide, by decide⟩ (by decide) (v_aload_n (i := 0) dX8_trip_75 rfl (rfl : 75 + 1 = 76)) v_anil dX8_trip_76 (rfl : 76 + 3 = 79)) dX8_trip_79 (by decide) (rfl : 79 + 2 = 81)) (v_seq (v_scs IX8_copy hX8_copy lk1109 ⟨by decide, by decide⟩ (v_ar (v_gfr kX8 lk1004 (by decide) rfl (v_aload_n (i := 0) dX8_trip_81 rfl (rfl : 81 + 1 = 82)) dX8_trip_82 (rfl : 82 + 3 = 85)) (v_ai (v_iconst (v := 0) dX8_trip_85 (by decide) (rfl : 85 + 1 = 86)) (v_ar (v_gfr kX8 lk998 (by decide) rfl (v_aload_n (i := 0) dX8_trip_86 rfl (rfl : 86 + 1 = 87)) dX8_trip_87 (rfl : 87 + 3 = 90)) (v_ai (v_iconst (v := 0) dX8_trip_90 (by decide) (rfl : 90 + 1 = 91)) v_anil)))) dX8_trip_91 (rfl : 91 + 3 = 94)) (v_ret (v_ic (v_or (v_ieq_t (v_iload (i := 4) dX8_trip_94 (rfl : 94 + 2 = 96)) (v_iconst (v := (-1)) dX8_trip_96 (by decide) (rfl : 96 + 1 = 97)) dX8_trip_97 (rfl : ((97 : Nat) : Int) + 7 = ((104 : Nat) : Int)) (rfl : 97 + 3 = 100)) (v_zeq_f (v_iload_n (i := 1) dX8_trip_100 rfl (rfl : 100 + 1 = 101)) dX8_trip_101 (rfl : ((101 : Nat) : Int) + 8 = ((109 : Nat) : Int)) (rfl : 101 + 3 = 104))) (vi_goto (v_iload (i := 4) dX8_trip_104 (rfl : 104 + 2 = 106)) dX8_trip_106 (rfl : ((106 : Nat) : Int) + 4 = ((110 : Nat) : Int))) (v_iload_n (i := 3) dX8_trip_109 rfl (rfl : 109 + 1 = 110))) dX8_trip_110)))))))))
theorem IX8_trip : Mi yX8_trip cX8_trip 5 (rmk 8 181) DX8_trip := mk_i (by decide +kernel) BX8_trip

theorem dX8_tube_0 : decode cX8_tube 0 = .ok (.aload_n 0, 1) := by decide +kernel
theorem dX8_tube_1 : decode cX8_tube 1 = .ok (.iconst 0, 1) := by decide +kernel
theorem dX8_tube_2 : decode cX8_tube 2 = .ok (.putfield 84, 3) := by decide +kernel
theorem dX8_tube_5 : decode cX8_tube 5 = .ok (.iload_n 3, 1) := by decide +kernel
theorem dX8_tube_6 : decode cX8_tube 6 = .ok (.i2l, 1) := by decide +kernel
theorem dX8_tube_7 : decode cX8_tube 7 = .ok (.lconst 1, 1) := by decide +kernel
theorem dX8_tube_8 : decode cX8_tube 8 = .ok (.ldc2_w 140, 3) := by decide +kernel
theorem dX8_tube_11 : decode cX8_tube 11 = .ok (.invokestatic 105, 3) := by decide +kernel
theorem dX8_tube_14 : decode cX8_tube 14 = .ok (.ifCond .eq 39, 3) := by decide +kernel
theorem dX8_tube_17 : decode cX8_tube 17 = .ok (.iload 4, 2) := by decide +kernel
theorem dX8_tube_19 : decode cX8_tube 19 = .ok (.i2l, 1) := by decide +kernel
theorem dX8_tube_20 : decode cX8_tube 20 = .ok (.lconst 0, 1) := by decide +kernel
theorem dX8_tube_21 : decode cX8_tube 21 = .ok (.ldc2_w 140, 3) := by decide +kernel
theorem dX8_tube_24 : decode cX8_tube 24 = .ok (.invokestatic 105, 3) := by decide +kernel
theorem dX8_tube_27 : decode cX8_tube 27 = .ok (.ifCond .eq 26, 3) := by decide +kernel
theorem dX8_tube_30 : decode cX8_tube 30 = .ok (.iload 5, 2) := by decide +kernel
theorem dX8_tube_32 : decode cX8_tube 32 = .ok (.i2l, 1) := by decide +kernel
theorem dX8_tube_33 : decode cX8_tube 33 = .ok (.lconst 0, 1) := by decide +kernel
theorem dX8_tube_34 : decode cX8_tube 34 = .ok (.ldc2_w 140, 3) := by decide +kernel
theorem dX8_tube_37 : decode cX8_tube 37 = .ok (.invokestatic 105, 3) := by decide +kernel
theorem dX8_tube_40 : decode cX8_tube 40 = .ok (.ifCond .eq 13, 3) := by decide +kernel
theorem dX8_tube_43 : decode cX8_tube 43 = .ok (.iload 5, 2) := by decide +kernel
theorem dX8_tube_45 : decode cX8_tube 45 = .ok (.ifCond .le 14, 3) := by decide +kernel
theorem dX8_tube_48 : decode cX8_tube 48 = .ok (.iload 4, 2) := by decide +kernel
theorem dX8_tube_50 : decode cX8_tube 50 = .ok (.ifCond .ne 9, 3) := by decide +kernel
theorem dX8_tube_53 : decode cX8_tube 53 = .ok (.aload_n 0, 1) := by decide +kernel
theorem dX8_tube_54 : decode cX8_tube 54 = .ok (.iconst (-1), 1) := by decide +kernel
theorem dX8_tube_55 : decode cX8_tube 55 = .ok (.invokevirtual 98, 3) := by decide +kernel
theorem dX8_tube_58 : decode cX8_tube 58 = .ok (.ireturn, 1) := by decide +kernel
theorem dX8_tube_59 : decode cX8_tube 59 = .ok (.aload_n 0, 1) := by decide +kernel
theorem dX8_tube_60 : decode cX8_tube 60 = .ok (.iload_n 1, 1) := by decide +kernel
theorem dX8_tube_61 : decode cX8_tube 61 = .ok (.invokevirtual 109, 3) := by decide +kernel
theorem dX8_tube_64 : decode cX8_tube 64 = .ok (.ifCond .eq 11, 3) := by decide +kernel
theorem dX8_tube_67 : decode cX8_tube 67 = .ok (.aload_n 0, 1) := by decide +kernel
theorem dX8_tube_68 : decode cX8_tube 68 = .ok (.iload_n 2, 1) := by decide +kernel
theorem dX8_tube_69 : decode cX8_tube 69 = .ok (.invokevirtual 109, 3) := by decide +kernel
theorem dX8_tube_72 : decode cX8_tube 72 = .ok (.ifCond .ne 10, 3) := by decide +kernel
theorem dX8_tube_75 : decode cX8_tube 75 = .ok (.aload_n 0, 1) := by decide +kernel
theorem dX8_tube_76 : decode cX8_tube 76 = .ok (.bipush (-2), 2) := by decide +kernel
theorem dX8_tube_78 : decode cX8_tube 78 = .ok (.invokevirtual 98, 3) := by decide +kernel
theorem dX8_tube_81 : decode cX8_tube 81 = .ok (.ireturn, 1) := by decide +kernel
theorem dX8_tube_82 : decode cX8_tube 82 = .ok (.iload_n 1, 1) := by decide +kernel
theorem dX8_tube_83 : decode cX8_tube 83 = .ok (.iload_n 2, 1) := by decide +kernel
theorem dX8_tube_84 : decode cX8_tube 84 = .ok (.if_icmp .ne 10, 3) := by decide +kernel
theorem dX8_tube_87 : decode cX8_tube 87 = .ok (.aload_n 0, 1) := by decide +kernel
theorem dX8_tube_88 : decode cX8_tube 88 = .ok (.bipush (-4), 2) := by decide +kernel
theorem dX8_tube_90 : decode cX8_tube 90 = .ok (.invokevirtual 98, 3) := by decide +kernel
theorem dX8_tube_93 : decode cX8_tube 93 = .ok (.ireturn, 1) := by decide +kernel
theorem dX8_tube_94 : decode cX8_tube 94 = .ok (.aload_n 0, 1) := by decide +kernel
theorem dX8_tube_95 : decode cX8_tube 95 = .ok (.getfield 13, 3) := by decide +kernel
theorem dX8_tube_98 : decode cX8_tube 98 = .ok (.iconst 1, 1) := by decide +kernel
theorem dX8_tube_99 : decode cX8_tube 99 = .ok (.iaload, 1) := by decide +kernel
theorem dX8_tube_100 : decode cX8_tube 100 = .ok (.istore 6, 2) := by decide +kernel
theorem dX8_tube_102 : decode cX8_tube 102 = .ok (.iload_n 3, 1) := by decide +kernel
theorem dX8_tube_103 : decode cX8_tube 103 = .ok (.iload 4, 2) := by decide +kernel
theorem dX8_tube_105 : decode cX8_tube 105 = .ok (.iload 5, 2) := by decide +kernel
theorem dX8_tube_107 : decode cX8_tube 107 = .ok (.invokestatic 142, 3) := by decide +kernel
theorem dX8_tube_110 : decode cX8_tube 110 = .ok (.istore 7, 2) := by decide +kernel
theorem dX8_tube_112 : decode cX8_tube 112 = .ok (.iload 6, 2) := by decide +kernel
theorem dX8_tube_114 : decode cX8_tube 114 = .ok (.bipush 10, 2) := by decide +kernel
theorem dX8_tube_116 : decode cX8_tube 116 = .ok (.if_icmp .eq 29, 3) := by decide +kernel
theorem dX8_tube_119 : decode cX8_tube 119 = .ok (.aload_n 0, 1) := by decide +kernel
theorem dX8_tube_120 : decode cX8_tube 120 = .ok (.iload_n 1, 1) := by decide +kernel
theorem dX8_tube_121 : decode cX8_tube 121 = .ok (.invokevirtual 146, 3) := by decide +kernel
theorem dX8_tube_124 : decode cX8_tube 124 = .ok (.iload 7, 2) := by decide +kernel
theorem dX8_tube_126 : decode cX8_tube 126 = .ok (.iadd, 1) := by decide +kernel
theorem dX8_tube_127 : decode cX8_tube 127 = .ok (.bipush 120, 2) := by decide +kernel
theorem dX8_tube_129 : decode cX8_tube 129 = .ok (.if_icmp .gt 16, 3) := by decide +kernel
theorem dX8_tube_132 : decode cX8_tube 132 = .ok (.aload_n 0, 1) := by decide +kernel
theorem dX8_tube_133 : decode cX8_tube 133 = .ok (.iload_n 2, 1) := by decide +kernel
theorem dX8_tube_134 : decode cX8_tube 134 = .ok (.invokevirtual 146, 3) := by decide +kernel
theorem dX8_tube_137 : decode cX8_tube 137 = .ok (.iload 7, 2) := by decide +kernel
theorem dX8_tube_139 : decode cX8_tube 139 = .ok (.iadd, 1) := by decide +kernel
theorem dX8_tube_140 : decode cX8_tube 140 = .ok (.bipush 120, 2) := by decide +kernel
theorem dX8_tube_142 : decode cX8_tube 142 = .ok (.if_icmp .le 10, 3) := by decide +kernel
theorem dX8_tube_145 : decode cX8_tube 145 = .ok (.aload_n 0, 1) := by decide +kernel
theorem dX8_tube_146 : decode cX8_tube 146 = .ok (.bipush (-5), 2) := by decide +kernel
theorem dX8_tube_148 : decode cX8_tube 148 = .ok (.invokevirtual 98, 3) := by decide +kernel
theorem dX8_tube_151 : decode cX8_tube 151 = .ok (.ireturn, 1) := by decide +kernel
theorem dX8_tube_152 : decode cX8_tube 152 = .ok (.aload_n 0, 1) := by decide +kernel
theorem dX8_tube_153 : decode cX8_tube 153 = .ok (.iconst 1, 1) := by decide +kernel
theorem dX8_tube_154 : decode cX8_tube 154 = .ok (.invokevirtual 136, 3) := by decide +kernel
theorem dX8_tube_157 : decode cX8_tube 157 = .ok (.iload 6, 2) := by decide +kernel
theorem dX8_tube_159 : decode cX8_tube 159 = .ok (.invokestatic 116, 3) := by decide +kernel
theorem dX8_tube_162 : decode cX8_tube 162 = .ok (.istore 8, 2) := by decide +kernel
theorem dX8_tube_164 : decode cX8_tube 164 = .ok (.aload_n 0, 1) := by decide +kernel
theorem dX8_tube_165 : decode cX8_tube 165 = .ok (.getfield 13, 3) := by decide +kernel
theorem dX8_tube_168 : decode cX8_tube 168 = .ok (.iload 8, 2) := by decide +kernel
theorem dX8_tube_170 : decode cX8_tube 170 = .ok (.iload_n 1, 1) := by decide +kernel
theorem dX8_tube_171 : decode cX8_tube 171 = .ok (.iastore, 1) := by decide +kernel
theorem dX8_tube_172 : decode cX8_tube 172 = .ok (.aload_n 0, 1) := by decide +kernel
theorem dX8_tube_173 : decode cX8_tube 173 = .ok (.getfield 13, 3) := by decide +kernel
theorem dX8_tube_176 : decode cX8_tube 176 = .ok (.iload 8, 2) := by decide +kernel
theorem dX8_tube_178 : decode cX8_tube 178 = .ok (.iconst 1, 1) := by decide +kernel
theorem dX8_tube_179 : decode cX8_tube 179 = .ok (.iadd, 1) := by decide +kernel
theorem dX8_tube_180 : decode cX8_tube 180 = .ok (.iload_n 2, 1) := by decide +kernel
theorem dX8_tube_181 : decode cX8_tube 181 = .ok (.iastore, 1) := by decide +kernel
theorem dX8_tube_182 : decode cX8_tube 182 = .ok (.aload_n 0, 1) := by decide +kernel
theorem dX8_tube_183 : decode cX8_tube 183 = .ok (.getfield 13, 3) := by decide +kernel
theorem dX8_tube_186 : decode cX8_tube 186 = .ok (.iload 8, 2) := by decide +kernel
theorem dX8_tube_188 : decode cX8_tube 188 = .ok (.iconst 2, 1) := by decide +kernel
theorem dX8_tube_189 : decode cX8_tube 189 = .ok (.iadd, 1) := by decide +kernel
theorem dX8_tube_190 : decode cX8_tube 190 = .ok (.iload 7, 2) := by decide +kernel
theorem dX8_tube_192 : decode cX8_tube 192 = .ok (.iastore, 1) := by decide +kernel
theorem dX8_tube_193 : decode cX8_tube 193 = .ok (.aload_n 0, 1) := by decide +kernel
theorem dX8_tube_194 : decode cX8_tube 194 = .ok (.getfield 13, 3) := by decide +kernel
theorem dX8_tube_197 : decode cX8_tube 197 = .ok (.iload 8, 2) := by decide +kernel
theorem dX8_tube_199 : decode cX8_tube 199 = .ok (.iconst 3, 1) := by decide +kernel
theorem dX8_tube_200 : decode cX8_tube 200 = .ok (.iadd, 1) := by decide +kernel
theorem dX8_tube_201 : decode cX8_tube 201 = .ok (.iconst 1, 1) := by decide +kernel
theorem dX8_tube_202 : decode cX8_tube 202 = .ok (.iastore, 1) := by decide +kernel
theorem dX8_tube_203 : decode cX8_tube 203 = .ok (.aload_n 0, 1) := by decide +kernel
theorem dX8_tube_204 : decode cX8_tube 204 = .ok (.getfield 13, 3) := by decide +kernel
theorem dX8_tube_207 : decode cX8_tube 207 = .ok (.iconst 1, 1) := by decide +kernel
theorem dX8_tube_208 : decode cX8_tube 208 = .ok (.dup2, 1) := by decide +kernel
theorem dX8_tube_209 : decode cX8_tube 209 = .ok (.iaload, 1) := by decide +kernel
theorem dX8_tube_210 : decode cX8_tube 210 = .ok (.iconst 1, 1) := by decide +kernel
theorem dX8_tube_211 : decode cX8_tube 211 = .ok (.iadd, 1) := by decide +kernel
theorem dX8_tube_212 : decode cX8_tube 212 = .ok (.iastore, 1) := by decide +kernel
theorem dX8_tube_213 : decode cX8_tube 213 = .ok (.aload_n 0, 1) := by decide +kernel
theorem dX8_tube_214 : decode cX8_tube 214 = .ok (.iload 6, 2) := by decide +kernel
theorem dX8_tube_216 : decode cX8_tube 216 = .ok (.invokevirtual 102, 3) := by decide +kernel
theorem dX8_tube_219 : decode cX8_tube 219 = .ok (.ireturn, 1) := by decide +kernel
noncomputable def EX8_tube : Sx := (sseq (fpi 7 0 (rl 0) (ik 0)) (sseq (sif (bor (bor (bor (bnot (bz cne (csz DX8_in (aj (i2l (il 3)) (aj (jk 1) (aj (jk 12) anil)))))) (bnot (bz cne (csz DX8_in (aj (i2l (il 4)) (aj (jk 0) (aj (jk 12) anil))))))) (bnot (bz cne (csz DX8_in (aj (i2l (il 5)) (aj (jk 0) (aj (jk 12) anil))))))) (band (bz cgt (il 5)) (bz ceq (il 4)))) (sret (cvi 7 DX8_refuse (rl 0) (ai (ik (-1)) anil))) snop) (sseq (sif (bor (bnot (bz cne (cvz 7 DX8_isChamber (rl 0) (ai (il 1) anil)))) (bnot (bz cne (cvz 7 DX8_isChamber (rl 0) (ai (il 2) anil))))) (sret (cvi 7 DX8_refuse (rl 0) (ai (ik (-2)) anil))) snop) (sseq (sif (bc ceq (il 1) (il 2)) (sret (cvi 7 DX8_refuse (rl 0) (ai (ik (-4)) anil))) snop) (sseq (ssi 6 (iald (fgr 7 3 (rl 0)) (ik 1))) (sseq (ssi 7 (csi DX8_inSeries (ai (il 3) (ai (il 4) (ai (il 5) anil))))) (sseq (sif (bor (bor (bc ceq (il 6) (ik 10)) (bc cgt (i2 (· + ·) (cvi 7 DX8_weight (rl 0) (ai (il 1) anil)) (il 7)) (ik 120))) (bc cgt (i2 (· + ·) (cvi 7 DX8_weight (rl 0) (ai (il 2) anil)) (il 7)) (ik 120))) (sret (cvi 7 DX8_refuse (rl 0) (ai (ik (-5)) anil))) snop) (sseq (scv 7 DX8_remember (rl 0) (ai (ik 1) anil)) (sseq (ssi 8 (csi DX8_tubeAt (ai (il 6) anil))) (sseq (aii (fgr 7 3 (rl 0)) (il 8) (il 1)) (sseq (aii (fgr 7 3 (rl 0)) (i2 (· + ·) (il 8) (ik 1)) (il 2)) (sseq (aii (fgr 7 3 (rl 0)) (i2 (· + ·) (il 8) (ik 2)) (il 7)) (sseq (aii (fgr 7 3 (rl 0)) (i2 (· + ·) (il 8) (ik 3)) (ik 1)) (sseq (aoi (· + ·) (fgr 7 3 (rl 0)) (ik 1) (ik 1)) (sret (cvi 7 DX8_tell (rl 0) (ai (il 6) anil)))))))))))))))))
noncomputable def DX8_tube : Fi := mfi 9 EX8_tube
set_option maxRecDepth 4000 in
theorem BX8_tube : Vs RX8 cX8_tube 9 (rmk 3 67) 0 0 EX8_tube := (v_seq (v_fpi kX8 lk995 (by decide) rfl rfl (by decide +kernel) (v_aload_n (i := 0) dX8_tube_0 rfl (rfl : 0 + 1 = 1)) (v_iconst (v := 0) dX8_tube_1 (by decide) (rfl : 1 + 1 = 2)) dX8_tube_2 (rfl : 2 + 3 = 5)) (v_seq (v_if (v_or (v_or (v_or (v_not (v_zne_f (v_csz IX8_in hX8_in lk1120 ⟨by decide, by decide⟩ (by decide) (v_aj (v_i2l (v_iload_n (i := 3) dX8_tube_5 rfl (rfl : 5 + 1 = 6)) dX8_tube_6 (rfl : 6 + 1 = 7)) (v_aj (v_lconst (v := 1) dX8_tube_7 (by decide) (rfl : 7 + 1 = 8)) (v_aj (v_ldc2 (v := 12) lk1144 dX8_tube_8 (rfl : 8 + 3 = 11)) v_anil))) dX8_tube_11 (rfl : 11 + 3 = 14)) dX8_tube_14 (rfl : ((14 : Nat) : Int) + 39 = ((53 : Nat) : Int)) (rfl : 14 + 3 = 17))) (v_not (v_zne_f (v_csz IX8_in hX8_in lk1120 ⟨by decide, by decide⟩ (by decide) (v_aj (v_i2l (v_iload (i := 4) dX8_tube_17 (rfl : 17 + 2 = 19)) dX8_tube_19 (rfl : 19 + 1 = 20)) (v_aj (v_lconst (v := 0) dX8_tube_20 (by decide) (rfl : 20 + 1 = 21)) (v_aj (v_ldc2 (v := 12) lk1144 dX8_tube_21 (rfl : 21 + 3 = 24)) v_anil))) dX8_tube_24 (rfl : 24 + 3 = 27)) dX8_tube_27 (rfl : ((27 : Nat) : Int) + 26 = ((53 : Nat) : Int)) (rfl : 27 + 3 = 30)))) (v_not (v_zne_f (v_csz IX8_in hX8_in lk1120 ⟨by decide, by decide⟩ (by decide) (v_aj (v_i2l (v_iload (i := 5) dX8_tube_30 (rfl : 30 + 2 = 32)) dX8_tube_32 (rfl : 32 + 1 = 33)) (v_aj (v_lconst (v := 0) dX8_tube_33 (by decide) (rfl : 33 + 1 = 34)) (v_aj (v_ldc2 (v := 12) lk1144 dX8_tube_34 (rfl : 34 + 3 = 37)) v_anil))) dX8_tube_37 (rfl : 37 + 3 = 40)) dX8_tube_40 (rfl : ((40 : Nat) : Int) + 13 = ((53 : Nat) : Int)) (rfl : 40 + 3 = 43)))) (v_and (v_zgt_f (v_iload (i := 5) dX8_tube_43 (rfl : 43 + 2 = 45)) dX8_tube_45 (rfl : ((45 : Nat) : Int) + 14 = ((59 : Nat) : Int)) (rfl : 45 + 3 = 48)) (v_zeq_f (v_iload (i := 4) dX8_tube_48 (rfl : 48 + 2 = 50)) dX8_tube_50 (rfl : ((50 : Nat) : Int) + 9 = ((59 : Nat) : Int)) (rfl : 50 + 3 = 53)))) (v_ret (v_cvi kX8 IX8_refuse hX8_refuse lk1105 ⟨by decide, by decide⟩ (by decide) (v_aload_n (i := 0) dX8_tube_53 rfl (rfl : 53 + 1 = 54)) (v_ai (v_iconst (v := (-1)) dX8_tube_54 (by decide) (rfl : 54 + 1 = 55)) v_anil) dX8_tube_55 (rfl : 55 + 3 = 58)) dX8_tube_58) v_nop) (v_seq (v_if (v_or (v_not (v_zne_f (v_cvz kX8 IX8_isChamber hX8_isChamber lk1145 ⟨by decide, by decide⟩ (by decide) (v_aload_n (i := 0) dX8_tube_59 rfl (rfl : 59 + 1 = 60)) (v_ai (v_iload_n (i := 1) dX8_tube_60 rfl (rfl : 60 + 1 = 61)) v_anil) dX8_tube_61 (rfl : 61 + 3 = 64)) dX8_tube_64 (rfl : ((64 : Nat) : Int) + 11 = ((75 : Nat) : Int)) (rfl : 64 + 3 = 67))) (v_not (v_zne_t (v_cvz kX8 IX8_isChamber hX8_isChamber lk1145 ⟨by decide, by decide⟩ (by decide) (v_aload_n (i := 0) dX8_tube_67 rfl (rfl : 67 + 1 = 68)) (v_ai (v_iload_n (i := 2) dX8_tube_68 rfl (rfl : 68 + 1 = 69)) v_anil) dX8_tube_69 (rfl : 69 + 3 = 72)) dX8_tube_72 (rfl : ((72 : Nat) : Int) + 10 = ((82 : Nat) : Int)) (rfl : 72 + 3 = 75)))) (v_ret (v_cvi kX8 IX8_refuse hX8_refuse lk1105 ⟨by decide, by decide⟩ (by decide) (v_aload_n (i := 0) dX8_tube_75 rfl (rfl : 75 + 1 = 76)) (v_ai (v_bipush (v := (-2)) dX8_tube_76 (by decide) (rfl : 76 + 2 = 78)) v_anil) dX8_tube_78 (rfl : 78 + 3 = 81)) dX8_tube_81) v_nop) (v_seq (v_if (v_ieq_f (v_iload_n (i := 1) dX8_tube_82 rfl (rfl : 82 + 1 = 83)) (v_iload_n (i := 2) dX8_tube_83 rfl (rfl : 83 + 1 = 84)) dX8_tube_84 (rfl : ((84 : Nat) : Int) + 10 = ((94 : Nat) : Int)) (rfl : 84 + 3 = 87)) (v_ret (v_cvi kX8 IX8_refuse hX8_refuse lk1105 ⟨by decide, by decide⟩ (by decide) (v_aload_n (i := 0) dX8_tube_87 rfl (rfl : 87 + 1 = 88)) (v_ai (v_bipush (v := (-4)) dX8_tube_88 (by decide) (rfl : 88 + 2 = 90)) v_anil) dX8_tube_90 (rfl : 90 + 3 = 93)) dX8_tube_93) v_nop) (v_seq (v_istore (i := 6) (v_iald (v_gfr kX8 lk998 (by decide) rfl (v_aload_n (i := 0) dX8_tube_94 rfl (rfl : 94 + 1 = 95)) dX8_tube_95 (rfl : 95 + 3 = 98)) (v_iconst (v := 1) dX8_tube_98 (by decide) (rfl : 98 + 1 = 99)) dX8_tube_99 (rfl : 99 + 1 = 100)) dX8_tube_100 (by decide) (rfl : 100 + 2 = 102)) (v_seq (v_istore (i := 7) (v_csi IX8_inSeries hX8_inSeries lk1149 ⟨by decide, by decide⟩ (by decide) (v_ai (v_iload_n (i := 3) dX8_tube_102 rfl (rfl : 102 + 1 = 103)) (v_ai (v_iload (i := 4) dX8_tube_103 (rfl : 103 + 2 = 105)) (v_ai (v_iload (i := 5) dX8_tube_105 (rfl : 105 + 2 = 107)) v_anil))) dX8_tube_107 (rfl : 107 + 3 = 110)) dX8_tube_110 (by decide) (rfl : 110 + 2 = 112)) (v_seq (v_if (v_or (v_or (v_ieq_t (v_iload (i := 6) dX8_tube_112 (rfl : 112 + 2 = 114)) (v_bipush (v := 10) dX8_tube_114 (by decide) (rfl : 114 + 2 = 116)) dX8_tube_116 (rfl : ((116 : Nat) : Int) + 29 = ((145 : Nat) : Int)) (rfl : 116 + 3 = 119)) (v_igt_t (v_iadd (v_cvi kX8 IX8_weight hX8_weight lk1152 ⟨by decide, by decide⟩ (by decide) (v_aload_n (i := 0) dX8_tube_119 rfl (rfl : 119 + 1 = 120)) (v_ai (v_iload_n (i := 1) dX8_tube_120 rfl (rfl : 120 + 1 = 121)) v_anil) dX8_tube_121 (rfl : 121 + 3 = 124)) (v_iload (i := 7) dX8_tube_124 (rfl : 124 + 2 = 126)) dX8_tube_126 (rfl : 126 + 1 = 127)) (v_bipush (v := 120) dX8_tube_127 (by decide) (rfl : 127 + 2 = 129)) dX8_tube_129 (rfl : ((129 : Nat) : Int) + 16 = ((145 : Nat) : Int)) (rfl : 129 + 3 = 132))) (v_igt_f (v_iadd (v_cvi kX8 IX8_weight hX8_weight lk1152 ⟨by decide, by decide⟩ (by decide) (v_aload_n (i := 0) dX8_tube_132 rfl (rfl : 132 + 1 = 133)) (v_ai (v_iload_n (i := 2) dX8_tube_133 rfl (rfl : 133 + 1 = 134)) v_anil) dX8_tube_134 (rfl : 134 + 3 = 137)) (v_iload (i := 7) dX8_tube_137 (rfl : 137 + 2 = 139)) dX8_tube_139 (rfl : 139 + 1 = 140)) (v_bipush (v := 120) dX8_tube_140 (by decide) (rfl : 140 + 2 = 142)) dX8_tube_142 (rfl : ((142 : Nat) : Int) + 10 = ((152 : Nat) : Int)) (rfl : 142 + 3 = 145))) (v_ret (v_cvi kX8 IX8_refuse hX8_refuse lk1105 ⟨by decide, by decide⟩ (by decide) (v_aload_n (i := 0) dX8_tube_145 rfl (rfl : 145 + 1 = 146)) (v_ai (v_bipush (v := (-5)) dX8_tube_146 (by decide) (rfl : 146 + 2 = 148)) v_anil) dX8_tube_148 (rfl : 148 + 3 = 151)) dX8_tube_151) v_nop) (v_seq (v_scv kX8 IX8_remember hX8_remember lk1133 ⟨by decide, by decide⟩ (v_aload_n (i := 0) dX8_tube_152 rfl (rfl : 152 + 1 = 153)) (v_ai (v_iconst (v := 1) dX8_tube_153 (by decide) (rfl : 153 + 1 = 154)) v_anil) dX8_tube_154 (rfl : 154 + 3 = 157)) (v_seq (v_istore (i := 8) (v_csi IX8_tubeAt hX8_tubeAt lk1160 ⟨by decide, by decide⟩ (by decide) (v_ai (v_iload (i := 6) dX8_tube_157 (rfl : 157 + 2 = 159)) v_anil) dX8_tube_159 (rfl : 159 + 3 = 162)) dX8_tube_162 (by decide) (rfl : 162 + 2 = 164)) (v_seq (v_aii (v_gfr kX8 lk998 (by decide) rfl (v_aload_n (i := 0) dX8_tube_164 rfl (rfl : 164 + 1 = 165)) dX8_tube_165 (rfl : 165 + 3 = 168)) (v_iload (i := 8) dX8_tube_168 (rfl : 168 + 2 = 170)) (v_iload_n (i := 1) dX8_tube_170 rfl (rfl : 170 + 1 = 171)) dX8_tube_171 (rfl : 171 + 1 = 172)) (v_seq (v_aii (v_gfr kX8 lk998 (by decide) rfl (v_aload_n (i := 0) dX8_tube_172 rfl (rfl : 172 + 1 = 173)) dX8_tube_173 (rfl : 173 + 3 = 176)) (v_iadd (v_iload (i := 8) dX8_tube_176 (rfl : 176 + 2 = 178)) (v_iconst (v := 1) dX8_tube_178 (by decide) (rfl : 178 + 1 = 179)) dX8_tube_179 (rfl : 179 + 1 = 180)) (v_iload_n (i := 2) dX8_tube_180 rfl (rfl : 180 + 1 = 181)) dX8_tube_181 (rfl : 181 + 1 = 182)) (v_seq (v_aii (v_gfr kX8 lk998 (by decide) rfl (v_aload_n (i := 0) dX8_tube_182 rfl (rfl : 182 + 1 = 183)) dX8_tube_183 (rfl : 183 + 3 = 186)) (v_iadd (v_iload (i := 8) dX8_tube_186 (rfl : 186 + 2 = 188)) (v_iconst (v := 2) dX8_tube_188 (by decide) (rfl : 188 + 1 = 189)) dX8_tube_189 (rfl : 189 + 1 = 190)) (v_iload (i := 7) dX8_tube_190 (rfl : 190 + 2 = 192)) dX8_tube_192 (rfl : 192 + 1 = 193)) (v_seq (v_aii (v_gfr kX8 lk998 (by decide) rfl (v_aload_n (i := 0) dX8_tube_193 rfl (rfl : 193 + 1 = 194)) dX8_tube_194 (rfl : 194 + 3 = 197)) (v_iadd (v_iload (i := 8) dX8_tube_197 (rfl : 197 + 2 = 199)) (v_iconst (v := 3) dX8_tube_199 (by decide) (rfl : 199 + 1 = 200)) dX8_tube_200 (rfl : 200 + 1 = 201)) (v_iconst (v := 1) dX8_tube_201 (by decide) (rfl : 201 + 1 = 202)) dX8_tube_202 (rfl : 202 + 1 = 203)) (v_seq (v_aoi_iadd (v_gfr kX8 lk998 (by decide) rfl (v_aload_n (i := 0) dX8_tube_203 rfl (rfl : 203 + 1 = 204)) dX8_tube_204 (rfl : 204 + 3 = 207)) (v_iconst (v := 1) dX8_tube_207 (by decide) (rfl : 207 + 1 = 208)) dX8_tube_208 dX8_tube_209 (rfl : 208 + 1 + 1 = 210) (v_iconst (v := 1) dX8_tube_210 (by decide) (rfl : 210 + 1 = 211)) dX8_tube_211 dX8_tube_212 (rfl : 211 + 1 + 1 = 213)) (v_ret (v_cvi kX8 IX8_tell hX8_tell lk1112 ⟨by decide, by decide⟩ (by decide) (v_aload_n (i := 0) dX8_tube_213 rfl (rfl : 213 + 1 = 214)) (v_ai (v_iload (i := 6) dX8_tube_214 (rfl : 214 + 2 = 216)) v_anil) dX8_tube_216 (rfl : 216 + 3 = 219)) dX8_tube_219)))))))))))))))
theorem IX8_tube : Mi yX8_tube cX8_tube 9 (rmk 3 67) DX8_tube := mk_i (by decide +kernel) BX8_tube

theorem dX8_turn_0 : decode cX8_turn 0 = .ok (.aload_n 0, 1) := by decide +kernel
theorem dX8_turn_1 : decode cX8_turn 1 = .ok (.iconst 0, 1) := by decide +kernel
theorem dX8_turn_2 : decode cX8_turn 2 = .ok (.putfield 84, 3) := by decide +kernel
theorem dX8_turn_5 : decode cX8_turn 5 = .ok (.aload_n 0, 1) := by decide +kernel
theorem dX8_turn_6 : decode cX8_turn 6 = .ok (.iload_n 1, 1) := by decide +kernel
theorem dX8_turn_7 : decode cX8_turn 7 = .ok (.invokevirtual 113, 3) := by decide +kernel
theorem dX8_turn_10 : decode cX8_turn 10 = .ok (.ifCond .ne 10, 3) := by decide +kernel
theorem dX8_turn_13 : decode cX8_turn 13 = .ok (.aload_n 0, 1) := by decide +kernel
theorem dX8_turn_14 : decode cX8_turn 14 = .ok (.bipush (-2), 2) := by decide +kernel
theorem dX8_turn_16 : decode cX8_turn 16 = .ok (.invokevirtual 98, 3) := by decide +kernel
theorem dX8_turn_19 : decode cX8_turn 19 = .ok (.ireturn, 1) := by decide +kernel
theorem dX8_turn_20 : decode cX8_turn 20 = .ok (.aload_n 0, 1) := by decide +kernel
theorem dX8_turn_21 : decode cX8_turn 21 = .ok (.iconst 5, 1) := by decide +kernel
theorem dX8_turn_22 : decode cX8_turn 22 = .ok (.invokevirtual 136, 3) := by decide +kernel
theorem dX8_turn_25 : decode cX8_turn 25 = .ok (.aload_n 0, 1) := by decide +kernel
theorem dX8_turn_26 : decode cX8_turn 26 = .ok (.getfield 13, 3) := by decide +kernel
theorem dX8_turn_29 : decode cX8_turn 29 = .ok (.iload_n 1, 1) := by decide +kernel
theorem dX8_turn_30 : decode cX8_turn 30 = .ok (.invokestatic 116, 3) := by decide +kernel
theorem dX8_turn_33 : decode cX8_turn 33 = .ok (.iconst 3, 1) := by decide +kernel
theorem dX8_turn_34 : decode cX8_turn 34 = .ok (.iadd, 1) := by decide +kernel
theorem dX8_turn_35 : decode cX8_turn 35 = .ok (.dup2, 1) := by decide +kernel
theorem dX8_turn_36 : decode cX8_turn 36 = .ok (.iaload, 1) := by decide +kernel
theorem dX8_turn_37 : decode cX8_turn 37 = .ok (.iconst 1, 1) := by decide +kernel
theorem dX8_turn_38 : decode cX8_turn 38 = .ok (.ixor, 1) := by decide +kernel
theorem dX8_turn_39 : decode cX8_turn 39 = .ok (.iastore, 1) := by decide +kernel
theorem dX8_turn_40 : decode cX8_turn 40 = .ok (.aload_n 0, 1) := by decide +kernel
theorem dX8_turn_41 : decode cX8_turn 41 = .ok (.aload_n 0, 1) := by decide +kernel
theorem dX8_turn_42 : decode cX8_turn 42 = .ok (.getfield 13, 3) := by decide +kernel
theorem dX8_turn_45 : decode cX8_turn 45 = .ok (.iload_n 1, 1) := by decide +kernel
theorem dX8_turn_46 : decode cX8_turn 46 = .ok (.invokestatic 116, 3) := by decide +kernel
theorem dX8_turn_49 : decode cX8_turn 49 = .ok (.iconst 3, 1) := by decide +kernel
theorem dX8_turn_50 : decode cX8_turn 50 = .ok (.iadd, 1) := by decide +kernel
theorem dX8_turn_51 : decode cX8_turn 51 = .ok (.iaload, 1) := by decide +kernel
theorem dX8_turn_52 : decode cX8_turn 52 = .ok (.invokevirtual 102, 3) := by decide +kernel
theorem dX8_turn_55 : decode cX8_turn 55 = .ok (.ireturn, 1) := by decide +kernel
noncomputable def EX8_turn : Sx := (sseq (fpi 7 0 (rl 0) (ik 0)) (sseq (sif (bnot (bz cne (cvz 7 DX8_isTube (rl 0) (ai (il 1) anil)))) (sret (cvi 7 DX8_refuse (rl 0) (ai (ik (-2)) anil))) snop) (sseq (scv 7 DX8_remember (rl 0) (ai (ik 5) anil)) (sseq (aoi (· ^^^ ·) (fgr 7 3 (rl 0)) (i2 (· + ·) (csi DX8_tubeAt (ai (il 1) anil)) (ik 3)) (ik 1)) (sret (cvi 7 DX8_tell (rl 0) (ai (iald (fgr 7 3 (rl 0)) (i2 (· + ·) (csi DX8_tubeAt (ai (il 1) anil)) (ik 3))) anil)))))))
noncomputable def DX8_turn : Fi := mfi 2 EX8_turn
set_option maxRecDepth 4000 in
theorem BX8_turn : Vs RX8 cX8_turn 2 (rmk 2 46) 0 0 EX8_turn := (v_seq (v_fpi kX8 lk995 (by decide) rfl rfl (by decide +kernel) (v_aload_n (i := 0) dX8_turn_0 rfl (rfl : 0 + 1 = 1)) (v_iconst (v := 0) dX8_turn_1 (by decide) (rfl : 1 + 1 = 2)) dX8_turn_2 (rfl : 2 + 3 = 5)) (v_seq (v_if (v_not (v_zne_t (v_cvz kX8 IX8_isTube hX8_isTube lk1195 ⟨by decide, by decide⟩ (by decide) (v_aload_n (i := 0) dX8_turn_5 rfl (rfl : 5 + 1 = 6)) (v_ai (v_iload_n (i := 1) dX8_turn_6 rfl (rfl : 6 + 1 = 7)) v_anil) dX8_turn_7 (rfl : 7 + 3 = 10)) dX8_turn_10 (rfl : ((10 : Nat) : Int) + 10 = ((20 : Nat) : Int)) (rfl : 10 + 3 = 13))) (v_ret (v_cvi kX8 IX8_refuse hX8_refuse lk1105 ⟨by decide, by decide⟩ (by decide) (v_aload_n (i := 0) dX8_turn_13 rfl (rfl : 13 + 1 = 14)) (v_ai (v_bipush (v := (-2)) dX8_turn_14 (by decide) (rfl : 14 + 2 = 16)) v_anil) dX8_turn_16 (rfl : 16 + 3 = 19)) dX8_turn_19) v_nop) (v_seq (v_scv kX8 IX8_remember hX8_remember lk1133 ⟨by decide, by decide⟩ (v_aload_n (i := 0) dX8_turn_20 rfl (rfl : 20 + 1 = 21)) (v_ai (v_iconst (v := 5) dX8_turn_21 (by decide) (rfl : 21 + 1 = 22)) v_anil) dX8_turn_22 (rfl : 22 + 3 = 25)) (v_seq (v_aoi_ixor (v_gfr kX8 lk998 (by decide) rfl (v_aload_n (i := 0) dX8_turn_25 rfl (rfl : 25 + 1 = 26)) dX8_turn_26 (rfl : 26 + 3 = 29)) (v_iadd (v_csi IX8_tubeAt hX8_tubeAt lk1160 ⟨by decide, by decide⟩ (by decide) (v_ai (v_iload_n (i := 1) dX8_turn_29 rfl (rfl : 29 + 1 = 30)) v_anil) dX8_turn_30 (rfl : 30 + 3 = 33)) (v_iconst (v := 3) dX8_turn_33 (by decide) (rfl : 33 + 1 = 34)) dX8_turn_34 (rfl : 34 + 1 = 35)) dX8_turn_35 dX8_turn_36 (rfl : 35 + 1 + 1 = 37) (v_iconst (v := 1) dX8_turn_37 (by decide) (rfl : 37 + 1 = 38)) dX8_turn_38 dX8_turn_39 (rfl : 38 + 1 + 1 = 40)) (v_ret (v_cvi kX8 IX8_tell hX8_tell lk1112 ⟨by decide, by decide⟩ (by decide) (v_aload_n (i := 0) dX8_turn_40 rfl (rfl : 40 + 1 = 41)) (v_ai (v_iald (v_gfr kX8 lk998 (by decide) rfl (v_aload_n (i := 0) dX8_turn_41 rfl (rfl : 41 + 1 = 42)) dX8_turn_42 (rfl : 42 + 3 = 45)) (v_iadd (v_csi IX8_tubeAt hX8_tubeAt lk1160 ⟨by decide, by decide⟩ (by decide) (v_ai (v_iload_n (i := 1) dX8_turn_45 rfl (rfl : 45 + 1 = 46)) v_anil) dX8_turn_46 (rfl : 46 + 3 = 49)) (v_iconst (v := 3) dX8_turn_49 (by decide) (rfl : 49 + 1 = 50)) dX8_turn_50 (rfl : 50 + 1 = 51)) dX8_turn_51 (rfl : 51 + 1 = 52)) v_anil) dX8_turn_52 (rfl : 52 + 3 = 55)) dX8_turn_55)))))
theorem IX8_turn : Mi yX8_turn cX8_turn 2 (rmk 2 46) DX8_turn := mk_i (by decide +kernel) BX8_turn

theorem dX8_undo_0 : decode cX8_undo 0 = .ok (.aload_n 0, 1) := by decide +kernel
theorem dX8_undo_1 : decode cX8_undo 1 = .ok (.iconst 0, 1) := by decide +kernel
theorem dX8_undo_2 : decode cX8_undo 2 = .ok (.putfield 84, 3) := by decide +kernel
theorem dX8_undo_5 : decode cX8_undo 5 = .ok (.aload_n 0, 1) := by decide +kernel
theorem dX8_undo_6 : decode cX8_undo 6 = .ok (.getfield 91, 3) := by decide +kernel
theorem dX8_undo_9 : decode cX8_undo 9 = .ok (.ifCond .ne 10, 3) := by decide +kernel
theorem dX8_undo_12 : decode cX8_undo 12 = .ok (.aload_n 0, 1) := by decide +kernel
theorem dX8_undo_13 : decode cX8_undo 13 = .ok (.bipush (-4), 2) := by decide +kernel
theorem dX8_undo_15 : decode cX8_undo 15 = .ok (.invokevirtual 98, 3) := by decide +kernel
theorem dX8_undo_18 : decode cX8_undo 18 = .ok (.ireturn, 1) := by decide +kernel
theorem dX8_undo_19 : decode cX8_undo 19 = .ok (.aload_n 0, 1) := by decide +kernel
theorem dX8_undo_20 : decode cX8_undo 20 = .ok (.dup, 1) := by decide +kernel
theorem dX8_undo_21 : decode cX8_undo 21 = .ok (.getfield 91, 3) := by decide +kernel
theorem dX8_undo_24 : decode cX8_undo 24 = .ok (.iconst 1, 1) := by decide +kernel
theorem dX8_undo_25 : decode cX8_undo 25 = .ok (.isub, 1) := by decide +kernel
theorem dX8_undo_26 : decode cX8_undo 26 = .ok (.putfield 91, 3) := by decide +kernel
theorem dX8_undo_29 : decode cX8_undo 29 = .ok (.aload_n 0, 1) := by decide +kernel
theorem dX8_undo_30 : decode cX8_undo 30 = .ok (.getfield 16, 3) := by decide +kernel
theorem dX8_undo_33 : decode cX8_undo 33 = .ok (.sipush 331, 3) := by decide +kernel
theorem dX8_undo_36 : decode cX8_undo 36 = .ok (.aload_n 0, 1) := by decide +kernel
theorem dX8_undo_37 : decode cX8_undo 37 = .ok (.getfield 91, 3) := by decide +kernel
theorem dX8_undo_40 : decode cX8_undo 40 = .ok (.imul, 1) := by decide +kernel
theorem dX8_undo_41 : decode cX8_undo 41 = .ok (.aload_n 0, 1) := by decide +kernel
theorem dX8_undo_42 : decode cX8_undo 42 = .ok (.getfield 13, 3) := by decide +kernel
theorem dX8_undo_45 : decode cX8_undo 45 = .ok (.iconst 0, 1) := by decide +kernel
theorem dX8_undo_46 : decode cX8_undo 46 = .ok (.invokestatic 94, 3) := by decide +kernel
theorem dX8_undo_49 : decode cX8_undo 49 = .ok (.aload_n 0, 1) := by decide +kernel
theorem dX8_undo_50 : decode cX8_undo 50 = .ok (.aload_n 0, 1) := by decide +kernel
theorem dX8_undo_51 : decode cX8_undo 51 = .ok (.getfield 19, 3) := by decide +kernel
theorem dX8_undo_54 : decode cX8_undo 54 = .ok (.aload_n 0, 1) := by decide +kernel
theorem dX8_undo_55 : decode cX8_undo 55 = .ok (.getfield 91, 3) := by decide +kernel
theorem dX8_undo_58 : decode cX8_undo 58 = .ok (.iaload, 1) := by decide +kernel
theorem dX8_undo_59 : decode cX8_undo 59 = .ok (.invokevirtual 102, 3) := by decide +kernel
theorem dX8_undo_62 : decode cX8_undo 62 = .ok (.ireturn, 1) := by decide +kernel
noncomputable def EX8_undo : Sx := (sseq (fpi 7 0 (rl 0) (ik 0)) (sseq (sif (bz ceq (fgi 7 6 (rl 0))) (sret (cvi 7 DX8_refuse (rl 0) (ai (ik (-4)) anil))) snop) (sseq (foi (· - ·) 7 6 (rl 0) (ik 1)) (sseq (scs DX8_copy (ar (fgr 7 4 (rl 0)) (ai (i2 (· * ·) (ik 331) (fgi 7 6 (rl 0))) (ar (fgr 7 3 (rl 0)) (ai (ik 0) anil))))) (sret (cvi 7 DX8_tell (rl 0) (ai (iald (fgr 7 5 (rl 0)) (fgi 7 6 (rl 0))) anil)))))))
noncomputable def DX8_undo : Fi := mfi 1 EX8_undo
set_option maxRecDepth 4000 in
theorem BX8_undo : Vs RX8 cX8_undo 1 (rmk 1 24) 0 0 EX8_undo := (v_seq (v_fpi kX8 lk995 (by decide) rfl rfl (by decide +kernel) (v_aload_n (i := 0) dX8_undo_0 rfl (rfl : 0 + 1 = 1)) (v_iconst (v := 0) dX8_undo_1 (by decide) (rfl : 1 + 1 = 2)) dX8_undo_2 (rfl : 2 + 3 = 5)) (v_seq (v_if (v_zeq_f (v_gfi kX8 lk1001 (by decide) rfl (v_aload_n (i := 0) dX8_undo_5 rfl (rfl : 5 + 1 = 6)) dX8_undo_6 (rfl : 6 + 3 = 9)) dX8_undo_9 (rfl : ((9 : Nat) : Int) + 10 = ((19 : Nat) : Int)) (rfl : 9 + 3 = 12)) (v_ret (v_cvi kX8 IX8_refuse hX8_refuse lk1105 ⟨by decide, by decide⟩ (by decide) (v_aload_n (i := 0) dX8_undo_12 rfl (rfl : 12 + 1 = 13)) (v_ai (v_bipush (v := (-4)) dX8_undo_13 (by decide) (rfl : 13 + 2 = 15)) v_anil) dX8_undo_15 (rfl : 15 + 3 = 18)) dX8_undo_18) v_nop) (v_seq (v_foi_isub kX8 lk1001 (by decide) rfl rfl (by decide +kernel) (v_aload_n (i := 0) dX8_undo_19 rfl (rfl : 19 + 1 = 20)) dX8_undo_20 dX8_undo_21 (rfl : 20 + 1 + 3 = 24) (v_iconst (v := 1) dX8_undo_24 (by decide) (rfl : 24 + 1 = 25)) dX8_undo_25 dX8_undo_26 (rfl : 25 + 1 + 3 = 29)) (v_seq (v_scs IX8_copy hX8_copy lk1109 ⟨by decide, by decide⟩ (v_ar (v_gfr kX8 lk999 (by decide) rfl (v_aload_n (i := 0) dX8_undo_29 rfl (rfl : 29 + 1 = 30)) dX8_undo_30 (rfl : 30 + 3 = 33)) (v_ai (v_imul (v_sipush (v := 331) dX8_undo_33 (by decide) (rfl : 33 + 3 = 36)) (v_gfi kX8 lk1001 (by decide) rfl (v_aload_n (i := 0) dX8_undo_36 rfl (rfl : 36 + 1 = 37)) dX8_undo_37 (rfl : 37 + 3 = 40)) dX8_undo_40 (rfl : 40 + 1 = 41)) (v_ar (v_gfr kX8 lk998 (by decide) rfl (v_aload_n (i := 0) dX8_undo_41 rfl (rfl : 41 + 1 = 42)) dX8_undo_42 (rfl : 42 + 3 = 45)) (v_ai (v_iconst (v := 0) dX8_undo_45 (by decide) (rfl : 45 + 1 = 46)) v_anil)))) dX8_undo_46 (rfl : 46 + 3 = 49)) (v_ret (v_cvi kX8 IX8_tell hX8_tell lk1112 ⟨by decide, by decide⟩ (by decide) (v_aload_n (i := 0) dX8_undo_49 rfl (rfl : 49 + 1 = 50)) (v_ai (v_iald (v_gfr kX8 lk1000 (by decide) rfl (v_aload_n (i := 0) dX8_undo_50 rfl (rfl : 50 + 1 = 51)) dX8_undo_51 (rfl : 51 + 3 = 54)) (v_gfi kX8 lk1001 (by decide) rfl (v_aload_n (i := 0) dX8_undo_54 rfl (rfl : 54 + 1 = 55)) dX8_undo_55 (rfl : 55 + 3 = 58)) dX8_undo_58 (rfl : 58 + 1 = 59)) v_anil) dX8_undo_59 (rfl : 59 + 3 = 62)) dX8_undo_62)))))
theorem IX8_undo : Mi yX8_undo cX8_undo 1 (rmk 1 24) DX8_undo := mk_i (by decide +kernel) BX8_undo

theorem dX8_until_0 : decode cX8_until 0 = .ok (.aload_n 0, 1) := by decide +kernel
theorem dX8_until_1 : decode cX8_until 1 = .ok (.iconst 0, 1) := by decide +kernel
theorem dX8_until_2 : decode cX8_until 2 = .ok (.putfield 84, 3) := by decide +kernel
theorem dX8_until_5 : decode cX8_until 5 = .ok (.iload_n 1, 1) := by decide +kernel
theorem dX8_until_6 : decode cX8_until 6 = .ok (.ifCond .ge 5, 3) := by decide +kernel
theorem dX8_until_9 : decode cX8_until 9 = .ok (.iconst (-1), 1) := by decide +kernel
theorem dX8_until_10 : decode cX8_until 10 = .ok (.ireturn, 1) := by decide +kernel
theorem dX8_until_11 : decode cX8_until 11 = .ok (.aload_n 0, 1) := by decide +kernel
theorem dX8_until_12 : decode cX8_until 12 = .ok (.getfield 13, 3) := by decide +kernel
theorem dX8_until_15 : decode cX8_until 15 = .ok (.iconst 0, 1) := by decide +kernel
theorem dX8_until_16 : decode cX8_until 16 = .ok (.aload_n 0, 1) := by decide +kernel
theorem dX8_until_17 : decode cX8_until 17 = .ok (.getfield 29, 3) := by decide +kernel
theorem dX8_until_20 : decode cX8_until 20 = .ok (.iconst 0, 1) := by decide +kernel
theorem dX8_until_21 : decode cX8_until 21 = .ok (.invokestatic 94, 3) := by decide +kernel
theorem dX8_until_24 : decode cX8_until 24 = .ok (.iconst 0, 1) := by decide +kernel
theorem dX8_until_25 : decode cX8_until 25 = .ok (.istore_n 2, 1) := by decide +kernel
theorem dX8_until_26 : decode cX8_until 26 = .ok (.aload_n 0, 1) := by decide +kernel
theorem dX8_until_27 : decode cX8_until 27 = .ok (.iload_n 1, 1) := by decide +kernel
theorem dX8_until_28 : decode cX8_until 28 = .ok (.invokevirtual 355, 3) := by decide +kernel
theorem dX8_until_31 : decode cX8_until 31 = .ok (.istore_n 3, 1) := by decide +kernel
theorem dX8_until_32 : decode cX8_until 32 = .ok (.iload_n 3, 1) := by decide +kernel
theorem dX8_until_33 : decode cX8_until 33 = .ok (.ifCond .ne 39, 3) := by decide +kernel
theorem dX8_until_36 : decode cX8_until 36 = .ok (.iload_n 2, 1) := by decide +kernel
theorem dX8_until_37 : decode cX8_until 37 = .ok (.sipush 200, 3) := by decide +kernel
theorem dX8_until_40 : decode cX8_until 40 = .ok (.if_icmp .ge 32, 3) := by decide +kernel
theorem dX8_until_43 : decode cX8_until 43 = .ok (.aload_n 0, 1) := by decide +kernel
theorem dX8_until_44 : decode cX8_until 44 = .ok (.getfield 13, 3) := by decide +kernel
theorem dX8_until_47 : decode cX8_until 47 = .ok (.iconst 4, 1) := by decide +kernel
theorem dX8_until_48 : decode cX8_until 48 = .ok (.iaload, 1) := by decide +kernel
theorem dX8_until_49 : decode cX8_until 49 = .ok (.sipush 9999, 3) := by decide +kernel
theorem dX8_until_52 : decode cX8_until 52 = .ok (.if_icmp .ge 20, 3) := by decide +kernel
theorem dX8_until_55 : decode cX8_until 55 = .ok (.aload_n 0, 1) := by decide +kernel
theorem dX8_until_56 : decode cX8_until 56 = .ok (.invokevirtual 276, 3) := by decide +kernel
theorem dX8_until_59 : decode cX8_until 59 = .ok (.pop, 1) := by decide +kernel
theorem dX8_until_60 : decode cX8_until 60 = .ok (.iinc 2 1, 3) := by decide +kernel
theorem dX8_until_63 : decode cX8_until 63 = .ok (.aload_n 0, 1) := by decide +kernel
theorem dX8_until_64 : decode cX8_until 64 = .ok (.iload_n 1, 1) := by decide +kernel
theorem dX8_until_65 : decode cX8_until 65 = .ok (.invokevirtual 355, 3) := by decide +kernel
theorem dX8_until_68 : decode cX8_until 68 = .ok (.istore_n 3, 1) := by decide +kernel
theorem dX8_until_69 : decode cX8_until 69 = .ok (.goto (-37), 3) := by decide +kernel
theorem dX8_until_72 : decode cX8_until 72 = .ok (.aload_n 0, 1) := by decide +kernel
theorem dX8_until_73 : decode cX8_until 73 = .ok (.getfield 29, 3) := by decide +kernel
theorem dX8_until_76 : decode cX8_until 76 = .ok (.iconst 0, 1) := by decide +kernel
theorem dX8_until_77 : decode cX8_until 77 = .ok (.aload_n 0, 1) := by decide +kernel
theorem dX8_until_78 : decode cX8_until 78 = .ok (.getfield 13, 3) := by decide +kernel
theorem dX8_until_81 : decode cX8_until 81 = .ok (.iconst 0, 1) := by decide +kernel
theorem dX8_until_82 : decode cX8_until 82 = .ok (.invokestatic 94, 3) := by decide +kernel
theorem dX8_until_85 : decode cX8_until 85 = .ok (.iload_n 3, 1) := by decide +kernel
theorem dX8_until_86 : decode cX8_until 86 = .ok (.ifCond .eq 7, 3) := by decide +kernel
theorem dX8_until_89 : decode cX8_until 89 = .ok (.iload_n 2, 1) := by decide +kernel
theorem dX8_until_90 : decode cX8_until 90 = .ok (.goto 4, 3) := by decide +kernel
theorem dX8_until_93 : decode cX8_until 93 = .ok (.iconst (-1), 1) := by decide +kernel
theorem dX8_until_94 : decode cX8_until 94 = .ok (.ireturn, 1) := by decide +kernel
noncomputable def qX8_until_1 : Bx := (band (band (bnot (bz cne (il 3))) (bc clt (il 2) (ik 200))) (bc clt (iald (fgr 7 3 (rl 0)) (ik 4)) (ik 9999)))
noncomputable def wX8_until_1 : Sx := (sseq (spop (cvi 7 DX8_step (rl 0) anil)) (sseq (sinc 2 1) (ssi 3 (cvz 7 DX8_areBelow (rl 0) (ai (il 1) anil)))))
noncomputable def EX8_until : Sx := (sseq (fpi 7 0 (rl 0) (ik 0)) (sseq (sif (bz clt (il 1)) (sret (ik (-1))) snop) (sseq (scs DX8_copy (ar (fgr 7 3 (rl 0)) (ai (ik 0) (ar (fgr 7 9 (rl 0)) (ai (ik 0) anil))))) (sseq (ssi 2 (ik 0)) (sseq (ssi 3 (cvz 7 DX8_areBelow (rl 0) (ai (il 1) anil))) (sseq (swh qX8_until_1 wX8_until_1) (sseq (scs DX8_copy (ar (fgr 7 9 (rl 0)) (ai (ik 0) (ar (fgr 7 3 (rl 0)) (ai (ik 0) anil))))) (sret (ic (bz cne (il 3)) (il 2) (ik (-1)))))))))))
noncomputable def DX8_until : Fi := mfi 4 EX8_until
set_option maxRecDepth 4000 in
theorem BX8_until : Vs RX8 cX8_until 4 (rmk 8 181) 0 0 EX8_until := (v_seq (v_fpi kX8 lk995 (by decide) rfl rfl (by decide +kernel) (v_aload_n (i := 0) dX8_until_0 rfl (rfl : 0 + 1 = 1)) (v_iconst (v := 0) dX8_until_1 (by decide) (rfl : 1 + 1 = 2)) dX8_until_2 (rfl : 2 + 3 = 5)) (v_seq (v_if (v_zlt_f (v_iload_n (i := 1) dX8_until_5 rfl (rfl : 5 + 1 = 6)) dX8_until_6 (rfl : ((6 : Nat) : Int) + 5 = ((11 : Nat) : Int)) (rfl : 6 + 3 = 9)) (v_ret (v_iconst (v := (-1)) dX8_until_9 (by decide) (rfl : 9 + 1 = 10)) dX8_until_10) v_nop) (v_seq (v_scs IX8_copy hX8_copy lk1109 ⟨by decide, by decide⟩ (v_ar (v_gfr kX8 lk998 (by decide) rfl (v_aload_n (i := 0) dX8_until_11 rfl (rfl : 11 + 1 = 12)) dX8_until_12 (rfl : 12 + 3 = 15)) (v_ai (v_iconst (v := 0) dX8_until_15 (by decide) (rfl : 15 + 1 = 16)) (v_ar (v_gfr kX8 lk1004 (by decide) rfl (v_aload_n (i := 0) dX8_until_16 rfl (rfl : 16 + 1 = 17)) dX8_until_17 (rfl : 17 + 3 = 20)) (v_ai (v_iconst (v := 0) dX8_until_20 (by decide) (rfl : 20 + 1 = 21)) v_anil)))) dX8_until_21 (rfl : 21 + 3 = 24)) (v_seq (v_istore_n (i := 2) (v_iconst (v := 0) dX8_until_24 (by decide) (rfl : 24 + 1 = 25)) dX8_until_25 rfl (by decide) (rfl : 25 + 1 = 26)) (v_seq (v_istore_n (i := 3) (v_cvz kX8 IX8_areBelow hX8_areBelow lk1464 ⟨by decide, by decide⟩ (by decide) (v_aload_n (i := 0) dX8_until_26 rfl (rfl : 26 + 1 = 27)) (v_ai (v_iload_n (i := 1) dX8_until_27 rfl (rfl : 27 + 1 = 28)) v_anil) dX8_until_28 (rfl : 28 + 3 = 31)) dX8_until_31 rfl (by decide) (rfl : 31 + 1 = 32)) (v_seq (v_wh (v_and (v_and (v_not (v_zne_t (v_iload_n (i := 3) dX8_until_32 rfl (rfl : 32 + 1 = 33)) dX8_until_33 (rfl : ((33 : Nat) : Int) + 39 = ((72 : Nat) : Int)) (rfl : 33 + 3 = 36))) (v_ilt_f (v_iload_n (i := 2) dX8_until_36 rfl (rfl : 36 + 1 = 37)) (v_sipush (v := 200) dX8_until_37 (by decide) (rfl : 37 + 3 = 40)) dX8_until_40 (rfl : ((40 : Nat) : Int) + 32 = ((72 : Nat) : Int)) (rfl : 40 + 3 = 43))) (v_ilt_f (v_iald (v_gfr kX8 lk998 (by decide) rfl (v_aload_n (i := 0) dX8_until_43 rfl (rfl : 43 + 1 = 44)) dX8_until_44 (rfl : 44 + 3 = 47)) (v_iconst (v := 4) dX8_until_47 (by decide) (rfl : 47 + 1 = 48)) dX8_until_48 (rfl : 48 + 1 = 49)) (v_sipush (v := 9999) dX8_until_49 (by decide) (rfl : 49 + 3 = 52)) dX8_until_52 (rfl : ((52 : Nat) : Int) + 20 = ((72 : Nat) : Int)) (rfl : 52 + 3 = 55))) (vs_goto (v_seq (v_pop (v_cvi kX8 IX8_step hX8_step lk1233 ⟨by decide, by decide⟩ (by decide) (v_aload_n (i := 0) dX8_until_55 rfl (rfl : 55 + 1 = 56)) v_anil dX8_until_56 (rfl : 56 + 3 = 59)) dX8_until_59 (rfl : 59 + 1 = 60)) (v_seq (v_iinc (v := 1) dX8_until_60 (by decide) (by decide) (rfl : 60 + 3 = 63)) (v_istore_n (i := 3) (v_cvz kX8 IX8_areBelow hX8_areBelow lk1464 ⟨by decide, by decide⟩ (by decide) (v_aload_n (i := 0) dX8_until_63 rfl (rfl : 63 + 1 = 64)) (v_ai (v_iload_n (i := 1) dX8_until_64 rfl (rfl : 64 + 1 = 65)) v_anil) dX8_until_65 (rfl : 65 + 3 = 68)) dX8_until_68 rfl (by decide) (rfl : 68 + 1 = 69)))) dX8_until_69 (rfl : ((69 : Nat) : Int) + (-37) = ((32 : Nat) : Int)))) (v_seq (v_scs IX8_copy hX8_copy lk1109 ⟨by decide, by decide⟩ (v_ar (v_gfr kX8 lk1004 (by decide) rfl (v_aload_n (i := 0) dX8_until_72 rfl (rfl : 72 + 1 = 73)) dX8_until_73 (rfl : 73 + 3 = 76)) (v_ai (v_iconst (v := 0) dX8_until_76 (by decide) (rfl : 76 + 1 = 77)) (v_ar (v_gfr kX8 lk998 (by decide) rfl (v_aload_n (i := 0) dX8_until_77 rfl (rfl : 77 + 1 = 78)) dX8_until_78 (rfl : 78 + 3 = 81)) (v_ai (v_iconst (v := 0) dX8_until_81 (by decide) (rfl : 81 + 1 = 82)) v_anil)))) dX8_until_82 (rfl : 82 + 3 = 85)) (v_ret (v_ic (v_zne_f (v_iload_n (i := 3) dX8_until_85 rfl (rfl : 85 + 1 = 86)) dX8_until_86 (rfl : ((86 : Nat) : Int) + 7 = ((93 : Nat) : Int)) (rfl : 86 + 3 = 89)) (vi_goto (v_iload_n (i := 2) dX8_until_89 rfl (rfl : 89 + 1 = 90)) dX8_until_90 (rfl : ((90 : Nat) : Int) + 4 = ((94 : Nat) : Int))) (v_iconst (v := (-1)) dX8_until_93 (by decide) (rfl : 93 + 1 = 94))) dX8_until_94))))))))
theorem IX8_until : Mi yX8_until cX8_until 4 (rmk 8 181) DX8_until := mk_i (by decide +kernel) BX8_until

theorem dX8_valve_0 : decode cX8_valve 0 = .ok (.aload_n 0, 1) := by decide +kernel
theorem dX8_valve_1 : decode cX8_valve 1 = .ok (.iconst 0, 1) := by decide +kernel
theorem dX8_valve_2 : decode cX8_valve 2 = .ok (.putfield 84, 3) := by decide +kernel
theorem dX8_valve_5 : decode cX8_valve 5 = .ok (.iconst (-1), 1) := by decide +kernel
theorem dX8_valve_6 : decode cX8_valve 6 = .ok (.istore_n 2, 1) := by decide +kernel
theorem dX8_valve_7 : decode cX8_valve 7 = .ok (.iconst (-1), 1) := by decide +kernel
theorem dX8_valve_8 : decode cX8_valve 8 = .ok (.istore_n 3, 1) := by decide +kernel
theorem dX8_valve_9 : decode cX8_valve 9 = .ok (.iconst 0, 1) := by decide +kernel
theorem dX8_valve_10 : decode cX8_valve 10 = .ok (.istore 4, 2) := by decide +kernel
theorem dX8_valve_12 : decode cX8_valve 12 = .ok (.iload 4, 2) := by decide +kernel
theorem dX8_valve_14 : decode cX8_valve 14 = .ok (.aload_n 0, 1) := by decide +kernel
theorem dX8_valve_15 : decode cX8_valve 15 = .ok (.getfield 13, 3) := by decide +kernel
theorem dX8_valve_18 : decode cX8_valve 18 = .ok (.iconst 1, 1) := by decide +kernel
theorem dX8_valve_19 : decode cX8_valve 19 = .ok (.iaload, 1) := by decide +kernel
theorem dX8_valve_20 : decode cX8_valve 20 = .ok (.if_icmp .ge 85, 3) := by decide +kernel
theorem dX8_valve_23 : decode cX8_valve 23 = .ok (.aload_n 0, 1) := by decide +kernel
theorem dX8_valve_24 : decode cX8_valve 24 = .ok (.getfield 13, 3) := by decide +kernel
theorem dX8_valve_27 : decode cX8_valve 27 = .ok (.iload 4, 2) := by decide +kernel
theorem dX8_valve_29 : decode cX8_valve 29 = .ok (.invokestatic 116, 3) := by decide +kernel
theorem dX8_valve_32 : decode cX8_valve 32 = .ok (.iconst 3, 1) := by decide +kernel
theorem dX8_valve_33 : decode cX8_valve 33 = .ok (.iadd, 1) := by decide +kernel
theorem dX8_valve_34 : decode cX8_valve 34 = .ok (.dup2, 1) := by decide +kernel
theorem dX8_valve_35 : decode cX8_valve 35 = .ok (.iaload, 1) := by decide +kernel
theorem dX8_valve_36 : decode cX8_valve 36 = .ok (.iconst 1, 1) := by decide +kernel
theorem dX8_valve_37 : decode cX8_valve 37 = .ok (.ixor, 1) := by decide +kernel
theorem dX8_valve_38 : decode cX8_valve 38 = .ok (.iastore, 1) := by decide +kernel
theorem dX8_valve_39 : decode cX8_valve 39 = .ok (.aload_n 0, 1) := by decide +kernel
theorem dX8_valve_40 : decode cX8_valve 40 = .ok (.invokevirtual 254, 3) := by decide +kernel
theorem dX8_valve_43 : decode cX8_valve 43 = .ok (.ifCond .eq 40, 3) := by decide +kernel
theorem dX8_valve_46 : decode cX8_valve 46 = .ok (.aload_n 0, 1) := by decide +kernel
theorem dX8_valve_47 : decode cX8_valve 47 = .ok (.invokevirtual 352, 3) := by decide +kernel
theorem dX8_valve_50 : decode cX8_valve 50 = .ok (.istore 5, 2) := by decide +kernel
theorem dX8_valve_52 : decode cX8_valve 52 = .ok (.iload_n 2, 1) := by decide +kernel
theorem dX8_valve_53 : decode cX8_valve 53 = .ok (.iconst (-1), 1) := by decide +kernel
theorem dX8_valve_54 : decode cX8_valve 54 = .ok (.if_icmp .eq 9, 3) := by decide +kernel
theorem dX8_valve_57 : decode cX8_valve 57 = .ok (.iload 5, 2) := by decide +kernel
theorem dX8_valve_59 : decode cX8_valve 59 = .ok (.iload_n 3, 1) := by decide +kernel
theorem dX8_valve_60 : decode cX8_valve 60 = .ok (.if_icmp .ge 8, 3) := by decide +kernel
theorem dX8_valve_63 : decode cX8_valve 63 = .ok (.iload 4, 2) := by decide +kernel
theorem dX8_valve_65 : decode cX8_valve 65 = .ok (.goto 4, 3) := by decide +kernel
theorem dX8_valve_68 : decode cX8_valve 68 = .ok (.iload_n 2, 1) := by decide +kernel
theorem dX8_valve_69 : decode cX8_valve 69 = .ok (.istore_n 2, 1) := by decide +kernel
theorem dX8_valve_70 : decode cX8_valve 70 = .ok (.iload_n 2, 1) := by decide +kernel
theorem dX8_valve_71 : decode cX8_valve 71 = .ok (.iload 4, 2) := by decide +kernel
theorem dX8_valve_73 : decode cX8_valve 73 = .ok (.if_icmp .ne 8, 3) := by decide +kernel
theorem dX8_valve_76 : decode cX8_valve 76 = .ok (.iload 5, 2) := by decide +kernel
theorem dX8_valve_78 : decode cX8_valve 78 = .ok (.goto 4, 3) := by decide +kernel
theorem dX8_valve_81 : decode cX8_valve 81 = .ok (.iload_n 3, 1) := by decide +kernel
theorem dX8_valve_82 : decode cX8_valve 82 = .ok (.istore_n 3, 1) := by decide +kernel
theorem dX8_valve_83 : decode cX8_valve 83 = .ok (.aload_n 0, 1) := by decide +kernel
theorem dX8_valve_84 : decode cX8_valve 84 = .ok (.getfield 13, 3) := by decide +kernel
theorem dX8_valve_87 : decode cX8_valve 87 = .ok (.iload 4, 2) := by decide +kernel
theorem dX8_valve_89 : decode cX8_valve 89 = .ok (.invokestatic 116, 3) := by decide +kernel
theorem dX8_valve_92 : decode cX8_valve 92 = .ok (.iconst 3, 1) := by decide +kernel
theorem dX8_valve_93 : decode cX8_valve 93 = .ok (.iadd, 1) := by decide +kernel
theorem dX8_valve_94 : decode cX8_valve 94 = .ok (.dup2, 1) := by decide +kernel
theorem dX8_valve_95 : decode cX8_valve 95 = .ok (.iaload, 1) := by decide +kernel
theorem dX8_valve_96 : decode cX8_valve 96 = .ok (.iconst 1, 1) := by decide +kernel
theorem dX8_valve_97 : decode cX8_valve 97 = .ok (.ixor, 1) := by decide +kernel
theorem dX8_valve_98 : decode cX8_valve 98 = .ok (.iastore, 1) := by decide +kernel
theorem dX8_valve_99 : decode cX8_valve 99 = .ok (.iinc 4 1, 3) := by decide +kernel
theorem dX8_valve_102 : decode cX8_valve 102 = .ok (.goto (-90), 3) := by decide +kernel
theorem dX8_valve_105 : decode cX8_valve 105 = .ok (.iload_n 1, 1) := by decide +kernel
theorem dX8_valve_106 : decode cX8_valve 106 = .ok (.ifCond .ne 7, 3) := by decide +kernel
theorem dX8_valve_109 : decode cX8_valve 109 = .ok (.iload_n 2, 1) := by decide +kernel
theorem dX8_valve_110 : decode cX8_valve 110 = .ok (.goto 13, 3) := by decide +kernel
theorem dX8_valve_113 : decode cX8_valve 113 = .ok (.iload_n 1, 1) := by decide +kernel
theorem dX8_valve_114 : decode cX8_valve 114 = .ok (.iconst 1, 1) := by decide +kernel
theorem dX8_valve_115 : decode cX8_valve 115 = .ok (.if_icmp .ne 7, 3) := by decide +kernel
theorem dX8_valve_118 : decode cX8_valve 118 = .ok (.iload_n 3, 1) := by decide +kernel
theorem dX8_valve_119 : decode cX8_valve 119 = .ok (.goto 4, 3) := by decide +kernel
theorem dX8_valve_122 : decode cX8_valve 122 = .ok (.iconst (-1), 1) := by decide +kernel
theorem dX8_valve_123 : decode cX8_valve 123 = .ok (.ireturn, 1) := by decide +kernel
noncomputable def qX8_valve_1 : Bx := (bc clt (il 4) (iald (fgr 7 3 (rl 0)) (ik 1)))
noncomputable def wX8_valve_1 : Sx := (sseq (sseq (aoi (· ^^^ ·) (fgr 7 3 (rl 0)) (i2 (· + ·) (csi DX8_tubeAt (ai (il 4) anil)) (ik 3)) (ik 1)) (sseq (sif (bz cne (cvz 7 DX8_reckonNow (rl 0) anil)) (scut 5 (sseq (ssi 5 (cvi 7 DX8_greatestReading (rl 0) anil)) (sseq (ssi 2 (ic (bor (bc ceq (il 2) (ik (-1))) (bc clt (il 5) (il 3))) (il 4) (il 2))) (ssi 3 (ic (bc ceq (il 2) (il 4)) (il 5) (il 3)))))) snop) (aoi (· ^^^ ·) (fgr 7 3 (rl 0)) (i2 (· + ·) (csi DX8_tubeAt (ai (il 4) anil)) (ik 3)) (ik 1)))) (sinc 4 1))
noncomputable def EX8_valve : Sx := (sseq (fpi 7 0 (rl 0) (ik 0)) (sseq (ssi 2 (ik (-1))) (sseq (ssi 3 (ik (-1))) (sseq (scut 4 (sseq (ssi 4 (ik 0)) (swh qX8_valve_1 wX8_valve_1))) (sret (ic (bz ceq (il 1)) (il 2) (ic (bc ceq (il 1) (ik 1)) (il 3) (ik (-1)))))))))
noncomputable def DX8_valve : Fi := mfi 6 EX8_valve
set_option maxRecDepth 4000 in
theorem BX8_valve : Vs RX8 cX8_valve 6 (rmk 6 134) 0 0 EX8_valve := (v_seq (v_fpi kX8 lk995 (by decide) rfl rfl (by decide +kernel) (v_aload_n (i := 0) dX8_valve_0 rfl (rfl : 0 + 1 = 1)) (v_iconst (v := 0) dX8_valve_1 (by decide) (rfl : 1 + 1 = 2)) dX8_valve_2 (rfl : 2 + 3 = 5)) (v_seq (v_istore_n (i := 2) (v_iconst (v := (-1)) dX8_valve_5 (by decide) (rfl : 5 + 1 = 6)) dX8_valve_6 rfl (by decide) (rfl : 6 + 1 = 7)) (v_seq (v_istore_n (i := 3) (v_iconst (v := (-1)) dX8_valve_7 (by decide) (rfl : 7 + 1 = 8)) dX8_valve_8 rfl (by decide) (rfl : 8 + 1 = 9)) (v_seq (v_cut (n := 4) (v_seq (v_istore (i := 4) (v_iconst (v := 0) dX8_valve_9 (by decide) (rfl : 9 + 1 = 10)) dX8_valve_10 (by decide) (rfl : 10 + 2 = 12)) (v_wh (v_ilt_f (v_iload (i := 4) dX8_valve_12 (rfl : 12 + 2 = 14)) (v_iald (v_gfr kX8 lk998 (by decide) rfl (v_aload_n (i := 0) dX8_valve_14 rfl (rfl : 14 + 1 = 15)) dX8_valve_15 (rfl : 15 + 3 = 18)) (v_iconst (v := 1) dX8_valve_18 (by decide) (rfl : 18 + 1 = 19)) dX8_valve_19 (rfl : 19 + 1 = 20)) dX8_valve_20 (rfl : ((20 : Nat) : Int) + 85 = ((105 : Nat) : Int)) (rfl : 20 + 3 = 23)) (vs_goto (v_seq (v_seq (v_aoi_ixor (v_gfr kX8 lk998 (by decide) rfl (v_aload_n (i := 0) dX8_valve_23 rfl (rfl : 23 + 1 = 24)) dX8_valve_24 (rfl : 24 + 3 = 27)) (v_iadd (v_csi IX8_tubeAt hX8_tubeAt lk1160 ⟨by decide, by decide⟩ (by decide) (v_ai (v_iload (i := 4) dX8_valve_27 (rfl : 27 + 2 = 29)) v_anil) dX8_valve_29 (rfl : 29 + 3 = 32)) (v_iconst (v := 3) dX8_valve_32 (by decide) (rfl : 32 + 1 = 33)) dX8_valve_33 (rfl : 33 + 1 = 34)) dX8_valve_34 dX8_valve_35 (rfl : 34 + 1 + 1 = 36) (v_iconst (v := 1) dX8_valve_36 (by decide) (rfl : 36 + 1 = 37)) dX8_valve_37 dX8_valve_38 (rfl : 37 + 1 + 1 = 39)) (v_seq (v_if (v_zne_f (v_cvz kX8 IX8_reckonNow hX8_reckonNow lk1241 ⟨by decide, by decide⟩ (by decide) (v_aload_n (i := 0) dX8_valve_39 rfl (rfl : 39 + 1 = 40)) v_anil dX8_valve_40 (rfl : 40 + 3 = 43)) dX8_valve_43 (rfl : ((43 : Nat) : Int) + 40 = ((83 : Nat) : Int)) (rfl : 43 + 3 = 46)) (v_cut (n := 5) (v_seq (v_istore (i := 5) (v_cvi kX8 IX8_greatestReading hX8_greatestReading lk1456 ⟨by decide, by decide⟩ (by decide) (v_aload_n (i := 0) dX8_valve_46 rfl (rfl : 46 + 1 = 47)) v_anil dX8_valve_47 (rfl : 47 + 3 = 50)) dX8_valve_50 (by decide) (rfl : 50 + 2 = 52)) (v_seq (v_istore_n (i := 2) (v_ic (v_or (v_ieq_t (v_iload_n (i := 2) dX8_valve_52 rfl (rfl : 52 + 1 = 53)) (v_iconst (v := (-1)) dX8_valve_53 (by decide) (rfl : 53 + 1 = 54)) dX8_valve_54 (rfl : ((54 : Nat) : Int) + 9 = ((63 : Nat) : Int)) (rfl : 54 + 3 = 57)) (v_ilt_f (v_iload (i := 5) dX8_valve_57 (rfl : 57 + 2 = 59)) (v_iload_n (i := 3) dX8_valve_59 rfl (rfl : 59 + 1 = 60)) dX8_valve_60 (rfl : ((60 : Nat) : Int) + 8 = ((68 : Nat) : Int)) (rfl : 60 + 3 = 63))) (vi_goto (v_iload (i := 4) dX8_valve_63 (rfl : 63 + 2 = 65)) dX8_valve_65 (rfl : ((65 : Nat) : Int) + 4 = ((69 : Nat) : Int))) (v_iload_n (i := 2) dX8_valve_68 rfl (rfl : 68 + 1 = 69))) dX8_valve_69 rfl (by decide) (rfl : 69 + 1 = 70)) (v_istore_n (i := 3) (v_ic (v_ieq_f (v_iload_n (i := 2) dX8_valve_70 rfl (rfl : 70 + 1 = 71)) (v_iload (i := 4) dX8_valve_71 (rfl : 71 + 2 = 73)) dX8_valve_73 (rfl : ((73 : Nat) : Int) + 8 = ((81 : Nat) : Int)) (rfl : 73 + 3 = 76)) (vi_goto (v_iload (i := 5) dX8_valve_76 (rfl : 76 + 2 = 78)) dX8_valve_78 (rfl : ((78 : Nat) : Int) + 4 = ((82 : Nat) : Int))) (v_iload_n (i := 3) dX8_valve_81 rfl (rfl : 81 + 1 = 82))) dX8_valve_82 rfl (by decide) (rfl : 82 + 1 = 83))))) v_nop) (v_aoi_ixor (v_gfr kX8 lk998 (by decide) rfl (v_aload_n (i := 0) dX8_valve_83 rfl (rfl : 83 + 1 = 84)) dX8_valve_84 (rfl : 84 + 3 = 87)) (v_iadd (v_csi IX8_tubeAt hX8_tubeAt lk1160 ⟨by decide, by decide⟩ (by decide) (v_ai (v_iload (i := 4) dX8_valve_87 (rfl : 87 + 2 = 89)) v_anil) dX8_valve_89 (rfl : 89 + 3 = 92)) (v_iconst (v := 3) dX8_valve_92 (by decide) (rfl : 92 + 1 = 93)) dX8_valve_93 (rfl : 93 + 1 = 94)) dX8_valve_94 dX8_valve_95 (rfl : 94 + 1 + 1 = 96) (v_iconst (v := 1) dX8_valve_96 (by decide) (rfl : 96 + 1 = 97)) dX8_valve_97 dX8_valve_98 (rfl : 97 + 1 + 1 = 99)))) (v_iinc (v := 1) dX8_valve_99 (by decide) (by decide) (rfl : 99 + 3 = 102))) dX8_valve_102 (rfl : ((102 : Nat) : Int) + (-90) = ((12 : Nat) : Int)))))) (v_ret (v_ic (v_zeq_f (v_iload_n (i := 1) dX8_valve_105 rfl (rfl : 105 + 1 = 106)) dX8_valve_106 (rfl : ((106 : Nat) : Int) + 7 = ((113 : Nat) : Int)) (rfl : 106 + 3 = 109)) (vi_goto (v_iload_n (i := 2) dX8_valve_109 rfl (rfl : 109 + 1 = 110)) dX8_valve_110 (rfl : ((110 : Nat) : Int) + 13 = ((123 : Nat) : Int))) (v_ic (v_ieq_f (v_iload_n (i := 1) dX8_valve_113 rfl (rfl : 113 + 1 = 114)) (v_iconst (v := 1) dX8_valve_114 (by decide) (rfl : 114 + 1 = 115)) dX8_valve_115 (rfl : ((115 : Nat) : Int) + 7 = ((122 : Nat) : Int)) (rfl : 115 + 3 = 118)) (vi_goto (v_iload_n (i := 3) dX8_valve_118 rfl (rfl : 118 + 1 = 119)) dX8_valve_119 (rfl : ((119 : Nat) : Int) + 4 = ((123 : Nat) : Int))) (v_iconst (v := (-1)) dX8_valve_122 (by decide) (rfl : 122 + 1 = 123)))) dX8_valve_123)))))
theorem IX8_valve : Mi yX8_valve cX8_valve 6 (rmk 6 134) DX8_valve := mk_i (by decide +kernel) BX8_valve

theorem dX8_watch_0 : decode cX8_watch 0 = .ok (.aload_n 0, 1) := by decide +kernel
theorem dX8_watch_1 : decode cX8_watch 1 = .ok (.iconst 0, 1) := by decide +kernel
theorem dX8_watch_2 : decode cX8_watch 2 = .ok (.putfield 84, 3) := by decide +kernel
theorem dX8_watch_5 : decode cX8_watch 5 = .ok (.iload_n 1, 1) := by decide +kernel
theorem dX8_watch_6 : decode cX8_watch 6 = .ok (.i2l, 1) := by decide +kernel
theorem dX8_watch_7 : decode cX8_watch 7 = .ok (.lconst 0, 1) := by decide +kernel
theorem dX8_watch_8 : decode cX8_watch 8 = .ok (.ldc2_w 158, 3) := by decide +kernel
theorem dX8_watch_11 : decode cX8_watch 11 = .ok (.invokestatic 105, 3) := by decide +kernel
theorem dX8_watch_14 : decode cX8_watch 14 = .ok (.ifCond .eq 53, 3) := by decide +kernel
theorem dX8_watch_17 : decode cX8_watch 17 = .ok (.iload_n 2, 1) := by decide +kernel
theorem dX8_watch_18 : decode cX8_watch 18 = .ok (.i2l, 1) := by decide +kernel
theorem dX8_watch_19 : decode cX8_watch 19 = .ok (.lconst 0, 1) := by decide +kernel
theorem dX8_watch_20 : decode cX8_watch 20 = .ok (.ldc2_w 160, 3) := by decide +kernel
theorem dX8_watch_23 : decode cX8_watch 23 = .ok (.invokestatic 105, 3) := by decide +kernel
theorem dX8_watch_26 : decode cX8_watch 26 = .ok (.ifCond .eq 41, 3) := by decide +kernel
theorem dX8_watch_29 : decode cX8_watch 29 = .ok (.iload_n 3, 1) := by decide +kernel
theorem dX8_watch_30 : decode cX8_watch 30 = .ok (.i2l, 1) := by decide +kernel
theorem dX8_watch_31 : decode cX8_watch 31 = .ok (.lconst 0, 1) := by decide +kernel
theorem dX8_watch_32 : decode cX8_watch 32 = .ok (.ldc2_w 167, 3) := by decide +kernel
theorem dX8_watch_35 : decode cX8_watch 35 = .ok (.invokestatic 105, 3) := by decide +kernel
theorem dX8_watch_38 : decode cX8_watch 38 = .ok (.ifCond .eq 29, 3) := by decide +kernel
theorem dX8_watch_41 : decode cX8_watch 41 = .ok (.iload 4, 2) := by decide +kernel
theorem dX8_watch_43 : decode cX8_watch 43 = .ok (.i2l, 1) := by decide +kernel
theorem dX8_watch_44 : decode cX8_watch 44 = .ok (.lconst 0, 1) := by decide +kernel
theorem dX8_watch_45 : decode cX8_watch 45 = .ok (.ldc2_w 169, 3) := by decide +kernel
theorem dX8_watch_48 : decode cX8_watch 48 = .ok (.invokestatic 105, 3) := by decide +kernel
theorem dX8_watch_51 : decode cX8_watch 51 = .ok (.ifCond .eq 16, 3) := by decide +kernel
theorem dX8_watch_54 : decode cX8_watch 54 = .ok (.iload 5, 2) := by decide +kernel
theorem dX8_watch_56 : decode cX8_watch 56 = .ok (.i2l, 1) := by decide +kernel
theorem dX8_watch_57 : decode cX8_watch 57 = .ok (.lconst 0, 1) := by decide +kernel
theorem dX8_watch_58 : decode cX8_watch 58 = .ok (.ldc2_w 160, 3) := by decide +kernel
theorem dX8_watch_61 : decode cX8_watch 61 = .ok (.invokestatic 105, 3) := by decide +kernel
theorem dX8_watch_64 : decode cX8_watch 64 = .ok (.ifCond .ne 9, 3) := by decide +kernel
theorem dX8_watch_67 : decode cX8_watch 67 = .ok (.aload_n 0, 1) := by decide +kernel
theorem dX8_watch_68 : decode cX8_watch 68 = .ok (.iconst (-1), 1) := by decide +kernel
theorem dX8_watch_69 : decode cX8_watch 69 = .ok (.invokevirtual 98, 3) := by decide +kernel
theorem dX8_watch_72 : decode cX8_watch 72 = .ok (.ireturn, 1) := by decide +kernel
theorem dX8_watch_73 : decode cX8_watch 73 = .ok (.aload_n 0, 1) := by decide +kernel
theorem dX8_watch_74 : decode cX8_watch 74 = .ok (.getfield 13, 3) := by decide +kernel
theorem dX8_watch_77 : decode cX8_watch 77 = .ok (.iconst 3, 1) := by decide +kernel
theorem dX8_watch_78 : decode cX8_watch 78 = .ok (.iaload, 1) := by decide +kernel
theorem dX8_watch_79 : decode cX8_watch 79 = .ok (.istore 6, 2) := by decide +kernel
theorem dX8_watch_81 : decode cX8_watch 81 = .ok (.iload 6, 2) := by decide +kernel
theorem dX8_watch_83 : decode cX8_watch 83 = .ok (.bipush 6, 2) := by decide +kernel
theorem dX8_watch_85 : decode cX8_watch 85 = .ok (.if_icmp .ne 10, 3) := by decide +kernel
theorem dX8_watch_88 : decode cX8_watch 88 = .ok (.aload_n 0, 1) := by decide +kernel
theorem dX8_watch_89 : decode cX8_watch 89 = .ok (.bipush (-5), 2) := by decide +kernel
theorem dX8_watch_91 : decode cX8_watch 91 = .ok (.invokevirtual 98, 3) := by decide +kernel
theorem dX8_watch_94 : decode cX8_watch 94 = .ok (.ireturn, 1) := by decide +kernel
theorem dX8_watch_95 : decode cX8_watch 95 = .ok (.aload_n 0, 1) := by decide +kernel
theorem dX8_watch_96 : decode cX8_watch 96 = .ok (.bipush 8, 2) := by decide +kernel
theorem dX8_watch_98 : decode cX8_watch 98 = .ok (.invokevirtual 136, 3) := by decide +kernel
theorem dX8_watch_101 : decode cX8_watch 101 = .ok (.iload 6, 2) := by decide +kernel
theorem dX8_watch_103 : decode cX8_watch 103 = .ok (.invokestatic 171, 3) := by decide +kernel
theorem dX8_watch_106 : decode cX8_watch 106 = .ok (.istore 7, 2) := by decide +kernel
theorem dX8_watch_108 : decode cX8_watch 108 = .ok (.aload_n 0, 1) := by decide +kernel
theorem dX8_watch_109 : decode cX8_watch 109 = .ok (.getfield 13, 3) := by decide +kernel
theorem dX8_watch_112 : decode cX8_watch 112 = .ok (.iload 7, 2) := by decide +kernel
theorem dX8_watch_114 : decode cX8_watch 114 = .ok (.iload_n 1, 1) := by decide +kernel
theorem dX8_watch_115 : decode cX8_watch 115 = .ok (.iastore, 1) := by decide +kernel
theorem dX8_watch_116 : decode cX8_watch 116 = .ok (.aload_n 0, 1) := by decide +kernel
theorem dX8_watch_117 : decode cX8_watch 117 = .ok (.getfield 13, 3) := by decide +kernel
theorem dX8_watch_120 : decode cX8_watch 120 = .ok (.iload 7, 2) := by decide +kernel
theorem dX8_watch_122 : decode cX8_watch 122 = .ok (.iconst 1, 1) := by decide +kernel
theorem dX8_watch_123 : decode cX8_watch 123 = .ok (.iadd, 1) := by decide +kernel
theorem dX8_watch_124 : decode cX8_watch 124 = .ok (.iload_n 2, 1) := by decide +kernel
theorem dX8_watch_125 : decode cX8_watch 125 = .ok (.iastore, 1) := by decide +kernel
theorem dX8_watch_126 : decode cX8_watch 126 = .ok (.aload_n 0, 1) := by decide +kernel
theorem dX8_watch_127 : decode cX8_watch 127 = .ok (.getfield 13, 3) := by decide +kernel
theorem dX8_watch_130 : decode cX8_watch 130 = .ok (.iload 7, 2) := by decide +kernel
theorem dX8_watch_132 : decode cX8_watch 132 = .ok (.iconst 2, 1) := by decide +kernel
theorem dX8_watch_133 : decode cX8_watch 133 = .ok (.iadd, 1) := by decide +kernel
theorem dX8_watch_134 : decode cX8_watch 134 = .ok (.iload_n 3, 1) := by decide +kernel
theorem dX8_watch_135 : decode cX8_watch 135 = .ok (.iastore, 1) := by decide +kernel
theorem dX8_watch_136 : decode cX8_watch 136 = .ok (.aload_n 0, 1) := by decide +kernel
theorem dX8_watch_137 : decode cX8_watch 137 = .ok (.getfield 13, 3) := by decide +kernel
theorem dX8_watch_140 : decode cX8_watch 140 = .ok (.iload 7, 2) := by decide +kernel
theorem dX8_watch_142 : decode cX8_watch 142 = .ok (.iconst 3, 1) := by decide +kernel
theorem dX8_watch_143 : decode cX8_watch 143 = .ok (.iadd, 1) := by decide +kernel
theorem dX8_watch_144 : decode cX8_watch 144 = .ok (.iload 4, 2) := by decide +kernel
theorem dX8_watch_146 : decode cX8_watch 146 = .ok (.iastore, 1) := by decide +kernel
theorem dX8_watch_147 : decode cX8_watch 147 = .ok (.aload_n 0, 1) := by decide +kernel
theorem dX8_watch_148 : decode cX8_watch 148 = .ok (.getfield 13, 3) := by decide +kernel
theorem dX8_watch_151 : decode cX8_watch 151 = .ok (.iload 7, 2) := by decide +kernel
theorem dX8_watch_153 : decode cX8_watch 153 = .ok (.iconst 4, 1) := by decide +kernel
theorem dX8_watch_154 : decode cX8_watch 154 = .ok (.iadd, 1) := by decide +kernel
theorem dX8_watch_155 : decode cX8_watch 155 = .ok (.iload 5, 2) := by decide +kernel
theorem dX8_watch_157 : decode cX8_watch 157 = .ok (.iastore, 1) := by decide +kernel
theorem dX8_watch_158 : decode cX8_watch 158 = .ok (.aload_n 0, 1) := by decide +kernel
theorem dX8_watch_159 : decode cX8_watch 159 = .ok (.getfield 13, 3) := by decide +kernel
theorem dX8_watch_162 : decode cX8_watch 162 = .ok (.iload 7, 2) := by decide +kernel
theorem dX8_watch_164 : decode cX8_watch 164 = .ok (.iconst 5, 1) := by decide +kernel
theorem dX8_watch_165 : decode cX8_watch 165 = .ok (.iadd, 1) := by decide +kernel
theorem dX8_watch_166 : decode cX8_watch 166 = .ok (.iconst 0, 1) := by decide +kernel
theorem dX8_watch_167 : decode cX8_watch 167 = .ok (.iastore, 1) := by decide +kernel
theorem dX8_watch_168 : decode cX8_watch 168 = .ok (.aload_n 0, 1) := by decide +kernel
theorem dX8_watch_169 : decode cX8_watch 169 = .ok (.getfield 13, 3) := by decide +kernel
theorem dX8_watch_172 : decode cX8_watch 172 = .ok (.iconst 3, 1) := by decide +kernel
theorem dX8_watch_173 : decode cX8_watch 173 = .ok (.dup2, 1) := by decide +kernel
theorem dX8_watch_174 : decode cX8_watch 174 = .ok (.iaload, 1) := by decide +kernel
theorem dX8_watch_175 : decode cX8_watch 175 = .ok (.iconst 1, 1) := by decide +kernel
theorem dX8_watch_176 : decode cX8_watch 176 = .ok (.iadd, 1) := by decide +kernel
theorem dX8_watch_177 : decode cX8_watch 177 = .ok (.iastore, 1) := by decide +kernel
theorem dX8_watch_178 : decode cX8_watch 178 = .ok (.aload_n 0, 1) := by decide +kernel
theorem dX8_watch_179 : decode cX8_watch 179 = .ok (.iload 6, 2) := by decide +kernel
theorem dX8_watch_181 : decode cX8_watch 181 = .ok (.invokevirtual 102, 3) := by decide +kernel
theorem dX8_watch_184 : decode cX8_watch 184 = .ok (.ireturn, 1) := by decide +kernel
noncomputable def EX8_watch : Sx := (sseq (fpi 7 0 (rl 0) (ik 0)) (sseq (sif (bor (bor (bor (bor (bnot (bz cne (csz DX8_in (aj (i2l (il 1)) (aj (jk 0) (aj (jk 2) anil)))))) (bnot (bz cne (csz DX8_in (aj (i2l (il 2)) (aj (jk 0) (aj (jk 9) anil))))))) (bnot (bz cne (csz DX8_in (aj (i2l (il 3)) (aj (jk 0) (aj (jk 99999999) anil))))))) (bnot (bz cne (csz DX8_in (aj (i2l (il 4)) (aj (jk 0) (aj (jk 4) anil))))))) (bnot (bz cne (csz DX8_in (aj (i2l (il 5)) (aj (jk 0) (aj (jk 9) anil))))))) (sret (cvi 7 DX8_refuse (rl 0) (ai (ik (-1)) anil))) snop) (sseq (ssi 6 (iald (fgr 7 3 (rl 0)) (ik 3))) (sseq (sif (bc ceq (il 6) (ik 6)) (sret (cvi 7 DX8_refuse (rl 0) (ai (ik (-5)) anil))) snop) (sseq (scv 7 DX8_remember (rl 0) (ai (ik 8) anil)) (sseq (ssi 7 (csi DX8_watchAt (ai (il 6) anil))) (sseq (aii (fgr 7 3 (rl 0)) (il 7) (il 1)) (sseq (aii (fgr 7 3 (rl 0)) (i2 (· + ·) (il 7) (ik 1)) (il 2)) (sseq (aii (fgr 7 3 (rl 0)) (i2 (· + ·) (il 7) (ik 2)) (il 3)) (sseq (aii (fgr 7 3 (rl 0)) (i2 (· + ·) (il 7) (ik 3)) (il 4)) (sseq (aii (fgr 7 3 (rl 0)) (i2 (· + ·) (il 7) (ik 4)) (il 5)) (sseq (aii (fgr 7 3 (rl 0)) (i2 (· + ·) (il 7) (ik 5)) (ik 0)) (sseq (aoi (· + ·) (fgr 7 3 (rl 0)) (ik 3) (ik 1)) (sret (cvi 7 DX8_tell (rl 0) (ai (il 6) anil))))))))))))))))
noncomputable def DX8_watch : Fi := mfi 8 EX8_watch
set_option maxRecDepth 4000 in
theorem BX8_watch : Vs RX8 cX8_watch 8 (rmk 2 46) 0 0 EX8_watch := (v_seq (v_fpi kX8 lk995 (by decide) rfl rfl (by decide +kernel) (v_aload_n (i := 0) dX8_watch_0 rfl (rfl : 0 + 1 = 1)) (v_iconst (v := 0) dX8_watch_1 (by decide) (rfl : 1 + 1 = 2)) dX8_watch_2 (rfl : 2 + 3 = 5)) (v_seq (v_if (v_or (v_or (v_or (v_or (v_not (v_zne_f (v_csz IX8_in hX8_in lk1120 ⟨by decide, by decide⟩ (by decide) (v_aj (v_i2l (v_iload_n (i := 1) dX8_watch_5 rfl (rfl : 5 + 1 = 6)) dX8_watch_6 (rfl : 6 + 1 = 7)) (v_aj (v_lconst (v := 0) dX8_watch_7 (by decide) (rfl : 7 + 1 = 8)) (v_aj (v_ldc2 (v := 2) lk1189 dX8_watch_8 (rfl : 8 + 3 = 11)) v_anil))) dX8_watch_11 (rfl : 11 + 3 = 14)) dX8_watch_14 (rfl : ((14 : Nat) : Int) + 53 = ((67 : Nat) : Int)) (rfl : 14 + 3 = 17))) (v_not (v_zne_f (v_csz IX8_in hX8_in lk1120 ⟨by decide, by decide⟩ (by decide) (v_aj (v_i2l (v_iload_n (i := 2) dX8_watch_17 rfl (rfl : 17 + 1 = 18)) dX8_watch_18 (rfl : 18 + 1 = 19)) (v_aj (v_lconst (v := 0) dX8_watch_19 (by decide) (rfl : 19 + 1 = 20)) (v_aj (v_ldc2 (v := 9) lk1190 dX8_watch_20 (rfl : 20 + 3 = 23)) v_anil))) dX8_watch_23 (rfl : 23 + 3 = 26)) dX8_watch_26 (rfl : ((26 : Nat) : Int) + 41 = ((67 : Nat) : Int)) (rfl : 26 + 3 = 29)))) (v_not (v_zne_f (v_csz IX8_in hX8_in lk1120 ⟨by decide, by decide⟩ (by decide) (v_aj (v_i2l (v_iload_n (i := 3) dX8_watch_29 rfl (rfl : 29 + 1 = 30)) dX8_watch_30 (rfl : 30 + 1 = 31)) (v_aj (v_lconst (v := 0) dX8_watch_31 (by decide) (rfl : 31 + 1 = 32)) (v_aj (v_ldc2 (v := 99999999) lk1216 dX8_watch_32 (rfl : 32 + 3 = 35)) v_anil))) dX8_watch_35 (rfl : 35 + 3 = 38)) dX8_watch_38 (rfl : ((38 : Nat) : Int) + 29 = ((67 : Nat) : Int)) (rfl : 38 + 3 = 41)))) (v_not (v_zne_f (v_csz IX8_in hX8_in lk1120 ⟨by decide, by decide⟩ (by decide) (v_aj (v_i2l (v_iload (i := 4) dX8_watch_41 (rfl : 41 + 2 = 43)) dX8_watch_43 (rfl : 43 + 1 = 44)) (v_aj (v_lconst (v := 0) dX8_watch_44 (by decide) (rfl : 44 + 1 = 45)) (v_aj (v_ldc2 (v := 4) lk1217 dX8_watch_45 (rfl : 45 + 3 = 48)) v_anil))) dX8_watch_48 (rfl : 48 + 3 = 51)) dX8_watch_51 (rfl : ((51 : Nat) : Int) + 16 = ((67 : Nat) : Int)) (rfl : 51 + 3 = 54)))) (v_not (v_zne_t (v_csz IX8_in hX8_in lk1120 ⟨by decide, by decide⟩ (by decide) (v_aj (v_i2l (v_iload (i := 5) dX8_watch_54 (rfl : 54 + 2 = 56)) dX8_watch_56 (rfl : 56 + 1 = 57)) (v_aj (v_lconst (v := 0) dX8_watch_57 (by decide) (rfl : 57 + 1 = 58)) (v_aj (v_ldc2 (v := 9) lk1190 dX8_watch_58 (rfl : 58 + 3 = 61)) v_anil))) dX8_watch_61 (rfl : 61 + 3 = 64)) dX8_watch_64 (rfl : ((64 : Nat) : Int) + 9 = ((73 : Nat) : Int)) (rfl : 64 + 3 = 67)))) (v_ret (v_cvi kX8 IX8_refuse hX8_refuse lk1105 ⟨by decide, by decide⟩ (by decide) (v_aload_n (i := 0) dX8_watch_67 rfl (rfl : 67 + 1 = 68)) (v_ai (v_iconst (v := (-1)) dX8_watch_68 (by decide) (rfl : 68 + 1 = 69)) v_anil) dX8_watch_69 (rfl : 69 + 3 = 72)) dX8_watch_72) v_nop) (v_seq (v_istore (i := 6) (v_iald (v_gfr kX8 lk998 (by decide) rfl (v_aload_n (i := 0) dX8_watch_73 rfl (rfl : 73 + 1 = 74)) dX8_watch_74 (rfl : 74 + 3 = 77)) (v_iconst (v := 3) dX8_watch_77 (by decide) (rfl : 77 + 1 = 78)) dX8_watch_78 (rfl : 78 + 1 = 79)) dX8_watch_79 (by decide) (rfl : 79 + 2 = 81)) (v_seq (v_if (v_ieq_f (v_iload (i := 6) dX8_watch_81 (rfl : 81 + 2 = 83)) (v_bipush (v := 6) dX8_watch_83 (by decide) (rfl : 83 + 2 = 85)) dX8_watch_85 (rfl : ((85 : Nat) : Int) + 10 = ((95 : Nat) : Int)) (rfl : 85 + 3 = 88)) (v_ret (v_cvi kX8 IX8_refuse hX8_refuse lk1105 ⟨by decide, by decide⟩ (by decide) (v_aload_n (i := 0) dX8_watch_88 rfl (rfl : 88 + 1 = 89)) (v_ai (v_bipush (v := (-5)) dX8_watch_89 (by decide) (rfl : 89 + 2 = 91)) v_anil) dX8_watch_91 (rfl : 91 + 3 = 94)) dX8_watch_94) v_nop) (v_seq (v_scv kX8 IX8_remember hX8_remember lk1133 ⟨by decide, by decide⟩ (v_aload_n (i := 0) dX8_watch_95 rfl (rfl : 95 + 1 = 96)) (v_ai (v_bipush (v := 8) dX8_watch_96 (by decide) (rfl : 96 + 2 = 98)) v_anil) dX8_watch_98 (rfl : 98 + 3 = 101)) (v_seq (v_istore (i := 7) (v_csi IX8_watchAt hX8_watchAt lk1218 ⟨by decide, by decide⟩ (by decide) (v_ai (v_iload (i := 6) dX8_watch_101 (rfl : 101 + 2 = 103)) v_anil) dX8_watch_103 (rfl : 103 + 3 = 106)) dX8_watch_106 (by decide) (rfl : 106 + 2 = 108)) (v_seq (v_aii (v_gfr kX8 lk998 (by decide) rfl (v_aload_n (i := 0) dX8_watch_108 rfl (rfl : 108 + 1 = 109)) dX8_watch_109 (rfl : 109 + 3 = 112)) (v_iload (i := 7) dX8_watch_112 (rfl : 112 + 2 = 114)) (v_iload_n (i := 1) dX8_watch_114 rfl (rfl : 114 + 1 = 115)) dX8_watch_115 (rfl : 115 + 1 = 116)) (v_seq (v_aii (v_gfr kX8 lk998 (by decide) rfl (v_aload_n (i := 0) dX8_watch_116 rfl (rfl : 116 + 1 = 117)) dX8_watch_117 (rfl : 117 + 3 = 120)) (v_iadd (v_iload (i := 7) dX8_watch_120 (rfl : 120 + 2 = 122)) (v_iconst (v := 1) dX8_watch_122 (by decide) (rfl : 122 + 1 = 123)) dX8_watch_123 (rfl : 123 + 1 = 124)) (v_iload_n (i := 2) dX8_watch_124 rfl (rfl : 124 + 1 = 125)) dX8_watch_125 (rfl : 125 + 1 = 126)) (v_seq (v_aii (v_gfr kX8 lk998 (by decide) rfl (v_aload_n (i := 0) dX8_watch_126 rfl (rfl : 126 + 1 = 127)) dX8_watch_127 (rfl : 127 + 3 = 130)) (v_iadd (v_iload (i := 7) dX8_watch_130 (rfl : 130 + 2 = 132)) (v_iconst (v := 2) dX8_watch_132 (by decide) (rfl : 132 + 1 = 133)) dX8_watch_133 (rfl : 133 + 1 = 134)) (v_iload_n (i := 3) dX8_watch_134 rfl (rfl : 134 + 1 = 135)) dX8_watch_135 (rfl : 135 + 1 = 136)) (v_seq (v_aii (v_gfr kX8 lk998 (by decide) rfl (v_aload_n (i := 0) dX8_watch_136 rfl (rfl : 136 + 1 = 137)) dX8_watch_137 (rfl : 137 + 3 = 140)) (v_iadd (v_iload (i := 7) dX8_watch_140 (rfl : 140 + 2 = 142)) (v_iconst (v := 3) dX8_watch_142 (by decide) (rfl : 142 + 1 = 143)) dX8_watch_143 (rfl : 143 + 1 = 144)) (v_iload (i := 4) dX8_watch_144 (rfl : 144 + 2 = 146)) dX8_watch_146 (rfl : 146 + 1 = 147)) (v_seq (v_aii (v_gfr kX8 lk998 (by decide) rfl (v_aload_n (i := 0) dX8_watch_147 rfl (rfl : 147 + 1 = 148)) dX8_watch_148 (rfl : 148 + 3 = 151)) (v_iadd (v_iload (i := 7) dX8_watch_151 (rfl : 151 + 2 = 153)) (v_iconst (v := 4) dX8_watch_153 (by decide) (rfl : 153 + 1 = 154)) dX8_watch_154 (rfl : 154 + 1 = 155)) (v_iload (i := 5) dX8_watch_155 (rfl : 155 + 2 = 157)) dX8_watch_157 (rfl : 157 + 1 = 158)) (v_seq (v_aii (v_gfr kX8 lk998 (by decide) rfl (v_aload_n (i := 0) dX8_watch_158 rfl (rfl : 158 + 1 = 159)) dX8_watch_159 (rfl : 159 + 3 = 162)) (v_iadd (v_iload (i := 7) dX8_watch_162 (rfl : 162 + 2 = 164)) (v_iconst (v := 5) dX8_watch_164 (by decide) (rfl : 164 + 1 = 165)) dX8_watch_165 (rfl : 165 + 1 = 166)) (v_iconst (v := 0) dX8_watch_166 (by decide) (rfl : 166 + 1 = 167)) dX8_watch_167 (rfl : 167 + 1 = 168)) (v_seq (v_aoi_iadd (v_gfr kX8 lk998 (by decide) rfl (v_aload_n (i := 0) dX8_watch_168 rfl (rfl : 168 + 1 = 169)) dX8_watch_169 (rfl : 169 + 3 = 172)) (v_iconst (v := 3) dX8_watch_172 (by decide) (rfl : 172 + 1 = 173)) dX8_watch_173 dX8_watch_174 (rfl : 173 + 1 + 1 = 175) (v_iconst (v := 1) dX8_watch_175 (by decide) (rfl : 175 + 1 = 176)) dX8_watch_176 dX8_watch_177 (rfl : 176 + 1 + 1 = 178)) (v_ret (v_cvi kX8 IX8_tell hX8_tell lk1112 ⟨by decide, by decide⟩ (by decide) (v_aload_n (i := 0) dX8_watch_178 rfl (rfl : 178 + 1 = 179)) (v_ai (v_iload (i := 6) dX8_watch_179 (rfl : 179 + 2 = 181)) v_anil) dX8_watch_181 (rfl : 181 + 3 = 184)) dX8_watch_184))))))))))))))
theorem IX8_watch : Mi yX8_watch cX8_watch 8 (rmk 2 46) DX8_watch := mk_i (by decide +kernel) BX8_watch
