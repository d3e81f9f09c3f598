theorem dJ6_bitCount_0f7a4_0 : decode cJ6_bitCount_0f7a4 0 = .ok (.iload_n 0, 1) := by decide +kernel
theorem dJ6_bitCount_0f7a4_1 : decode cJ6_bitCount_0f7a4 1 = .ok (.iload_n 0, 1) := by decide +kernel
theorem dJ6_bitCount_0f7a4_2 : decode cJ6_bitCount_0f7a4 2 = .ok (.iconst 1, 1) := by decide +kernel
theorem dJ6_bitCount_0f7a4_3 : decode cJ6_bitCount_0f7a4 3 = .ok (.iushr, 1) := by decide +kernel
theorem dJ6_bitCount_0f7a4_4 : decode cJ6_bitCount_0f7a4 4 = .ok (.ldc_w 265, 3) := by decide +kernel
theorem dJ6_bitCount_0f7a4_7 : decode cJ6_bitCount_0f7a4 7 = .ok (.iand, 1) := by decide +kernel
theorem dJ6_bitCount_0f7a4_8 : decode cJ6_bitCount_0f7a4 8 = .ok (.isub, 1) := by decide +kernel
theorem dJ6_bitCount_0f7a4_9 : decode cJ6_bitCount_0f7a4 9 = .ok (.istore_n 0, 1) := by decide +kernel
theorem dJ6_bitCount_0f7a4_10 : decode cJ6_bitCount_0f7a4 10 = .ok (.iload_n 0, 1) := by decide +kernel
theorem dJ6_bitCount_0f7a4_11 : decode cJ6_bitCount_0f7a4 11 = .ok (.ldc_w 266, 3) := by decide +kernel
theorem dJ6_bitCount_0f7a4_14 : decode cJ6_bitCount_0f7a4 14 = .ok (.iand, 1) := by decide +kernel
theorem dJ6_bitCount_0f7a4_15 : decode cJ6_bitCount_0f7a4 15 = .ok (.iload_n 0, 1) := by decide +kernel
theorem dJ6_bitCount_0f7a4_16 : decode cJ6_bitCount_0f7a4 16 = .ok (.iconst 2, 1) := by decide +kernel
theorem dJ6_bitCount_0f7a4_17 : decode cJ6_bitCount_0f7a4 17 = .ok (.iushr, 1) := by decide +kernel
theorem dJ6_bitCount_0f7a4_18 : decode cJ6_bitCount_0f7a4 18 = .ok (.ldc_w 266, 3) := by decide +kernel
theorem dJ6_bitCount_0f7a4_21 : decode cJ6_bitCount_0f7a4 21 = .ok (.iand, 1) := by decide +kernel
theorem dJ6_bitCount_0f7a4_22 : decode cJ6_bitCount_0f7a4 22 = .ok (.iadd, 1) := by decide +kernel
theorem dJ6_bitCount_0f7a4_23 : decode cJ6_bitCount_0f7a4 23 = .ok (.istore_n 0, 1) := by decide +kernel
theorem dJ6_bitCount_0f7a4_24 : decode cJ6_bitCount_0f7a4 24 = .ok (.iload_n 0, 1) := by decide +kernel
theorem dJ6_bitCount_0f7a4_25 : decode cJ6_bitCount_0f7a4 25 = .ok (.iload_n 0, 1) := by decide +kernel
theorem dJ6_bitCount_0f7a4_26 : decode cJ6_bitCount_0f7a4 26 = .ok (.iconst 4, 1) := by decide +kernel
theorem dJ6_bitCount_0f7a4_27 : decode cJ6_bitCount_0f7a4 27 = .ok (.iushr, 1) := by decide +kernel
theorem dJ6_bitCount_0f7a4_28 : decode cJ6_bitCount_0f7a4 28 = .ok (.iadd, 1) := by decide +kernel
theorem dJ6_bitCount_0f7a4_29 : decode cJ6_bitCount_0f7a4 29 = .ok (.ldc_w 267, 3) := by decide +kernel
theorem dJ6_bitCount_0f7a4_32 : decode cJ6_bitCount_0f7a4 32 = .ok (.iand, 1) := by decide +kernel
theorem dJ6_bitCount_0f7a4_33 : decode cJ6_bitCount_0f7a4 33 = .ok (.istore_n 0, 1) := by decide +kernel
theorem dJ6_bitCount_0f7a4_34 : decode cJ6_bitCount_0f7a4 34 = .ok (.iload_n 0, 1) := by decide +kernel
theorem dJ6_bitCount_0f7a4_35 : decode cJ6_bitCount_0f7a4 35 = .ok (.iload_n 0, 1) := by decide +kernel
theorem dJ6_bitCount_0f7a4_36 : decode cJ6_bitCount_0f7a4 36 = .ok (.bipush 8, 2) := by decide +kernel
theorem dJ6_bitCount_0f7a4_38 : decode cJ6_bitCount_0f7a4 38 = .ok (.iushr, 1) := by decide +kernel
theorem dJ6_bitCount_0f7a4_39 : decode cJ6_bitCount_0f7a4 39 = .ok (.iadd, 1) := by decide +kernel
theorem dJ6_bitCount_0f7a4_40 : decode cJ6_bitCount_0f7a4 40 = .ok (.istore_n 0, 1) := by decide +kernel
theorem dJ6_bitCount_0f7a4_41 : decode cJ6_bitCount_0f7a4 41 = .ok (.iload_n 0, 1) := by decide +kernel
theorem dJ6_bitCount_0f7a4_42 : decode cJ6_bitCount_0f7a4 42 = .ok (.iload_n 0, 1) := by decide +kernel
theorem dJ6_bitCount_0f7a4_43 : decode cJ6_bitCount_0f7a4 43 = .ok (.bipush 16, 2) := by decide +kernel
theorem dJ6_bitCount_0f7a4_45 : decode cJ6_bitCount_0f7a4 45 = .ok (.iushr, 1) := by decide +kernel
theorem dJ6_bitCount_0f7a4_46 : decode cJ6_bitCount_0f7a4 46 = .ok (.iadd, 1) := by decide +kernel
theorem dJ6_bitCount_0f7a4_47 : decode cJ6_bitCount_0f7a4 47 = .ok (.istore_n 0, 1) := by decide +kernel
theorem dJ6_bitCount_0f7a4_48 : decode cJ6_bitCount_0f7a4 48 = .ok (.iload_n 0, 1) := by decide +kernel
theorem dJ6_bitCount_0f7a4_49 : decode cJ6_bitCount_0f7a4 49 = .ok (.bipush 63, 2) := by decide +kernel
theorem dJ6_bitCount_0f7a4_51 : decode cJ6_bitCount_0f7a4 51 = .ok (.iand, 1) := by decide +kernel
theorem dJ6_bitCount_0f7a4_52 : decode cJ6_bitCount_0f7a4 52 = .ok (.ireturn, 1) := by decide +kernel
noncomputable def EJ6_bitCount_0f7a4 : Sx := (sseq (ssi 0 (i2 (· - ·) (il 0) (i2 (· &&& ·) (i2 oushr (il 0) (ik 1)) (ik 1431655765)))) (sseq (ssi 0 (i2 (· + ·) (i2 (· &&& ·) (il 0) (ik 858993459)) (i2 (· &&& ·) (i2 oushr (il 0) (ik 2)) (ik 858993459)))) (sseq (ssi 0 (i2 (· &&& ·) (i2 (· + ·) (il 0) (i2 oushr (il 0) (ik 4))) (ik 252645135))) (sseq (ssi 0 (i2 (· + ·) (il 0) (i2 oushr (il 0) (ik 8)))) (sseq (ssi 0 (i2 (· + ·) (il 0) (i2 oushr (il 0) (ik 16)))) (sret (i2 (· &&& ·) (il 0) (ik 63))))))))
noncomputable def DJ6_bitCount_0f7a4 : Fi := mfi 1 EJ6_bitCount_0f7a4
set_option maxRecDepth 4000 in
theorem BJ6_bitCount_0f7a4 : Vs RJ6 cJ6_bitCount_0f7a4 1 (rmk 0 0) 0 0 EJ6_bitCount_0f7a4 := (v_seq (v_istore_n (i := 0) (v_isub (v_iload_n (i := 0) dJ6_bitCount_0f7a4_0 rfl (rfl : 0 + 1 = 1)) (v_iand (v_iushr (v_iload_n (i := 0) dJ6_bitCount_0f7a4_1 rfl (rfl : 1 + 1 = 2)) (v_iconst (v := 1) dJ6_bitCount_0f7a4_2 (by decide) (rfl : 2 + 1 = 3)) dJ6_bitCount_0f7a4_3 (rfl : 3 + 1 = 4)) (v_ldc_w (v := 1431655765) lk690 dJ6_bitCount_0f7a4_4 (rfl : 4 + 3 = 7)) dJ6_bitCount_0f7a4_7 (rfl : 7 + 1 = 8)) dJ6_bitCount_0f7a4_8 (rfl : 8 + 1 = 9)) dJ6_bitCount_0f7a4_9 rfl (by decide) (rfl : 9 + 1 = 10)) (v_seq (v_istore_n (i := 0) (v_iadd (v_iand (v_iload_n (i := 0) dJ6_bitCount_0f7a4_10 rfl (rfl : 10 + 1 = 11)) (v_ldc_w (v := 858993459) lk691 dJ6_bitCount_0f7a4_11 (rfl : 11 + 3 = 14)) dJ6_bitCount_0f7a4_14 (rfl : 14 + 1 = 15)) (v_iand (v_iushr (v_iload_n (i := 0) dJ6_bitCount_0f7a4_15 rfl (rfl : 15 + 1 = 16)) (v_iconst (v := 2) dJ6_bitCount_0f7a4_16 (by decide) (rfl : 16 + 1 = 17)) dJ6_bitCount_0f7a4_17 (rfl : 17 + 1 = 18)) (v_ldc_w (v := 858993459) lk691 dJ6_bitCount_0f7a4_18 (rfl : 18 + 3 = 21)) dJ6_bitCount_0f7a4_21 (rfl : 21 + 1 = 22)) dJ6_bitCount_0f7a4_22 (rfl : 22 + 1 = 23)) dJ6_bitCount_0f7a4_23 rfl (by decide) (rfl : 23 + 1 = 24)) (v_seq (v_istore_n (i := 0) (v_iand (v_iadd (v_iload_n (i := 0) dJ6_bitCount_0f7a4_24 rfl (rfl : 24 + 1 = 25)) (v_iushr (v_iload_n (i := 0) dJ6_bitCount_0f7a4_25 rfl (rfl : 25 + 1 = 26)) (v_iconst (v := 4) dJ6_bitCount_0f7a4_26 (by decide) (rfl : 26 + 1 = 27)) dJ6_bitCount_0f7a4_27 (rfl : 27 + 1 = 28)) dJ6_bitCount_0f7a4_28 (rfl : 28 + 1 = 29)) (v_ldc_w (v := 252645135) lk692 dJ6_bitCount_0f7a4_29 (rfl : 29 + 3 = 32)) dJ6_bitCount_0f7a4_32 (rfl : 32 + 1 = 33)) dJ6_bitCount_0f7a4_33 rfl (by decide) (rfl : 33 + 1 = 34)) (v_seq (v_istore_n (i := 0) (v_iadd (v_iload_n (i := 0) dJ6_bitCount_0f7a4_34 rfl (rfl : 34 + 1 = 35)) (v_iushr (v_iload_n (i := 0) dJ6_bitCount_0f7a4_35 rfl (rfl : 35 + 1 = 36)) (v_bipush (v := 8) dJ6_bitCount_0f7a4_36 (by decide) (rfl : 36 + 2 = 38)) dJ6_bitCount_0f7a4_38 (rfl : 38 + 1 = 39)) dJ6_bitCount_0f7a4_39 (rfl : 39 + 1 = 40)) dJ6_bitCount_0f7a4_40 rfl (by decide) (rfl : 40 + 1 = 41)) (v_seq (v_istore_n (i := 0) (v_iadd (v_iload_n (i := 0) dJ6_bitCount_0f7a4_41 rfl (rfl : 41 + 1 = 42)) (v_iushr (v_iload_n (i := 0) dJ6_bitCount_0f7a4_42 rfl (rfl : 42 + 1 = 43)) (v_bipush (v := 16) dJ6_bitCount_0f7a4_43 (by decide) (rfl : 43 + 2 = 45)) dJ6_bitCount_0f7a4_45 (rfl : 45 + 1 = 46)) dJ6_bitCount_0f7a4_46 (rfl : 46 + 1 = 47)) dJ6_bitCount_0f7a4_47 rfl (by decide) (rfl : 47 + 1 = 48)) (v_ret (v_iand (v_iload_n (i := 0) dJ6_bitCount_0f7a4_48 rfl (rfl : 48 + 1 = 49)) (v_bipush (v := 63) dJ6_bitCount_0f7a4_49 (by decide) (rfl : 49 + 2 = 51)) dJ6_bitCount_0f7a4_51 (rfl : 51 + 1 = 52)) dJ6_bitCount_0f7a4_52))))))
theorem IJ6_bitCount_0f7a4 : Mi yJ6_bitCount_0f7a4 cJ6_bitCount_0f7a4 1 (rmk 0 0) DJ6_bitCount_0f7a4 := mk_i (by decide +kernel) BJ6_bitCount_0f7a4

theorem dJ6_numberOfTrailingZeros_0f7a4_0 : decode cJ6_numberOfTrailingZeros_0f7a4 0 = .ok (.iload_n 0, 1) := by decide +kernel
theorem dJ6_numberOfTrailingZeros_0f7a4_1 : decode cJ6_numberOfTrailingZeros_0f7a4 1 = .ok (.iconst (-1), 1) := by decide +kernel
theorem dJ6_numberOfTrailingZeros_0f7a4_2 : decode cJ6_numberOfTrailingZeros_0f7a4 2 = .ok (.ixor, 1) := by decide +kernel
theorem dJ6_numberOfTrailingZeros_0f7a4_3 : decode cJ6_numberOfTrailingZeros_0f7a4 3 = .ok (.iload_n 0, 1) := by decide +kernel
theorem dJ6_numberOfTrailingZeros_0f7a4_4 : decode cJ6_numberOfTrailingZeros_0f7a4 4 = .ok (.iconst 1, 1) := by decide +kernel
theorem dJ6_numberOfTrailingZeros_0f7a4_5 : decode cJ6_numberOfTrailingZeros_0f7a4 5 = .ok (.isub, 1) := by decide +kernel
theorem dJ6_numberOfTrailingZeros_0f7a4_6 : decode cJ6_numberOfTrailingZeros_0f7a4 6 = .ok (.iand, 1) := by decide +kernel
theorem dJ6_numberOfTrailingZeros_0f7a4_7 : decode cJ6_numberOfTrailingZeros_0f7a4 7 = .ok (.istore_n 0, 1) := by decide +kernel
theorem dJ6_numberOfTrailingZeros_0f7a4_8 : decode cJ6_numberOfTrailingZeros_0f7a4 8 = .ok (.iload_n 0, 1) := by decide +kernel
theorem dJ6_numberOfTrailingZeros_0f7a4_9 : decode cJ6_numberOfTrailingZeros_0f7a4 9 = .ok (.ifCond .gt 8, 3) := by decide +kernel
theorem dJ6_numberOfTrailingZeros_0f7a4_12 : decode cJ6_numberOfTrailingZeros_0f7a4 12 = .ok (.iload_n 0, 1) := by decide +kernel
theorem dJ6_numberOfTrailingZeros_0f7a4_13 : decode cJ6_numberOfTrailingZeros_0f7a4 13 = .ok (.bipush 32, 2) := by decide +kernel
theorem dJ6_numberOfTrailingZeros_0f7a4_15 : decode cJ6_numberOfTrailingZeros_0f7a4 15 = .ok (.iand, 1) := by decide +kernel
theorem dJ6_numberOfTrailingZeros_0f7a4_16 : decode cJ6_numberOfTrailingZeros_0f7a4 16 = .ok (.ireturn, 1) := by decide +kernel
theorem dJ6_numberOfTrailingZeros_0f7a4_17 : decode cJ6_numberOfTrailingZeros_0f7a4 17 = .ok (.iconst 1, 1) := by decide +kernel
theorem dJ6_numberOfTrailingZeros_0f7a4_18 : decode cJ6_numberOfTrailingZeros_0f7a4 18 = .ok (.istore_n 1, 1) := by decide +kernel
theorem dJ6_numberOfTrailingZeros_0f7a4_19 : decode cJ6_numberOfTrailingZeros_0f7a4 19 = .ok (.iload_n 0, 1) := by decide +kernel
theorem dJ6_numberOfTrailingZeros_0f7a4_20 : decode cJ6_numberOfTrailingZeros_0f7a4 20 = .ok (.ldc_w 264, 3) := by decide +kernel
theorem dJ6_numberOfTrailingZeros_0f7a4_23 : decode cJ6_numberOfTrailingZeros_0f7a4 23 = .ok (.if_icmp .le 11, 3) := by decide +kernel
theorem dJ6_numberOfTrailingZeros_0f7a4_26 : decode cJ6_numberOfTrailingZeros_0f7a4 26 = .ok (.iinc 1 16, 3) := by decide +kernel
theorem dJ6_numberOfTrailingZeros_0f7a4_29 : decode cJ6_numberOfTrailingZeros_0f7a4 29 = .ok (.iload_n 0, 1) := by decide +kernel
theorem dJ6_numberOfTrailingZeros_0f7a4_30 : decode cJ6_numberOfTrailingZeros_0f7a4 30 = .ok (.bipush 16, 2) := by decide +kernel
theorem dJ6_numberOfTrailingZeros_0f7a4_32 : decode cJ6_numberOfTrailingZeros_0f7a4 32 = .ok (.iushr, 1) := by decide +kernel
theorem dJ6_numberOfTrailingZeros_0f7a4_33 : decode cJ6_numberOfTrailingZeros_0f7a4 33 = .ok (.istore_n 0, 1) := by decide +kernel
theorem dJ6_numberOfTrailingZeros_0f7a4_34 : decode cJ6_numberOfTrailingZeros_0f7a4 34 = .ok (.iload_n 0, 1) := by decide +kernel
theorem dJ6_numberOfTrailingZeros_0f7a4_35 : decode cJ6_numberOfTrailingZeros_0f7a4 35 = .ok (.sipush 256, 3) := by decide +kernel
theorem dJ6_numberOfTrailingZeros_0f7a4_38 : decode cJ6_numberOfTrailingZeros_0f7a4 38 = .ok (.if_icmp .le 11, 3) := by decide +kernel
theorem dJ6_numberOfTrailingZeros_0f7a4_41 : decode cJ6_numberOfTrailingZeros_0f7a4 41 = .ok (.iinc 1 8, 3) := by decide +kernel
theorem dJ6_numberOfTrailingZeros_0f7a4_44 : decode cJ6_numberOfTrailingZeros_0f7a4 44 = .ok (.iload_n 0, 1) := by decide +kernel
theorem dJ6_numberOfTrailingZeros_0f7a4_45 : decode cJ6_numberOfTrailingZeros_0f7a4 45 = .ok (.bipush 8, 2) := by decide +kernel
theorem dJ6_numberOfTrailingZeros_0f7a4_47 : decode cJ6_numberOfTrailingZeros_0f7a4 47 = .ok (.iushr, 1) := by decide +kernel
theorem dJ6_numberOfTrailingZeros_0f7a4_48 : decode cJ6_numberOfTrailingZeros_0f7a4 48 = .ok (.istore_n 0, 1) := by decide +kernel
theorem dJ6_numberOfTrailingZeros_0f7a4_49 : decode cJ6_numberOfTrailingZeros_0f7a4 49 = .ok (.iload_n 0, 1) := by decide +kernel
theorem dJ6_numberOfTrailingZeros_0f7a4_50 : decode cJ6_numberOfTrailingZeros_0f7a4 50 = .ok (.bipush 16, 2) := by decide +kernel
theorem dJ6_numberOfTrailingZeros_0f7a4_52 : decode cJ6_numberOfTrailingZeros_0f7a4 52 = .ok (.if_icmp .le 10, 3) := by decide +kernel
theorem dJ6_numberOfTrailingZeros_0f7a4_55 : decode cJ6_numberOfTrailingZeros_0f7a4 55 = .ok (.iinc 1 4, 3) := by decide +kernel
theorem dJ6_numberOfTrailingZeros_0f7a4_58 : decode cJ6_numberOfTrailingZeros_0f7a4 58 = .ok (.iload_n 0, 1) := by decide +kernel
theorem dJ6_numberOfTrailingZeros_0f7a4_59 : decode cJ6_numberOfTrailingZeros_0f7a4 59 = .ok (.iconst 4, 1) := by decide +kernel
theorem dJ6_numberOfTrailingZeros_0f7a4_60 : decode cJ6_numberOfTrailingZeros_0f7a4 60 = .ok (.iushr, 1) := by decide +kernel
theorem dJ6_numberOfTrailingZeros_0f7a4_61 : decode cJ6_numberOfTrailingZeros_0f7a4 61 = .ok (.istore_n 0, 1) := by decide +kernel
theorem dJ6_numberOfTrailingZeros_0f7a4_62 : decode cJ6_numberOfTrailingZeros_0f7a4 62 = .ok (.iload_n 0, 1) := by decide +kernel
theorem dJ6_numberOfTrailingZeros_0f7a4_63 : decode cJ6_numberOfTrailingZeros_0f7a4 63 = .ok (.iconst 4, 1) := by decide +kernel
theorem dJ6_numberOfTrailingZeros_0f7a4_64 : decode cJ6_numberOfTrailingZeros_0f7a4 64 = .ok (.if_icmp .le 10, 3) := by decide +kernel
theorem dJ6_numberOfTrailingZeros_0f7a4_67 : decode cJ6_numberOfTrailingZeros_0f7a4 67 = .ok (.iinc 1 2, 3) := by decide +kernel
theorem dJ6_numberOfTrailingZeros_0f7a4_70 : decode cJ6_numberOfTrailingZeros_0f7a4 70 = .ok (.iload_n 0, 1) := by decide +kernel
theorem dJ6_numberOfTrailingZeros_0f7a4_71 : decode cJ6_numberOfTrailingZeros_0f7a4 71 = .ok (.iconst 2, 1) := by decide +kernel
theorem dJ6_numberOfTrailingZeros_0f7a4_72 : decode cJ6_numberOfTrailingZeros_0f7a4 72 = .ok (.iushr, 1) := by decide +kernel
theorem dJ6_numberOfTrailingZeros_0f7a4_73 : decode cJ6_numberOfTrailingZeros_0f7a4 73 = .ok (.istore_n 0, 1) := by decide +kernel
theorem dJ6_numberOfTrailingZeros_0f7a4_74 : decode cJ6_numberOfTrailingZeros_0f7a4 74 = .ok (.iload_n 1, 1) := by decide +kernel
theorem dJ6_numberOfTrailingZeros_0f7a4_75 : decode cJ6_numberOfTrailingZeros_0f7a4 75 = .ok (.iload_n 0, 1) := by decide +kernel
theorem dJ6_numberOfTrailingZeros_0f7a4_76 : decode cJ6_numberOfTrailingZeros_0f7a4 76 = .ok (.iconst 1, 1) := by decide +kernel
theorem dJ6_numberOfTrailingZeros_0f7a4_77 : decode cJ6_numberOfTrailingZeros_0f7a4 77 = .ok (.iushr, 1) := by decide +kernel
theorem dJ6_numberOfTrailingZeros_0f7a4_78 : decode cJ6_numberOfTrailingZeros_0f7a4 78 = .ok (.iadd, 1) := by decide +kernel
theorem dJ6_numberOfTrailingZeros_0f7a4_79 : decode cJ6_numberOfTrailingZeros_0f7a4 79 = .ok (.ireturn, 1) := by decide +kernel
noncomputable def EJ6_numberOfTrailingZeros_0f7a4 : Sx := (sseq (ssi 0 (i2 (· &&& ·) (i2 (· ^^^ ·) (il 0) (ik (-1))) (i2 (· - ·) (il 0) (ik 1)))) (sseq (sif (bz cle (il 0)) (sret (i2 (· &&& ·) (il 0) (ik 32))) snop) (sseq (ssi 1 (ik 1)) (sseq (sif (bc cgt (il 0) (ik 65536)) (sseq (sinc 1 16) (ssi 0 (i2 oushr (il 0) (ik 16)))) snop) (sseq (sif (bc cgt (il 0) (ik 256)) (sseq (sinc 1 8) (ssi 0 (i2 oushr (il 0) (ik 8)))) snop) (sseq (sif (bc cgt (il 0) (ik 16)) (sseq (sinc 1 4) (ssi 0 (i2 oushr (il 0) (ik 4)))) snop) (sseq (sif (bc cgt (il 0) (ik 4)) (sseq (sinc 1 2) (ssi 0 (i2 oushr (il 0) (ik 2)))) snop) (sret (i2 (· + ·) (il 1) (i2 oushr (il 0) (ik 1)))))))))))
noncomputable def DJ6_numberOfTrailingZeros_0f7a4 : Fi := mfi 2 EJ6_numberOfTrailingZeros_0f7a4
set_option maxRecDepth 4000 in
theorem BJ6_numberOfTrailingZeros_0f7a4 : Vs RJ6 cJ6_numberOfTrailingZeros_0f7a4 2 (rmk 0 0) 0 0 EJ6_numberOfTrailingZeros_0f7a4 := (v_seq (v_istore_n (i := 0) (v_iand (v_ixor (v_iload_n (i := 0) dJ6_numberOfTrailingZeros_0f7a4_0 rfl (rfl : 0 + 1 = 1)) (v_iconst (v := (-1)) dJ6_numberOfTrailingZeros_0f7a4_1 (by decide) (rfl : 1 + 1 = 2)) dJ6_numberOfTrailingZeros_0f7a4_2 (rfl : 2 + 1 = 3)) (v_isub (v_iload_n (i := 0) dJ6_numberOfTrailingZeros_0f7a4_3 rfl (rfl : 3 + 1 = 4)) (v_iconst (v := 1) dJ6_numberOfTrailingZeros_0f7a4_4 (by decide) (rfl : 4 + 1 = 5)) dJ6_numberOfTrailingZeros_0f7a4_5 (rfl : 5 + 1 = 6)) dJ6_numberOfTrailingZeros_0f7a4_6 (rfl : 6 + 1 = 7)) dJ6_numberOfTrailingZeros_0f7a4_7 rfl (by decide) (rfl : 7 + 1 = 8)) (v_seq (v_if (v_zle_f (v_iload_n (i := 0) dJ6_numberOfTrailingZeros_0f7a4_8 rfl (rfl : 8 + 1 = 9)) dJ6_numberOfTrailingZeros_0f7a4_9 (rfl : ((9 : Nat) : Int) + 8 = ((17 : Nat) : Int)) (rfl : 9 + 3 = 12)) (v_ret (v_iand (v_iload_n (i := 0) dJ6_numberOfTrailingZeros_0f7a4_12 rfl (rfl : 12 + 1 = 13)) (v_bipush (v := 32) dJ6_numberOfTrailingZeros_0f7a4_13 (by decide) (rfl : 13 + 2 = 15)) dJ6_numberOfTrailingZeros_0f7a4_15 (rfl : 15 + 1 = 16)) dJ6_numberOfTrailingZeros_0f7a4_16) v_nop) (v_seq (v_istore_n (i := 1) (v_iconst (v := 1) dJ6_numberOfTrailingZeros_0f7a4_17 (by decide) (rfl : 17 + 1 = 18)) dJ6_numberOfTrailingZeros_0f7a4_18 rfl (by decide) (rfl : 18 + 1 = 19)) (v_seq (v_if (v_igt_f (v_iload_n (i := 0) dJ6_numberOfTrailingZeros_0f7a4_19 rfl (rfl : 19 + 1 = 20)) (v_ldc_w (v := 65536) lk925 dJ6_numberOfTrailingZeros_0f7a4_20 (rfl : 20 + 3 = 23)) dJ6_numberOfTrailingZeros_0f7a4_23 (rfl : ((23 : Nat) : Int) + 11 = ((34 : Nat) : Int)) (rfl : 23 + 3 = 26)) (v_seq (v_iinc (v := 16) dJ6_numberOfTrailingZeros_0f7a4_26 (by decide) (by decide) (rfl : 26 + 3 = 29)) (v_istore_n (i := 0) (v_iushr (v_iload_n (i := 0) dJ6_numberOfTrailingZeros_0f7a4_29 rfl (rfl : 29 + 1 = 30)) (v_bipush (v := 16) dJ6_numberOfTrailingZeros_0f7a4_30 (by decide) (rfl : 30 + 2 = 32)) dJ6_numberOfTrailingZeros_0f7a4_32 (rfl : 32 + 1 = 33)) dJ6_numberOfTrailingZeros_0f7a4_33 rfl (by decide) (rfl : 33 + 1 = 34))) v_nop) (v_seq (v_if (v_igt_f (v_iload_n (i := 0) dJ6_numberOfTrailingZeros_0f7a4_34 rfl (rfl : 34 + 1 = 35)) (v_sipush (v := 256) dJ6_numberOfTrailingZeros_0f7a4_35 (by decide) (rfl : 35 + 3 = 38)) dJ6_numberOfTrailingZeros_0f7a4_38 (rfl : ((38 : Nat) : Int) + 11 = ((49 : Nat) : Int)) (rfl : 38 + 3 = 41)) (v_seq (v_iinc (v := 8) dJ6_numberOfTrailingZeros_0f7a4_41 (by decide) (by decide) (rfl : 41 + 3 = 44)) (v_istore_n (i := 0) (v_iushr (v_iload_n (i := 0) dJ6_numberOfTrailingZeros_0f7a4_44 rfl (rfl : 44 + 1 = 45)) (v_bipush (v := 8) dJ6_numberOfTrailingZeros_0f7a4_45 (by decide) (rfl : 45 + 2 = 47)) dJ6_numberOfTrailingZeros_0f7a4_47 (rfl : 47 + 1 = 48)) dJ6_numberOfTrailingZeros_0f7a4_48 rfl (by decide) (rfl : 48 + 1 = 49))) v_nop) (v_seq (v_if (v_igt_f (v_iload_n (i := 0) dJ6_numberOfTrailingZeros_0f7a4_49 rfl (rfl : 49 + 1 = 50)) (v_bipush (v := 16) dJ6_numberOfTrailingZeros_0f7a4_50 (by decide) (rfl : 50 + 2 = 52)) dJ6_numberOfTrailingZeros_0f7a4_52 (rfl : ((52 : Nat) : Int) + 10 = ((62 : Nat) : Int)) (rfl : 52 + 3 = 55)) (v_seq (v_iinc (v := 4) dJ6_numberOfTrailingZeros_0f7a4_55 (by decide) (by decide) (rfl : 55 + 3 = 58)) (v_istore_n (i := 0) (v_iushr (v_iload_n (i := 0) dJ6_numberOfTrailingZeros_0f7a4_58 rfl (rfl : 58 + 1 = 59)) (v_iconst (v := 4) dJ6_numberOfTrailingZeros_0f7a4_59 (by decide) (rfl : 59 + 1 = 60)) dJ6_numberOfTrailingZeros_0f7a4_60 (rfl : 60 + 1 = 61)) dJ6_numberOfTrailingZeros_0f7a4_61 rfl (by decide) (rfl : 61 + 1 = 62))) v_nop) (v_seq (v_if (v_igt_f (v_iload_n (i := 0) dJ6_numberOfTrailingZeros_0f7a4_62 rfl (rfl : 62 + 1 = 63)) (v_iconst (v := 4) dJ6_numberOfTrailingZeros_0f7a4_63 (by decide) (rfl : 63 + 1 = 64)) dJ6_numberOfTrailingZeros_0f7a4_64 (rfl : ((64 : Nat) : Int) + 10 = ((74 : Nat) : Int)) (rfl : 64 + 3 = 67)) (v_seq (v_iinc (v := 2) dJ6_numberOfTrailingZeros_0f7a4_67 (by decide) (by decide) (rfl : 67 + 3 = 70)) (v_istore_n (i := 0) (v_iushr (v_iload_n (i := 0) dJ6_numberOfTrailingZeros_0f7a4_70 rfl (rfl : 70 + 1 = 71)) (v_iconst (v := 2) dJ6_numberOfTrailingZeros_0f7a4_71 (by decide) (rfl : 71 + 1 = 72)) dJ6_numberOfTrailingZeros_0f7a4_72 (rfl : 72 + 1 = 73)) dJ6_numberOfTrailingZeros_0f7a4_73 rfl (by decide) (rfl : 73 + 1 = 74))) v_nop) (v_ret (v_iadd (v_iload_n (i := 1) dJ6_numberOfTrailingZeros_0f7a4_74 rfl (rfl : 74 + 1 = 75)) (v_iushr (v_iload_n (i := 0) dJ6_numberOfTrailingZeros_0f7a4_75 rfl (rfl : 75 + 1 = 76)) (v_iconst (v := 1) dJ6_numberOfTrailingZeros_0f7a4_76 (by decide) (rfl : 76 + 1 = 77)) dJ6_numberOfTrailingZeros_0f7a4_77 (rfl : 77 + 1 = 78)) dJ6_numberOfTrailingZeros_0f7a4_78 (rfl : 78 + 1 = 79)) dJ6_numberOfTrailingZeros_0f7a4_79))))))))
theorem IJ6_numberOfTrailingZeros_0f7a4 : Mi yJ6_numberOfTrailingZeros_0f7a4 cJ6_numberOfTrailingZeros_0f7a4 2 (rmk 0 0) DJ6_numberOfTrailingZeros_0f7a4 := mk_i (by decide +kernel) BJ6_numberOfTrailingZeros_0f7a4

theorem dJ7_fill_53178_0 : decode cJ7_fill_53178 0 = .ok (.iconst 0, 1) := by decide +kernel
theorem dJ7_fill_53178_1 : decode cJ7_fill_53178 1 = .ok (.istore_n 2, 1) := by decide +kernel
theorem dJ7_fill_53178_2 : decode cJ7_fill_53178 2 = .ok (.aload_n 0, 1) := by decide +kernel
theorem dJ7_fill_53178_3 : decode cJ7_fill_53178 3 = .ok (.arraylength, 1) := by decide +kernel
theorem dJ7_fill_53178_4 : decode cJ7_fill_53178 4 = .ok (.istore_n 3, 1) := by decide +kernel
theorem dJ7_fill_53178_5 : decode cJ7_fill_53178 5 = .ok (.iload_n 2, 1) := by decide +kernel
theorem dJ7_fill_53178_6 : decode cJ7_fill_53178 6 = .ok (.iload_n 3, 1) := by decide +kernel
theorem dJ7_fill_53178_7 : decode cJ7_fill_53178 7 = .ok (.if_icmp .ge 13, 3) := by decide +kernel
theorem dJ7_fill_53178_10 : decode cJ7_fill_53178 10 = .ok (.aload_n 0, 1) := by decide +kernel
theorem dJ7_fill_53178_11 : decode cJ7_fill_53178 11 = .ok (.iload_n 2, 1) := by decide +kernel
theorem dJ7_fill_53178_12 : decode cJ7_fill_53178 12 = .ok (.iload_n 1, 1) := by decide +kernel
theorem dJ7_fill_53178_13 : decode cJ7_fill_53178 13 = .ok (.iastore, 1) := by decide +kernel
theorem dJ7_fill_53178_14 : decode cJ7_fill_53178 14 = .ok (.iinc 2 1, 3) := by decide +kernel
theorem dJ7_fill_53178_17 : decode cJ7_fill_53178 17 = .ok (.goto (-12), 3) := by decide +kernel
theorem dJ7_fill_53178_20 : decode cJ7_fill_53178 20 = .ok (.return_, 1) := by decide +kernel
noncomputable def qJ7_fill_53178_1 : Bx := (bc clt (il 2) (il 3))
noncomputable def wJ7_fill_53178_1 : Sx := (sseq (aii (rl 0) (il 2) (il 1)) (sinc 2 1))
noncomputable def EJ7_fill_53178 : Sx := (sseq (scut 2 (sseq (sseq (ssi 2 (ik 0)) (ssi 3 (alen 8 (rl 0)))) (swh qJ7_fill_53178_1 wJ7_fill_53178_1))) sretv)
noncomputable def DJ7_fill_53178 : Fu := mfv 4 EJ7_fill_53178
set_option maxRecDepth 4000 in
theorem BJ7_fill_53178 : Vs RJ7 cJ7_fill_53178 4 (rmk 0 0) 0 0 EJ7_fill_53178 := (v_seq (v_cut (n := 2) (v_seq (v_seq (v_istore_n (i := 2) (v_iconst (v := 0) dJ7_fill_53178_0 (by decide) (rfl : 0 + 1 = 1)) dJ7_fill_53178_1 rfl (by decide) (rfl : 1 + 1 = 2)) (v_istore_n (i := 3) (v_alen (q := 8) (t0 := 0) (ty0 := .int) ⟨by decide, by decide⟩ (fun _ => rfl) (v_aload_n (i := 0) dJ7_fill_53178_2 rfl (rfl : 2 + 1 = 3)) dJ7_fill_53178_3 (rfl : 3 + 1 = 4)) dJ7_fill_53178_4 rfl (by decide) (rfl : 4 + 1 = 5))) (v_wh (v_ilt_f (v_iload_n (i := 2) dJ7_fill_53178_5 rfl (rfl : 5 + 1 = 6)) (v_iload_n (i := 3) dJ7_fill_53178_6 rfl (rfl : 6 + 1 = 7)) dJ7_fill_53178_7 (rfl : ((7 : Nat) : Int) + 13 = ((20 : Nat) : Int)) (rfl : 7 + 3 = 10)) (vs_goto (v_seq (v_aii (v_aload_n (i := 0) dJ7_fill_53178_10 rfl (rfl : 10 + 1 = 11)) (v_iload_n (i := 2) dJ7_fill_53178_11 rfl (rfl : 11 + 1 = 12)) (v_iload_n (i := 1) dJ7_fill_53178_12 rfl (rfl : 12 + 1 = 13)) dJ7_fill_53178_13 (rfl : 13 + 1 = 14)) (v_iinc (v := 1) dJ7_fill_53178_14 (by decide) (by decide) (rfl : 14 + 3 = 17))) dJ7_fill_53178_17 (rfl : ((17 : Nat) : Int) + (-12) = ((5 : Nat) : Int)))))) (v_retv dJ7_fill_53178_20))
theorem IJ7_fill_53178 : Mv yJ7_fill_53178 cJ7_fill_53178 4 (rmk 0 0) DJ7_fill_53178 := mk_v (by decide +kernel) BJ7_fill_53178

theorem dJ7_fill_d0a16_0 : decode cJ7_fill_d0a16 0 = .ok (.iconst 0, 1) := by decide +kernel
theorem dJ7_fill_d0a16_1 : decode cJ7_fill_d0a16 1 = .ok (.istore_n 3, 1) := by decide +kernel
theorem dJ7_fill_d0a16_2 : decode cJ7_fill_d0a16 2 = .ok (.aload_n 0, 1) := by decide +kernel
theorem dJ7_fill_d0a16_3 : decode cJ7_fill_d0a16 3 = .ok (.arraylength, 1) := by decide +kernel
theorem dJ7_fill_d0a16_4 : decode cJ7_fill_d0a16 4 = .ok (.istore 4, 2) := by decide +kernel
theorem dJ7_fill_d0a16_6 : decode cJ7_fill_d0a16 6 = .ok (.iload_n 3, 1) := by decide +kernel
theorem dJ7_fill_d0a16_7 : decode cJ7_fill_d0a16 7 = .ok (.iload 4, 2) := by decide +kernel
theorem dJ7_fill_d0a16_9 : decode cJ7_fill_d0a16 9 = .ok (.if_icmp .ge 13, 3) := by decide +kernel
theorem dJ7_fill_d0a16_12 : decode cJ7_fill_d0a16 12 = .ok (.aload_n 0, 1) := by decide +kernel
theorem dJ7_fill_d0a16_13 : decode cJ7_fill_d0a16 13 = .ok (.iload_n 3, 1) := by decide +kernel
theorem dJ7_fill_d0a16_14 : decode cJ7_fill_d0a16 14 = .ok (.lload_n 1, 1) := by decide +kernel
theorem dJ7_fill_d0a16_15 : decode cJ7_fill_d0a16 15 = .ok (.lastore, 1) := by decide +kernel
theorem dJ7_fill_d0a16_16 : decode cJ7_fill_d0a16 16 = .ok (.iinc 3 1, 3) := by decide +kernel
theorem dJ7_fill_d0a16_19 : decode cJ7_fill_d0a16 19 = .ok (.goto (-13), 3) := by decide +kernel
theorem dJ7_fill_d0a16_22 : decode cJ7_fill_d0a16 22 = .ok (.return_, 1) := by decide +kernel
noncomputable def qJ7_fill_d0a16_1 : Bx := (bc clt (il 3) (il 4))
noncomputable def wJ7_fill_d0a16_1 : Sx := (sseq (aij (rl 0) (il 3) (jl 1)) (sinc 3 1))
noncomputable def EJ7_fill_d0a16 : Sx := (sseq (scut 3 (sseq (sseq (ssi 3 (ik 0)) (ssi 4 (alen 9 (rl 0)))) (swh qJ7_fill_d0a16_1 wJ7_fill_d0a16_1))) sretv)
noncomputable def DJ7_fill_d0a16 : Fu := mfv 5 EJ7_fill_d0a16
set_option maxRecDepth 4000 in
theorem BJ7_fill_d0a16 : Vs RJ7 cJ7_fill_d0a16 5 (rmk 0 0) 0 0 EJ7_fill_d0a16 := (v_seq (v_cut (n := 3) (v_seq (v_seq (v_istore_n (i := 3) (v_iconst (v := 0) dJ7_fill_d0a16_0 (by decide) (rfl : 0 + 1 = 1)) dJ7_fill_d0a16_1 rfl (by decide) (rfl : 1 + 1 = 2)) (v_istore (i := 4) (v_alen (q := 9) (t0 := 1) (ty0 := .long) ⟨by decide, by decide⟩ (fun _ => rfl) (v_aload_n (i := 0) dJ7_fill_d0a16_2 rfl (rfl : 2 + 1 = 3)) dJ7_fill_d0a16_3 (rfl : 3 + 1 = 4)) dJ7_fill_d0a16_4 (by decide) (rfl : 4 + 2 = 6))) (v_wh (v_ilt_f (v_iload_n (i := 3) dJ7_fill_d0a16_6 rfl (rfl : 6 + 1 = 7)) (v_iload (i := 4) dJ7_fill_d0a16_7 (rfl : 7 + 2 = 9)) dJ7_fill_d0a16_9 (rfl : ((9 : Nat) : Int) + 13 = ((22 : Nat) : Int)) (rfl : 9 + 3 = 12)) (vs_goto (v_seq (v_aij (v_aload_n (i := 0) dJ7_fill_d0a16_12 rfl (rfl : 12 + 1 = 13)) (v_iload_n (i := 3) dJ7_fill_d0a16_13 rfl (rfl : 13 + 1 = 14)) (v_lload_n (i := 1) dJ7_fill_d0a16_14 rfl (rfl : 14 + 1 = 15)) dJ7_fill_d0a16_15 (rfl : 15 + 1 = 16)) (v_iinc (v := 1) dJ7_fill_d0a16_16 (by decide) (by decide) (rfl : 16 + 3 = 19))) dJ7_fill_d0a16_19 (rfl : ((19 : Nat) : Int) + (-13) = ((6 : Nat) : Int)))))) (v_retv dJ7_fill_d0a16_22))
theorem IJ7_fill_d0a16 : Mv yJ7_fill_d0a16 cJ7_fill_d0a16 5 (rmk 0 0) DJ7_fill_d0a16 := mk_v (by decide +kernel) BJ7_fill_d0a16

theorem dX0_isInverted_0 : decode cX0_isInverted 0 = .ok (.aload_n 0, 1) := by decide +kernel
theorem dX0_isInverted_1 : decode cX0_isInverted 1 = .ok (.getfield 61, 3) := by decide +kernel
theorem dX0_isInverted_4 : decode cX0_isInverted 4 = .ok (.iload_n 1, 1) := by decide +kernel
theorem dX0_isInverted_5 : decode cX0_isInverted 5 = .ok (.ishr, 1) := by decide +kernel
theorem dX0_isInverted_6 : decode cX0_isInverted 6 = .ok (.iconst 1, 1) := by decide +kernel
theorem dX0_isInverted_7 : decode cX0_isInverted 7 = .ok (.iand, 1) := by decide +kernel
theorem dX0_isInverted_8 : decode cX0_isInverted 8 = .ok (.ifCond .eq 7, 3) := by decide +kernel
theorem dX0_isInverted_11 : decode cX0_isInverted 11 = .ok (.iconst 1, 1) := by decide +kernel
theorem dX0_isInverted_12 : decode cX0_isInverted 12 = .ok (.goto 4, 3) := by decide +kernel
theorem dX0_isInverted_15 : decode cX0_isInverted 15 = .ok (.iconst 0, 1) := by decide +kernel
theorem dX0_isInverted_16 : decode cX0_isInverted 16 = .ok (.ireturn, 1) := by decide +kernel
noncomputable def EX0_isInverted : Sx := (sret (ic (bz cne (i2 (· &&& ·) (i2 oshr (fgi 0 4 (rl 0)) (il 1)) (ik 1))) (ik 1) (ik 0)))
noncomputable def DX0_isInverted : Fz := mfz 2 EX0_isInverted
set_option maxRecDepth 4000 in
theorem BX0_isInverted : Vs RX0 cX0_isInverted 2 (rmk 0 0) 0 0 EX0_isInverted := (v_ret (v_ic (v_zne_f (v_iand (v_ishr (v_gfi kX0 lk210 (by decide) rfl (v_aload_n (i := 0) dX0_isInverted_0 rfl (rfl : 0 + 1 = 1)) dX0_isInverted_1 (rfl : 1 + 3 = 4)) (v_iload_n (i := 1) dX0_isInverted_4 rfl (rfl : 4 + 1 = 5)) dX0_isInverted_5 (rfl : 5 + 1 = 6)) (v_iconst (v := 1) dX0_isInverted_6 (by decide) (rfl : 6 + 1 = 7)) dX0_isInverted_7 (rfl : 7 + 1 = 8)) dX0_isInverted_8 (rfl : ((8 : Nat) : Int) + 7 = ((15 : Nat) : Int)) (rfl : 8 + 3 = 11)) (vi_goto (v_iconst (v := 1) dX0_isInverted_11 (by decide) (rfl : 11 + 1 = 12)) dX0_isInverted_12 (rfl : ((12 : Nat) : Int) + 4 = ((16 : Nat) : Int))) (v_iconst (v := 0) dX0_isInverted_15 (by decide) (rfl : 15 + 1 = 16))) dX0_isInverted_16)
theorem IX0_isInverted : Mz yX0_isInverted cX0_isInverted 2 (rmk 0 0) DX0_isInverted := mk_z (by decide +kernel) BX0_isInverted

theorem dX0_runs_0 : decode cX0_runs 0 = .ok (.aload_n 0, 1) := by decide +kernel
theorem dX0_runs_1 : decode cX0_runs 1 = .ok (.getfield 11, 3) := by decide +kernel
theorem dX0_runs_4 : decode cX0_runs 4 = .ok (.bipush 28, 2) := by decide +kernel
theorem dX0_runs_6 : decode cX0_runs 6 = .ok (.iload_n 1, 1) := by decide +kernel
theorem dX0_runs_7 : decode cX0_runs 7 = .ok (.iconst 5, 1) := by decide +kernel
theorem dX0_runs_8 : decode cX0_runs 8 = .ok (.imul, 1) := by decide +kernel
theorem dX0_runs_9 : decode cX0_runs 9 = .ok (.iadd, 1) := by decide +kernel
theorem dX0_runs_10 : decode cX0_runs 10 = .ok (.iconst 1, 1) := by decide +kernel
theorem dX0_runs_11 : decode cX0_runs 11 = .ok (.iadd, 1) := by decide +kernel
theorem dX0_runs_12 : decode cX0_runs 12 = .ok (.iaload, 1) := by decide +kernel
theorem dX0_runs_13 : decode cX0_runs 13 = .ok (.ifCond .eq 7, 3) := by decide +kernel
theorem dX0_runs_16 : decode cX0_runs 16 = .ok (.iconst 1, 1) := by decide +kernel
theorem dX0_runs_17 : decode cX0_runs 17 = .ok (.goto 4, 3) := by decide +kernel
theorem dX0_runs_20 : decode cX0_runs 20 = .ok (.iconst 0, 1) := by decide +kernel
theorem dX0_runs_21 : decode cX0_runs 21 = .ok (.ireturn, 1) := by decide +kernel
noncomputable def EX0_runs : Sx := (sret (ic (bz cne (iald (fgr 0 0 (rl 0)) (i2 (· + ·) (i2 (· + ·) (ik 28) (i2 (· * ·) (il 1) (ik 5))) (ik 1)))) (ik 1) (ik 0)))
noncomputable def DX0_runs : Fz := mfz 2 EX0_runs
set_option maxRecDepth 4000 in
theorem BX0_runs : Vs RX0 cX0_runs 2 (rmk 0 0) 0 0 EX0_runs := (v_ret (v_ic (v_zne_f (v_iald (v_gfr kX0 lk206 (by decide) rfl (v_aload_n (i := 0) dX0_runs_0 rfl (rfl : 0 + 1 = 1)) dX0_runs_1 (rfl : 1 + 3 = 4)) (v_iadd (v_iadd (v_bipush (v := 28) dX0_runs_4 (by decide) (rfl : 4 + 2 = 6)) (v_imul (v_iload_n (i := 1) dX0_runs_6 rfl (rfl : 6 + 1 = 7)) (v_iconst (v := 5) dX0_runs_7 (by decide) (rfl : 7 + 1 = 8)) dX0_runs_8 (rfl : 8 + 1 = 9)) dX0_runs_9 (rfl : 9 + 1 = 10)) (v_iconst (v := 1) dX0_runs_10 (by decide) (rfl : 10 + 1 = 11)) dX0_runs_11 (rfl : 11 + 1 = 12)) dX0_runs_12 (rfl : 12 + 1 = 13)) dX0_runs_13 (rfl : ((13 : Nat) : Int) + 7 = ((20 : Nat) : Int)) (rfl : 13 + 3 = 16)) (vi_goto (v_iconst (v := 1) dX0_runs_16 (by decide) (rfl : 16 + 1 = 17)) dX0_runs_17 (rfl : ((17 : Nat) : Int) + 4 = ((21 : Nat) : Int))) (v_iconst (v := 0) dX0_runs_20 (by decide) (rfl : 20 + 1 = 21))) dX0_runs_21)
theorem IX0_runs : Mz yX0_runs cX0_runs 2 (rmk 0 0) DX0_runs := mk_z (by decide +kernel) BX0_runs

theorem dX0_comesIn_0 : decode cX0_comesIn 0 = .ok (.iconst 0, 1) := by decide +kernel
theorem dX0_comesIn_1 : decode cX0_comesIn 1 = .ok (.istore_n 2, 1) := by decide +kernel
theorem dX0_comesIn_2 : decode cX0_comesIn 2 = .ok (.iload_n 2, 1) := by decide +kernel
theorem dX0_comesIn_3 : decode cX0_comesIn 3 = .ok (.aload_n 0, 1) := by decide +kernel
theorem dX0_comesIn_4 : decode cX0_comesIn 4 = .ok (.getfield 11, 3) := by decide +kernel
theorem dX0_comesIn_7 : decode cX0_comesIn 7 = .ok (.iconst 0, 1) := by decide +kernel
theorem dX0_comesIn_8 : decode cX0_comesIn 8 = .ok (.iaload, 1) := by decide +kernel
theorem dX0_comesIn_9 : decode cX0_comesIn 9 = .ok (.if_icmp .ge 31, 3) := by decide +kernel
theorem dX0_comesIn_12 : decode cX0_comesIn 12 = .ok (.iload_n 1, 1) := by decide +kernel
theorem dX0_comesIn_13 : decode cX0_comesIn 13 = .ok (.iload_n 2, 1) := by decide +kernel
theorem dX0_comesIn_14 : decode cX0_comesIn 14 = .ok (.ishr, 1) := by decide +kernel
theorem dX0_comesIn_15 : decode cX0_comesIn 15 = .ok (.iconst 1, 1) := by decide +kernel
theorem dX0_comesIn_16 : decode cX0_comesIn 16 = .ok (.iand, 1) := by decide +kernel
theorem dX0_comesIn_17 : decode cX0_comesIn 17 = .ok (.ifCond .eq 17, 3) := by decide +kernel
theorem dX0_comesIn_20 : decode cX0_comesIn 20 = .ok (.aload_n 0, 1) := by decide +kernel
theorem dX0_comesIn_21 : decode cX0_comesIn 21 = .ok (.getfield 11, 3) := by decide +kernel
theorem dX0_comesIn_24 : decode cX0_comesIn 24 = .ok (.bipush 49, 2) := by decide +kernel
theorem dX0_comesIn_26 : decode cX0_comesIn 26 = .ok (.iload_n 2, 1) := by decide +kernel
theorem dX0_comesIn_27 : decode cX0_comesIn 27 = .ok (.iadd, 1) := by decide +kernel
theorem dX0_comesIn_28 : decode cX0_comesIn 28 = .ok (.iaload, 1) := by decide +kernel
theorem dX0_comesIn_29 : decode cX0_comesIn 29 = .ok (.ifCond .le 5, 3) := by decide +kernel
theorem dX0_comesIn_32 : decode cX0_comesIn 32 = .ok (.iconst 1, 1) := by decide +kernel
theorem dX0_comesIn_33 : decode cX0_comesIn 33 = .ok (.ireturn, 1) := by decide +kernel
theorem dX0_comesIn_34 : decode cX0_comesIn 34 = .ok (.iinc 2 1, 3) := by decide +kernel
theorem dX0_comesIn_37 : decode cX0_comesIn 37 = .ok (.goto (-35), 3) := by decide +kernel
theorem dX0_comesIn_40 : decode cX0_comesIn 40 = .ok (.iconst 0, 1) := by decide +kernel
theorem dX0_comesIn_41 : decode cX0_comesIn 41 = .ok (.ireturn, 1) := by decide +kernel
noncomputable def qX0_comesIn_1 : Bx := (bc clt (il 2) (iald (fgr 0 0 (rl 0)) (ik 0)))
noncomputable def wX0_comesIn_1 : Sx := (sseq (sif (band (bz cne (i2 (· &&& ·) (i2 oshr (il 1) (il 2)) (ik 1))) (bz cgt (iald (fgr 0 0 (rl 0)) (i2 (· + ·) (ik 49) (il 2))))) (sret (ik 1)) snop) (sinc 2 1))
noncomputable def EX0_comesIn : Sx := (sseq (scut 2 (sseq (ssi 2 (ik 0)) (swh qX0_comesIn_1 wX0_comesIn_1))) (sret (ik 0)))
noncomputable def DX0_comesIn : Fz := mfz 3 EX0_comesIn
set_option maxRecDepth 4000 in
theorem BX0_comesIn : Vs RX0 cX0_comesIn 3 (rmk 0 0) 0 0 EX0_comesIn := (v_seq (v_cut (n := 2) (v_seq (v_istore_n (i := 2) (v_iconst (v := 0) dX0_comesIn_0 (by decide) (rfl : 0 + 1 = 1)) dX0_comesIn_1 rfl (by decide) (rfl : 1 + 1 = 2)) (v_wh (v_ilt_f (v_iload_n (i := 2) dX0_comesIn_2 rfl (rfl : 2 + 1 = 3)) (v_iald (v_gfr kX0 lk206 (by decide) rfl (v_aload_n (i := 0) dX0_comesIn_3 rfl (rfl : 3 + 1 = 4)) dX0_comesIn_4 (rfl : 4 + 3 = 7)) (v_iconst (v := 0) dX0_comesIn_7 (by decide) (rfl : 7 + 1 = 8)) dX0_comesIn_8 (rfl : 8 + 1 = 9)) dX0_comesIn_9 (rfl : ((9 : Nat) : Int) + 31 = ((40 : Nat) : Int)) (rfl : 9 + 3 = 12)) (vs_goto (v_seq (v_if (v_and (v_zne_f (v_iand (v_ishr (v_iload_n (i := 1) dX0_comesIn_12 rfl (rfl : 12 + 1 = 13)) (v_iload_n (i := 2) dX0_comesIn_13 rfl (rfl : 13 + 1 = 14)) dX0_comesIn_14 (rfl : 14 + 1 = 15)) (v_iconst (v := 1) dX0_comesIn_15 (by decide) (rfl : 15 + 1 = 16)) dX0_comesIn_16 (rfl : 16 + 1 = 17)) dX0_comesIn_17 (rfl : ((17 : Nat) : Int) + 17 = ((34 : Nat) : Int)) (rfl : 17 + 3 = 20)) (v_zgt_f (v_iald (v_gfr kX0 lk206 (by decide) rfl (v_aload_n (i := 0) dX0_comesIn_20 rfl (rfl : 20 + 1 = 21)) dX0_comesIn_21 (rfl : 21 + 3 = 24)) (v_iadd (v_bipush (v := 49) dX0_comesIn_24 (by decide) (rfl : 24 + 2 = 26)) (v_iload_n (i := 2) dX0_comesIn_26 rfl (rfl : 26 + 1 = 27)) dX0_comesIn_27 (rfl : 27 + 1 = 28)) dX0_comesIn_28 (rfl : 28 + 1 = 29)) dX0_comesIn_29 (rfl : ((29 : Nat) : Int) + 5 = ((34 : Nat) : Int)) (rfl : 29 + 3 = 32))) (v_ret (v_iconst (v := 1) dX0_comesIn_32 (by decide) (rfl : 32 + 1 = 33)) dX0_comesIn_33) v_nop) (v_iinc (v := 1) dX0_comesIn_34 (by decide) (by decide) (rfl : 34 + 3 = 37))) dX0_comesIn_37 (rfl : ((37 : Nat) : Int) + (-35) = ((2 : Nat) : Int)))))) (v_ret (v_iconst (v := 0) dX0_comesIn_40 (by decide) (rfl : 40 + 1 = 41)) dX0_comesIn_41))
theorem IX0_comesIn : Mz yX0_comesIn cX0_comesIn 3 (rmk 0 0) DX0_comesIn := mk_z (by decide +kernel) BX0_comesIn

theorem dX0_isStill_0 : decode cX0_isStill 0 = .ok (.aload_n 0, 1) := by decide +kernel
theorem dX0_isStill_1 : decode cX0_isStill 1 = .ok (.getfield 27, 3) := by decide +kernel
theorem dX0_isStill_4 : decode cX0_isStill 4 = .ok (.iload_n 1, 1) := by decide +kernel
theorem dX0_isStill_5 : decode cX0_isStill 5 = .ok (.iaload, 1) := by decide +kernel
theorem dX0_isStill_6 : decode cX0_isStill 6 = .ok (.iload_n 2, 1) := by decide +kernel
theorem dX0_isStill_7 : decode cX0_isStill 7 = .ok (.ishr, 1) := by decide +kernel
theorem dX0_isStill_8 : decode cX0_isStill 8 = .ok (.iconst 1, 1) := by decide +kernel
theorem dX0_isStill_9 : decode cX0_isStill 9 = .ok (.iand, 1) := by decide +kernel
theorem dX0_isStill_10 : decode cX0_isStill 10 = .ok (.ifCond .eq 7, 3) := by decide +kernel
theorem dX0_isStill_13 : decode cX0_isStill 13 = .ok (.iconst 1, 1) := by decide +kernel
theorem dX0_isStill_14 : decode cX0_isStill 14 = .ok (.goto 4, 3) := by decide +kernel
theorem dX0_isStill_17 : decode cX0_isStill 17 = .ok (.iconst 0, 1) := by decide +kernel
theorem dX0_isStill_18 : decode cX0_isStill 18 = .ok (.ireturn, 1) := by decide +kernel
noncomputable def EX0_isStill : Sx := (sret (ic (bz cne (i2 (· &&& ·) (i2 oshr (iald (fgr 0 5 (rl 0)) (il 1)) (il 2)) (ik 1))) (ik 1) (ik 0)))
noncomputable def DX0_isStill : Fz := mfz 3 EX0_isStill
set_option maxRecDepth 4000 in
theorem BX0_isStill : Vs RX0 cX0_isStill 3 (rmk 0 0) 0 0 EX0_isStill := (v_ret (v_ic (v_zne_f (v_iand (v_ishr (v_iald (v_gfr kX0 lk211 (by decide) rfl (v_aload_n (i := 0) dX0_isStill_0 rfl (rfl : 0 + 1 = 1)) dX0_isStill_1 (rfl : 1 + 3 = 4)) (v_iload_n (i := 1) dX0_isStill_4 rfl (rfl : 4 + 1 = 5)) dX0_isStill_5 (rfl : 5 + 1 = 6)) (v_iload_n (i := 2) dX0_isStill_6 rfl (rfl : 6 + 1 = 7)) dX0_isStill_7 (rfl : 7 + 1 = 8)) (v_iconst (v := 1) dX0_isStill_8 (by decide) (rfl : 8 + 1 = 9)) dX0_isStill_9 (rfl : 9 + 1 = 10)) dX0_isStill_10 (rfl : ((10 : Nat) : Int) + 7 = ((17 : Nat) : Int)) (rfl : 10 + 3 = 13)) (vi_goto (v_iconst (v := 1) dX0_isStill_13 (by decide) (rfl : 13 + 1 = 14)) dX0_isStill_14 (rfl : ((14 : Nat) : Int) + 4 = ((18 : Nat) : Int))) (v_iconst (v := 0) dX0_isStill_17 (by decide) (rfl : 17 + 1 = 18))) dX0_isStill_18)
theorem IX0_isStill : Mz yX0_isStill cX0_isStill 3 (rmk 0 0) DX0_isStill := mk_z (by decide +kernel) BX0_isStill

theorem dX0_placeOf_0 : decode cX0_placeOf 0 = .ok (.aload_n 0, 1) := by decide +kernel
theorem dX0_placeOf_1 : decode cX0_placeOf 1 = .ok (.getfield 11, 3) := by decide +kernel
theorem dX0_placeOf_4 : decode cX0_placeOf 4 = .ok (.bipush 28, 2) := by decide +kernel
theorem dX0_placeOf_6 : decode cX0_placeOf 6 = .ok (.iload_n 1, 1) := by decide +kernel
theorem dX0_placeOf_7 : decode cX0_placeOf 7 = .ok (.iconst 5, 1) := by decide +kernel
theorem dX0_placeOf_8 : decode cX0_placeOf 8 = .ok (.imul, 1) := by decide +kernel
theorem dX0_placeOf_9 : decode cX0_placeOf 9 = .ok (.iadd, 1) := by decide +kernel
theorem dX0_placeOf_10 : decode cX0_placeOf 10 = .ok (.iconst 0, 1) := by decide +kernel
theorem dX0_placeOf_11 : decode cX0_placeOf 11 = .ok (.iadd, 1) := by decide +kernel
theorem dX0_placeOf_12 : decode cX0_placeOf 12 = .ok (.iaload, 1) := by decide +kernel
theorem dX0_placeOf_13 : decode cX0_placeOf 13 = .ok (.ireturn, 1) := by decide +kernel
noncomputable def EX0_placeOf : Sx := (sret (iald (fgr 0 0 (rl 0)) (i2 (· + ·) (i2 (· + ·) (ik 28) (i2 (· * ·) (il 1) (ik 5))) (ik 0))))
noncomputable def DX0_placeOf : Fi := mfi 2 EX0_placeOf
set_option maxRecDepth 4000 in
theorem BX0_placeOf : Vs RX0 cX0_placeOf 2 (rmk 0 0) 0 0 EX0_placeOf := (v_ret (v_iald (v_gfr kX0 lk206 (by decide) rfl (v_aload_n (i := 0) dX0_placeOf_0 rfl (rfl : 0 + 1 = 1)) dX0_placeOf_1 (rfl : 1 + 3 = 4)) (v_iadd (v_iadd (v_bipush (v := 28) dX0_placeOf_4 (by decide) (rfl : 4 + 2 = 6)) (v_imul (v_iload_n (i := 1) dX0_placeOf_6 rfl (rfl : 6 + 1 = 7)) (v_iconst (v := 5) dX0_placeOf_7 (by decide) (rfl : 7 + 1 = 8)) dX0_placeOf_8 (rfl : 8 + 1 = 9)) dX0_placeOf_9 (rfl : 9 + 1 = 10)) (v_iconst (v := 0) dX0_placeOf_10 (by decide) (rfl : 10 + 1 = 11)) dX0_placeOf_11 (rfl : 11 + 1 = 12)) dX0_placeOf_12 (rfl : 12 + 1 = 13)) dX0_placeOf_13)
theorem IX0_placeOf : Mi yX0_placeOf cX0_placeOf 2 (rmk 0 0) DX0_placeOf := mk_i (by decide +kernel) BX0_placeOf

theorem dX0_upperAt_0 : decode cX0_upperAt 0 = .ok (.lconst 0, 1) := by decide +kernel
theorem dX0_upperAt_1 : decode cX0_upperAt 1 = .ok (.lstore_n 3, 1) := by decide +kernel
theorem dX0_upperAt_2 : decode cX0_upperAt 2 = .ok (.iconst 0, 1) := by decide +kernel
theorem dX0_upperAt_3 : decode cX0_upperAt 3 = .ok (.istore 5, 2) := by decide +kernel
theorem dX0_upperAt_5 : decode cX0_upperAt 5 = .ok (.iload 5, 2) := by decide +kernel
theorem dX0_upperAt_7 : decode cX0_upperAt 7 = .ok (.aload_n 0, 1) := by decide +kernel
theorem dX0_upperAt_8 : decode cX0_upperAt 8 = .ok (.getfield 11, 3) := by decide +kernel
theorem dX0_upperAt_11 : decode cX0_upperAt 11 = .ok (.iconst 0, 1) := by decide +kernel
theorem dX0_upperAt_12 : decode cX0_upperAt 12 = .ok (.iaload, 1) := by decide +kernel
theorem dX0_upperAt_13 : decode cX0_upperAt 13 = .ok (.if_icmp .ge 37, 3) := by decide +kernel
theorem dX0_upperAt_16 : decode cX0_upperAt 16 = .ok (.lload_n 3, 1) := by decide +kernel
theorem dX0_upperAt_17 : decode cX0_upperAt 17 = .ok (.aload_n 0, 1) := by decide +kernel
theorem dX0_upperAt_18 : decode cX0_upperAt 18 = .ok (.getfield 20, 3) := by decide +kernel
theorem dX0_upperAt_21 : decode cX0_upperAt 21 = .ok (.iload_n 1, 1) := by decide +kernel
theorem dX0_upperAt_22 : decode cX0_upperAt 22 = .ok (.aaload, 1) := by decide +kernel
theorem dX0_upperAt_23 : decode cX0_upperAt 23 = .ok (.iload_n 2, 1) := by decide +kernel
theorem dX0_upperAt_24 : decode cX0_upperAt 24 = .ok (.iconst 5, 1) := by decide +kernel
theorem dX0_upperAt_25 : decode cX0_upperAt 25 = .ok (.imul, 1) := by decide +kernel
theorem dX0_upperAt_26 : decode cX0_upperAt 26 = .ok (.iload 5, 2) := by decide +kernel
theorem dX0_upperAt_28 : decode cX0_upperAt 28 = .ok (.iadd, 1) := by decide +kernel
theorem dX0_upperAt_29 : decode cX0_upperAt 29 = .ok (.laload, 1) := by decide +kernel
theorem dX0_upperAt_30 : decode cX0_upperAt 30 = .ok (.aload_n 0, 1) := by decide +kernel
theorem dX0_upperAt_31 : decode cX0_upperAt 31 = .ok (.getfield 11, 3) := by decide +kernel
theorem dX0_upperAt_34 : decode cX0_upperAt 34 = .ok (.bipush 49, 2) := by decide +kernel
theorem dX0_upperAt_36 : decode cX0_upperAt 36 = .ok (.iload 5, 2) := by decide +kernel
theorem dX0_upperAt_38 : decode cX0_upperAt 38 = .ok (.iadd, 1) := by decide +kernel
theorem dX0_upperAt_39 : decode cX0_upperAt 39 = .ok (.iaload, 1) := by decide +kernel
theorem dX0_upperAt_40 : decode cX0_upperAt 40 = .ok (.i2l, 1) := by decide +kernel
theorem dX0_upperAt_41 : decode cX0_upperAt 41 = .ok (.lmul, 1) := by decide +kernel
theorem dX0_upperAt_42 : decode cX0_upperAt 42 = .ok (.ladd, 1) := by decide +kernel
theorem dX0_upperAt_43 : decode cX0_upperAt 43 = .ok (.lstore_n 3, 1) := by decide +kernel
theorem dX0_upperAt_44 : decode cX0_upperAt 44 = .ok (.iinc 5 1, 3) := by decide +kernel
theorem dX0_upperAt_47 : decode cX0_upperAt 47 = .ok (.goto (-42), 3) := by decide +kernel
theorem dX0_upperAt_50 : decode cX0_upperAt 50 = .ok (.lload_n 3, 1) := by decide +kernel
theorem dX0_upperAt_51 : decode cX0_upperAt 51 = .ok (.lreturn, 1) := by decide +kernel
noncomputable def qX0_upperAt_1 : Bx := (bc clt (il 5) (iald (fgr 0 0 (rl 0)) (ik 0)))
noncomputable def wX0_upperAt_1 : Sx := (sseq (ssj 3 (j2 (· + ·) (jl 3) (j2 (· * ·) (jald (rald 13 (fgr 0 2 (rl 0)) (il 1)) (i2 (· + ·) (i2 (· * ·) (il 2) (ik 5)) (il 5))) (i2l (iald (fgr 0 0 (rl 0)) (i2 (· + ·) (ik 49) (il 5))))))) (sinc 5 1))
noncomputable def EX0_upperAt : Sx := (sseq (ssj 3 (jk 0)) (sseq (scut 5 (sseq (ssi 5 (ik 0)) (swh qX0_upperAt_1 wX0_upperAt_1))) (sretj (jl 3))))
noncomputable def DX0_upperAt : Fj := mfj 6 EX0_upperAt
set_option maxRecDepth 4000 in
theorem BX0_upperAt : Vs RX0 cX0_upperAt 6 (rmk 0 0) 0 0 EX0_upperAt := (v_seq (v_lstore_n (i := 3) (v_lconst (v := 0) dX0_upperAt_0 (by decide) (rfl : 0 + 1 = 1)) dX0_upperAt_1 rfl (by decide) (rfl : 1 + 1 = 2)) (v_seq (v_cut (n := 5) (v_seq (v_istore (i := 5) (v_iconst (v := 0) dX0_upperAt_2 (by decide) (rfl : 2 + 1 = 3)) dX0_upperAt_3 (by decide) (rfl : 3 + 2 = 5)) (v_wh (v_ilt_f (v_iload (i := 5) dX0_upperAt_5 (rfl : 5 + 2 = 7)) (v_iald (v_gfr kX0 lk206 (by decide) rfl (v_aload_n (i := 0) dX0_upperAt_7 rfl (rfl : 7 + 1 = 8)) dX0_upperAt_8 (rfl : 8 + 3 = 11)) (v_iconst (v := 0) dX0_upperAt_11 (by decide) (rfl : 11 + 1 = 12)) dX0_upperAt_12 (rfl : 12 + 1 = 13)) dX0_upperAt_13 (rfl : ((13 : Nat) : Int) + 37 = ((50 : Nat) : Int)) (rfl : 13 + 3 = 16)) (vs_goto (v_seq (v_lstore_n (i := 3) (v_ladd (v_lload_n (i := 3) dX0_upperAt_16 rfl (rfl : 16 + 1 = 17)) (v_lmul (v_jald (v_rald (q := 13) (t0 := 5) (ty0 := .array .long) ⟨by decide, by decide⟩ (fun _ => rfl) rfl (v_gfr kX0 lk208 (by decide) rfl (v_aload_n (i := 0) dX0_upperAt_17 rfl (rfl : 17 + 1 = 18)) dX0_upperAt_18 (rfl : 18 + 3 = 21)) (v_iload_n (i := 1) dX0_upperAt_21 rfl (rfl : 21 + 1 = 22)) dX0_upperAt_22 (rfl : 22 + 1 = 23)) (v_iadd (v_imul (v_iload_n (i := 2) dX0_upperAt_23 rfl (rfl : 23 + 1 = 24)) (v_iconst (v := 5) dX0_upperAt_24 (by decide) (rfl : 24 + 1 = 25)) dX0_upperAt_25 (rfl : 25 + 1 = 26)) (v_iload (i := 5) dX0_upperAt_26 (rfl : 26 + 2 = 28)) dX0_upperAt_28 (rfl : 28 + 1 = 29)) dX0_upperAt_29 (rfl : 29 + 1 = 30)) (v_i2l (v_iald (v_gfr kX0 lk206 (by decide) rfl (v_aload_n (i := 0) dX0_upperAt_30 rfl (rfl : 30 + 1 = 31)) dX0_upperAt_31 (rfl : 31 + 3 = 34)) (v_iadd (v_bipush (v := 49) dX0_upperAt_34 (by decide) (rfl : 34 + 2 = 36)) (v_iload (i := 5) dX0_upperAt_36 (rfl : 36 + 2 = 38)) dX0_upperAt_38 (rfl : 38 + 1 = 39)) dX0_upperAt_39 (rfl : 39 + 1 = 40)) dX0_upperAt_40 (rfl : 40 + 1 = 41)) dX0_upperAt_41 (rfl : 41 + 1 = 42)) dX0_upperAt_42 (rfl : 42 + 1 = 43)) dX0_upperAt_43 rfl (by decide) (rfl : 43 + 1 = 44)) (v_iinc (v := 1) dX0_upperAt_44 (by decide) (by decide) (rfl : 44 + 3 = 47))) dX0_upperAt_47 (rfl : ((47 : Nat) : Int) + (-42) = ((5 : Nat) : Int)))))) (v_retj (v_lload_n (i := 3) dX0_upperAt_50 rfl (rfl : 50 + 1 = 51)) dX0_upperAt_51)))
theorem IX0_upperAt : Mj yX0_upperAt cX0_upperAt 6 (rmk 0 0) DX0_upperAt := mk_j (by decide +kernel) BX0_upperAt

theorem dX0_stageBy_0 : decode cX0_stageBy 0 = .ok (.aload_n 0, 1) := by decide +kernel
theorem dX0_stageBy_1 : decode cX0_stageBy 1 = .ok (.iload_n 2, 1) := by decide +kernel
theorem dX0_stageBy_2 : decode cX0_stageBy 2 = .ok (.invokevirtual 175, 3) := by decide +kernel
theorem dX0_stageBy_5 : decode cX0_stageBy 5 = .ok (.istore_n 3, 1) := by decide +kernel
theorem dX0_stageBy_6 : decode cX0_stageBy 6 = .ok (.aload_n 0, 1) := by decide +kernel
theorem dX0_stageBy_7 : decode cX0_stageBy 7 = .ok (.iload_n 1, 1) := by decide +kernel
theorem dX0_stageBy_8 : decode cX0_stageBy 8 = .ok (.iload_n 3, 1) := by decide +kernel
theorem dX0_stageBy_9 : decode cX0_stageBy 9 = .ok (.invokevirtual 156, 3) := by decide +kernel
theorem dX0_stageBy_12 : decode cX0_stageBy 12 = .ok (.ifCond .eq 22, 3) := by decide +kernel
theorem dX0_stageBy_15 : decode cX0_stageBy 15 = .ok (.aload_n 0, 1) := by decide +kernel
theorem dX0_stageBy_16 : decode cX0_stageBy 16 = .ok (.aload_n 0, 1) := by decide +kernel
theorem dX0_stageBy_17 : decode cX0_stageBy 17 = .ok (.getfield 30, 3) := by decide +kernel
theorem dX0_stageBy_20 : decode cX0_stageBy 20 = .ok (.iload_n 3, 1) := by decide +kernel
theorem dX0_stageBy_21 : decode cX0_stageBy 21 = .ok (.iaload, 1) := by decide +kernel
theorem dX0_stageBy_22 : decode cX0_stageBy 22 = .ok (.invokevirtual 163, 3) := by decide +kernel
theorem dX0_stageBy_25 : decode cX0_stageBy 25 = .ok (.ifCond .eq 7, 3) := by decide +kernel
theorem dX0_stageBy_28 : decode cX0_stageBy 28 = .ok (.iconst 2, 1) := by decide +kernel
theorem dX0_stageBy_29 : decode cX0_stageBy 29 = .ok (.goto 4, 3) := by decide +kernel
theorem dX0_stageBy_32 : decode cX0_stageBy 32 = .ok (.iconst 0, 1) := by decide +kernel
theorem dX0_stageBy_33 : decode cX0_stageBy 33 = .ok (.ireturn, 1) := by decide +kernel
theorem dX0_stageBy_34 : decode cX0_stageBy 34 = .ok (.aload_n 0, 1) := by decide +kernel
theorem dX0_stageBy_35 : decode cX0_stageBy 35 = .ok (.iload_n 1, 1) := by decide +kernel
theorem dX0_stageBy_36 : decode cX0_stageBy 36 = .ok (.iload_n 3, 1) := by decide +kernel
theorem dX0_stageBy_37 : decode cX0_stageBy 37 = .ok (.invokevirtual 159, 3) := by decide +kernel
theorem dX0_stageBy_40 : decode cX0_stageBy 40 = .ok (.lstore 4, 2) := by decide +kernel
theorem dX0_stageBy_42 : decode cX0_stageBy 42 = .ok (.ldc2_w 154, 3) := by decide +kernel
theorem dX0_stageBy_45 : decode cX0_stageBy 45 = .ok (.aload_n 0, 1) := by decide +kernel
theorem dX0_stageBy_46 : decode cX0_stageBy 46 = .ok (.getfield 23, 3) := by decide +kernel
theorem dX0_stageBy_49 : decode cX0_stageBy 49 = .ok (.iload_n 1, 1) := by decide +kernel
theorem dX0_stageBy_50 : decode cX0_stageBy 50 = .ok (.laload, 1) := by decide +kernel
theorem dX0_stageBy_51 : decode cX0_stageBy 51 = .ok (.lmul, 1) := by decide +kernel
theorem dX0_stageBy_52 : decode cX0_stageBy 52 = .ok (.lstore 6, 2) := by decide +kernel
theorem dX0_stageBy_54 : decode cX0_stageBy 54 = .ok (.lload 4, 2) := by decide +kernel
theorem dX0_stageBy_56 : decode cX0_stageBy 56 = .ok (.aload_n 0, 1) := by decide +kernel
theorem dX0_stageBy_57 : decode cX0_stageBy 57 = .ok (.getfield 11, 3) := by decide +kernel
theorem dX0_stageBy_60 : decode cX0_stageBy 60 = .ok (.bipush 43, 2) := by decide +kernel
theorem dX0_stageBy_62 : decode cX0_stageBy 62 = .ok (.iload_n 2, 1) := by decide +kernel
theorem dX0_stageBy_63 : decode cX0_stageBy 63 = .ok (.iconst 2, 1) := by decide +kernel
theorem dX0_stageBy_64 : decode cX0_stageBy 64 = .ok (.imul, 1) := by decide +kernel
theorem dX0_stageBy_65 : decode cX0_stageBy 65 = .ok (.iadd, 1) := by decide +kernel
theorem dX0_stageBy_66 : decode cX0_stageBy 66 = .ok (.iaload, 1) := by decide +kernel
theorem dX0_stageBy_67 : decode cX0_stageBy 67 = .ok (.i2l, 1) := by decide +kernel
theorem dX0_stageBy_68 : decode cX0_stageBy 68 = .ok (.lload 6, 2) := by decide +kernel
theorem dX0_stageBy_70 : decode cX0_stageBy 70 = .ok (.lmul, 1) := by decide +kernel
theorem dX0_stageBy_71 : decode cX0_stageBy 71 = .ok (.lcmp, 1) := by decide +kernel
theorem dX0_stageBy_72 : decode cX0_stageBy 72 = .ok (.ifCond .ge 5, 3) := by decide +kernel
theorem dX0_stageBy_75 : decode cX0_stageBy 75 = .ok (.iconst 0, 1) := by decide +kernel
theorem dX0_stageBy_76 : decode cX0_stageBy 76 = .ok (.ireturn, 1) := by decide +kernel
theorem dX0_stageBy_77 : decode cX0_stageBy 77 = .ok (.lload 4, 2) := by decide +kernel
theorem dX0_stageBy_79 : decode cX0_stageBy 79 = .ok (.aload_n 0, 1) := by decide +kernel
theorem dX0_stageBy_80 : decode cX0_stageBy 80 = .ok (.getfield 11, 3) := by decide +kernel
theorem dX0_stageBy_83 : decode cX0_stageBy 83 = .ok (.bipush 43, 2) := by decide +kernel
theorem dX0_stageBy_85 : decode cX0_stageBy 85 = .ok (.iload_n 2, 1) := by decide +kernel
theorem dX0_stageBy_86 : decode cX0_stageBy 86 = .ok (.iconst 2, 1) := by decide +kernel
theorem dX0_stageBy_87 : decode cX0_stageBy 87 = .ok (.imul, 1) := by decide +kernel
theorem dX0_stageBy_88 : decode cX0_stageBy 88 = .ok (.iadd, 1) := by decide +kernel
theorem dX0_stageBy_89 : decode cX0_stageBy 89 = .ok (.iconst 1, 1) := by decide +kernel
theorem dX0_stageBy_90 : decode cX0_stageBy 90 = .ok (.iadd, 1) := by decide +kernel
theorem dX0_stageBy_91 : decode cX0_stageBy 91 = .ok (.iaload, 1) := by decide +kernel
theorem dX0_stageBy_92 : decode cX0_stageBy 92 = .ok (.i2l, 1) := by decide +kernel
theorem dX0_stageBy_93 : decode cX0_stageBy 93 = .ok (.lload 6, 2) := by decide +kernel
theorem dX0_stageBy_95 : decode cX0_stageBy 95 = .ok (.lmul, 1) := by decide +kernel
theorem dX0_stageBy_96 : decode cX0_stageBy 96 = .ok (.lcmp, 1) := by decide +kernel
theorem dX0_stageBy_97 : decode cX0_stageBy 97 = .ok (.ifCond .ge 7, 3) := by decide +kernel
theorem dX0_stageBy_100 : decode cX0_stageBy 100 = .ok (.iconst 1, 1) := by decide +kernel
theorem dX0_stageBy_101 : decode cX0_stageBy 101 = .ok (.goto 4, 3) := by decide +kernel
theorem dX0_stageBy_104 : decode cX0_stageBy 104 = .ok (.iconst 2, 1) := by decide +kernel
theorem dX0_stageBy_105 : decode cX0_stageBy 105 = .ok (.ireturn, 1) := by decide +kernel
noncomputable def EX0_stageBy : Sx := (sseq (ssi 3 (cvi 0 DX0_placeOf (rl 0) (ai (il 2) anil))) (sseq (sif (bz cne (cvz 0 DX0_isStill (rl 0) (ai (il 1) (ai (il 3) anil)))) (sret (ic (bz cne (cvz 0 DX0_comesIn (rl 0) (ai (iald (fgr 0 6 (rl 0)) (il 3)) anil))) (ik 2) (ik 0))) snop) (sseq (ssj 4 (cvj 0 DX0_upperAt (rl 0) (ai (il 1) (ai (il 3) anil)))) (sseq (ssj 6 (j2 (· * ·) (jk 2) (jald (fgr 0 3 (rl 0)) (il 1)))) (sseq (sif (bj qlt (jl 4) (j2 (· * ·) (i2l (iald (fgr 0 0 (rl 0)) (i2 (· + ·) (ik 43) (i2 (· * ·) (il 2) (ik 2))))) (jl 6))) (sret (ik 0)) snop) (sret (ic (bj qlt (jl 4) (j2 (· * ·) (i2l (iald (fgr 0 0 (rl 0)) (i2 (· + ·) (i2 (· + ·) (ik 43) (i2 (· * ·) (il 2) (ik 2))) (ik 1)))) (jl 6))) (ik 1) (ik 2))))))))
noncomputable def DX0_stageBy : Fi := mfi 8 EX0_stageBy
set_option maxRecDepth 4000 in
theorem BX0_stageBy : Vs RX0 cX0_stageBy 8 (rmk 1 25) 0 0 EX0_stageBy := (v_seq (v_istore_n (i := 3) (v_cvi kX0 IX0_placeOf hX0_placeOf lk599 ⟨by decide, by decide⟩ (by decide) (v_aload_n (i := 0) dX0_stageBy_0 rfl (rfl : 0 + 1 = 1)) (v_ai (v_iload_n (i := 2) dX0_stageBy_1 rfl (rfl : 1 + 1 = 2)) v_anil) dX0_stageBy_2 (rfl : 2 + 3 = 5)) dX0_stageBy_5 rfl (by decide) (rfl : 5 + 1 = 6)) (v_seq (v_if (v_zne_f (v_cvz kX0 IX0_isStill hX0_isStill lk611 ⟨by decide, by decide⟩ (by decide) (v_aload_n (i := 0) dX0_stageBy_6 rfl (rfl : 6 + 1 = 7)) (v_ai (v_iload_n (i := 1) dX0_stageBy_7 rfl (rfl : 7 + 1 = 8)) (v_ai (v_iload_n (i := 3) dX0_stageBy_8 rfl (rfl : 8 + 1 = 9)) v_anil)) dX0_stageBy_9 (rfl : 9 + 3 = 12)) dX0_stageBy_12 (rfl : ((12 : Nat) : Int) + 22 = ((34 : Nat) : Int)) (rfl : 12 + 3 = 15)) (v_ret (v_ic (v_zne_f (v_cvz kX0 IX0_comesIn hX0_comesIn lk629 ⟨by decide, by decide⟩ (by decide) (v_aload_n (i := 0) dX0_stageBy_15 rfl (rfl : 15 + 1 = 16)) (v_ai (v_iald (v_gfr kX0 lk212 (by decide) rfl (v_aload_n (i := 0) dX0_stageBy_16 rfl (rfl : 16 + 1 = 17)) dX0_stageBy_17 (rfl : 17 + 3 = 20)) (v_iload_n (i := 3) dX0_stageBy_20 rfl (rfl : 20 + 1 = 21)) dX0_stageBy_21 (rfl : 21 + 1 = 22)) v_anil) dX0_stageBy_22 (rfl : 22 + 3 = 25)) dX0_stageBy_25 (rfl : ((25 : Nat) : Int) + 7 = ((32 : Nat) : Int)) (rfl : 25 + 3 = 28)) (vi_goto (v_iconst (v := 2) dX0_stageBy_28 (by decide) (rfl : 28 + 1 = 29)) dX0_stageBy_29 (rfl : ((29 : Nat) : Int) + 4 = ((33 : Nat) : Int))) (v_iconst (v := 0) dX0_stageBy_32 (by decide) (rfl : 32 + 1 = 33))) dX0_stageBy_33) v_nop) (v_seq (v_lstore (i := 4) (v_cvj kX0 IX0_upperAt hX0_upperAt lk633 ⟨by decide, by decide⟩ (by decide) (v_aload_n (i := 0) dX0_stageBy_34 rfl (rfl : 34 + 1 = 35)) (v_ai (v_iload_n (i := 1) dX0_stageBy_35 rfl (rfl : 35 + 1 = 36)) (v_ai (v_iload_n (i := 3) dX0_stageBy_36 rfl (rfl : 36 + 1 = 37)) v_anil)) dX0_stageBy_37 (rfl : 37 + 3 = 40)) dX0_stageBy_40 (by decide) (rfl : 40 + 2 = 42)) (v_seq (v_lstore (i := 6) (v_lmul (v_ldc2 (v := 2) lk637 dX0_stageBy_42 (rfl : 42 + 3 = 45)) (v_jald (v_gfr kX0 lk209 (by decide) rfl (v_aload_n (i := 0) dX0_stageBy_45 rfl (rfl : 45 + 1 = 46)) dX0_stageBy_46 (rfl : 46 + 3 = 49)) (v_iload_n (i := 1) dX0_stageBy_49 rfl (rfl : 49 + 1 = 50)) dX0_stageBy_50 (rfl : 50 + 1 = 51)) dX0_stageBy_51 (rfl : 51 + 1 = 52)) dX0_stageBy_52 (by decide) (rfl : 52 + 2 = 54)) (v_seq (v_if (v_jlt_f (v_lload (i := 4) dX0_stageBy_54 (rfl : 54 + 2 = 56)) (v_lmul (v_i2l (v_iald (v_gfr kX0 lk206 (by decide) rfl (v_aload_n (i := 0) dX0_stageBy_56 rfl (rfl : 56 + 1 = 57)) dX0_stageBy_57 (rfl : 57 + 3 = 60)) (v_iadd (v_bipush (v := 43) dX0_stageBy_60 (by decide) (rfl : 60 + 2 = 62)) (v_imul (v_iload_n (i := 2) dX0_stageBy_62 rfl (rfl : 62 + 1 = 63)) (v_iconst (v := 2) dX0_stageBy_63 (by decide) (rfl : 63 + 1 = 64)) dX0_stageBy_64 (rfl : 64 + 1 = 65)) dX0_stageBy_65 (rfl : 65 + 1 = 66)) dX0_stageBy_66 (rfl : 66 + 1 = 67)) dX0_stageBy_67 (rfl : 67 + 1 = 68)) (v_lload (i := 6) dX0_stageBy_68 (rfl : 68 + 2 = 70)) dX0_stageBy_70 (rfl : 70 + 1 = 71)) dX0_stageBy_71 dX0_stageBy_72 (rfl : ((72 : Nat) : Int) + 5 = ((77 : Nat) : Int)) (rfl : 72 + 3 = 75)) (v_ret (v_iconst (v := 0) dX0_stageBy_75 (by decide) (rfl : 75 + 1 = 76)) dX0_stageBy_76) v_nop) (v_ret (v_ic (v_jlt_f (v_lload (i := 4) dX0_stageBy_77 (rfl : 77 + 2 = 79)) (v_lmul (v_i2l (v_iald (v_gfr kX0 lk206 (by decide) rfl (v_aload_n (i := 0) dX0_stageBy_79 rfl (rfl : 79 + 1 = 80)) dX0_stageBy_80 (rfl : 80 + 3 = 83)) (v_iadd (v_iadd (v_bipush (v := 43) dX0_stageBy_83 (by decide) (rfl : 83 + 2 = 85)) (v_imul (v_iload_n (i := 2) dX0_stageBy_85 rfl (rfl : 85 + 1 = 86)) (v_iconst (v := 2) dX0_stageBy_86 (by decide) (rfl : 86 + 1 = 87)) dX0_stageBy_87 (rfl : 87 + 1 = 88)) dX0_stageBy_88 (rfl : 88 + 1 = 89)) (v_iconst (v := 1) dX0_stageBy_89 (by decide) (rfl : 89 + 1 = 90)) dX0_stageBy_90 (rfl : 90 + 1 = 91)) dX0_stageBy_91 (rfl : 91 + 1 = 92)) dX0_stageBy_92 (rfl : 92 + 1 = 93)) (v_lload (i := 6) dX0_stageBy_93 (rfl : 93 + 2 = 95)) dX0_stageBy_95 (rfl : 95 + 1 = 96)) dX0_stageBy_96 dX0_stageBy_97 (rfl : ((97 : Nat) : Int) + 7 = ((104 : Nat) : Int)) (rfl : 97 + 3 = 100)) (vi_goto (v_iconst (v := 1) dX0_stageBy_100 (by decide) (rfl : 100 + 1 = 101)) dX0_stageBy_101 (rfl : ((101 : Nat) : Int) + 4 = ((105 : Nat) : Int))) (v_iconst (v := 2) dX0_stageBy_104 (by decide) (rfl : 104 + 1 = 105))) dX0_stageBy_105))))))
theorem IX0_stageBy : Mi yX0_stageBy cX0_stageBy 8 (rmk 1 25) DX0_stageBy := mk_i (by decide +kernel) BX0_stageBy

theorem dX0_stageIn_0 : decode cX0_stageIn 0 = .ok (.iload_n 1, 1) := by decide +kernel
theorem dX0_stageIn_1 : decode cX0_stageIn 1 = .ok (.ifCond .ne 10, 3) := by decide +kernel
theorem dX0_stageIn_4 : decode cX0_stageIn 4 = .ok (.iload_n 0, 1) := by decide +kernel
theorem dX0_stageIn_5 : decode cX0_stageIn 5 = .ok (.bipush 9, 2) := by decide +kernel
theorem dX0_stageIn_7 : decode cX0_stageIn 7 = .ok (.idiv, 1) := by decide +kernel
theorem dX0_stageIn_8 : decode cX0_stageIn 8 = .ok (.goto 15, 3) := by decide +kernel
theorem dX0_stageIn_11 : decode cX0_stageIn 11 = .ok (.iload_n 1, 1) := by decide +kernel
theorem dX0_stageIn_12 : decode cX0_stageIn 12 = .ok (.iconst 1, 1) := by decide +kernel
theorem dX0_stageIn_13 : decode cX0_stageIn 13 = .ok (.if_icmp .ne 9, 3) := by decide +kernel
theorem dX0_stageIn_16 : decode cX0_stageIn 16 = .ok (.iload_n 0, 1) := by decide +kernel
theorem dX0_stageIn_17 : decode cX0_stageIn 17 = .ok (.iconst 3, 1) := by decide +kernel
theorem dX0_stageIn_18 : decode cX0_stageIn 18 = .ok (.idiv, 1) := by decide +kernel
theorem dX0_stageIn_19 : decode cX0_stageIn 19 = .ok (.goto 4, 3) := by decide +kernel
theorem dX0_stageIn_22 : decode cX0_stageIn 22 = .ok (.iload_n 0, 1) := by decide +kernel
theorem dX0_stageIn_23 : decode cX0_stageIn 23 = .ok (.istore_n 2, 1) := by decide +kernel
theorem dX0_stageIn_24 : decode cX0_stageIn 24 = .ok (.iload_n 2, 1) := by decide +kernel
theorem dX0_stageIn_25 : decode cX0_stageIn 25 = .ok (.iconst 3, 1) := by decide +kernel
theorem dX0_stageIn_26 : decode cX0_stageIn 26 = .ok (.irem, 1) := by decide +kernel
theorem dX0_stageIn_27 : decode cX0_stageIn 27 = .ok (.ireturn, 1) := by decide +kernel
noncomputable def EX0_stageIn : Sx := (sseq (ssi 2 (ic (bz ceq (il 1)) (i2d (· / ·) (il 0) (ik 9)) (ic (bc ceq (il 1) (ik 1)) (i2d (· / ·) (il 0) (ik 3)) (il 0)))) (sret (i2d orem (il 2) (ik 3))))
noncomputable def DX0_stageIn : Fi := mfi 3 EX0_stageIn
set_option maxRecDepth 4000 in
theorem BX0_stageIn : Vs RX0 cX0_stageIn 3 (rmk 0 0) 0 0 EX0_stageIn := (v_seq (v_istore_n (i := 2) (v_ic (v_zeq_f (v_iload_n (i := 1) dX0_stageIn_0 rfl (rfl : 0 + 1 = 1)) dX0_stageIn_1 (rfl : ((1 : Nat) : Int) + 10 = ((11 : Nat) : Int)) (rfl : 1 + 3 = 4)) (vi_goto (v_idiv (v_iload_n (i := 0) dX0_stageIn_4 rfl (rfl : 4 + 1 = 5)) (v_bipush (v := 9) dX0_stageIn_5 (by decide) (rfl : 5 + 2 = 7)) dX0_stageIn_7 (rfl : 7 + 1 = 8)) dX0_stageIn_8 (rfl : ((8 : Nat) : Int) + 15 = ((23 : Nat) : Int))) (v_ic (v_ieq_f (v_iload_n (i := 1) dX0_stageIn_11 rfl (rfl : 11 + 1 = 12)) (v_iconst (v := 1) dX0_stageIn_12 (by decide) (rfl : 12 + 1 = 13)) dX0_stageIn_13 (rfl : ((13 : Nat) : Int) + 9 = ((22 : Nat) : Int)) (rfl : 13 + 3 = 16)) (vi_goto (v_idiv (v_iload_n (i := 0) dX0_stageIn_16 rfl (rfl : 16 + 1 = 17)) (v_iconst (v := 3) dX0_stageIn_17 (by decide) (rfl : 17 + 1 = 18)) dX0_stageIn_18 (rfl : 18 + 1 = 19)) dX0_stageIn_19 (rfl : ((19 : Nat) : Int) + 4 = ((23 : Nat) : Int))) (v_iload_n (i := 0) dX0_stageIn_22 rfl (rfl : 22 + 1 = 23)))) dX0_stageIn_23 rfl (by decide) (rfl : 23 + 1 = 24)) (v_ret (v_irem (v_iload_n (i := 2) dX0_stageIn_24 rfl (rfl : 24 + 1 = 25)) (v_iconst (v := 3) dX0_stageIn_25 (by decide) (rfl : 25 + 1 = 26)) dX0_stageIn_26 (rfl : 26 + 1 = 27)) dX0_stageIn_27))
theorem IX0_stageIn : Mi yX0_stageIn cX0_stageIn 3 (rmk 0 0) DX0_stageIn := mk_i (by decide +kernel) BX0_stageIn

theorem dX0_agrees_0 : decode cX0_agrees 0 = .ok (.aload_n 0, 1) := by decide +kernel
theorem dX0_agrees_1 : decode cX0_agrees 1 = .ok (.iload_n 1, 1) := by decide +kernel
theorem dX0_agrees_2 : decode cX0_agrees 2 = .ok (.invokevirtual 166, 3) := by decide +kernel
theorem dX0_agrees_5 : decode cX0_agrees 5 = .ok (.ifCond .ne 5, 3) := by decide +kernel
theorem dX0_agrees_8 : decode cX0_agrees 8 = .ok (.iconst 0, 1) := by decide +kernel
theorem dX0_agrees_9 : decode cX0_agrees 9 = .ok (.ireturn, 1) := by decide +kernel
theorem dX0_agrees_10 : decode cX0_agrees 10 = .ok (.iconst 0, 1) := by decide +kernel
theorem dX0_agrees_11 : decode cX0_agrees 11 = .ok (.istore_n 2, 1) := by decide +kernel
theorem dX0_agrees_12 : decode cX0_agrees 12 = .ok (.iload_n 2, 1) := by decide +kernel
theorem dX0_agrees_13 : decode cX0_agrees 13 = .ok (.iconst 3, 1) := by decide +kernel
theorem dX0_agrees_14 : decode cX0_agrees 14 = .ok (.if_icmp .ge 33, 3) := by decide +kernel
theorem dX0_agrees_17 : decode cX0_agrees 17 = .ok (.aload_n 0, 1) := by decide +kernel
theorem dX0_agrees_18 : decode cX0_agrees 18 = .ok (.iload_n 2, 1) := by decide +kernel
theorem dX0_agrees_19 : decode cX0_agrees 19 = .ok (.invokevirtual 169, 3) := by decide +kernel
theorem dX0_agrees_22 : decode cX0_agrees 22 = .ok (.ifCond .eq 19, 3) := by decide +kernel
theorem dX0_agrees_25 : decode cX0_agrees 25 = .ok (.aload_n 0, 1) := by decide +kernel
theorem dX0_agrees_26 : decode cX0_agrees 26 = .ok (.iload_n 1, 1) := by decide +kernel
theorem dX0_agrees_27 : decode cX0_agrees 27 = .ok (.iload_n 2, 1) := by decide +kernel
theorem dX0_agrees_28 : decode cX0_agrees 28 = .ok (.invokevirtual 172, 3) := by decide +kernel
theorem dX0_agrees_31 : decode cX0_agrees 31 = .ok (.iload_n 1, 1) := by decide +kernel
theorem dX0_agrees_32 : decode cX0_agrees 32 = .ok (.iload_n 2, 1) := by decide +kernel
theorem dX0_agrees_33 : decode cX0_agrees 33 = .ok (.invokestatic 87, 3) := by decide +kernel
theorem dX0_agrees_36 : decode cX0_agrees 36 = .ok (.if_icmp .eq 5, 3) := by decide +kernel
theorem dX0_agrees_39 : decode cX0_agrees 39 = .ok (.iconst 0, 1) := by decide +kernel
theorem dX0_agrees_40 : decode cX0_agrees 40 = .ok (.ireturn, 1) := by decide +kernel
theorem dX0_agrees_41 : decode cX0_agrees 41 = .ok (.iinc 2 1, 3) := by decide +kernel
theorem dX0_agrees_44 : decode cX0_agrees 44 = .ok (.goto (-32), 3) := by decide +kernel
theorem dX0_agrees_47 : decode cX0_agrees 47 = .ok (.iconst 1, 1) := by decide +kernel
theorem dX0_agrees_48 : decode cX0_agrees 48 = .ok (.ireturn, 1) := by decide +kernel
noncomputable def qX0_agrees_1 : Bx := (bc clt (il 2) (ik 3))
noncomputable def wX0_agrees_1 : Sx := (sseq (sif (band (bz cne (cvz 0 DX0_runs (rl 0) (ai (il 2) anil))) (bc cne (cvi 0 DX0_stageBy (rl 0) (ai (il 1) (ai (il 2) anil))) (csi DX0_stageIn (ai (il 1) (ai (il 2) anil))))) (sret (ik 0)) snop) (sinc 2 1))
noncomputable def EX0_agrees : Sx := (sseq (sif (bnot (bz cne (cvz 0 DX0_isInverted (rl 0) (ai (il 1) anil)))) (sret (ik 0)) snop) (sseq (scut 2 (sseq (ssi 2 (ik 0)) (swh qX0_agrees_1 wX0_agrees_1))) (sret (ik 1))))
noncomputable def DX0_agrees : Fz := mfz 3 EX0_agrees
set_option maxRecDepth 4000 in
theorem BX0_agrees : Vs RX0 cX0_agrees 3 (rmk 2 52) 0 0 EX0_agrees := (v_seq (v_if (v_not (v_zne_t (v_cvz kX0 IX0_isInverted hX0_isInverted lk584 ⟨by decide, by decide⟩ (by decide) (v_aload_n (i := 0) dX0_agrees_0 rfl (rfl : 0 + 1 = 1)) (v_ai (v_iload_n (i := 1) dX0_agrees_1 rfl (rfl : 1 + 1 = 2)) v_anil) dX0_agrees_2 (rfl : 2 + 3 = 5)) dX0_agrees_5 (rfl : ((5 : Nat) : Int) + 5 = ((10 : Nat) : Int)) (rfl : 5 + 3 = 8))) (v_ret (v_iconst (v := 0) dX0_agrees_8 (by decide) (rfl : 8 + 1 = 9)) dX0_agrees_9) v_nop) (v_seq (v_cut (n := 2) (v_seq (v_istore_n (i := 2) (v_iconst (v := 0) dX0_agrees_10 (by decide) (rfl : 10 + 1 = 11)) dX0_agrees_11 rfl (by decide) (rfl : 11 + 1 = 12)) (v_wh (v_ilt_f (v_iload_n (i := 2) dX0_agrees_12 rfl (rfl : 12 + 1 = 13)) (v_iconst (v := 3) dX0_agrees_13 (by decide) (rfl : 13 + 1 = 14)) dX0_agrees_14 (rfl : ((14 : Nat) : Int) + 33 = ((47 : Nat) : Int)) (rfl : 14 + 3 = 17)) (vs_goto (v_seq (v_if (v_and (v_zne_f (v_cvz kX0 IX0_runs hX0_runs lk592 ⟨by decide, by decide⟩ (by decide) (v_aload_n (i := 0) dX0_agrees_17 rfl (rfl : 17 + 1 = 18)) (v_ai (v_iload_n (i := 2) dX0_agrees_18 rfl (rfl : 18 + 1 = 19)) v_anil) dX0_agrees_19 (rfl : 19 + 3 = 22)) dX0_agrees_22 (rfl : ((22 : Nat) : Int) + 19 = ((41 : Nat) : Int)) (rfl : 22 + 3 = 25)) (v_ine_f (v_cvi kX0 IX0_stageBy hX0_stageBy lk625 ⟨by decide, by decide⟩ (by decide) (v_aload_n (i := 0) dX0_agrees_25 rfl (rfl : 25 + 1 = 26)) (v_ai (v_iload_n (i := 1) dX0_agrees_26 rfl (rfl : 26 + 1 = 27)) (v_ai (v_iload_n (i := 2) dX0_agrees_27 rfl (rfl : 27 + 1 = 28)) v_anil)) dX0_agrees_28 (rfl : 28 + 3 = 31)) (v_csi IX0_stageIn hX0_stageIn lk596 ⟨by decide, by decide⟩ (by decide) (v_ai (v_iload_n (i := 1) dX0_agrees_31 rfl (rfl : 31 + 1 = 32)) (v_ai (v_iload_n (i := 2) dX0_agrees_32 rfl (rfl : 32 + 1 = 33)) v_anil)) dX0_agrees_33 (rfl : 33 + 3 = 36)) dX0_agrees_36 (rfl : ((36 : Nat) : Int) + 5 = ((41 : Nat) : Int)) (rfl : 36 + 3 = 39))) (v_ret (v_iconst (v := 0) dX0_agrees_39 (by decide) (rfl : 39 + 1 = 40)) dX0_agrees_40) v_nop) (v_iinc (v := 1) dX0_agrees_41 (by decide) (by decide) (rfl : 41 + 3 = 44))) dX0_agrees_44 (rfl : ((44 : Nat) : Int) + (-32) = ((12 : Nat) : Int)))))) (v_ret (v_iconst (v := 1) dX0_agrees_47 (by decide) (rfl : 47 + 1 = 48)) dX0_agrees_48)))
theorem IX0_agrees : Mz yX0_agrees cX0_agrees 3 (rmk 2 52) DX0_agrees := mk_z (by decide +kernel) BX0_agrees

theorem dX0_canBe_0 : decode cX0_canBe 0 = .ok (.iconst 0, 1) := by decide +kernel
theorem dX0_canBe_1 : decode cX0_canBe 1 = .ok (.istore_n 2, 1) := by decide +kernel
theorem dX0_canBe_2 : decode cX0_canBe 2 = .ok (.iload_n 2, 1) := by decide +kernel
theorem dX0_canBe_3 : decode cX0_canBe 3 = .ok (.iconst 3, 1) := by decide +kernel
theorem dX0_canBe_4 : decode cX0_canBe 4 = .ok (.if_icmp .ge 27, 3) := by decide +kernel
theorem dX0_canBe_7 : decode cX0_canBe 7 = .ok (.aload_n 0, 1) := by decide +kernel
theorem dX0_canBe_8 : decode cX0_canBe 8 = .ok (.iload_n 2, 1) := by decide +kernel
theorem dX0_canBe_9 : decode cX0_canBe 9 = .ok (.invokevirtual 169, 3) := by decide +kernel
theorem dX0_canBe_12 : decode cX0_canBe 12 = .ok (.ifCond .ne 13, 3) := by decide +kernel
theorem dX0_canBe_15 : decode cX0_canBe 15 = .ok (.iload_n 1, 1) := by decide +kernel
theorem dX0_canBe_16 : decode cX0_canBe 16 = .ok (.iload_n 2, 1) := by decide +kernel
theorem dX0_canBe_17 : decode cX0_canBe 17 = .ok (.invokestatic 87, 3) := by decide +kernel
theorem dX0_canBe_20 : decode cX0_canBe 20 = .ok (.ifCond .eq 5, 3) := by decide +kernel
theorem dX0_canBe_23 : decode cX0_canBe 23 = .ok (.iconst 0, 1) := by decide +kernel
theorem dX0_canBe_24 : decode cX0_canBe 24 = .ok (.ireturn, 1) := by decide +kernel
theorem dX0_canBe_25 : decode cX0_canBe 25 = .ok (.iinc 2 1, 3) := by decide +kernel
theorem dX0_canBe_28 : decode cX0_canBe 28 = .ok (.goto (-26), 3) := by decide +kernel
theorem dX0_canBe_31 : decode cX0_canBe 31 = .ok (.iconst 1, 1) := by decide +kernel
theorem dX0_canBe_32 : decode cX0_canBe 32 = .ok (.ireturn, 1) := by decide +kernel
noncomputable def qX0_canBe_1 : Bx := (bc clt (il 2) (ik 3))
noncomputable def wX0_canBe_1 : Sx := (sseq (sif (band (bnot (bz cne (cvz 0 DX0_runs (rl 0) (ai (il 2) anil)))) (bz cne (csi DX0_stageIn (ai (il 1) (ai (il 2) anil))))) (sret (ik 0)) snop) (sinc 2 1))
noncomputable def EX0_canBe : Sx := (sseq (scut 2 (sseq (ssi 2 (ik 0)) (swh qX0_canBe_1 wX0_canBe_1))) (sret (ik 1)))
noncomputable def DX0_canBe : Fz := mfz 3 EX0_canBe
set_option maxRecDepth 4000 in
theorem BX0_canBe : Vs RX0 cX0_canBe 3 (rmk 1 22) 0 0 EX0_canBe := (v_seq (v_cut (n := 2) (v_seq (v_istore_n (i := 2) (v_iconst (v := 0) dX0_canBe_0 (by decide) (rfl : 0 + 1 = 1)) dX0_canBe_1 rfl (by decide) (rfl : 1 + 1 = 2)) (v_wh (v_ilt_f (v_iload_n (i := 2) dX0_canBe_2 rfl (rfl : 2 + 1 = 3)) (v_iconst (v := 3) dX0_canBe_3 (by decide) (rfl : 3 + 1 = 4)) dX0_canBe_4 (rfl : ((4 : Nat) : Int) + 27 = ((31 : Nat) : Int)) (rfl : 4 + 3 = 7)) (vs_goto (v_seq (v_if (v_and (v_not (v_zne_t (v_cvz kX0 IX0_runs hX0_runs lk592 ⟨by decide, by decide⟩ (by decide) (v_aload_n (i := 0) dX0_canBe_7 rfl (rfl : 7 + 1 = 8)) (v_ai (v_iload_n (i := 2) dX0_canBe_8 rfl (rfl : 8 + 1 = 9)) v_anil) dX0_canBe_9 (rfl : 9 + 3 = 12)) dX0_canBe_12 (rfl : ((12 : Nat) : Int) + 13 = ((25 : Nat) : Int)) (rfl : 12 + 3 = 15))) (v_zne_f (v_csi IX0_stageIn hX0_stageIn lk596 ⟨by decide, by decide⟩ (by decide) (v_ai (v_iload_n (i := 1) dX0_canBe_15 rfl (rfl : 15 + 1 = 16)) (v_ai (v_iload_n (i := 2) dX0_canBe_16 rfl (rfl : 16 + 1 = 17)) v_anil)) dX0_canBe_17 (rfl : 17 + 3 = 20)) dX0_canBe_20 (rfl : ((20 : Nat) : Int) + 5 = ((25 : Nat) : Int)) (rfl : 20 + 3 = 23))) (v_ret (v_iconst (v := 0) dX0_canBe_23 (by decide) (rfl : 23 + 1 = 24)) dX0_canBe_24) v_nop) (v_iinc (v := 1) dX0_canBe_25 (by decide) (by decide) (rfl : 25 + 3 = 28))) dX0_canBe_28 (rfl : ((28 : Nat) : Int) + (-26) = ((2 : Nat) : Int)))))) (v_ret (v_iconst (v := 1) dX0_canBe_31 (by decide) (rfl : 31 + 1 = 32)) dX0_canBe_32))
theorem IX0_canBe : Mz yX0_canBe cX0_canBe 3 (rmk 1 22) DX0_canBe := mk_z (by decide +kernel) BX0_canBe

theorem dX0_differs_0 : decode cX0_differs 0 = .ok (.iload_n 1, 1) := by decide +kernel
theorem dX0_differs_1 : decode cX0_differs 1 = .ok (.istore_n 3, 1) := by decide +kernel
theorem dX0_differs_2 : decode cX0_differs 2 = .ok (.iload_n 3, 1) := by decide +kernel
theorem dX0_differs_3 : decode cX0_differs 3 = .ok (.iload_n 2, 1) := by decide +kernel
theorem dX0_differs_4 : decode cX0_differs 4 = .ok (.if_icmp .ge 26, 3) := by decide +kernel
theorem dX0_differs_7 : decode cX0_differs 7 = .ok (.aload_n 0, 1) := by decide +kernel
theorem dX0_differs_8 : decode cX0_differs 8 = .ok (.getfield 15, 3) := by decide +kernel
theorem dX0_differs_11 : decode cX0_differs 11 = .ok (.iload_n 3, 1) := by decide +kernel
theorem dX0_differs_12 : decode cX0_differs 12 = .ok (.iaload, 1) := by decide +kernel
theorem dX0_differs_13 : decode cX0_differs 13 = .ok (.aload_n 0, 1) := by decide +kernel
theorem dX0_differs_14 : decode cX0_differs 14 = .ok (.getfield 11, 3) := by decide +kernel
theorem dX0_differs_17 : decode cX0_differs 17 = .ok (.iload_n 3, 1) := by decide +kernel
theorem dX0_differs_18 : decode cX0_differs 18 = .ok (.iaload, 1) := by decide +kernel
theorem dX0_differs_19 : decode cX0_differs 19 = .ok (.if_icmp .eq 5, 3) := by decide +kernel
theorem dX0_differs_22 : decode cX0_differs 22 = .ok (.iconst 1, 1) := by decide +kernel
theorem dX0_differs_23 : decode cX0_differs 23 = .ok (.ireturn, 1) := by decide +kernel
theorem dX0_differs_24 : decode cX0_differs 24 = .ok (.iinc 3 1, 3) := by decide +kernel
theorem dX0_differs_27 : decode cX0_differs 27 = .ok (.goto (-25), 3) := by decide +kernel
theorem dX0_differs_30 : decode cX0_differs 30 = .ok (.iconst 0, 1) := by decide +kernel
theorem dX0_differs_31 : decode cX0_differs 31 = .ok (.ireturn, 1) := by decide +kernel
noncomputable def qX0_differs_1 : Bx := (bc clt (il 3) (il 2))
noncomputable def wX0_differs_1 : Sx := (sseq (sif (bc cne (iald (fgr 0 1 (rl 0)) (il 3)) (iald (fgr 0 0 (rl 0)) (il 3))) (sret (ik 1)) snop) (sinc 3 1))
noncomputable def EX0_differs : Sx := (sseq (scut 3 (sseq (ssi 3 (il 1)) (swh qX0_differs_1 wX0_differs_1))) (sret (ik 0)))
noncomputable def DX0_differs : Fz := mfz 4 EX0_differs
set_option maxRecDepth 4000 in
theorem BX0_differs : Vs RX0 cX0_differs 4 (rmk 0 0) 0 0 EX0_differs := (v_seq (v_cut (n := 3) (v_seq (v_istore_n (i := 3) (v_iload_n (i := 1) dX0_differs_0 rfl (rfl : 0 + 1 = 1)) dX0_differs_1 rfl (by decide) (rfl : 1 + 1 = 2)) (v_wh (v_ilt_f (v_iload_n (i := 3) dX0_differs_2 rfl (rfl : 2 + 1 = 3)) (v_iload_n (i := 2) dX0_differs_3 rfl (rfl : 3 + 1 = 4)) dX0_differs_4 (rfl : ((4 : Nat) : Int) + 26 = ((30 : Nat) : Int)) (rfl : 4 + 3 = 7)) (vs_goto (v_seq (v_if (v_ine_f (v_iald (v_gfr kX0 lk207 (by decide) rfl (v_aload_n (i := 0) dX0_differs_7 rfl (rfl : 7 + 1 = 8)) dX0_differs_8 (rfl : 8 + 3 = 11)) (v_iload_n (i := 3) dX0_differs_11 rfl (rfl : 11 + 1 = 12)) dX0_differs_12 (rfl : 12 + 1 = 13)) (v_iald (v_gfr kX0 lk206 (by decide) rfl (v_aload_n (i := 0) dX0_differs_13 rfl (rfl : 13 + 1 = 14)) dX0_differs_14 (rfl : 14 + 3 = 17)) (v_iload_n (i := 3) dX0_differs_17 rfl (rfl : 17 + 1 = 18)) dX0_differs_18 (rfl : 18 + 1 = 19)) dX0_differs_19 (rfl : ((19 : Nat) : Int) + 5 = ((24 : Nat) : Int)) (rfl : 19 + 3 = 22)) (v_ret (v_iconst (v := 1) dX0_differs_22 (by decide) (rfl : 22 + 1 = 23)) dX0_differs_23) v_nop) (v_iinc (v := 1) dX0_differs_24 (by decide) (by decide) (rfl : 24 + 3 = 27))) dX0_differs_27 (rfl : ((27 : Nat) : Int) + (-25) = ((2 : Nat) : Int)))))) (v_ret (v_iconst (v := 0) dX0_differs_30 (by decide) (rfl : 30 + 1 = 31)) dX0_differs_31))
theorem IX0_differs : Mz yX0_differs cX0_differs 4 (rmk 0 0) DX0_differs := mk_z (by decide +kernel) BX0_differs

theorem dX0_fillMatrix_0 : decode cX0_fillMatrix 0 = .ok (.aload_n 0, 1) := by decide +kernel
theorem dX0_fillMatrix_1 : decode cX0_fillMatrix 1 = .ok (.getfield 20, 3) := by decide +kernel
theorem dX0_fillMatrix_4 : decode cX0_fillMatrix 4 = .ok (.iload_n 1, 1) := by decide +kernel
theorem dX0_fillMatrix_5 : decode cX0_fillMatrix 5 = .ok (.aaload, 1) := by decide +kernel
theorem dX0_fillMatrix_6 : decode cX0_fillMatrix 6 = .ok (.astore_n 2, 1) := by decide +kernel
theorem dX0_fillMatrix_7 : decode cX0_fillMatrix 7 = .ok (.iconst 0, 1) := by decide +kernel
theorem dX0_fillMatrix_8 : decode cX0_fillMatrix 8 = .ok (.istore_n 3, 1) := by decide +kernel
theorem dX0_fillMatrix_9 : decode cX0_fillMatrix 9 = .ok (.iload_n 3, 1) := by decide +kernel
theorem dX0_fillMatrix_10 : decode cX0_fillMatrix 10 = .ok (.aload_n 0, 1) := by decide +kernel
theorem dX0_fillMatrix_11 : decode cX0_fillMatrix 11 = .ok (.getfield 11, 3) := by decide +kernel
theorem dX0_fillMatrix_14 : decode cX0_fillMatrix 14 = .ok (.iconst 0, 1) := by decide +kernel
theorem dX0_fillMatrix_15 : decode cX0_fillMatrix 15 = .ok (.iaload, 1) := by decide +kernel
theorem dX0_fillMatrix_16 : decode cX0_fillMatrix 16 = .ok (.if_icmp .ge 110, 3) := by decide +kernel
theorem dX0_fillMatrix_19 : decode cX0_fillMatrix 19 = .ok (.iload_n 3, 1) := by decide +kernel
theorem dX0_fillMatrix_20 : decode cX0_fillMatrix 20 = .ok (.iconst 5, 1) := by decide +kernel
theorem dX0_fillMatrix_21 : decode cX0_fillMatrix 21 = .ok (.imul, 1) := by decide +kernel
theorem dX0_fillMatrix_22 : decode cX0_fillMatrix 22 = .ok (.istore 4, 2) := by decide +kernel
theorem dX0_fillMatrix_24 : decode cX0_fillMatrix 24 = .ok (.aload_n 0, 1) := by decide +kernel
theorem dX0_fillMatrix_25 : decode cX0_fillMatrix 25 = .ok (.iload_n 1, 1) := by decide +kernel
theorem dX0_fillMatrix_26 : decode cX0_fillMatrix 26 = .ok (.iload_n 3, 1) := by decide +kernel
theorem dX0_fillMatrix_27 : decode cX0_fillMatrix 27 = .ok (.invokevirtual 156, 3) := by decide +kernel
theorem dX0_fillMatrix_30 : decode cX0_fillMatrix 30 = .ok (.istore 5, 2) := by decide +kernel
theorem dX0_fillMatrix_32 : decode cX0_fillMatrix 32 = .ok (.aload_n 0, 1) := by decide +kernel
theorem dX0_fillMatrix_33 : decode cX0_fillMatrix 33 = .ok (.getfield 33, 3) := by decide +kernel
theorem dX0_fillMatrix_36 : decode cX0_fillMatrix 36 = .ok (.iload_n 3, 1) := by decide +kernel
theorem dX0_fillMatrix_37 : decode cX0_fillMatrix 37 = .ok (.iaload, 1) := by decide +kernel
theorem dX0_fillMatrix_38 : decode cX0_fillMatrix 38 = .ok (.i2l, 1) := by decide +kernel
theorem dX0_fillMatrix_39 : decode cX0_fillMatrix 39 = .ok (.lstore 6, 2) := by decide +kernel
theorem dX0_fillMatrix_41 : decode cX0_fillMatrix 41 = .ok (.iconst 0, 1) := by decide +kernel
theorem dX0_fillMatrix_42 : decode cX0_fillMatrix 42 = .ok (.istore 8, 2) := by decide +kernel
theorem dX0_fillMatrix_44 : decode cX0_fillMatrix 44 = .ok (.iload 8, 2) := by decide +kernel
theorem dX0_fillMatrix_46 : decode cX0_fillMatrix 46 = .ok (.aload_n 0, 1) := by decide +kernel
theorem dX0_fillMatrix_47 : decode cX0_fillMatrix 47 = .ok (.getfield 11, 3) := by decide +kernel
theorem dX0_fillMatrix_50 : decode cX0_fillMatrix 50 = .ok (.iconst 0, 1) := by decide +kernel
theorem dX0_fillMatrix_51 : decode cX0_fillMatrix 51 = .ok (.iaload, 1) := by decide +kernel
theorem dX0_fillMatrix_52 : decode cX0_fillMatrix 52 = .ok (.if_icmp .ge 51, 3) := by decide +kernel
theorem dX0_fillMatrix_55 : decode cX0_fillMatrix 55 = .ok (.aload_n 0, 1) := by decide +kernel
theorem dX0_fillMatrix_56 : decode cX0_fillMatrix 56 = .ok (.getfield 11, 3) := by decide +kernel
theorem dX0_fillMatrix_59 : decode cX0_fillMatrix 59 = .ok (.iconst 3, 1) := by decide +kernel
theorem dX0_fillMatrix_60 : decode cX0_fillMatrix 60 = .ok (.iload 4, 2) := by decide +kernel
theorem dX0_fillMatrix_62 : decode cX0_fillMatrix 62 = .ok (.iadd, 1) := by decide +kernel
theorem dX0_fillMatrix_63 : decode cX0_fillMatrix 63 = .ok (.iload 8, 2) := by decide +kernel
theorem dX0_fillMatrix_65 : decode cX0_fillMatrix 65 = .ok (.iadd, 1) := by decide +kernel
theorem dX0_fillMatrix_66 : decode cX0_fillMatrix 66 = .ok (.iaload, 1) := by decide +kernel
theorem dX0_fillMatrix_67 : decode cX0_fillMatrix 67 = .ok (.istore 9, 2) := by decide +kernel
theorem dX0_fillMatrix_69 : decode cX0_fillMatrix 69 = .ok (.aload_n 2, 1) := by decide +kernel
theorem dX0_fillMatrix_70 : decode cX0_fillMatrix 70 = .ok (.iload 4, 2) := by decide +kernel
theorem dX0_fillMatrix_72 : decode cX0_fillMatrix 72 = .ok (.iload 8, 2) := by decide +kernel
theorem dX0_fillMatrix_74 : decode cX0_fillMatrix 74 = .ok (.iadd, 1) := by decide +kernel
theorem dX0_fillMatrix_75 : decode cX0_fillMatrix 75 = .ok (.iload 5, 2) := by decide +kernel
theorem dX0_fillMatrix_77 : decode cX0_fillMatrix 77 = .ok (.ifCond .eq 7, 3) := by decide +kernel
theorem dX0_fillMatrix_80 : decode cX0_fillMatrix 80 = .ok (.lconst 0, 1) := by decide +kernel
theorem dX0_fillMatrix_81 : decode cX0_fillMatrix 81 = .ok (.goto 7, 3) := by decide +kernel
theorem dX0_fillMatrix_84 : decode cX0_fillMatrix 84 = .ok (.iload 9, 2) := by decide +kernel
theorem dX0_fillMatrix_86 : decode cX0_fillMatrix 86 = .ok (.ineg, 1) := by decide +kernel
theorem dX0_fillMatrix_87 : decode cX0_fillMatrix 87 = .ok (.i2l, 1) := by decide +kernel
theorem dX0_fillMatrix_88 : decode cX0_fillMatrix 88 = .ok (.lastore, 1) := by decide +kernel
theorem dX0_fillMatrix_89 : decode cX0_fillMatrix 89 = .ok (.lload 6, 2) := by decide +kernel
theorem dX0_fillMatrix_91 : decode cX0_fillMatrix 91 = .ok (.iload 9, 2) := by decide +kernel
theorem dX0_fillMatrix_93 : decode cX0_fillMatrix 93 = .ok (.i2l, 1) := by decide +kernel
theorem dX0_fillMatrix_94 : decode cX0_fillMatrix 94 = .ok (.ladd, 1) := by decide +kernel
theorem dX0_fillMatrix_95 : decode cX0_fillMatrix 95 = .ok (.lstore 6, 2) := by decide +kernel
theorem dX0_fillMatrix_97 : decode cX0_fillMatrix 97 = .ok (.iinc 8 1, 3) := by decide +kernel
theorem dX0_fillMatrix_100 : decode cX0_fillMatrix 100 = .ok (.goto (-56), 3) := by decide +kernel
theorem dX0_fillMatrix_103 : decode cX0_fillMatrix 103 = .ok (.aload_n 2, 1) := by decide +kernel
theorem dX0_fillMatrix_104 : decode cX0_fillMatrix 104 = .ok (.iload 4, 2) := by decide +kernel
theorem dX0_fillMatrix_106 : decode cX0_fillMatrix 106 = .ok (.iload_n 3, 1) := by decide +kernel
theorem dX0_fillMatrix_107 : decode cX0_fillMatrix 107 = .ok (.iadd, 1) := by decide +kernel
theorem dX0_fillMatrix_108 : decode cX0_fillMatrix 108 = .ok (.iload 5, 2) := by decide +kernel
theorem dX0_fillMatrix_110 : decode cX0_fillMatrix 110 = .ok (.ifCond .eq 7, 3) := by decide +kernel
theorem dX0_fillMatrix_113 : decode cX0_fillMatrix 113 = .ok (.lconst 1, 1) := by decide +kernel
theorem dX0_fillMatrix_114 : decode cX0_fillMatrix 114 = .ok (.goto 5, 3) := by decide +kernel
theorem dX0_fillMatrix_117 : decode cX0_fillMatrix 117 = .ok (.lload 6, 2) := by decide +kernel
theorem dX0_fillMatrix_119 : decode cX0_fillMatrix 119 = .ok (.lastore, 1) := by decide +kernel
theorem dX0_fillMatrix_120 : decode cX0_fillMatrix 120 = .ok (.iinc 3 1, 3) := by decide +kernel
theorem dX0_fillMatrix_123 : decode cX0_fillMatrix 123 = .ok (.goto (-114), 3) := by decide +kernel
theorem dX0_fillMatrix_126 : decode cX0_fillMatrix 126 = .ok (.return_, 1) := by decide +kernel
noncomputable def qX0_fillMatrix_1 : Bx := (bc clt (il 8) (iald (fgr 0 0 (rl 0)) (ik 0)))
noncomputable def wX0_fillMatrix_1 : Sx := (sseq (scut 9 (sseq (ssi 9 (iald (fgr 0 0 (rl 0)) (i2 (· + ·) (i2 (· + ·) (ik 3) (il 4)) (il 8)))) (sseq (aij (rl 2) (i2 (· + ·) (il 4) (il 8)) (jc (bz cne (il 5)) (jk 0) (i2l (i1 (fun x => -x) (il 9))))) (ssj 6 (j2 (· + ·) (jl 6) (i2l (il 9))))))) (sinc 8 1))
noncomputable def qX0_fillMatrix_2 : Bx := (bc clt (il 3) (iald (fgr 0 0 (rl 0)) (ik 0)))
noncomputable def wX0_fillMatrix_2 : Sx := (sseq (scut 4 (sseq (ssi 4 (i2 (· * ·) (il 3) (ik 5))) (sseq (ssi 5 (cvz 0 DX0_isStill (rl 0) (ai (il 1) (ai (il 3) anil)))) (sseq (ssj 6 (i2l (iald (fgr 0 7 (rl 0)) (il 3)))) (sseq (scut 8 (sseq (ssi 8 (ik 0)) (swh qX0_fillMatrix_1 wX0_fillMatrix_1))) (aij (rl 2) (i2 (· + ·) (il 4) (il 3)) (jc (bz cne (il 5)) (jk 1) (jl 6)))))))) (sinc 3 1))
noncomputable def EX0_fillMatrix : Sx := (sseq (sseq (ssr 2 (rald 13 (fgr 0 2 (rl 0)) (il 1))) (scut 3 (sseq (ssi 3 (ik 0)) (swh qX0_fillMatrix_2 wX0_fillMatrix_2)))) sretv)
noncomputable def DX0_fillMatrix : Fu := mfv 10 EX0_fillMatrix
set_option maxRecDepth 4000 in
theorem BX0_fillMatrix : Vs RX0 cX0_fillMatrix 10 (rmk 1 22) 0 0 EX0_fillMatrix := (v_seq (v_seq (v_astore_n (i := 2) (v_rald (q := 13) (t0 := 5) (ty0 := .array .long) ⟨by decide, by decide⟩ (fun _ => rfl) rfl (v_gfr kX0 lk208 (by decide) rfl (v_aload_n (i := 0) dX0_fillMatrix_0 rfl (rfl : 0 + 1 = 1)) dX0_fillMatrix_1 (rfl : 1 + 3 = 4)) (v_iload_n (i := 1) dX0_fillMatrix_4 rfl (rfl : 4 + 1 = 5)) dX0_fillMatrix_5 (rfl : 5 + 1 = 6)) dX0_fillMatrix_6 rfl (by decide) (rfl : 6 + 1 = 7)) (v_cut (n := 3) (v_seq (v_istore_n (i := 3) (v_iconst (v := 0) dX0_fillMatrix_7 (by decide) (rfl : 7 + 1 = 8)) dX0_fillMatrix_8 rfl (by decide) (rfl : 8 + 1 = 9)) (v_wh (v_ilt_f (v_iload_n (i := 3) dX0_fillMatrix_9 rfl (rfl : 9 + 1 = 10)) (v_iald (v_gfr kX0 lk206 (by decide) rfl (v_aload_n (i := 0) dX0_fillMatrix_10 rfl (rfl : 10 + 1 = 11)) dX0_fillMatrix_11 (rfl : 11 + 3 = 14)) (v_iconst (v := 0) dX0_fillMatrix_14 (by decide) (rfl : 14 + 1 = 15)) dX0_fillMatrix_15 (rfl : 15 + 1 = 16)) dX0_fillMatrix_16 (rfl : ((16 : Nat) : Int) + 110 = ((126 : Nat) : Int)) (rfl : 16 + 3 = 19)) (vs_goto (v_seq (v_cut (n := 4) (v_seq (v_istore (i := 4) (v_imul (v_iload_n (i := 3) dX0_fillMatrix_19 rfl (rfl : 19 + 1 = 20)) (v_iconst (v := 5) dX0_fillMatrix_20 (by decide) (rfl : 20 + 1 = 21)) dX0_fillMatrix_21 (rfl : 21 + 1 = 22)) dX0_fillMatrix_22 (by decide) (rfl : 22 + 2 = 24)) (v_seq (v_istore (i := 5) (v_cvz kX0 IX0_isStill hX0_isStill lk611 ⟨by decide, by decide⟩ (by decide) (v_aload_n (i := 0) dX0_fillMatrix_24 rfl (rfl : 24 + 1 = 25)) (v_ai (v_iload_n (i := 1) dX0_fillMatrix_25 rfl (rfl : 25 + 1 = 26)) (v_ai (v_iload_n (i := 3) dX0_fillMatrix_26 rfl (rfl : 26 + 1 = 27)) v_anil)) dX0_fillMatrix_27 (rfl : 27 + 3 = 30)) dX0_fillMatrix_30 (by decide) (rfl : 30 + 2 = 32)) (v_seq (v_lstore (i := 6) (v_i2l (v_iald (v_gfr kX0 lk213 (by decide) rfl (v_aload_n (i := 0) dX0_fillMatrix_32 rfl (rfl : 32 + 1 = 33)) dX0_fillMatrix_33 (rfl : 33 + 3 = 36)) (v_iload_n (i := 3) dX0_fillMatrix_36 rfl (rfl : 36 + 1 = 37)) dX0_fillMatrix_37 (rfl : 37 + 1 = 38)) dX0_fillMatrix_38 (rfl : 38 + 1 = 39)) dX0_fillMatrix_39 (by decide) (rfl : 39 + 2 = 41)) (v_seq (v_cut (n := 8) (v_seq (v_istore (i := 8) (v_iconst (v := 0) dX0_fillMatrix_41 (by decide) (rfl : 41 + 1 = 42)) dX0_fillMatrix_42 (by decide) (rfl : 42 + 2 = 44)) (v_wh (v_ilt_f (v_iload (i := 8) dX0_fillMatrix_44 (rfl : 44 + 2 = 46)) (v_iald (v_gfr kX0 lk206 (by decide) rfl (v_aload_n (i := 0) dX0_fillMatrix_46 rfl (rfl : 46 + 1 = 47)) dX0_fillMatrix_47 (rfl : 47 + 3 = 50)) (v_iconst (v := 0) dX0_fillMatrix_50 (by decide) (rfl : 50 + 1 = 51)) dX0_fillMatrix_51 (rfl : 51 + 1 = 52)) dX0_fillMatrix_52 (rfl : ((52 : Nat) : Int) + 51 = ((103 : Nat) : Int)) (rfl : 52 + 3 = 55)) (vs_goto (v_seq (v_cut (n := 9) (v_seq (v_istore (i := 9) (v_iald (v_gfr kX0 lk206 (by decide) rfl (v_aload_n (i := 0) dX0_fillMatrix_55 rfl (rfl : 55 + 1 = 56)) dX0_fillMatrix_56 (rfl : 56 + 3 = 59)) (v_iadd (v_iadd (v_iconst (v := 3) dX0_fillMatrix_59 (by decide) (rfl : 59 + 1 = 60)) (v_iload (i := 4) dX0_fillMatrix_60 (rfl : 60 + 2 = 62)) dX0_fillMatrix_62 (rfl : 62 + 1 = 63)) (v_iload (i := 8) dX0_fillMatrix_63 (rfl : 63 + 2 = 65)) dX0_fillMatrix_65 (rfl : 65 + 1 = 66)) dX0_fillMatrix_66 (rfl : 66 + 1 = 67)) dX0_fillMatrix_67 (by decide) (rfl : 67 + 2 = 69)) (v_seq (v_aij (v_aload_n (i := 2) dX0_fillMatrix_69 rfl (rfl : 69 + 1 = 70)) (v_iadd (v_iload (i := 4) dX0_fillMatrix_70 (rfl : 70 + 2 = 72)) (v_iload (i := 8) dX0_fillMatrix_72 (rfl : 72 + 2 = 74)) dX0_fillMatrix_74 (rfl : 74 + 1 = 75)) (v_jc (v_zne_f (v_iload (i := 5) dX0_fillMatrix_75 (rfl : 75 + 2 = 77)) dX0_fillMatrix_77 (rfl : ((77 : Nat) : Int) + 7 = ((84 : Nat) : Int)) (rfl : 77 + 3 = 80)) (vj_goto (v_lconst (v := 0) dX0_fillMatrix_80 (by decide) (rfl : 80 + 1 = 81)) dX0_fillMatrix_81 (rfl : ((81 : Nat) : Int) + 7 = ((88 : Nat) : Int))) (v_i2l (v_ineg (v_iload (i := 9) dX0_fillMatrix_84 (rfl : 84 + 2 = 86)) dX0_fillMatrix_86 (rfl : 86 + 1 = 87)) dX0_fillMatrix_87 (rfl : 87 + 1 = 88))) dX0_fillMatrix_88 (rfl : 88 + 1 = 89)) (v_lstore (i := 6) (v_ladd (v_lload (i := 6) dX0_fillMatrix_89 (rfl : 89 + 2 = 91)) (v_i2l (v_iload (i := 9) dX0_fillMatrix_91 (rfl : 91 + 2 = 93)) dX0_fillMatrix_93 (rfl : 93 + 1 = 94)) dX0_fillMatrix_94 (rfl : 94 + 1 = 95)) dX0_fillMatrix_95 (by decide) (rfl : 95 + 2 = 97))))) (v_iinc (v := 1) dX0_fillMatrix_97 (by decide) (by decide) (rfl : 97 + 3 = 100))) dX0_fillMatrix_100 (rfl : ((100 : Nat) : Int) + (-56) = ((44 : Nat) : Int)))))) (v_aij (v_aload_n (i := 2) dX0_fillMatrix_103 rfl (rfl : 103 + 1 = 104)) (v_iadd (v_iload (i := 4) dX0_fillMatrix_104 (rfl : 104 + 2 = 106)) (v_iload_n (i := 3) dX0_fillMatrix_106 rfl (rfl : 106 + 1 = 107)) dX0_fillMatrix_107 (rfl : 107 + 1 = 108)) (v_jc (v_zne_f (v_iload (i := 5) dX0_fillMatrix_108 (rfl : 108 + 2 = 110)) dX0_fillMatrix_110 (rfl : ((110 : Nat) : Int) + 7 = ((117 : Nat) : Int)) (rfl : 110 + 3 = 113)) (vj_goto (v_lconst (v := 1) dX0_fillMatrix_113 (by decide) (rfl : 113 + 1 = 114)) dX0_fillMatrix_114 (rfl : ((114 : Nat) : Int) + 5 = ((119 : Nat) : Int))) (v_lload (i := 6) dX0_fillMatrix_117 (rfl : 117 + 2 = 119))) dX0_fillMatrix_119 (rfl : 119 + 1 = 120))))))) (v_iinc (v := 1) dX0_fillMatrix_120 (by decide) (by decide) (rfl : 120 + 3 = 123))) dX0_fillMatrix_123 (rfl : ((123 : Nat) : Int) + (-114) = ((9 : Nat) : Int))))))) (v_retv dX0_fillMatrix_126))
theorem IX0_fillMatrix : Mv yX0_fillMatrix cX0_fillMatrix 10 (rmk 1 22) DX0_fillMatrix := mk_v (by decide +kernel) BX0_fillMatrix

theorem dX0_isEndless_0 : decode cX0_isEndless 0 = .ok (.aload_n 0, 1) := by decide +kernel
theorem dX0_isEndless_1 : decode cX0_isEndless 1 = .ok (.getfield 84, 3) := by decide +kernel
theorem dX0_isEndless_4 : decode cX0_isEndless 4 = .ok (.iload_n 1, 1) := by decide +kernel
theorem dX0_isEndless_5 : decode cX0_isEndless 5 = .ok (.ishr, 1) := by decide +kernel
theorem dX0_isEndless_6 : decode cX0_isEndless 6 = .ok (.iconst 1, 1) := by decide +kernel
theorem dX0_isEndless_7 : decode cX0_isEndless 7 = .ok (.iand, 1) := by decide +kernel
theorem dX0_isEndless_8 : decode cX0_isEndless 8 = .ok (.ifCond .eq 7, 3) := by decide +kernel
theorem dX0_isEndless_11 : decode cX0_isEndless 11 = .ok (.iconst 1, 1) := by decide +kernel
theorem dX0_isEndless_12 : decode cX0_isEndless 12 = .ok (.goto 4, 3) := by decide +kernel
theorem dX0_isEndless_15 : decode cX0_isEndless 15 = .ok (.iconst 0, 1) := by decide +kernel
theorem dX0_isEndless_16 : decode cX0_isEndless 16 = .ok (.ireturn, 1) := by decide +kernel
noncomputable def EX0_isEndless : Sx := (sret (ic (bz cne (i2 (· &&& ·) (i2 oshr (fgi 0 9 (rl 0)) (il 1)) (ik 1))) (ik 1) (ik 0)))
noncomputable def DX0_isEndless : Fz := mfz 2 EX0_isEndless
set_option maxRecDepth 4000 in
theorem BX0_isEndless : Vs RX0 cX0_isEndless 2 (rmk 0 0) 0 0 EX0_isEndless := (v_ret (v_ic (v_zne_f (v_iand (v_ishr (v_gfi kX0 lk215 (by decide) rfl (v_aload_n (i := 0) dX0_isEndless_0 rfl (rfl : 0 + 1 = 1)) dX0_isEndless_1 (rfl : 1 + 3 = 4)) (v_iload_n (i := 1) dX0_isEndless_4 rfl (rfl : 4 + 1 = 5)) dX0_isEndless_5 (rfl : 5 + 1 = 6)) (v_iconst (v := 1) dX0_isEndless_6 (by decide) (rfl : 6 + 1 = 7)) dX0_isEndless_7 (rfl : 7 + 1 = 8)) dX0_isEndless_8 (rfl : ((8 : Nat) : Int) + 7 = ((15 : Nat) : Int)) (rfl : 8 + 3 = 11)) (vi_goto (v_iconst (v := 1) dX0_isEndless_11 (by decide) (rfl : 11 + 1 = 12)) dX0_isEndless_12 (rfl : ((12 : Nat) : Int) + 4 = ((16 : Nat) : Int))) (v_iconst (v := 0) dX0_isEndless_15 (by decide) (rfl : 15 + 1 = 16))) dX0_isEndless_16)
theorem IX0_isEndless : Mz yX0_isEndless cX0_isEndless 2 (rmk 0 0) DX0_isEndless := mk_z (by decide +kernel) BX0_isEndless

theorem dX2_over_0 : decode cX2_over 0 = .ok (.lload_n 2, 1) := by decide +kernel
theorem dX2_over_1 : decode cX2_over 1 = .ok (.lconst 0, 1) := by decide +kernel
theorem dX2_over_2 : decode cX2_over 2 = .ok (.lcmp, 1) := by decide +kernel
theorem dX2_over_3 : decode cX2_over 3 = .ok (.ifCond .ne 7, 3) := by decide +kernel
theorem dX2_over_6 : decode cX2_over 6 = .ok (.lconst 0, 1) := by decide +kernel
theorem dX2_over_7 : decode cX2_over 7 = .ok (.goto 6, 3) := by decide +kernel
theorem dX2_over_10 : decode cX2_over 10 = .ok (.lload_n 0, 1) := by decide +kernel
theorem dX2_over_11 : decode cX2_over 11 = .ok (.lload_n 2, 1) := by decide +kernel
theorem dX2_over_12 : decode cX2_over 12 = .ok (.ldiv, 1) := by decide +kernel
theorem dX2_over_13 : decode cX2_over 13 = .ok (.lreturn, 1) := by decide +kernel
noncomputable def EX2_over : Sx := (sretj (jc (bj qeq (jl 2) (jk 0)) (jk 0) (j2d (· / ·) (jl 0) (jl 2))))
noncomputable def DX2_over : Fj := mfj 4 EX2_over
set_option maxRecDepth 4000 in
theorem BX2_over : Vs RX2 cX2_over 4 (rmk 0 0) 0 0 EX2_over := (v_retj (v_jc (v_jeq_f (v_lload_n (i := 2) dX2_over_0 rfl (rfl : 0 + 1 = 1)) (v_lconst (v := 0) dX2_over_1 (by decide) (rfl : 1 + 1 = 2)) dX2_over_2 dX2_over_3 (rfl : ((3 : Nat) : Int) + 7 = ((10 : Nat) : Int)) (rfl : 3 + 3 = 6)) (vj_goto (v_lconst (v := 0) dX2_over_6 (by decide) (rfl : 6 + 1 = 7)) dX2_over_7 (rfl : ((7 : Nat) : Int) + 6 = ((13 : Nat) : Int))) (v_ldiv (v_lload_n (i := 0) dX2_over_10 rfl (rfl : 10 + 1 = 11)) (v_lload_n (i := 2) dX2_over_11 rfl (rfl : 11 + 1 = 12)) dX2_over_12 (rfl : 12 + 1 = 13))) dX2_over_13)
theorem IX2_over : Mj yX2_over cX2_over 4 (rmk 0 0) DX2_over := mk_j (by decide +kernel) BX2_over

theorem dX0_gauge_0 : decode cX0_gauge 0 = .ok (.aload_n 0, 1) := by decide +kernel
theorem dX0_gauge_1 : decode cX0_gauge 1 = .ok (.getfield 43, 3) := by decide +kernel
theorem dX0_gauge_4 : decode cX0_gauge 4 = .ok (.iconst (-1), 1) := by decide +kernel
theorem dX0_gauge_5 : decode cX0_gauge 5 = .ok (.if_icmp .ne 6, 3) := by decide +kernel
theorem dX0_gauge_8 : decode cX0_gauge 8 = .ok (.bipush (-3), 2) := by decide +kernel
theorem dX0_gauge_10 : decode cX0_gauge 10 = .ok (.ireturn, 1) := by decide +kernel
theorem dX0_gauge_11 : decode cX0_gauge 11 = .ok (.aload_n 0, 1) := by decide +kernel
theorem dX0_gauge_12 : decode cX0_gauge 12 = .ok (.iload_n 1, 1) := by decide +kernel
theorem dX0_gauge_13 : decode cX0_gauge 13 = .ok (.invokevirtual 91, 3) := by decide +kernel
theorem dX0_gauge_16 : decode cX0_gauge 16 = .ok (.ifCond .eq 6, 3) := by decide +kernel
theorem dX0_gauge_19 : decode cX0_gauge 19 = .ok (.ldc 94, 2) := by decide +kernel
theorem dX0_gauge_21 : decode cX0_gauge 21 = .ok (.ireturn, 1) := by decide +kernel
theorem dX0_gauge_22 : decode cX0_gauge 22 = .ok (.ldc2_w 95, 3) := by decide +kernel
theorem dX0_gauge_25 : decode cX0_gauge 25 = .ok (.ldc2_w 97, 3) := by decide +kernel
theorem dX0_gauge_28 : decode cX0_gauge 28 = .ok (.aload_n 0, 1) := by decide +kernel
theorem dX0_gauge_29 : decode cX0_gauge 29 = .ok (.getfield 36, 3) := by decide +kernel
theorem dX0_gauge_32 : decode cX0_gauge 32 = .ok (.iload_n 1, 1) := by decide +kernel
theorem dX0_gauge_33 : decode cX0_gauge 33 = .ok (.laload, 1) := by decide +kernel
theorem dX0_gauge_34 : decode cX0_gauge 34 = .ok (.lmul, 1) := by decide +kernel
theorem dX0_gauge_35 : decode cX0_gauge 35 = .ok (.aload_n 0, 1) := by decide +kernel
theorem dX0_gauge_36 : decode cX0_gauge 36 = .ok (.getfield 39, 3) := by decide +kernel
theorem dX0_gauge_39 : decode cX0_gauge 39 = .ok (.invokestatic 99, 3) := by decide +kernel
theorem dX0_gauge_42 : decode cX0_gauge 42 = .ok (.invokestatic 105, 3) := by decide +kernel
theorem dX0_gauge_45 : decode cX0_gauge 45 = .ok (.l2i, 1) := by decide +kernel
theorem dX0_gauge_46 : decode cX0_gauge 46 = .ok (.ireturn, 1) := by decide +kernel
noncomputable def EX0_gauge : Sx := (sseq (sif (bc ceq (fgi 0 8 (rl 0)) (ik (-1))) (sret (ik (-3))) snop) (sseq (sif (bz cne (cvz 0 DX0_isEndless (rl 0) (ai (il 1) anil))) (sret (ik 99999999)) snop) (sret (l2i (j2 mnj (jk 99999999) (csj DX2_over (aj (j2 (· * ·) (jk 1000) (jald (fgr 0 10 (rl 0)) (il 1))) (aj (fgj 0 11 (rl 0)) anil))))))))
noncomputable def DX0_gauge : Fi := mfi 2 EX0_gauge
set_option maxRecDepth 4000 in
theorem BX0_gauge : Vs RX0 cX0_gauge 2 (rmk 1 40) 0 0 EX0_gauge := (v_seq (v_if (v_ieq_f (v_gfi kX0 lk214 (by decide) rfl (v_aload_n (i := 0) dX0_gauge_0 rfl (rfl : 0 + 1 = 1)) dX0_gauge_1 (rfl : 1 + 3 = 4)) (v_iconst (v := (-1)) dX0_gauge_4 (by decide) (rfl : 4 + 1 = 5)) dX0_gauge_5 (rfl : ((5 : Nat) : Int) + 6 = ((11 : Nat) : Int)) (rfl : 5 + 3 = 8)) (v_ret (v_bipush (v := (-3)) dX0_gauge_8 (by decide) (rfl : 8 + 2 = 10)) dX0_gauge_10) v_nop) (v_seq (v_if (v_zne_f (v_cvz kX0 IX0_isEndless hX0_isEndless lk654 ⟨by decide, by decide⟩ (by decide) (v_aload_n (i := 0) dX0_gauge_11 rfl (rfl : 11 + 1 = 12)) (v_ai (v_iload_n (i := 1) dX0_gauge_12 rfl (rfl : 12 + 1 = 13)) v_anil) dX0_gauge_13 (rfl : 13 + 3 = 16)) dX0_gauge_16 (rfl : ((16 : Nat) : Int) + 6 = ((22 : Nat) : Int)) (rfl : 16 + 3 = 19)) (v_ret (v_ldc (v := 99999999) lk658 dX0_gauge_19 (rfl : 19 + 2 = 21)) dX0_gauge_21) v_nop) (v_ret (v_l2i (v_mnj lk662 ma_mnj_s lkMath ma_mnj_c ⟨by decide, by decide⟩ (v_ldc2 (v := 99999999) lk659 dX0_gauge_22 (rfl : 22 + 3 = 25)) (v_csj IX2_over hX2_over lk661 ⟨by decide, by decide⟩ (by decide) (v_aj (v_lmul (v_ldc2 (v := 1000) lk660 dX0_gauge_25 (rfl : 25 + 3 = 28)) (v_jald (v_gfr kX0 lk216 (by decide) rfl (v_aload_n (i := 0) dX0_gauge_28 rfl (rfl : 28 + 1 = 29)) dX0_gauge_29 (rfl : 29 + 3 = 32)) (v_iload_n (i := 1) dX0_gauge_32 rfl (rfl : 32 + 1 = 33)) dX0_gauge_33 (rfl : 33 + 1 = 34)) dX0_gauge_34 (rfl : 34 + 1 = 35)) (v_aj (v_gfj kX0 lk218 (by decide) rfl (v_aload_n (i := 0) dX0_gauge_35 rfl (rfl : 35 + 1 = 36)) dX0_gauge_36 (rfl : 36 + 3 = 39)) v_anil)) dX0_gauge_39 (rfl : 39 + 3 = 42)) dX0_gauge_42 (rfl : 42 + 3 = 45)) dX0_gauge_45 (rfl : 45 + 1 = 46)) dX0_gauge_46)))
theorem IX0_gauge : Mi yX0_gauge cX0_gauge 2 (rmk 1 40) DX0_gauge := mk_i (by decide +kernel) BX0_gauge

theorem dX0_netsWithoutSpeed_0 : decode cX0_netsWithoutSpeed 0 = .ok (.iconst 0, 1) := by decide +kernel
theorem dX0_netsWithoutSpeed_1 : decode cX0_netsWithoutSpeed 1 = .ok (.istore_n 1, 1) := by decide +kernel
theorem dX0_netsWithoutSpeed_2 : decode cX0_netsWithoutSpeed 2 = .ok (.iconst 0, 1) := by decide +kernel
theorem dX0_netsWithoutSpeed_3 : decode cX0_netsWithoutSpeed 3 = .ok (.istore_n 2, 1) := by decide +kernel
theorem dX0_netsWithoutSpeed_4 : decode cX0_netsWithoutSpeed 4 = .ok (.iload_n 2, 1) := by decide +kernel
theorem dX0_netsWithoutSpeed_5 : decode cX0_netsWithoutSpeed 5 = .ok (.aload_n 0, 1) := by decide +kernel
theorem dX0_netsWithoutSpeed_6 : decode cX0_netsWithoutSpeed 6 = .ok (.getfield 11, 3) := by decide +kernel
theorem dX0_netsWithoutSpeed_9 : decode cX0_netsWithoutSpeed 9 = .ok (.iconst 0, 1) := by decide +kernel
theorem dX0_netsWithoutSpeed_10 : decode cX0_netsWithoutSpeed 10 = .ok (.iaload, 1) := by decide +kernel
theorem dX0_netsWithoutSpeed_11 : decode cX0_netsWithoutSpeed 11 = .ok (.if_icmp .ge 27, 3) := by decide +kernel
theorem dX0_netsWithoutSpeed_14 : decode cX0_netsWithoutSpeed 14 = .ok (.aload_n 0, 1) := by decide +kernel
theorem dX0_netsWithoutSpeed_15 : decode cX0_netsWithoutSpeed 15 = .ok (.getfield 33, 3) := by decide +kernel
theorem dX0_netsWithoutSpeed_18 : decode cX0_netsWithoutSpeed 18 = .ok (.iload_n 2, 1) := by decide +kernel
theorem dX0_netsWithoutSpeed_19 : decode cX0_netsWithoutSpeed 19 = .ok (.iaload, 1) := by decide +kernel
theorem dX0_netsWithoutSpeed_20 : decode cX0_netsWithoutSpeed 20 = .ok (.ifCond .le 12, 3) := by decide +kernel
theorem dX0_netsWithoutSpeed_23 : decode cX0_netsWithoutSpeed 23 = .ok (.iload_n 1, 1) := by decide +kernel
theorem dX0_netsWithoutSpeed_24 : decode cX0_netsWithoutSpeed 24 = .ok (.aload_n 0, 1) := by decide +kernel
theorem dX0_netsWithoutSpeed_25 : decode cX0_netsWithoutSpeed 25 = .ok (.getfield 30, 3) := by decide +kernel
theorem dX0_netsWithoutSpeed_28 : decode cX0_netsWithoutSpeed 28 = .ok (.iload_n 2, 1) := by decide +kernel
theorem dX0_netsWithoutSpeed_29 : decode cX0_netsWithoutSpeed 29 = .ok (.iaload, 1) := by decide +kernel
theorem dX0_netsWithoutSpeed_30 : decode cX0_netsWithoutSpeed 30 = .ok (.ior, 1) := by decide +kernel
theorem dX0_netsWithoutSpeed_31 : decode cX0_netsWithoutSpeed 31 = .ok (.istore_n 1, 1) := by decide +kernel
theorem dX0_netsWithoutSpeed_32 : decode cX0_netsWithoutSpeed 32 = .ok (.iinc 2 1, 3) := by decide +kernel
theorem dX0_netsWithoutSpeed_35 : decode cX0_netsWithoutSpeed 35 = .ok (.goto (-31), 3) := by decide +kernel
theorem dX0_netsWithoutSpeed_38 : decode cX0_netsWithoutSpeed 38 = .ok (.iconst 1, 1) := by decide +kernel
theorem dX0_netsWithoutSpeed_39 : decode cX0_netsWithoutSpeed 39 = .ok (.aload_n 0, 1) := by decide +kernel
theorem dX0_netsWithoutSpeed_40 : decode cX0_netsWithoutSpeed 40 = .ok (.getfield 11, 3) := by decide +kernel
theorem dX0_netsWithoutSpeed_43 : decode cX0_netsWithoutSpeed 43 = .ok (.iconst 0, 1) := by decide +kernel
theorem dX0_netsWithoutSpeed_44 : decode cX0_netsWithoutSpeed 44 = .ok (.iaload, 1) := by decide +kernel
theorem dX0_netsWithoutSpeed_45 : decode cX0_netsWithoutSpeed 45 = .ok (.ishl, 1) := by decide +kernel
theorem dX0_netsWithoutSpeed_46 : decode cX0_netsWithoutSpeed 46 = .ok (.iconst 1, 1) := by decide +kernel
theorem dX0_netsWithoutSpeed_47 : decode cX0_netsWithoutSpeed 47 = .ok (.isub, 1) := by decide +kernel
theorem dX0_netsWithoutSpeed_48 : decode cX0_netsWithoutSpeed 48 = .ok (.iload_n 1, 1) := by decide +kernel
theorem dX0_netsWithoutSpeed_49 : decode cX0_netsWithoutSpeed 49 = .ok (.iconst (-1), 1) := by decide +kernel
theorem dX0_netsWithoutSpeed_50 : decode cX0_netsWithoutSpeed 50 = .ok (.ixor, 1) := by decide +kernel
theorem dX0_netsWithoutSpeed_51 : decode cX0_netsWithoutSpeed 51 = .ok (.iand, 1) := by decide +kernel
theorem dX0_netsWithoutSpeed_52 : decode cX0_netsWithoutSpeed 52 = .ok (.ireturn, 1) := by decide +kernel
noncomputable def qX0_netsWithoutSpeed_1 : Bx := (bc clt (il 2) (iald (fgr 0 0 (rl 0)) (ik 0)))
noncomputable def wX0_netsWithoutSpeed_1 : Sx := (sseq (sif (bz cgt (iald (fgr 0 7 (rl 0)) (il 2))) (ssi 1 (i2 (· ||| ·) (il 1) (iald (fgr 0 6 (rl 0)) (il 2)))) snop) (sinc 2 1))
noncomputable def EX0_netsWithoutSpeed : Sx := (sseq (ssi 1 (ik 0)) (sseq (scut 2 (sseq (ssi 2 (ik 0)) (swh qX0_netsWithoutSpeed_1 wX0_netsWithoutSpeed_1))) (sret (i2 (· &&& ·) (i2 (· - ·) (i2 oshl (ik 1) (iald (fgr 0 0 (rl 0)) (ik 0))) (ik 1)) (i2 (· ^^^ ·) (il 1) (ik (-1)))))))
noncomputable def DX0_netsWithoutSpeed : Fi := mfi 3 EX0_netsWithoutSpeed
set_option maxRecDepth 4000 in
theorem BX0_netsWithoutSpeed : Vs RX0 cX0_netsWithoutSpeed 3 (rmk 0 0) 0 0 EX0_netsWithoutSpeed := (v_seq (v_istore_n (i := 1) (v_iconst (v := 0) dX0_netsWithoutSpeed_0 (by decide) (rfl : 0 + 1 = 1)) dX0_netsWithoutSpeed_1 rfl (by decide) (rfl : 1 + 1 = 2)) (v_seq (v_cut (n := 2) (v_seq (v_istore_n (i := 2) (v_iconst (v := 0) dX0_netsWithoutSpeed_2 (by decide) (rfl : 2 + 1 = 3)) dX0_netsWithoutSpeed_3 rfl (by decide) (rfl : 3 + 1 = 4)) (v_wh (v_ilt_f (v_iload_n (i := 2) dX0_netsWithoutSpeed_4 rfl (rfl : 4 + 1 = 5)) (v_iald (v_gfr kX0 lk206 (by decide) rfl (v_aload_n (i := 0) dX0_netsWithoutSpeed_5 rfl (rfl : 5 + 1 = 6)) dX0_netsWithoutSpeed_6 (rfl : 6 + 3 = 9)) (v_iconst (v := 0) dX0_netsWithoutSpeed_9 (by decide) (rfl : 9 + 1 = 10)) dX0_netsWithoutSpeed_10 (rfl : 10 + 1 = 11)) dX0_netsWithoutSpeed_11 (rfl : ((11 : Nat) : Int) + 27 = ((38 : Nat) : Int)) (rfl : 11 + 3 = 14)) (vs_goto (v_seq (v_if (v_zgt_f (v_iald (v_gfr kX0 lk213 (by decide) rfl (v_aload_n (i := 0) dX0_netsWithoutSpeed_14 rfl (rfl : 14 + 1 = 15)) dX0_netsWithoutSpeed_15 (rfl : 15 + 3 = 18)) (v_iload_n (i := 2) dX0_netsWithoutSpeed_18 rfl (rfl : 18 + 1 = 19)) dX0_netsWithoutSpeed_19 (rfl : 19 + 1 = 20)) dX0_netsWithoutSpeed_20 (rfl : ((20 : Nat) : Int) + 12 = ((32 : Nat) : Int)) (rfl : 20 + 3 = 23)) (v_istore_n (i := 1) (v_ior (v_iload_n (i := 1) dX0_netsWithoutSpeed_23 rfl (rfl : 23 + 1 = 24)) (v_iald (v_gfr kX0 lk212 (by decide) rfl (v_aload_n (i := 0) dX0_netsWithoutSpeed_24 rfl (rfl : 24 + 1 = 25)) dX0_netsWithoutSpeed_25 (rfl : 25 + 3 = 28)) (v_iload_n (i := 2) dX0_netsWithoutSpeed_28 rfl (rfl : 28 + 1 = 29)) dX0_netsWithoutSpeed_29 (rfl : 29 + 1 = 30)) dX0_netsWithoutSpeed_30 (rfl : 30 + 1 = 31)) dX0_netsWithoutSpeed_31 rfl (by decide) (rfl : 31 + 1 = 32)) v_nop) (v_iinc (v := 1) dX0_netsWithoutSpeed_32 (by decide) (by decide) (rfl : 32 + 3 = 35))) dX0_netsWithoutSpeed_35 (rfl : ((35 : Nat) : Int) + (-31) = ((4 : Nat) : Int)))))) (v_ret (v_iand (v_isub (v_ishl (v_iconst (v := 1) dX0_netsWithoutSpeed_38 (by decide) (rfl : 38 + 1 = 39)) (v_iald (v_gfr kX0 lk206 (by decide) rfl (v_aload_n (i := 0) dX0_netsWithoutSpeed_39 rfl (rfl : 39 + 1 = 40)) dX0_netsWithoutSpeed_40 (rfl : 40 + 3 = 43)) (v_iconst (v := 0) dX0_netsWithoutSpeed_43 (by decide) (rfl : 43 + 1 = 44)) dX0_netsWithoutSpeed_44 (rfl : 44 + 1 = 45)) dX0_netsWithoutSpeed_45 (rfl : 45 + 1 = 46)) (v_iconst (v := 1) dX0_netsWithoutSpeed_46 (by decide) (rfl : 46 + 1 = 47)) dX0_netsWithoutSpeed_47 (rfl : 47 + 1 = 48)) (v_ixor (v_iload_n (i := 1) dX0_netsWithoutSpeed_48 rfl (rfl : 48 + 1 = 49)) (v_iconst (v := (-1)) dX0_netsWithoutSpeed_49 (by decide) (rfl : 49 + 1 = 50)) dX0_netsWithoutSpeed_50 (rfl : 50 + 1 = 51)) dX0_netsWithoutSpeed_51 (rfl : 51 + 1 = 52)) dX0_netsWithoutSpeed_52)))
theorem IX0_netsWithoutSpeed : Mi yX0_netsWithoutSpeed cX0_netsWithoutSpeed 3 (rmk 0 0) DX0_netsWithoutSpeed := mk_i (by decide +kernel) BX0_netsWithoutSpeed

theorem dX2_clearColumn_0 : decode cX2_clearColumn 0 = .ok (.iload_n 2, 1) := by decide +kernel
theorem dX2_clearColumn_1 : decode cX2_clearColumn 1 = .ok (.iconst 5, 1) := by decide +kernel
theorem dX2_clearColumn_2 : decode cX2_clearColumn 2 = .ok (.imul, 1) := by decide +kernel
theorem dX2_clearColumn_3 : decode cX2_clearColumn 3 = .ok (.istore 6, 2) := by decide +kernel
theorem dX2_clearColumn_5 : decode cX2_clearColumn 5 = .ok (.iload_n 3, 1) := by decide +kernel
theorem dX2_clearColumn_6 : decode cX2_clearColumn 6 = .ok (.iconst 5, 1) := by decide +kernel
theorem dX2_clearColumn_7 : decode cX2_clearColumn 7 = .ok (.imul, 1) := by decide +kernel
theorem dX2_clearColumn_8 : decode cX2_clearColumn 8 = .ok (.istore 7, 2) := by decide +kernel
theorem dX2_clearColumn_10 : decode cX2_clearColumn 10 = .ok (.aload_n 0, 1) := by decide +kernel
theorem dX2_clearColumn_11 : decode cX2_clearColumn 11 = .ok (.iload 6, 2) := by decide +kernel
theorem dX2_clearColumn_13 : decode cX2_clearColumn 13 = .ok (.iload_n 2, 1) := by decide +kernel
theorem dX2_clearColumn_14 : decode cX2_clearColumn 14 = .ok (.iadd, 1) := by decide +kernel
theorem dX2_clearColumn_15 : decode cX2_clearColumn 15 = .ok (.laload, 1) := by decide +kernel
theorem dX2_clearColumn_16 : decode cX2_clearColumn 16 = .ok (.lstore 8, 2) := by decide +kernel
theorem dX2_clearColumn_18 : decode cX2_clearColumn 18 = .ok (.aload_n 0, 1) := by decide +kernel
theorem dX2_clearColumn_19 : decode cX2_clearColumn 19 = .ok (.iload 7, 2) := by decide +kernel
theorem dX2_clearColumn_21 : decode cX2_clearColumn 21 = .ok (.iload_n 2, 1) := by decide +kernel
theorem dX2_clearColumn_22 : decode cX2_clearColumn 22 = .ok (.iadd, 1) := by decide +kernel
theorem dX2_clearColumn_23 : decode cX2_clearColumn 23 = .ok (.laload, 1) := by decide +kernel
theorem dX2_clearColumn_24 : decode cX2_clearColumn 24 = .ok (.lstore 10, 2) := by decide +kernel
theorem dX2_clearColumn_26 : decode cX2_clearColumn 26 = .ok (.iconst 0, 1) := by decide +kernel
theorem dX2_clearColumn_27 : decode cX2_clearColumn 27 = .ok (.istore 12, 2) := by decide +kernel
theorem dX2_clearColumn_29 : decode cX2_clearColumn 29 = .ok (.iload 12, 2) := by decide +kernel
theorem dX2_clearColumn_31 : decode cX2_clearColumn 31 = .ok (.iload_n 1, 1) := by decide +kernel
theorem dX2_clearColumn_32 : decode cX2_clearColumn 32 = .ok (.if_icmp .ge 61, 3) := by decide +kernel
theorem dX2_clearColumn_35 : decode cX2_clearColumn 35 = .ok (.iload 12, 2) := by decide +kernel
theorem dX2_clearColumn_37 : decode cX2_clearColumn 37 = .ok (.iload_n 2, 1) := by decide +kernel
theorem dX2_clearColumn_38 : decode cX2_clearColumn 38 = .ok (.if_icmp .eq 49, 3) := by decide +kernel
theorem dX2_clearColumn_41 : decode cX2_clearColumn 41 = .ok (.lload 8, 2) := by decide +kernel
theorem dX2_clearColumn_43 : decode cX2_clearColumn 43 = .ok (.aload_n 0, 1) := by decide +kernel
theorem dX2_clearColumn_44 : decode cX2_clearColumn 44 = .ok (.iload 7, 2) := by decide +kernel
theorem dX2_clearColumn_46 : decode cX2_clearColumn 46 = .ok (.iload 12, 2) := by decide +kernel
theorem dX2_clearColumn_48 : decode cX2_clearColumn 48 = .ok (.iadd, 1) := by decide +kernel
theorem dX2_clearColumn_49 : decode cX2_clearColumn 49 = .ok (.laload, 1) := by decide +kernel
theorem dX2_clearColumn_50 : decode cX2_clearColumn 50 = .ok (.lmul, 1) := by decide +kernel
theorem dX2_clearColumn_51 : decode cX2_clearColumn 51 = .ok (.lload 10, 2) := by decide +kernel
theorem dX2_clearColumn_53 : decode cX2_clearColumn 53 = .ok (.aload_n 0, 1) := by decide +kernel
theorem dX2_clearColumn_54 : decode cX2_clearColumn 54 = .ok (.iload 6, 2) := by decide +kernel
theorem dX2_clearColumn_56 : decode cX2_clearColumn 56 = .ok (.iload 12, 2) := by decide +kernel
theorem dX2_clearColumn_58 : decode cX2_clearColumn 58 = .ok (.iadd, 1) := by decide +kernel
theorem dX2_clearColumn_59 : decode cX2_clearColumn 59 = .ok (.laload, 1) := by decide +kernel
theorem dX2_clearColumn_60 : decode cX2_clearColumn 60 = .ok (.lmul, 1) := by decide +kernel
theorem dX2_clearColumn_61 : decode cX2_clearColumn 61 = .ok (.lsub, 1) := by decide +kernel
theorem dX2_clearColumn_62 : decode cX2_clearColumn 62 = .ok (.lstore 13, 2) := by decide +kernel
theorem dX2_clearColumn_64 : decode cX2_clearColumn 64 = .ok (.aload_n 0, 1) := by decide +kernel
theorem dX2_clearColumn_65 : decode cX2_clearColumn 65 = .ok (.iload 7, 2) := by decide +kernel
theorem dX2_clearColumn_67 : decode cX2_clearColumn 67 = .ok (.iload 12, 2) := by decide +kernel
theorem dX2_clearColumn_69 : decode cX2_clearColumn 69 = .ok (.iadd, 1) := by decide +kernel
theorem dX2_clearColumn_70 : decode cX2_clearColumn 70 = .ok (.lload 4, 2) := by decide +kernel
theorem dX2_clearColumn_72 : decode cX2_clearColumn 72 = .ok (.lconst 0, 1) := by decide +kernel
theorem dX2_clearColumn_73 : decode cX2_clearColumn 73 = .ok (.lcmp, 1) := by decide +kernel
theorem dX2_clearColumn_74 : decode cX2_clearColumn 74 = .ok (.ifCond .ne 7, 3) := by decide +kernel
theorem dX2_clearColumn_77 : decode cX2_clearColumn 77 = .ok (.lconst 0, 1) := by decide +kernel
theorem dX2_clearColumn_78 : decode cX2_clearColumn 78 = .ok (.goto 8, 3) := by decide +kernel
theorem dX2_clearColumn_81 : decode cX2_clearColumn 81 = .ok (.lload 13, 2) := by decide +kernel
theorem dX2_clearColumn_83 : decode cX2_clearColumn 83 = .ok (.lload 4, 2) := by decide +kernel
theorem dX2_clearColumn_85 : decode cX2_clearColumn 85 = .ok (.ldiv, 1) := by decide +kernel
theorem dX2_clearColumn_86 : decode cX2_clearColumn 86 = .ok (.lastore, 1) := by decide +kernel
theorem dX2_clearColumn_87 : decode cX2_clearColumn 87 = .ok (.iinc 12 1, 3) := by decide +kernel
theorem dX2_clearColumn_90 : decode cX2_clearColumn 90 = .ok (.goto (-61), 3) := by decide +kernel
theorem dX2_clearColumn_93 : decode cX2_clearColumn 93 = .ok (.aload_n 0, 1) := by decide +kernel
theorem dX2_clearColumn_94 : decode cX2_clearColumn 94 = .ok (.iload 7, 2) := by decide +kernel
theorem dX2_clearColumn_96 : decode cX2_clearColumn 96 = .ok (.iload_n 2, 1) := by decide +kernel
theorem dX2_clearColumn_97 : decode cX2_clearColumn 97 = .ok (.iadd, 1) := by decide +kernel
theorem dX2_clearColumn_98 : decode cX2_clearColumn 98 = .ok (.lload 10, 2) := by decide +kernel
theorem dX2_clearColumn_100 : decode cX2_clearColumn 100 = .ok (.lneg, 1) := by decide +kernel
theorem dX2_clearColumn_101 : decode cX2_clearColumn 101 = .ok (.lastore, 1) := by decide +kernel
theorem dX2_clearColumn_102 : decode cX2_clearColumn 102 = .ok (.return_, 1) := by decide +kernel
noncomputable def qX2_clearColumn_1 : Bx := (bc clt (il 12) (il 1))
noncomputable def wX2_clearColumn_1 : Sx := (sseq (sif (bc cne (il 12) (il 2)) (scut 13 (sseq (ssj 13 (j2 (· - ·) (j2 (· * ·) (jl 8) (jald (rl 0) (i2 (· + ·) (il 7) (il 12)))) (j2 (· * ·) (jl 10) (jald (rl 0) (i2 (· + ·) (il 6) (il 12)))))) (aij (rl 0) (i2 (· + ·) (il 7) (il 12)) (jc (bj qeq (jl 4) (jk 0)) (jk 0) (j2d (· / ·) (jl 13) (jl 4)))))) snop) (sinc 12 1))
noncomputable def EX2_clearColumn : Sx := (sseq (sseq (ssi 6 (i2 (· * ·) (il 2) (ik 5))) (sseq (ssi 7 (i2 (· * ·) (il 3) (ik 5))) (sseq (ssj 8 (jald (rl 0) (i2 (· + ·) (il 6) (il 2)))) (sseq (ssj 10 (jald (rl 0) (i2 (· + ·) (il 7) (il 2)))) (sseq (scut 12 (sseq (ssi 12 (ik 0)) (swh qX2_clearColumn_1 wX2_clearColumn_1))) (aij (rl 0) (i2 (· + ·) (il 7) (il 2)) (j1 (fun x => -x) (jl 10)))))))) sretv)
noncomputable def DX2_clearColumn : Fu := mfv 15 EX2_clearColumn
set_option maxRecDepth 4000 in
theorem BX2_clearColumn : Vs RX2 cX2_clearColumn 15 (rmk 0 0) 0 0 EX2_clearColumn := (v_seq (v_seq (v_istore (i := 6) (v_imul (v_iload_n (i := 2) dX2_clearColumn_0 rfl (rfl : 0 + 1 = 1)) (v_iconst (v := 5) dX2_clearColumn_1 (by decide) (rfl : 1 + 1 = 2)) dX2_clearColumn_2 (rfl : 2 + 1 = 3)) dX2_clearColumn_3 (by decide) (rfl : 3 + 2 = 5)) (v_seq (v_istore (i := 7) (v_imul (v_iload_n (i := 3) dX2_clearColumn_5 rfl (rfl : 5 + 1 = 6)) (v_iconst (v := 5) dX2_clearColumn_6 (by decide) (rfl : 6 + 1 = 7)) dX2_clearColumn_7 (rfl : 7 + 1 = 8)) dX2_clearColumn_8 (by decide) (rfl : 8 + 2 = 10)) (v_seq (v_lstore (i := 8) (v_jald (v_aload_n (i := 0) dX2_clearColumn_10 rfl (rfl : 10 + 1 = 11)) (v_iadd (v_iload (i := 6) dX2_clearColumn_11 (rfl : 11 + 2 = 13)) (v_iload_n (i := 2) dX2_clearColumn_13 rfl (rfl : 13 + 1 = 14)) dX2_clearColumn_14 (rfl : 14 + 1 = 15)) dX2_clearColumn_15 (rfl : 15 + 1 = 16)) dX2_clearColumn_16 (by decide) (rfl : 16 + 2 = 18)) (v_seq (v_lstore (i := 10) (v_jald (v_aload_n (i := 0) dX2_clearColumn_18 rfl (rfl : 18 + 1 = 19)) (v_iadd (v_iload (i := 7) dX2_clearColumn_19 (rfl : 19 + 2 = 21)) (v_iload_n (i := 2) dX2_clearColumn_21 rfl (rfl : 21 + 1 = 22)) dX2_clearColumn_22 (rfl : 22 + 1 = 23)) dX2_clearColumn_23 (rfl : 23 + 1 = 24)) dX2_clearColumn_24 (by decide) (rfl : 24 + 2 = 26)) (v_seq (v_cut (n := 12) (v_seq (v_istore (i := 12) (v_iconst (v := 0) dX2_clearColumn_26 (by decide) (rfl : 26 + 1 = 27)) dX2_clearColumn_27 (by decide) (rfl : 27 + 2 = 29)) (v_wh (v_ilt_f (v_iload (i := 12) dX2_clearColumn_29 (rfl : 29 + 2 = 31)) (v_iload_n (i := 1) dX2_clearColumn_31 rfl (rfl : 31 + 1 = 32)) dX2_clearColumn_32 (rfl : ((32 : Nat) : Int) + 61 = ((93 : Nat) : Int)) (rfl : 32 + 3 = 35)) (vs_goto (v_seq (v_if (v_ine_f (v_iload (i := 12) dX2_clearColumn_35 (rfl : 35 + 2 = 37)) (v_iload_n (i := 2) dX2_clearColumn_37 rfl (rfl : 37 + 1 = 38)) dX2_clearColumn_38 (rfl : ((38 : Nat) : Int) + 49 = ((87 : Nat) : Int)) (rfl : 38 + 3 = 41)) (v_cut (n := 13) (v_seq (v_lstore (i := 13) (v_lsub (v_lmul (v_lload (i := 8) dX2_clearColumn_41 (rfl : 41 + 2 = 43)) (v_jald (v_aload_n (i := 0) dX2_clearColumn_43 rfl (rfl : 43 + 1 = 44)) (v_iadd (v_iload (i := 7) dX2_clearColumn_44 (rfl : 44 + 2 = 46)) (v_iload (i := 12) dX2_clearColumn_46 (rfl : 46 + 2 = 48)) dX2_clearColumn_48 (rfl : 48 + 1 = 49)) dX2_clearColumn_49 (rfl : 49 + 1 = 50)) dX2_clearColumn_50 (rfl : 50 + 1 = 51)) (v_lmul (v_lload (i := 10) dX2_clearColumn_51 (rfl : 51 + 2 = 53)) (v_jald (v_aload_n (i := 0) dX2_clearColumn_53 rfl (rfl : 53 + 1 = 54)) (v_iadd (v_iload (i := 6) dX2_clearColumn_54 (rfl : 54 + 2 = 56)) (v_iload (i := 12) dX2_clearColumn_56 (rfl : 56 + 2 = 58)) dX2_clearColumn_58 (rfl : 58 + 1 = 59)) dX2_clearColumn_59 (rfl : 59 + 1 = 60)) dX2_clearColumn_60 (rfl : 60 + 1 = 61)) dX2_clearColumn_61 (rfl : 61 + 1 = 62)) dX2_clearColumn_62 (by decide) (rfl : 62 + 2 = 64)) (v_aij (v_aload_n (i := 0) dX2_clearColumn_64 rfl (rfl : 64 + 1 = 65)) (v_iadd (v_iload (i := 7) dX2_clearColumn_65 (rfl : 65 + 2 = 67)) (v_iload (i := 12) dX2_clearColumn_67 (rfl : 67 + 2 = 69)) dX2_clearColumn_69 (rfl : 69 + 1 = 70)) (v_jc (v_jeq_f (v_lload (i := 4) dX2_clearColumn_70 (rfl : 70 + 2 = 72)) (v_lconst (v := 0) dX2_clearColumn_72 (by decide) (rfl : 72 + 1 = 73)) dX2_clearColumn_73 dX2_clearColumn_74 (rfl : ((74 : Nat) : Int) + 7 = ((81 : Nat) : Int)) (rfl : 74 + 3 = 77)) (vj_goto (v_lconst (v := 0) dX2_clearColumn_77 (by decide) (rfl : 77 + 1 = 78)) dX2_clearColumn_78 (rfl : ((78 : Nat) : Int) + 8 = ((86 : Nat) : Int))) (v_ldiv (v_lload (i := 13) dX2_clearColumn_81 (rfl : 81 + 2 = 83)) (v_lload (i := 4) dX2_clearColumn_83 (rfl : 83 + 2 = 85)) dX2_clearColumn_85 (rfl : 85 + 1 = 86))) dX2_clearColumn_86 (rfl : 86 + 1 = 87)))) v_nop) (v_iinc (v := 1) dX2_clearColumn_87 (by decide) (by decide) (rfl : 87 + 3 = 90))) dX2_clearColumn_90 (rfl : ((90 : Nat) : Int) + (-61) = ((29 : Nat) : Int)))))) (v_aij (v_aload_n (i := 0) dX2_clearColumn_93 rfl (rfl : 93 + 1 = 94)) (v_iadd (v_iload (i := 7) dX2_clearColumn_94 (rfl : 94 + 2 = 96)) (v_iload_n (i := 2) dX2_clearColumn_96 rfl (rfl : 96 + 1 = 97)) dX2_clearColumn_97 (rfl : 97 + 1 = 98)) (v_lneg (v_lload (i := 10) dX2_clearColumn_98 (rfl : 98 + 2 = 100)) dX2_clearColumn_100 (rfl : 100 + 1 = 101)) dX2_clearColumn_101 (rfl : 101 + 1 = 102))))))) (v_retv dX2_clearColumn_102))
theorem IX2_clearColumn : Mv yX2_clearColumn cX2_clearColumn 15 (rmk 0 0) DX2_clearColumn := mk_v (by decide +kernel) BX2_clearColumn

theorem dX2_invert_0 : decode cX2_invert 0 = .ok (.lconst 1, 1) := by decide +kernel
theorem dX2_invert_1 : decode cX2_invert 1 = .ok (.lstore_n 2, 1) := by decide +kernel
theorem dX2_invert_2 : decode cX2_invert 2 = .ok (.iconst 0, 1) := by decide +kernel
theorem dX2_invert_3 : decode cX2_invert 3 = .ok (.istore 4, 2) := by decide +kernel
theorem dX2_invert_5 : decode cX2_invert 5 = .ok (.iload 4, 2) := by decide +kernel
theorem dX2_invert_7 : decode cX2_invert 7 = .ok (.iload_n 1, 1) := by decide +kernel
theorem dX2_invert_8 : decode cX2_invert 8 = .ok (.if_icmp .ge 65, 3) := by decide +kernel
theorem dX2_invert_11 : decode cX2_invert 11 = .ok (.aload_n 0, 1) := by decide +kernel
theorem dX2_invert_12 : decode cX2_invert 12 = .ok (.iload 4, 2) := by decide +kernel
theorem dX2_invert_14 : decode cX2_invert 14 = .ok (.iconst 5, 1) := by decide +kernel
theorem dX2_invert_15 : decode cX2_invert 15 = .ok (.imul, 1) := by decide +kernel
theorem dX2_invert_16 : decode cX2_invert 16 = .ok (.iload 4, 2) := by decide +kernel
theorem dX2_invert_18 : decode cX2_invert 18 = .ok (.iadd, 1) := by decide +kernel
theorem dX2_invert_19 : decode cX2_invert 19 = .ok (.laload, 1) := by decide +kernel
theorem dX2_invert_20 : decode cX2_invert 20 = .ok (.lstore 5, 2) := by decide +kernel
theorem dX2_invert_22 : decode cX2_invert 22 = .ok (.iconst 0, 1) := by decide +kernel
theorem dX2_invert_23 : decode cX2_invert 23 = .ok (.istore 7, 2) := by decide +kernel
theorem dX2_invert_25 : decode cX2_invert 25 = .ok (.iload 7, 2) := by decide +kernel
theorem dX2_invert_27 : decode cX2_invert 27 = .ok (.iload_n 1, 1) := by decide +kernel
theorem dX2_invert_28 : decode cX2_invert 28 = .ok (.if_icmp .ge 26, 3) := by decide +kernel
theorem dX2_invert_31 : decode cX2_invert 31 = .ok (.iload 7, 2) := by decide +kernel
theorem dX2_invert_33 : decode cX2_invert 33 = .ok (.iload 4, 2) := by decide +kernel
theorem dX2_invert_35 : decode cX2_invert 35 = .ok (.if_icmp .eq 13, 3) := by decide +kernel
theorem dX2_invert_38 : decode cX2_invert 38 = .ok (.aload_n 0, 1) := by decide +kernel
theorem dX2_invert_39 : decode cX2_invert 39 = .ok (.iload_n 1, 1) := by decide +kernel
theorem dX2_invert_40 : decode cX2_invert 40 = .ok (.iload 4, 2) := by decide +kernel
theorem dX2_invert_42 : decode cX2_invert 42 = .ok (.iload 7, 2) := by decide +kernel
theorem dX2_invert_44 : decode cX2_invert 44 = .ok (.lload_n 2, 1) := by decide +kernel
theorem dX2_invert_45 : decode cX2_invert 45 = .ok (.invokestatic 24, 3) := by decide +kernel
theorem dX2_invert_48 : decode cX2_invert 48 = .ok (.iinc 7 1, 3) := by decide +kernel
theorem dX2_invert_51 : decode cX2_invert 51 = .ok (.goto (-26), 3) := by decide +kernel
theorem dX2_invert_54 : decode cX2_invert 54 = .ok (.aload_n 0, 1) := by decide +kernel
theorem dX2_invert_55 : decode cX2_invert 55 = .ok (.iload 4, 2) := by decide +kernel
theorem dX2_invert_57 : decode cX2_invert 57 = .ok (.iconst 5, 1) := by decide +kernel
theorem dX2_invert_58 : decode cX2_invert 58 = .ok (.imul, 1) := by decide +kernel
theorem dX2_invert_59 : decode cX2_invert 59 = .ok (.iload 4, 2) := by decide +kernel
theorem dX2_invert_61 : decode cX2_invert 61 = .ok (.iadd, 1) := by decide +kernel
theorem dX2_invert_62 : decode cX2_invert 62 = .ok (.lload_n 2, 1) := by decide +kernel
theorem dX2_invert_63 : decode cX2_invert 63 = .ok (.lastore, 1) := by decide +kernel
theorem dX2_invert_64 : decode cX2_invert 64 = .ok (.lload 5, 2) := by decide +kernel
theorem dX2_invert_66 : decode cX2_invert 66 = .ok (.lstore_n 2, 1) := by decide +kernel
theorem dX2_invert_67 : decode cX2_invert 67 = .ok (.iinc 4 1, 3) := by decide +kernel
theorem dX2_invert_70 : decode cX2_invert 70 = .ok (.goto (-65), 3) := by decide +kernel
theorem dX2_invert_73 : decode cX2_invert 73 = .ok (.lload_n 2, 1) := by decide +kernel
theorem dX2_invert_74 : decode cX2_invert 74 = .ok (.lreturn, 1) := by decide +kernel
noncomputable def qX2_invert_1 : Bx := (bc clt (il 7) (il 1))
noncomputable def wX2_invert_1 : Sx := (sseq (sif (bc cne (il 7) (il 4)) (scs DX2_clearColumn (ar (rl 0) (ai (il 1) (ai (il 4) (ai (il 7) (aj (jl 2) anil)))))) snop) (sinc 7 1))
noncomputable def qX2_invert_2 : Bx := (bc clt (il 4) (il 1))
noncomputable def wX2_invert_2 : Sx := (sseq (scut 5 (sseq (ssj 5 (jald (rl 0) (i2 (· + ·) (i2 (· * ·) (il 4) (ik 5)) (il 4)))) (sseq (scut 7 (sseq (ssi 7 (ik 0)) (swh qX2_invert_1 wX2_invert_1))) (sseq (aij (rl 0) (i2 (· + ·) (i2 (· * ·) (il 4) (ik 5)) (il 4)) (jl 2)) (ssj 2 (jl 5)))))) (sinc 4 1))
noncomputable def EX2_invert : Sx := (sseq (ssj 2 (jk 1)) (sseq (scut 4 (sseq (ssi 4 (ik 0)) (swh qX2_invert_2 wX2_invert_2))) (sretj (jl 2))))
noncomputable def DX2_invert : Fj := mfj 8 EX2_invert
set_option maxRecDepth 4000 in
theorem BX2_invert : Vs RX2 cX2_invert 8 (rmk 1 34) 0 0 EX2_invert := (v_seq (v_lstore_n (i := 2) (v_lconst (v := 1) dX2_invert_0 (by decide) (rfl : 0 + 1 = 1)) dX2_invert_1 rfl (by decide) (rfl : 1 + 1 = 2)) (v_seq (v_cut (n := 4) (v_seq (v_istore (i := 4) (v_iconst (v := 0) dX2_invert_2 (by decide) (rfl : 2 + 1 = 3)) dX2_invert_3 (by decide) (rfl : 3 + 2 = 5)) (v_wh (v_ilt_f (v_iload (i := 4) dX2_invert_5 (rfl : 5 + 2 = 7)) (v_iload_n (i := 1) dX2_invert_7 rfl (rfl : 7 + 1 = 8)) dX2_invert_8 (rfl : ((8 : Nat) : Int) + 65 = ((73 : Nat) : Int)) (rfl : 8 + 3 = 11)) (vs_goto (v_seq (v_cut (n := 5) (v_seq (v_lstore (i := 5) (v_jald (v_aload_n (i := 0) dX2_invert_11 rfl (rfl : 11 + 1 = 12)) (v_iadd (v_imul (v_iload (i := 4) dX2_invert_12 (rfl : 12 + 2 = 14)) (v_iconst (v := 5) dX2_invert_14 (by decide) (rfl : 14 + 1 = 15)) dX2_invert_15 (rfl : 15 + 1 = 16)) (v_iload (i := 4) dX2_invert_16 (rfl : 16 + 2 = 18)) dX2_invert_18 (rfl : 18 + 1 = 19)) dX2_invert_19 (rfl : 19 + 1 = 20)) dX2_invert_20 (by decide) (rfl : 20 + 2 = 22)) (v_seq (v_cut (n := 7) (v_seq (v_istore (i := 7) (v_iconst (v := 0) dX2_invert_22 (by decide) (rfl : 22 + 1 = 23)) dX2_invert_23 (by decide) (rfl : 23 + 2 = 25)) (v_wh (v_ilt_f (v_iload (i := 7) dX2_invert_25 (rfl : 25 + 2 = 27)) (v_iload_n (i := 1) dX2_invert_27 rfl (rfl : 27 + 1 = 28)) dX2_invert_28 (rfl : ((28 : Nat) : Int) + 26 = ((54 : Nat) : Int)) (rfl : 28 + 3 = 31)) (vs_goto (v_seq (v_if (v_ine_f (v_iload (i := 7) dX2_invert_31 (rfl : 31 + 2 = 33)) (v_iload (i := 4) dX2_invert_33 (rfl : 33 + 2 = 35)) dX2_invert_35 (rfl : ((35 : Nat) : Int) + 13 = ((48 : Nat) : Int)) (rfl : 35 + 3 = 38)) (v_scs IX2_clearColumn hX2_clearColumn lk618 ⟨by decide, by decide⟩ (v_ar (v_aload_n (i := 0) dX2_invert_38 rfl (rfl : 38 + 1 = 39)) (v_ai (v_iload_n (i := 1) dX2_invert_39 rfl (rfl : 39 + 1 = 40)) (v_ai (v_iload (i := 4) dX2_invert_40 (rfl : 40 + 2 = 42)) (v_ai (v_iload (i := 7) dX2_invert_42 (rfl : 42 + 2 = 44)) (v_aj (v_lload_n (i := 2) dX2_invert_44 rfl (rfl : 44 + 1 = 45)) v_anil))))) dX2_invert_45 (rfl : 45 + 3 = 48)) v_nop) (v_iinc (v := 1) dX2_invert_48 (by decide) (by decide) (rfl : 48 + 3 = 51))) dX2_invert_51 (rfl : ((51 : Nat) : Int) + (-26) = ((25 : Nat) : Int)))))) (v_seq (v_aij (v_aload_n (i := 0) dX2_invert_54 rfl (rfl : 54 + 1 = 55)) (v_iadd (v_imul (v_iload (i := 4) dX2_invert_55 (rfl : 55 + 2 = 57)) (v_iconst (v := 5) dX2_invert_57 (by decide) (rfl : 57 + 1 = 58)) dX2_invert_58 (rfl : 58 + 1 = 59)) (v_iload (i := 4) dX2_invert_59 (rfl : 59 + 2 = 61)) dX2_invert_61 (rfl : 61 + 1 = 62)) (v_lload_n (i := 2) dX2_invert_62 rfl (rfl : 62 + 1 = 63)) dX2_invert_63 (rfl : 63 + 1 = 64)) (v_lstore_n (i := 2) (v_lload (i := 5) dX2_invert_64 (rfl : 64 + 2 = 66)) dX2_invert_66 rfl (by decide) (rfl : 66 + 1 = 67)))))) (v_iinc (v := 1) dX2_invert_67 (by decide) (by decide) (rfl : 67 + 3 = 70))) dX2_invert_70 (rfl : ((70 : Nat) : Int) + (-65) = ((5 : Nat) : Int)))))) (v_retj (v_lload_n (i := 2) dX2_invert_73 rfl (rfl : 73 + 1 = 74)) dX2_invert_74)))
theorem IX2_invert : Mj yX2_invert cX2_invert 8 (rmk 1 34) DX2_invert := mk_j (by decide +kernel) BX2_invert

theorem dX0_prepare_0 : decode cX0_prepare 0 = .ok (.aload_n 0, 1) := by decide +kernel
theorem dX0_prepare_1 : decode cX0_prepare 1 = .ok (.iload_n 1, 1) := by decide +kernel
theorem dX0_prepare_2 : decode cX0_prepare 2 = .ok (.invokevirtual 166, 3) := by decide +kernel
theorem dX0_prepare_5 : decode cX0_prepare 5 = .ok (.ifCond .ne 11, 3) := by decide +kernel
theorem dX0_prepare_8 : decode cX0_prepare 8 = .ok (.aload_n 0, 1) := by decide +kernel
theorem dX0_prepare_9 : decode cX0_prepare 9 = .ok (.iload_n 1, 1) := by decide +kernel
theorem dX0_prepare_10 : decode cX0_prepare 10 = .ok (.invokevirtual 178, 3) := by decide +kernel
theorem dX0_prepare_13 : decode cX0_prepare 13 = .ok (.ifCond .ne 4, 3) := by decide +kernel
theorem dX0_prepare_16 : decode cX0_prepare 16 = .ok (.return_, 1) := by decide +kernel
theorem dX0_prepare_17 : decode cX0_prepare 17 = .ok (.aload_n 0, 1) := by decide +kernel
theorem dX0_prepare_18 : decode cX0_prepare 18 = .ok (.getfield 33, 3) := by decide +kernel
theorem dX0_prepare_21 : decode cX0_prepare 21 = .ok (.iconst 0, 1) := by decide +kernel
theorem dX0_prepare_22 : decode cX0_prepare 22 = .ok (.invokestatic 123, 3) := by decide +kernel
theorem dX0_prepare_25 : decode cX0_prepare 25 = .ok (.iconst 0, 1) := by decide +kernel
theorem dX0_prepare_26 : decode cX0_prepare 26 = .ok (.istore_n 2, 1) := by decide +kernel
theorem dX0_prepare_27 : decode cX0_prepare 27 = .ok (.iload_n 2, 1) := by decide +kernel
theorem dX0_prepare_28 : decode cX0_prepare 28 = .ok (.iconst 3, 1) := by decide +kernel
theorem dX0_prepare_29 : decode cX0_prepare 29 = .ok (.if_icmp .ge 41, 3) := by decide +kernel
theorem dX0_prepare_32 : decode cX0_prepare 32 = .ok (.aload_n 0, 1) := by decide +kernel
theorem dX0_prepare_33 : decode cX0_prepare 33 = .ok (.getfield 33, 3) := by decide +kernel
theorem dX0_prepare_36 : decode cX0_prepare 36 = .ok (.aload_n 0, 1) := by decide +kernel
theorem dX0_prepare_37 : decode cX0_prepare 37 = .ok (.iload_n 2, 1) := by decide +kernel
theorem dX0_prepare_38 : decode cX0_prepare 38 = .ok (.invokevirtual 175, 3) := by decide +kernel
theorem dX0_prepare_41 : decode cX0_prepare 41 = .ok (.dup2, 1) := by decide +kernel
theorem dX0_prepare_42 : decode cX0_prepare 42 = .ok (.iaload, 1) := by decide +kernel
theorem dX0_prepare_43 : decode cX0_prepare 43 = .ok (.aload_n 0, 1) := by decide +kernel
theorem dX0_prepare_44 : decode cX0_prepare 44 = .ok (.getfield 11, 3) := by decide +kernel
theorem dX0_prepare_47 : decode cX0_prepare 47 = .ok (.bipush 28, 2) := by decide +kernel
theorem dX0_prepare_49 : decode cX0_prepare 49 = .ok (.iload_n 2, 1) := by decide +kernel
theorem dX0_prepare_50 : decode cX0_prepare 50 = .ok (.iconst 5, 1) := by decide +kernel
theorem dX0_prepare_51 : decode cX0_prepare 51 = .ok (.imul, 1) := by decide +kernel
theorem dX0_prepare_52 : decode cX0_prepare 52 = .ok (.iadd, 1) := by decide +kernel
theorem dX0_prepare_53 : decode cX0_prepare 53 = .ok (.iconst 2, 1) := by decide +kernel
theorem dX0_prepare_54 : decode cX0_prepare 54 = .ok (.iadd, 1) := by decide +kernel
theorem dX0_prepare_55 : decode cX0_prepare 55 = .ok (.iload_n 1, 1) := by decide +kernel
theorem dX0_prepare_56 : decode cX0_prepare 56 = .ok (.iload_n 2, 1) := by decide +kernel
theorem dX0_prepare_57 : decode cX0_prepare 57 = .ok (.invokestatic 87, 3) := by decide +kernel
theorem dX0_prepare_60 : decode cX0_prepare 60 = .ok (.iadd, 1) := by decide +kernel
theorem dX0_prepare_61 : decode cX0_prepare 61 = .ok (.iaload, 1) := by decide +kernel
theorem dX0_prepare_62 : decode cX0_prepare 62 = .ok (.iadd, 1) := by decide +kernel
theorem dX0_prepare_63 : decode cX0_prepare 63 = .ok (.iastore, 1) := by decide +kernel
theorem dX0_prepare_64 : decode cX0_prepare 64 = .ok (.iinc 2 1, 3) := by decide +kernel
theorem dX0_prepare_67 : decode cX0_prepare 67 = .ok (.goto (-40), 3) := by decide +kernel
theorem dX0_prepare_70 : decode cX0_prepare 70 = .ok (.aload_n 0, 1) := by decide +kernel
theorem dX0_prepare_71 : decode cX0_prepare 71 = .ok (.getfield 11, 3) := by decide +kernel
theorem dX0_prepare_74 : decode cX0_prepare 74 = .ok (.iconst 1, 1) := by decide +kernel
theorem dX0_prepare_75 : decode cX0_prepare 75 = .ok (.iaload, 1) := by decide +kernel
theorem dX0_prepare_76 : decode cX0_prepare 76 = .ok (.iconst (-1), 1) := by decide +kernel
theorem dX0_prepare_77 : decode cX0_prepare 77 = .ok (.if_icmp .eq 23, 3) := by decide +kernel
theorem dX0_prepare_80 : decode cX0_prepare 80 = .ok (.aload_n 0, 1) := by decide +kernel
theorem dX0_prepare_81 : decode cX0_prepare 81 = .ok (.getfield 33, 3) := by decide +kernel
theorem dX0_prepare_84 : decode cX0_prepare 84 = .ok (.aload_n 0, 1) := by decide +kernel
theorem dX0_prepare_85 : decode cX0_prepare 85 = .ok (.getfield 11, 3) := by decide +kernel
theorem dX0_prepare_88 : decode cX0_prepare 88 = .ok (.iconst 1, 1) := by decide +kernel
theorem dX0_prepare_89 : decode cX0_prepare 89 = .ok (.iaload, 1) := by decide +kernel
theorem dX0_prepare_90 : decode cX0_prepare 90 = .ok (.dup2, 1) := by decide +kernel
theorem dX0_prepare_91 : decode cX0_prepare 91 = .ok (.iaload, 1) := by decide +kernel
theorem dX0_prepare_92 : decode cX0_prepare 92 = .ok (.aload_n 0, 1) := by decide +kernel
theorem dX0_prepare_93 : decode cX0_prepare 93 = .ok (.getfield 11, 3) := by decide +kernel
theorem dX0_prepare_96 : decode cX0_prepare 96 = .ok (.iconst 2, 1) := by decide +kernel
theorem dX0_prepare_97 : decode cX0_prepare 97 = .ok (.iaload, 1) := by decide +kernel
theorem dX0_prepare_98 : decode cX0_prepare 98 = .ok (.iadd, 1) := by decide +kernel
theorem dX0_prepare_99 : decode cX0_prepare 99 = .ok (.iastore, 1) := by decide +kernel
theorem dX0_prepare_100 : decode cX0_prepare 100 = .ok (.aload_n 0, 1) := by decide +kernel
theorem dX0_prepare_101 : decode cX0_prepare 101 = .ok (.getfield 27, 3) := by decide +kernel
theorem dX0_prepare_104 : decode cX0_prepare 104 = .ok (.iload_n 1, 1) := by decide +kernel
theorem dX0_prepare_105 : decode cX0_prepare 105 = .ok (.aload_n 0, 1) := by decide +kernel
theorem dX0_prepare_106 : decode cX0_prepare 106 = .ok (.invokevirtual 181, 3) := by decide +kernel
theorem dX0_prepare_109 : decode cX0_prepare 109 = .ok (.iastore, 1) := by decide +kernel
theorem dX0_prepare_110 : decode cX0_prepare 110 = .ok (.aload_n 0, 1) := by decide +kernel
theorem dX0_prepare_111 : decode cX0_prepare 111 = .ok (.iload_n 1, 1) := by decide +kernel
theorem dX0_prepare_112 : decode cX0_prepare 112 = .ok (.invokevirtual 185, 3) := by decide +kernel
theorem dX0_prepare_115 : decode cX0_prepare 115 = .ok (.aload_n 0, 1) := by decide +kernel
theorem dX0_prepare_116 : decode cX0_prepare 116 = .ok (.getfield 23, 3) := by decide +kernel
theorem dX0_prepare_119 : decode cX0_prepare 119 = .ok (.iload_n 1, 1) := by decide +kernel
theorem dX0_prepare_120 : decode cX0_prepare 120 = .ok (.aload_n 0, 1) := by decide +kernel
theorem dX0_prepare_121 : decode cX0_prepare 121 = .ok (.getfield 20, 3) := by decide +kernel
theorem dX0_prepare_124 : decode cX0_prepare 124 = .ok (.iload_n 1, 1) := by decide +kernel
theorem dX0_prepare_125 : decode cX0_prepare 125 = .ok (.aaload, 1) := by decide +kernel
theorem dX0_prepare_126 : decode cX0_prepare 126 = .ok (.aload_n 0, 1) := by decide +kernel
theorem dX0_prepare_127 : decode cX0_prepare 127 = .ok (.getfield 11, 3) := by decide +kernel
theorem dX0_prepare_130 : decode cX0_prepare 130 = .ok (.iconst 0, 1) := by decide +kernel
theorem dX0_prepare_131 : decode cX0_prepare 131 = .ok (.iaload, 1) := by decide +kernel
theorem dX0_prepare_132 : decode cX0_prepare 132 = .ok (.invokestatic 188, 3) := by decide +kernel
theorem dX0_prepare_135 : decode cX0_prepare 135 = .ok (.lastore, 1) := by decide +kernel
theorem dX0_prepare_136 : decode cX0_prepare 136 = .ok (.aload_n 0, 1) := by decide +kernel
theorem dX0_prepare_137 : decode cX0_prepare 137 = .ok (.dup, 1) := by decide +kernel
theorem dX0_prepare_138 : decode cX0_prepare 138 = .ok (.getfield 61, 3) := by decide +kernel
theorem dX0_prepare_141 : decode cX0_prepare 141 = .ok (.iconst 1, 1) := by decide +kernel
theorem dX0_prepare_142 : decode cX0_prepare 142 = .ok (.iload_n 1, 1) := by decide +kernel
theorem dX0_prepare_143 : decode cX0_prepare 143 = .ok (.ishl, 1) := by decide +kernel
theorem dX0_prepare_144 : decode cX0_prepare 144 = .ok (.ior, 1) := by decide +kernel
theorem dX0_prepare_145 : decode cX0_prepare 145 = .ok (.putfield 61, 3) := by decide +kernel
theorem dX0_prepare_148 : decode cX0_prepare 148 = .ok (.return_, 1) := by decide +kernel
noncomputable def qX0_prepare_1 : Bx := (bc clt (il 2) (ik 3))
noncomputable def wX0_prepare_1 : Sx := (sseq (aoi (· + ·) (fgr 0 7 (rl 0)) (cvi 0 DX0_placeOf (rl 0) (ai (il 2) anil)) (iald (fgr 0 0 (rl 0)) (i2 (· + ·) (i2 (· + ·) (i2 (· + ·) (ik 28) (i2 (· * ·) (il 2) (ik 5))) (ik 2)) (csi DX0_stageIn (ai (il 1) (ai (il 2) anil)))))) (sinc 2 1))
noncomputable def EX0_prepare : Sx := (sseq (sseq (sif (bor (bz cne (cvz 0 DX0_isInverted (rl 0) (ai (il 1) anil))) (bnot (bz cne (cvz 0 DX0_canBe (rl 0) (ai (il 1) anil))))) sretv snop) (sseq (scs DJ7_fill_53178 (ar (fgr 0 7 (rl 0)) (ai (ik 0) anil))) (sseq (scut 2 (sseq (ssi 2 (ik 0)) (swh qX0_prepare_1 wX0_prepare_1))) (sseq (sif (bc cne (iald (fgr 0 0 (rl 0)) (ik 1)) (ik (-1))) (aoi (· + ·) (fgr 0 7 (rl 0)) (iald (fgr 0 0 (rl 0)) (ik 1)) (iald (fgr 0 0 (rl 0)) (ik 2))) snop) (sseq (aii (fgr 0 5 (rl 0)) (il 1) (cvi 0 DX0_netsWithoutSpeed (rl 0) anil)) (sseq (scv 0 DX0_fillMatrix (rl 0) (ai (il 1) anil)) (sseq (aij (fgr 0 3 (rl 0)) (il 1) (csj DX2_invert (ar (rald 13 (fgr 0 2 (rl 0)) (il 1)) (ai (iald (fgr 0 0 (rl 0)) (ik 0)) anil)))) (foi (· ||| ·) 0 4 (rl 0) (i2 oshl (ik 1) (il 1)))))))))) sretv)
noncomputable def DX0_prepare : Fu := mfv 3 EX0_prepare
set_option maxRecDepth 4000 in
theorem BX0_prepare : Vs RX0 cX0_prepare 3 (rmk 2 61) 0 0 EX0_prepare := (v_seq (v_seq (v_if (v_or (v_zne_t (v_cvz kX0 IX0_isInverted hX0_isInverted lk584 ⟨by decide, by decide⟩ (by decide) (v_aload_n (i := 0) dX0_prepare_0 rfl (rfl : 0 + 1 = 1)) (v_ai (v_iload_n (i := 1) dX0_prepare_1 rfl (rfl : 1 + 1 = 2)) v_anil) dX0_prepare_2 (rfl : 2 + 3 = 5)) dX0_prepare_5 (rfl : ((5 : Nat) : Int) + 11 = ((16 : Nat) : Int)) (rfl : 5 + 3 = 8)) (v_not (v_zne_t (v_cvz kX0 IX0_canBe hX0_canBe lk588 ⟨by decide, by decide⟩ (by decide) (v_aload_n (i := 0) dX0_prepare_8 rfl (rfl : 8 + 1 = 9)) (v_ai (v_iload_n (i := 1) dX0_prepare_9 rfl (rfl : 9 + 1 = 10)) v_anil) dX0_prepare_10 (rfl : 10 + 3 = 13)) dX0_prepare_13 (rfl : ((13 : Nat) : Int) + 4 = ((17 : Nat) : Int)) (rfl : 13 + 3 = 16)))) (v_retv dX0_prepare_16) v_nop) (v_seq (v_scs IJ7_fill_53178 hJ7_fill_53178 lk556 ⟨by decide, by decide⟩ (v_ar (v_gfr kX0 lk213 (by decide) rfl (v_aload_n (i := 0) dX0_prepare_17 rfl (rfl : 17 + 1 = 18)) dX0_prepare_18 (rfl : 18 + 3 = 21)) (v_ai (v_iconst (v := 0) dX0_prepare_21 (by decide) (rfl : 21 + 1 = 22)) v_anil)) dX0_prepare_22 (rfl : 22 + 3 = 25)) (v_seq (v_cut (n := 2) (v_seq (v_istore_n (i := 2) (v_iconst (v := 0) dX0_prepare_25 (by decide) (rfl : 25 + 1 = 26)) dX0_prepare_26 rfl (by decide) (rfl : 26 + 1 = 27)) (v_wh (v_ilt_f (v_iload_n (i := 2) dX0_prepare_27 rfl (rfl : 27 + 1 = 28)) (v_iconst (v := 3) dX0_prepare_28 (by decide) (rfl : 28 + 1 = 29)) dX0_prepare_29 (rfl : ((29 : Nat) : Int) + 41 = ((70 : Nat) : Int)) (rfl : 29 + 3 = 32)) (vs_goto (v_seq (v_aoi_iadd (v_gfr kX0 lk213 (by decide) rfl (v_aload_n (i := 0) dX0_prepare_32 rfl (rfl : 32 + 1 = 33)) dX0_prepare_33 (rfl : 33 + 3 = 36)) (v_cvi kX0 IX0_placeOf hX0_placeOf lk599 ⟨by decide, by decide⟩ (by decide) (v_aload_n (i := 0) dX0_prepare_36 rfl (rfl : 36 + 1 = 37)) (v_ai (v_iload_n (i := 2) dX0_prepare_37 rfl (rfl : 37 + 1 = 38)) v_anil) dX0_prepare_38 (rfl : 38 + 3 = 41)) dX0_prepare_41 dX0_prepare_42 (rfl : 41 + 1 + 1 = 43) (v_iald (v_gfr kX0 lk206 (by decide) rfl (v_aload_n (i := 0) dX0_prepare_43 rfl (rfl : 43 + 1 = 44)) dX0_prepare_44 (rfl : 44 + 3 = 47)) (v_iadd (v_iadd (v_iadd (v_bipush (v := 28) dX0_prepare_47 (by decide) (rfl : 47 + 2 = 49)) (v_imul (v_iload_n (i := 2) dX0_prepare_49 rfl (rfl : 49 + 1 = 50)) (v_iconst (v := 5) dX0_prepare_50 (by decide) (rfl : 50 + 1 = 51)) dX0_prepare_51 (rfl : 51 + 1 = 52)) dX0_prepare_52 (rfl : 52 + 1 = 53)) (v_iconst (v := 2) dX0_prepare_53 (by decide) (rfl : 53 + 1 = 54)) dX0_prepare_54 (rfl : 54 + 1 = 55)) (v_csi IX0_stageIn hX0_stageIn lk596 ⟨by decide, by decide⟩ (by decide) (v_ai (v_iload_n (i := 1) dX0_prepare_55 rfl (rfl : 55 + 1 = 56)) (v_ai (v_iload_n (i := 2) dX0_prepare_56 rfl (rfl : 56 + 1 = 57)) v_anil)) dX0_prepare_57 (rfl : 57 + 3 = 60)) dX0_prepare_60 (rfl : 60 + 1 = 61)) dX0_prepare_61 (rfl : 61 + 1 = 62)) dX0_prepare_62 dX0_prepare_63 (rfl : 62 + 1 + 1 = 64)) (v_iinc (v := 1) dX0_prepare_64 (by decide) (by decide) (rfl : 64 + 3 = 67))) dX0_prepare_67 (rfl : ((67 : Nat) : Int) + (-40) = ((27 : Nat) : Int)))))) (v_seq (v_if (v_ine_f (v_iald (v_gfr kX0 lk206 (by decide) rfl (v_aload_n (i := 0) dX0_prepare_70 rfl (rfl : 70 + 1 = 71)) dX0_prepare_71 (rfl : 71 + 3 = 74)) (v_iconst (v := 1) dX0_prepare_74 (by decide) (rfl : 74 + 1 = 75)) dX0_prepare_75 (rfl : 75 + 1 = 76)) (v_iconst (v := (-1)) dX0_prepare_76 (by decide) (rfl : 76 + 1 = 77)) dX0_prepare_77 (rfl : ((77 : Nat) : Int) + 23 = ((100 : Nat) : Int)) (rfl : 77 + 3 = 80)) (v_aoi_iadd (v_gfr kX0 lk213 (by decide) rfl (v_aload_n (i := 0) dX0_prepare_80 rfl (rfl : 80 + 1 = 81)) dX0_prepare_81 (rfl : 81 + 3 = 84)) (v_iald (v_gfr kX0 lk206 (by decide) rfl (v_aload_n (i := 0) dX0_prepare_84 rfl (rfl : 84 + 1 = 85)) dX0_prepare_85 (rfl : 85 + 3 = 88)) (v_iconst (v := 1) dX0_prepare_88 (by decide) (rfl : 88 + 1 = 89)) dX0_prepare_89 (rfl : 89 + 1 = 90)) dX0_prepare_90 dX0_prepare_91 (rfl : 90 + 1 + 1 = 92) (v_iald (v_gfr kX0 lk206 (by decide) rfl (v_aload_n (i := 0) dX0_prepare_92 rfl (rfl : 92 + 1 = 93)) dX0_prepare_93 (rfl : 93 + 3 = 96)) (v_iconst (v := 2) dX0_prepare_96 (by decide) (rfl : 96 + 1 = 97)) dX0_prepare_97 (rfl : 97 + 1 = 98)) dX0_prepare_98 dX0_prepare_99 (rfl : 98 + 1 + 1 = 100)) v_nop) (v_seq (v_aii (v_gfr kX0 lk211 (by decide) rfl (v_aload_n (i := 0) dX0_prepare_100 rfl (rfl : 100 + 1 = 101)) dX0_prepare_101 (rfl : 101 + 3 = 104)) (v_iload_n (i := 1) dX0_prepare_104 rfl (rfl : 104 + 1 = 105)) (v_cvi kX0 IX0_netsWithoutSpeed hX0_netsWithoutSpeed lk603 ⟨by decide, by decide⟩ (by decide) (v_aload_n (i := 0) dX0_prepare_105 rfl (rfl : 105 + 1 = 106)) v_anil dX0_prepare_106 (rfl : 106 + 3 = 109)) dX0_prepare_109 (rfl : 109 + 1 = 110)) (v_seq (v_scv kX0 IX0_fillMatrix hX0_fillMatrix lk607 ⟨by decide, by decide⟩ (v_aload_n (i := 0) dX0_prepare_110 rfl (rfl : 110 + 1 = 111)) (v_ai (v_iload_n (i := 1) dX0_prepare_111 rfl (rfl : 111 + 1 = 112)) v_anil) dX0_prepare_112 (rfl : 112 + 3 = 115)) (v_seq (v_aij (v_gfr kX0 lk209 (by decide) rfl (v_aload_n (i := 0) dX0_prepare_115 rfl (rfl : 115 + 1 = 116)) dX0_prepare_116 (rfl : 116 + 3 = 119)) (v_iload_n (i := 1) dX0_prepare_119 rfl (rfl : 119 + 1 = 120)) (v_csj IX2_invert hX2_invert lk615 ⟨by decide, by decide⟩ (by decide) (v_ar (v_rald (q := 13) (t0 := 5) (ty0 := .array .long) ⟨by decide, by decide⟩ (fun _ => rfl) rfl (v_gfr kX0 lk208 (by decide) rfl (v_aload_n (i := 0) dX0_prepare_120 rfl (rfl : 120 + 1 = 121)) dX0_prepare_121 (rfl : 121 + 3 = 124)) (v_iload_n (i := 1) dX0_prepare_124 rfl (rfl : 124 + 1 = 125)) dX0_prepare_125 (rfl : 125 + 1 = 126)) (v_ai (v_iald (v_gfr kX0 lk206 (by decide) rfl (v_aload_n (i := 0) dX0_prepare_126 rfl (rfl : 126 + 1 = 127)) dX0_prepare_127 (rfl : 127 + 3 = 130)) (v_iconst (v := 0) dX0_prepare_130 (by decide) (rfl : 130 + 1 = 131)) dX0_prepare_131 (rfl : 131 + 1 = 132)) v_anil)) dX0_prepare_132 (rfl : 132 + 3 = 135)) dX0_prepare_135 (rfl : 135 + 1 = 136)) (v_foi_ior kX0 lk210 (by decide) rfl rfl (by decide +kernel) (v_aload_n (i := 0) dX0_prepare_136 rfl (rfl : 136 + 1 = 137)) dX0_prepare_137 dX0_prepare_138 (rfl : 137 + 1 + 3 = 141) (v_ishl (v_iconst (v := 1) dX0_prepare_141 (by decide) (rfl : 141 + 1 = 142)) (v_iload_n (i := 1) dX0_prepare_142 rfl (rfl : 142 + 1 = 143)) dX0_prepare_143 (rfl : 143 + 1 = 144)) dX0_prepare_144 dX0_prepare_145 (rfl : 144 + 1 + 3 = 148))))))))) (v_retv dX0_prepare_148))
theorem IX0_prepare : Mv yX0_prepare cX0_prepare 3 (rmk 2 61) DX0_prepare := mk_v (by decide +kernel) BX0_prepare

theorem dX0_tellPressures_0 : decode cX0_tellPressures 0 = .ok (.aload_n 0, 1) := by decide +kernel
theorem dX0_tellPressures_1 : decode cX0_tellPressures 1 = .ok (.iconst 0, 1) := by decide +kernel
theorem dX0_tellPressures_2 : decode cX0_tellPressures 2 = .ok (.putfield 84, 3) := by decide +kernel
theorem dX0_tellPressures_5 : decode cX0_tellPressures 5 = .ok (.aload_n 0, 1) := by decide +kernel
theorem dX0_tellPressures_6 : decode cX0_tellPressures 6 = .ok (.ldc2_w 154, 3) := by decide +kernel
theorem dX0_tellPressures_9 : decode cX0_tellPressures 9 = .ok (.aload_n 0, 1) := by decide +kernel
theorem dX0_tellPressures_10 : decode cX0_tellPressures 10 = .ok (.getfield 23, 3) := by decide +kernel
theorem dX0_tellPressures_13 : decode cX0_tellPressures 13 = .ok (.aload_n 0, 1) := by decide +kernel
theorem dX0_tellPressures_14 : decode cX0_tellPressures 14 = .ok (.getfield 43, 3) := by decide +kernel
theorem dX0_tellPressures_17 : decode cX0_tellPressures 17 = .ok (.laload, 1) := by decide +kernel
theorem dX0_tellPressures_18 : decode cX0_tellPressures 18 = .ok (.lmul, 1) := by decide +kernel
theorem dX0_tellPressures_19 : decode cX0_tellPressures 19 = .ok (.putfield 39, 3) := by decide +kernel
theorem dX0_tellPressures_22 : decode cX0_tellPressures 22 = .ok (.iconst 0, 1) := by decide +kernel
theorem dX0_tellPressures_23 : decode cX0_tellPressures 23 = .ok (.istore_n 1, 1) := by decide +kernel
theorem dX0_tellPressures_24 : decode cX0_tellPressures 24 = .ok (.iload_n 1, 1) := by decide +kernel
theorem dX0_tellPressures_25 : decode cX0_tellPressures 25 = .ok (.aload_n 0, 1) := by decide +kernel
theorem dX0_tellPressures_26 : decode cX0_tellPressures 26 = .ok (.getfield 11, 3) := by decide +kernel
theorem dX0_tellPressures_29 : decode cX0_tellPressures 29 = .ok (.iconst 0, 1) := by decide +kernel
theorem dX0_tellPressures_30 : decode cX0_tellPressures 30 = .ok (.iaload, 1) := by decide +kernel
theorem dX0_tellPressures_31 : decode cX0_tellPressures 31 = .ok (.if_icmp .ge 71, 3) := by decide +kernel
theorem dX0_tellPressures_34 : decode cX0_tellPressures 34 = .ok (.aload_n 0, 1) := by decide +kernel
theorem dX0_tellPressures_35 : decode cX0_tellPressures 35 = .ok (.aload_n 0, 1) := by decide +kernel
theorem dX0_tellPressures_36 : decode cX0_tellPressures 36 = .ok (.getfield 43, 3) := by decide +kernel
theorem dX0_tellPressures_39 : decode cX0_tellPressures 39 = .ok (.iload_n 1, 1) := by decide +kernel
theorem dX0_tellPressures_40 : decode cX0_tellPressures 40 = .ok (.invokevirtual 156, 3) := by decide +kernel
theorem dX0_tellPressures_43 : decode cX0_tellPressures 43 = .ok (.istore_n 2, 1) := by decide +kernel
theorem dX0_tellPressures_44 : decode cX0_tellPressures 44 = .ok (.aload_n 0, 1) := by decide +kernel
theorem dX0_tellPressures_45 : decode cX0_tellPressures 45 = .ok (.getfield 36, 3) := by decide +kernel
theorem dX0_tellPressures_48 : decode cX0_tellPressures 48 = .ok (.iload_n 1, 1) := by decide +kernel
theorem dX0_tellPressures_49 : decode cX0_tellPressures 49 = .ok (.iload_n 2, 1) := by decide +kernel
theorem dX0_tellPressures_50 : decode cX0_tellPressures 50 = .ok (.ifCond .eq 7, 3) := by decide +kernel
theorem dX0_tellPressures_53 : decode cX0_tellPressures 53 = .ok (.lconst 0, 1) := by decide +kernel
theorem dX0_tellPressures_54 : decode cX0_tellPressures 54 = .ok (.goto 12, 3) := by decide +kernel
theorem dX0_tellPressures_57 : decode cX0_tellPressures 57 = .ok (.aload_n 0, 1) := by decide +kernel
theorem dX0_tellPressures_58 : decode cX0_tellPressures 58 = .ok (.aload_n 0, 1) := by decide +kernel
theorem dX0_tellPressures_59 : decode cX0_tellPressures 59 = .ok (.getfield 43, 3) := by decide +kernel
theorem dX0_tellPressures_62 : decode cX0_tellPressures 62 = .ok (.iload_n 1, 1) := by decide +kernel
theorem dX0_tellPressures_63 : decode cX0_tellPressures 63 = .ok (.invokevirtual 159, 3) := by decide +kernel
theorem dX0_tellPressures_66 : decode cX0_tellPressures 66 = .ok (.lastore, 1) := by decide +kernel
theorem dX0_tellPressures_67 : decode cX0_tellPressures 67 = .ok (.iload_n 2, 1) := by decide +kernel
theorem dX0_tellPressures_68 : decode cX0_tellPressures 68 = .ok (.ifCond .eq 28, 3) := by decide +kernel
theorem dX0_tellPressures_71 : decode cX0_tellPressures 71 = .ok (.aload_n 0, 1) := by decide +kernel
theorem dX0_tellPressures_72 : decode cX0_tellPressures 72 = .ok (.aload_n 0, 1) := by decide +kernel
theorem dX0_tellPressures_73 : decode cX0_tellPressures 73 = .ok (.getfield 30, 3) := by decide +kernel
theorem dX0_tellPressures_76 : decode cX0_tellPressures 76 = .ok (.iload_n 1, 1) := by decide +kernel
theorem dX0_tellPressures_77 : decode cX0_tellPressures 77 = .ok (.iaload, 1) := by decide +kernel
theorem dX0_tellPressures_78 : decode cX0_tellPressures 78 = .ok (.invokevirtual 163, 3) := by decide +kernel
theorem dX0_tellPressures_81 : decode cX0_tellPressures 81 = .ok (.ifCond .eq 15, 3) := by decide +kernel
theorem dX0_tellPressures_84 : decode cX0_tellPressures 84 = .ok (.aload_n 0, 1) := by decide +kernel
theorem dX0_tellPressures_85 : decode cX0_tellPressures 85 = .ok (.dup, 1) := by decide +kernel
theorem dX0_tellPressures_86 : decode cX0_tellPressures 86 = .ok (.getfield 84, 3) := by decide +kernel
theorem dX0_tellPressures_89 : decode cX0_tellPressures 89 = .ok (.iconst 1, 1) := by decide +kernel
theorem dX0_tellPressures_90 : decode cX0_tellPressures 90 = .ok (.iload_n 1, 1) := by decide +kernel
theorem dX0_tellPressures_91 : decode cX0_tellPressures 91 = .ok (.ishl, 1) := by decide +kernel
theorem dX0_tellPressures_92 : decode cX0_tellPressures 92 = .ok (.ior, 1) := by decide +kernel
theorem dX0_tellPressures_93 : decode cX0_tellPressures 93 = .ok (.putfield 84, 3) := by decide +kernel
theorem dX0_tellPressures_96 : decode cX0_tellPressures 96 = .ok (.iinc 1 1, 3) := by decide +kernel
theorem dX0_tellPressures_99 : decode cX0_tellPressures 99 = .ok (.goto (-75), 3) := by decide +kernel
theorem dX0_tellPressures_102 : decode cX0_tellPressures 102 = .ok (.return_, 1) := by decide +kernel
noncomputable def qX0_tellPressures_1 : Bx := (bc clt (il 1) (iald (fgr 0 0 (rl 0)) (ik 0)))
noncomputable def wX0_tellPressures_1 : Sx := (sseq (scut 2 (sseq (ssi 2 (cvz 0 DX0_isStill (rl 0) (ai (fgi 0 8 (rl 0)) (ai (il 1) anil)))) (sseq (aij (fgr 0 10 (rl 0)) (il 1) (jc (bz cne (il 2)) (jk 0) (cvj 0 DX0_upperAt (rl 0) (ai (fgi 0 8 (rl 0)) (ai (il 1) anil))))) (sif (band (bz cne (il 2)) (bz cne (cvz 0 DX0_comesIn (rl 0) (ai (iald (fgr 0 6 (rl 0)) (il 1)) anil)))) (foi (· ||| ·) 0 9 (rl 0) (i2 oshl (ik 1) (il 1))) snop)))) (sinc 1 1))
noncomputable def EX0_tellPressures : Sx := (sseq (sseq (fpi 0 9 (rl 0) (ik 0)) (sseq (fpj 0 11 (rl 0) (j2 (· * ·) (jk 2) (jald (fgr 0 3 (rl 0)) (fgi 0 8 (rl 0))))) (scut 1 (sseq (ssi 1 (ik 0)) (swh qX0_tellPressures_1 wX0_tellPressures_1))))) sretv)
noncomputable def DX0_tellPressures : Fu := mfv 3 EX0_tellPressures
set_option maxRecDepth 4000 in
theorem BX0_tellPressures : Vs RX0 cX0_tellPressures 3 (rmk 1 25) 0 0 EX0_tellPressures := (v_seq (v_seq (v_fpi kX0 lk215 (by decide) rfl rfl (by decide +kernel) (v_aload_n (i := 0) dX0_tellPressures_0 rfl (rfl : 0 + 1 = 1)) (v_iconst (v := 0) dX0_tellPressures_1 (by decide) (rfl : 1 + 1 = 2)) dX0_tellPressures_2 (rfl : 2 + 3 = 5)) (v_seq (v_fpj kX0 lk218 (by decide) rfl rfl (by decide +kernel) (v_aload_n (i := 0) dX0_tellPressures_5 rfl (rfl : 5 + 1 = 6)) (v_lmul (v_ldc2 (v := 2) lk637 dX0_tellPressures_6 (rfl : 6 + 3 = 9)) (v_jald (v_gfr kX0 lk209 (by decide) rfl (v_aload_n (i := 0) dX0_tellPressures_9 rfl (rfl : 9 + 1 = 10)) dX0_tellPressures_10 (rfl : 10 + 3 = 13)) (v_gfi kX0 lk214 (by decide) rfl (v_aload_n (i := 0) dX0_tellPressures_13 rfl (rfl : 13 + 1 = 14)) dX0_tellPressures_14 (rfl : 14 + 3 = 17)) dX0_tellPressures_17 (rfl : 17 + 1 = 18)) dX0_tellPressures_18 (rfl : 18 + 1 = 19)) dX0_tellPressures_19 (rfl : 19 + 3 = 22)) (v_cut (n := 1) (v_seq (v_istore_n (i := 1) (v_iconst (v := 0) dX0_tellPressures_22 (by decide) (rfl : 22 + 1 = 23)) dX0_tellPressures_23 rfl (by decide) (rfl : 23 + 1 = 24)) (v_wh (v_ilt_f (v_iload_n (i := 1) dX0_tellPressures_24 rfl (rfl : 24 + 1 = 25)) (v_iald (v_gfr kX0 lk206 (by decide) rfl (v_aload_n (i := 0) dX0_tellPressures_25 rfl (rfl : 25 + 1 = 26)) dX0_tellPressures_26 (rfl : 26 + 3 = 29)) (v_iconst (v := 0) dX0_tellPressures_29 (by decide) (rfl : 29 + 1 = 30)) dX0_tellPressures_30 (rfl : 30 + 1 = 31)) dX0_tellPressures_31 (rfl : ((31 : Nat) : Int) + 71 = ((102 : Nat) : Int)) (rfl : 31 + 3 = 34)) (vs_goto (v_seq (v_cut (n := 2) (v_seq (v_istore_n (i := 2) (v_cvz kX0 IX0_isStill hX0_isStill lk611 ⟨by decide, by decide⟩ (by decide) (v_aload_n (i := 0) dX0_tellPressures_34 rfl (rfl : 34 + 1 = 35)) (v_ai (v_gfi kX0 lk214 (by decide) rfl (v_aload_n (i := 0) dX0_tellPressures_35 rfl (rfl : 35 + 1 = 36)) dX0_tellPressures_36 (rfl : 36 + 3 = 39)) (v_ai (v_iload_n (i := 1) dX0_tellPressures_39 rfl (rfl : 39 + 1 = 40)) v_anil)) dX0_tellPressures_40 (rfl : 40 + 3 = 43)) dX0_tellPressures_43 rfl (by decide) (rfl : 43 + 1 = 44)) (v_seq (v_aij (v_gfr kX0 lk216 (by decide) rfl (v_aload_n (i := 0) dX0_tellPressures_44 rfl (rfl : 44 + 1 = 45)) dX0_tellPressures_45 (rfl : 45 + 3 = 48)) (v_iload_n (i := 1) dX0_tellPressures_48 rfl (rfl : 48 + 1 = 49)) (v_jc (v_zne_f (v_iload_n (i := 2) dX0_tellPressures_49 rfl (rfl : 49 + 1 = 50)) dX0_tellPressures_50 (rfl : ((50 : Nat) : Int) + 7 = ((57 : Nat) : Int)) (rfl : 50 + 3 = 53)) (vj_goto (v_lconst (v := 0) dX0_tellPressures_53 (by decide) (rfl : 53 + 1 = 54)) dX0_tellPressures_54 (rfl : ((54 : Nat) : Int) + 12 = ((66 : Nat) : Int))) (v_cvj kX0 IX0_upperAt hX0_upperAt lk633 ⟨by decide, by decide⟩ (by decide) (v_aload_n (i := 0) dX0_tellPressures_57 rfl (rfl : 57 + 1 = 58)) (v_ai (v_gfi kX0 lk214 (by decide) rfl (v_aload_n (i := 0) dX0_tellPressures_58 rfl (rfl : 58 + 1 = 59)) dX0_tellPressures_59 (rfl : 59 + 3 = 62)) (v_ai (v_iload_n (i := 1) dX0_tellPressures_62 rfl (rfl : 62 + 1 = 63)) v_anil)) dX0_tellPressures_63 (rfl : 63 + 3 = 66))) dX0_tellPressures_66 (rfl : 66 + 1 = 67)) (v_if (v_and (v_zne_f (v_iload_n (i := 2) dX0_tellPressures_67 rfl (rfl : 67 + 1 = 68)) dX0_tellPressures_68 (rfl : ((68 : Nat) : Int) + 28 = ((96 : Nat) : Int)) (rfl : 68 + 3 = 71)) (v_zne_f (v_cvz kX0 IX0_comesIn hX0_comesIn lk629 ⟨by decide, by decide⟩ (by decide) (v_aload_n (i := 0) dX0_tellPressures_71 rfl (rfl : 71 + 1 = 72)) (v_ai (v_iald (v_gfr kX0 lk212 (by decide) rfl (v_aload_n (i := 0) dX0_tellPressures_72 rfl (rfl : 72 + 1 = 73)) dX0_tellPressures_73 (rfl : 73 + 3 = 76)) (v_iload_n (i := 1) dX0_tellPressures_76 rfl (rfl : 76 + 1 = 77)) dX0_tellPressures_77 (rfl : 77 + 1 = 78)) v_anil) dX0_tellPressures_78 (rfl : 78 + 3 = 81)) dX0_tellPressures_81 (rfl : ((81 : Nat) : Int) + 15 = ((96 : Nat) : Int)) (rfl : 81 + 3 = 84))) (v_foi_ior kX0 lk215 (by decide) rfl rfl (by decide +kernel) (v_aload_n (i := 0) dX0_tellPressures_84 rfl (rfl : 84 + 1 = 85)) dX0_tellPressures_85 dX0_tellPressures_86 (rfl : 85 + 1 + 3 = 89) (v_ishl (v_iconst (v := 1) dX0_tellPressures_89 (by decide) (rfl : 89 + 1 = 90)) (v_iload_n (i := 1) dX0_tellPressures_90 rfl (rfl : 90 + 1 = 91)) dX0_tellPressures_91 (rfl : 91 + 1 = 92)) dX0_tellPressures_92 dX0_tellPressures_93 (rfl : 92 + 1 + 3 = 96)) v_nop)))) (v_iinc (v := 1) dX0_tellPressures_96 (by decide) (by decide) (rfl : 96 + 3 = 99))) dX0_tellPressures_99 (rfl : ((99 : Nat) : Int) + (-75) = ((24 : Nat) : Int)))))))) (v_retv dX0_tellPressures_102))
theorem IX0_tellPressures : Mv yX0_tellPressures cX0_tellPressures 3 (rmk 1 25) DX0_tellPressures := mk_v (by decide +kernel) BX0_tellPressures

theorem dX1_fromWalls_0 : decode cX1_fromWalls 0 = .ok (.aload_n 0, 1) := by decide +kernel
theorem dX1_fromWalls_1 : decode cX1_fromWalls 1 = .ok (.getfield 20, 3) := by decide +kernel
theorem dX1_fromWalls_4 : decode cX1_fromWalls 4 = .ok (.iload_n 1, 1) := by decide +kernel
theorem dX1_fromWalls_5 : decode cX1_fromWalls 5 = .ok (.aaload, 1) := by decide +kernel
theorem dX1_fromWalls_6 : decode cX1_fromWalls 6 = .ok (.iconst 1, 1) := by decide +kernel
theorem dX1_fromWalls_7 : decode cX1_fromWalls 7 = .ok (.iaload, 1) := by decide +kernel
theorem dX1_fromWalls_8 : decode cX1_fromWalls 8 = .ok (.aload_n 0, 1) := by decide +kernel
theorem dX1_fromWalls_9 : decode cX1_fromWalls 9 = .ok (.getfield 20, 3) := by decide +kernel
theorem dX1_fromWalls_12 : decode cX1_fromWalls 12 = .ok (.iload_n 1, 1) := by decide +kernel
theorem dX1_fromWalls_13 : decode cX1_fromWalls 13 = .ok (.aaload, 1) := by decide +kernel
theorem dX1_fromWalls_14 : decode cX1_fromWalls 14 = .ok (.iconst 2, 1) := by decide +kernel
theorem dX1_fromWalls_15 : decode cX1_fromWalls 15 = .ok (.iaload, 1) := by decide +kernel
theorem dX1_fromWalls_16 : decode cX1_fromWalls 16 = .ok (.imul, 1) := by decide +kernel
theorem dX1_fromWalls_17 : decode cX1_fromWalls 17 = .ok (.bipush 64, 2) := by decide +kernel
theorem dX1_fromWalls_19 : decode cX1_fromWalls 19 = .ok (.idiv, 1) := by decide +kernel
theorem dX1_fromWalls_20 : decode cX1_fromWalls 20 = .ok (.ireturn, 1) := by decide +kernel
noncomputable def EX1_fromWalls : Sx := (sret (i2d (· / ·) (i2 (· * ·) (iald (rald 12 (fgr 1 9 (rl 0)) (il 1)) (ik 1)) (iald (rald 12 (fgr 1 9 (rl 0)) (il 1)) (ik 2))) (ik 64)))
noncomputable def DX1_fromWalls : Fi := mfi 2 EX1_fromWalls
set_option maxRecDepth 4000 in
theorem BX1_fromWalls : Vs RX1 cX1_fromWalls 2 (rmk 0 0) 0 0 EX1_fromWalls := (v_ret (v_idiv (v_imul (v_iald (v_rald (q := 12) (t0 := 4) (ty0 := .array .int) ⟨by decide, by decide⟩ (fun _ => rfl) rfl (v_gfr kX1 lk151 (by decide) rfl (v_aload_n (i := 0) dX1_fromWalls_0 rfl (rfl : 0 + 1 = 1)) dX1_fromWalls_1 (rfl : 1 + 3 = 4)) (v_iload_n (i := 1) dX1_fromWalls_4 rfl (rfl : 4 + 1 = 5)) dX1_fromWalls_5 (rfl : 5 + 1 = 6)) (v_iconst (v := 1) dX1_fromWalls_6 (by decide) (rfl : 6 + 1 = 7)) dX1_fromWalls_7 (rfl : 7 + 1 = 8)) (v_iald (v_rald (q := 12) (t0 := 4) (ty0 := .array .int) ⟨by decide, by decide⟩ (fun _ => rfl) rfl (v_gfr kX1 lk151 (by decide) rfl (v_aload_n (i := 0) dX1_fromWalls_8 rfl (rfl : 8 + 1 = 9)) dX1_fromWalls_9 (rfl : 9 + 3 = 12)) (v_iload_n (i := 1) dX1_fromWalls_12 rfl (rfl : 12 + 1 = 13)) dX1_fromWalls_13 (rfl : 13 + 1 = 14)) (v_iconst (v := 2) dX1_fromWalls_14 (by decide) (rfl : 14 + 1 = 15)) dX1_fromWalls_15 (rfl : 15 + 1 = 16)) dX1_fromWalls_16 (rfl : 16 + 1 = 17)) (v_bipush (v := 64) dX1_fromWalls_17 (by decide) (rfl : 17 + 2 = 19)) dX1_fromWalls_19 (rfl : 19 + 1 = 20)) dX1_fromWalls_20)
theorem IX1_fromWalls : Mi yX1_fromWalls cX1_fromWalls 2 (rmk 0 0) DX1_fromWalls := mk_i (by decide +kernel) BX1_fromWalls

theorem dX1_load_0 : decode cX1_load 0 = .ok (.aload_n 0, 1) := by decide +kernel
theorem dX1_load_1 : decode cX1_load 1 = .ok (.getfield 20, 3) := by decide +kernel
theorem dX1_load_4 : decode cX1_load 4 = .ok (.iload_n 1, 1) := by decide +kernel
theorem dX1_load_5 : decode cX1_load 5 = .ok (.aaload, 1) := by decide +kernel
theorem dX1_load_6 : decode cX1_load 6 = .ok (.iconst 0, 1) := by decide +kernel
theorem dX1_load_7 : decode cX1_load 7 = .ok (.iaload, 1) := by decide +kernel
theorem dX1_load_8 : decode cX1_load 8 = .ok (.aload_n 0, 1) := by decide +kernel
theorem dX1_load_9 : decode cX1_load 9 = .ok (.iload_n 1, 1) := by decide +kernel
theorem dX1_load_10 : decode cX1_load 10 = .ok (.invokevirtual 67, 3) := by decide +kernel
theorem dX1_load_13 : decode cX1_load 13 = .ok (.iadd, 1) := by decide +kernel
theorem dX1_load_14 : decode cX1_load 14 = .ok (.ireturn, 1) := by decide +kernel
noncomputable def EX1_load : Sx := (sret (i2 (· + ·) (iald (rald 12 (fgr 1 9 (rl 0)) (il 1)) (ik 0)) (cvi 1 DX1_fromWalls (rl 0) (ai (il 1) anil))))
noncomputable def DX1_load : Fi := mfi 2 EX1_load
set_option maxRecDepth 4000 in
theorem BX1_load : Vs RX1 cX1_load 2 (rmk 1 21) 0 0 EX1_load := (v_ret (v_iadd (v_iald (v_rald (q := 12) (t0 := 4) (ty0 := .array .int) ⟨by decide, by decide⟩ (fun _ => rfl) rfl (v_gfr kX1 lk151 (by decide) rfl (v_aload_n (i := 0) dX1_load_0 rfl (rfl : 0 + 1 = 1)) dX1_load_1 (rfl : 1 + 3 = 4)) (v_iload_n (i := 1) dX1_load_4 rfl (rfl : 4 + 1 = 5)) dX1_load_5 (rfl : 5 + 1 = 6)) (v_iconst (v := 0) dX1_load_6 (by decide) (rfl : 6 + 1 = 7)) dX1_load_7 (rfl : 7 + 1 = 8)) (v_cvi kX1 IX1_fromWalls hX1_fromWalls lk564 ⟨by decide, by decide⟩ (by decide) (v_aload_n (i := 0) dX1_load_8 rfl (rfl : 8 + 1 = 9)) (v_ai (v_iload_n (i := 1) dX1_load_9 rfl (rfl : 9 + 1 = 10)) v_anil) dX1_load_10 (rfl : 10 + 3 = 13)) dX1_load_13 (rfl : 13 + 1 = 14)) dX1_load_14)
theorem IX1_load : Mi yX1_load cX1_load 2 (rmk 1 21) DX1_load := mk_i (by decide +kernel) BX1_load

theorem dX1_twiceLeak_0 : decode cX1_twiceLeak 0 = .ok (.aload_n 0, 1) := by decide +kernel
theorem dX1_twiceLeak_1 : decode cX1_twiceLeak 1 = .ok (.getfield 9, 3) := by decide +kernel
theorem dX1_twiceLeak_4 : decode cX1_twiceLeak 4 = .ok (.iload_n 1, 1) := by decide +kernel
theorem dX1_twiceLeak_5 : decode cX1_twiceLeak 5 = .ok (.if_icmp .ne 10, 3) := by decide +kernel
theorem dX1_twiceLeak_8 : decode cX1_twiceLeak 8 = .ok (.iconst 2, 1) := by decide +kernel
theorem dX1_twiceLeak_9 : decode cX1_twiceLeak 9 = .ok (.aload_n 0, 1) := by decide +kernel
theorem dX1_twiceLeak_10 : decode cX1_twiceLeak 10 = .ok (.getfield 51, 3) := by decide +kernel
theorem dX1_twiceLeak_13 : decode cX1_twiceLeak 13 = .ok (.imul, 1) := by decide +kernel
theorem dX1_twiceLeak_14 : decode cX1_twiceLeak 14 = .ok (.ireturn, 1) := by decide +kernel
theorem dX1_twiceLeak_15 : decode cX1_twiceLeak 15 = .ok (.aload_n 0, 1) := by decide +kernel
theorem dX1_twiceLeak_16 : decode cX1_twiceLeak 16 = .ok (.getfield 9, 3) := by decide +kernel
theorem dX1_twiceLeak_19 : decode cX1_twiceLeak 19 = .ok (.bipush 10, 2) := by decide +kernel
theorem dX1_twiceLeak_21 : decode cX1_twiceLeak 21 = .ok (.isub, 1) := by decide +kernel
theorem dX1_twiceLeak_22 : decode cX1_twiceLeak 22 = .ok (.istore_n 2, 1) := by decide +kernel
theorem dX1_twiceLeak_23 : decode cX1_twiceLeak 23 = .ok (.iload_n 2, 1) := by decide +kernel
theorem dX1_twiceLeak_24 : decode cX1_twiceLeak 24 = .ok (.ifCond .lt 39, 3) := by decide +kernel
theorem dX1_twiceLeak_27 : decode cX1_twiceLeak 27 = .ok (.iload_n 2, 1) := by decide +kernel
theorem dX1_twiceLeak_28 : decode cX1_twiceLeak 28 = .ok (.aload_n 0, 1) := by decide +kernel
theorem dX1_twiceLeak_29 : decode cX1_twiceLeak 29 = .ok (.getfield 39, 3) := by decide +kernel
theorem dX1_twiceLeak_32 : decode cX1_twiceLeak 32 = .ok (.if_icmp .ge 31, 3) := by decide +kernel
theorem dX1_twiceLeak_35 : decode cX1_twiceLeak 35 = .ok (.aload_n 0, 1) := by decide +kernel
theorem dX1_twiceLeak_36 : decode cX1_twiceLeak 36 = .ok (.getfield 23, 3) := by decide +kernel
theorem dX1_twiceLeak_39 : decode cX1_twiceLeak 39 = .ok (.iload_n 2, 1) := by decide +kernel
theorem dX1_twiceLeak_40 : decode cX1_twiceLeak 40 = .ok (.aaload, 1) := by decide +kernel
theorem dX1_twiceLeak_41 : decode cX1_twiceLeak 41 = .ok (.iconst 0, 1) := by decide +kernel
theorem dX1_twiceLeak_42 : decode cX1_twiceLeak 42 = .ok (.iaload, 1) := by decide +kernel
theorem dX1_twiceLeak_43 : decode cX1_twiceLeak 43 = .ok (.iload_n 1, 1) := by decide +kernel
theorem dX1_twiceLeak_44 : decode cX1_twiceLeak 44 = .ok (.if_icmp .eq 15, 3) := by decide +kernel
theorem dX1_twiceLeak_47 : decode cX1_twiceLeak 47 = .ok (.aload_n 0, 1) := by decide +kernel
theorem dX1_twiceLeak_48 : decode cX1_twiceLeak 48 = .ok (.getfield 23, 3) := by decide +kernel
theorem dX1_twiceLeak_51 : decode cX1_twiceLeak 51 = .ok (.iload_n 2, 1) := by decide +kernel
theorem dX1_twiceLeak_52 : decode cX1_twiceLeak 52 = .ok (.aaload, 1) := by decide +kernel
theorem dX1_twiceLeak_53 : decode cX1_twiceLeak 53 = .ok (.iconst 1, 1) := by decide +kernel
theorem dX1_twiceLeak_54 : decode cX1_twiceLeak 54 = .ok (.iaload, 1) := by decide +kernel
theorem dX1_twiceLeak_55 : decode cX1_twiceLeak 55 = .ok (.iload_n 1, 1) := by decide +kernel
theorem dX1_twiceLeak_56 : decode cX1_twiceLeak 56 = .ok (.if_icmp .ne 7, 3) := by decide +kernel
theorem dX1_twiceLeak_59 : decode cX1_twiceLeak 59 = .ok (.iconst 1, 1) := by decide +kernel
theorem dX1_twiceLeak_60 : decode cX1_twiceLeak 60 = .ok (.goto 4, 3) := by decide +kernel
theorem dX1_twiceLeak_63 : decode cX1_twiceLeak 63 = .ok (.iconst 0, 1) := by decide +kernel
theorem dX1_twiceLeak_64 : decode cX1_twiceLeak 64 = .ok (.istore_n 3, 1) := by decide +kernel
theorem dX1_twiceLeak_65 : decode cX1_twiceLeak 65 = .ok (.iload_n 3, 1) := by decide +kernel
theorem dX1_twiceLeak_66 : decode cX1_twiceLeak 66 = .ok (.ifCond .eq 10, 3) := by decide +kernel
theorem dX1_twiceLeak_69 : decode cX1_twiceLeak 69 = .ok (.aload_n 0, 1) := by decide +kernel
theorem dX1_twiceLeak_70 : decode cX1_twiceLeak 70 = .ok (.getfield 51, 3) := by decide +kernel
theorem dX1_twiceLeak_73 : decode cX1_twiceLeak 73 = .ok (.goto 4, 3) := by decide +kernel
theorem dX1_twiceLeak_76 : decode cX1_twiceLeak 76 = .ok (.iconst 0, 1) := by decide +kernel
theorem dX1_twiceLeak_77 : decode cX1_twiceLeak 77 = .ok (.ireturn, 1) := by decide +kernel
noncomputable def EX1_twiceLeak : Sx := (sseq (sif (bc ceq (fgi 1 5 (rl 0)) (il 1)) (sret (i2 (· * ·) (ik 2) (fgi 1 6 (rl 0)))) snop) (sseq (ssi 2 (i2 (· - ·) (fgi 1 5 (rl 0)) (ik 10))) (sseq (ssi 3 (ic (band (band (bz cge (il 2)) (bc clt (il 2) (fgi 1 1 (rl 0)))) (bor (bc ceq (iald (rald 12 (fgr 1 10 (rl 0)) (il 2)) (ik 0)) (il 1)) (bc ceq (iald (rald 12 (fgr 1 10 (rl 0)) (il 2)) (ik 1)) (il 1)))) (ik 1) (ik 0))) (sret (ic (bz cne (il 3)) (fgi 1 6 (rl 0)) (ik 0))))))
noncomputable def DX1_twiceLeak : Fi := mfi 4 EX1_twiceLeak
set_option maxRecDepth 4000 in
theorem BX1_twiceLeak : Vs RX1 cX1_twiceLeak 4 (rmk 0 0) 0 0 EX1_twiceLeak := (v_seq (v_if (v_ieq_f (v_gfi kX1 lk143 (by decide) rfl (v_aload_n (i := 0) dX1_twiceLeak_0 rfl (rfl : 0 + 1 = 1)) dX1_twiceLeak_1 (rfl : 1 + 3 = 4)) (v_iload_n (i := 1) dX1_twiceLeak_4 rfl (rfl : 4 + 1 = 5)) dX1_twiceLeak_5 (rfl : ((5 : Nat) : Int) + 10 = ((15 : Nat) : Int)) (rfl : 5 + 3 = 8)) (v_ret (v_imul (v_iconst (v := 2) dX1_twiceLeak_8 (by decide) (rfl : 8 + 1 = 9)) (v_gfi kX1 lk145 (by decide) rfl (v_aload_n (i := 0) dX1_twiceLeak_9 rfl (rfl : 9 + 1 = 10)) dX1_twiceLeak_10 (rfl : 10 + 3 = 13)) dX1_twiceLeak_13 (rfl : 13 + 1 = 14)) dX1_twiceLeak_14) v_nop) (v_seq (v_istore_n (i := 2) (v_isub (v_gfi kX1 lk143 (by decide) rfl (v_aload_n (i := 0) dX1_twiceLeak_15 rfl (rfl : 15 + 1 = 16)) dX1_twiceLeak_16 (rfl : 16 + 3 = 19)) (v_bipush (v := 10) dX1_twiceLeak_19 (by decide) (rfl : 19 + 2 = 21)) dX1_twiceLeak_21 (rfl : 21 + 1 = 22)) dX1_twiceLeak_22 rfl (by decide) (rfl : 22 + 1 = 23)) (v_seq (v_istore_n (i := 3) (v_ic (v_and (v_and (v_zge_f (v_iload_n (i := 2) dX1_twiceLeak_23 rfl (rfl : 23 + 1 = 24)) dX1_twiceLeak_24 (rfl : ((24 : Nat) : Int) + 39 = ((63 : Nat) : Int)) (rfl : 24 + 3 = 27)) (v_ilt_f (v_iload_n (i := 2) dX1_twiceLeak_27 rfl (rfl : 27 + 1 = 28)) (v_gfi kX1 lk128 (by decide) rfl (v_aload_n (i := 0) dX1_twiceLeak_28 rfl (rfl : 28 + 1 = 29)) dX1_twiceLeak_29 (rfl : 29 + 3 = 32)) dX1_twiceLeak_32 (rfl : ((32 : Nat) : Int) + 31 = ((63 : Nat) : Int)) (rfl : 32 + 3 = 35))) (v_or (v_ieq_t (v_iald (v_rald (q := 12) (t0 := 4) (ty0 := .array .int) ⟨by decide, by decide⟩ (fun _ => rfl) rfl (v_gfr kX1 lk154 (by decide) rfl (v_aload_n (i := 0) dX1_twiceLeak_35 rfl (rfl : 35 + 1 = 36)) dX1_twiceLeak_36 (rfl : 36 + 3 = 39)) (v_iload_n (i := 2) dX1_twiceLeak_39 rfl (rfl : 39 + 1 = 40)) dX1_twiceLeak_40 (rfl : 40 + 1 = 41)) (v_iconst (v := 0) dX1_twiceLeak_41 (by decide) (rfl : 41 + 1 = 42)) dX1_twiceLeak_42 (rfl : 42 + 1 = 43)) (v_iload_n (i := 1) dX1_twiceLeak_43 rfl (rfl : 43 + 1 = 44)) dX1_twiceLeak_44 (rfl : ((44 : Nat) : Int) + 15 = ((59 : Nat) : Int)) (rfl : 44 + 3 = 47)) (v_ieq_f (v_iald (v_rald (q := 12) (t0 := 4) (ty0 := .array .int) ⟨by decide, by decide⟩ (fun _ => rfl) rfl (v_gfr kX1 lk154 (by decide) rfl (v_aload_n (i := 0) dX1_twiceLeak_47 rfl (rfl : 47 + 1 = 48)) dX1_twiceLeak_48 (rfl : 48 + 3 = 51)) (v_iload_n (i := 2) dX1_twiceLeak_51 rfl (rfl : 51 + 1 = 52)) dX1_twiceLeak_52 (rfl : 52 + 1 = 53)) (v_iconst (v := 1) dX1_twiceLeak_53 (by decide) (rfl : 53 + 1 = 54)) dX1_twiceLeak_54 (rfl : 54 + 1 = 55)) (v_iload_n (i := 1) dX1_twiceLeak_55 rfl (rfl : 55 + 1 = 56)) dX1_twiceLeak_56 (rfl : ((56 : Nat) : Int) + 7 = ((63 : Nat) : Int)) (rfl : 56 + 3 = 59)))) (vi_goto (v_iconst (v := 1) dX1_twiceLeak_59 (by decide) (rfl : 59 + 1 = 60)) dX1_twiceLeak_60 (rfl : ((60 : Nat) : Int) + 4 = ((64 : Nat) : Int))) (v_iconst (v := 0) dX1_twiceLeak_63 (by decide) (rfl : 63 + 1 = 64))) dX1_twiceLeak_64 rfl (by decide) (rfl : 64 + 1 = 65)) (v_ret (v_ic (v_zne_f (v_iload_n (i := 3) dX1_twiceLeak_65 rfl (rfl : 65 + 1 = 66)) dX1_twiceLeak_66 (rfl : ((66 : Nat) : Int) + 10 = ((76 : Nat) : Int)) (rfl : 66 + 3 = 69)) (vi_goto (v_gfi kX1 lk145 (by decide) rfl (v_aload_n (i := 0) dX1_twiceLeak_69 rfl (rfl : 69 + 1 = 70)) dX1_twiceLeak_70 (rfl : 70 + 3 = 73)) dX1_twiceLeak_73 (rfl : ((73 : Nat) : Int) + 4 = ((77 : Nat) : Int))) (v_iconst (v := 0) dX1_twiceLeak_76 (by decide) (rfl : 76 + 1 = 77))) dX1_twiceLeak_77))))
theorem IX1_twiceLeak : Mi yX1_twiceLeak cX1_twiceLeak 4 (rmk 0 0) DX1_twiceLeak := mk_i (by decide +kernel) BX1_twiceLeak

theorem dX0_write_0 : decode cX0_write 0 = .ok (.aload_n 0, 1) := by decide +kernel
theorem dX0_write_1 : decode cX0_write 1 = .ok (.getfield 15, 3) := by decide +kernel
theorem dX0_write_4 : decode cX0_write 4 = .ok (.iconst 0, 1) := by decide +kernel
theorem dX0_write_5 : decode cX0_write 5 = .ok (.invokestatic 123, 3) := by decide +kernel
theorem dX0_write_8 : decode cX0_write 8 = .ok (.aload_n 0, 1) := by decide +kernel
theorem dX0_write_9 : decode cX0_write 9 = .ok (.getfield 15, 3) := by decide +kernel
theorem dX0_write_12 : decode cX0_write 12 = .ok (.iconst 0, 1) := by decide +kernel
theorem dX0_write_13 : decode cX0_write 13 = .ok (.aload_n 1, 1) := by decide +kernel
theorem dX0_write_14 : decode cX0_write 14 = .ok (.getfield 64, 3) := by decide +kernel
theorem dX0_write_17 : decode cX0_write 17 = .ok (.iastore, 1) := by decide +kernel
theorem dX0_write_18 : decode cX0_write 18 = .ok (.aload_n 0, 1) := by decide +kernel
theorem dX0_write_19 : decode cX0_write 19 = .ok (.getfield 15, 3) := by decide +kernel
theorem dX0_write_22 : decode cX0_write 22 = .ok (.iconst 1, 1) := by decide +kernel
theorem dX0_write_23 : decode cX0_write 23 = .ok (.aload_n 1, 1) := by decide +kernel
theorem dX0_write_24 : decode cX0_write 24 = .ok (.getfield 129, 3) := by decide +kernel
theorem dX0_write_27 : decode cX0_write 27 = .ok (.iastore, 1) := by decide +kernel
theorem dX0_write_28 : decode cX0_write 28 = .ok (.aload_n 0, 1) := by decide +kernel
theorem dX0_write_29 : decode cX0_write 29 = .ok (.getfield 15, 3) := by decide +kernel
theorem dX0_write_32 : decode cX0_write 32 = .ok (.iconst 2, 1) := by decide +kernel
theorem dX0_write_33 : decode cX0_write 33 = .ok (.aload_n 1, 1) := by decide +kernel
theorem dX0_write_34 : decode cX0_write 34 = .ok (.getfield 132, 3) := by decide +kernel
theorem dX0_write_37 : decode cX0_write 37 = .ok (.iastore, 1) := by decide +kernel
theorem dX0_write_38 : decode cX0_write 38 = .ok (.iconst 0, 1) := by decide +kernel
theorem dX0_write_39 : decode cX0_write 39 = .ok (.istore_n 2, 1) := by decide +kernel
theorem dX0_write_40 : decode cX0_write 40 = .ok (.iload_n 2, 1) := by decide +kernel
theorem dX0_write_41 : decode cX0_write 41 = .ok (.aload_n 1, 1) := by decide +kernel
theorem dX0_write_42 : decode cX0_write 42 = .ok (.getfield 135, 3) := by decide +kernel
theorem dX0_write_45 : decode cX0_write 45 = .ok (.if_icmp .ge 72, 3) := by decide +kernel
theorem dX0_write_48 : decode cX0_write 48 = .ok (.aload_n 1, 1) := by decide +kernel
theorem dX0_write_49 : decode cX0_write 49 = .ok (.getfield 138, 3) := by decide +kernel
theorem dX0_write_52 : decode cX0_write 52 = .ok (.iload_n 2, 1) := by decide +kernel
theorem dX0_write_53 : decode cX0_write 53 = .ok (.aaload, 1) := by decide +kernel
theorem dX0_write_54 : decode cX0_write 54 = .ok (.astore_n 3, 1) := by decide +kernel
theorem dX0_write_55 : decode cX0_write 55 = .ok (.aload_n 3, 1) := by decide +kernel
theorem dX0_write_56 : decode cX0_write 56 = .ok (.iconst 3, 1) := by decide +kernel
theorem dX0_write_57 : decode cX0_write 57 = .ok (.iaload, 1) := by decide +kernel
theorem dX0_write_58 : decode cX0_write 58 = .ok (.ifCond .eq 53, 3) := by decide +kernel
theorem dX0_write_61 : decode cX0_write 61 = .ok (.aload_n 3, 1) := by decide +kernel
theorem dX0_write_62 : decode cX0_write 62 = .ok (.iconst 0, 1) := by decide +kernel
theorem dX0_write_63 : decode cX0_write 63 = .ok (.iaload, 1) := by decide +kernel
theorem dX0_write_64 : decode cX0_write 64 = .ok (.istore 4, 2) := by decide +kernel
theorem dX0_write_66 : decode cX0_write 66 = .ok (.aload_n 3, 1) := by decide +kernel
theorem dX0_write_67 : decode cX0_write 67 = .ok (.iconst 1, 1) := by decide +kernel
theorem dX0_write_68 : decode cX0_write 68 = .ok (.iaload, 1) := by decide +kernel
theorem dX0_write_69 : decode cX0_write 69 = .ok (.istore 5, 2) := by decide +kernel
theorem dX0_write_71 : decode cX0_write 71 = .ok (.aload_n 0, 1) := by decide +kernel
theorem dX0_write_72 : decode cX0_write 72 = .ok (.getfield 15, 3) := by decide +kernel
theorem dX0_write_75 : decode cX0_write 75 = .ok (.iconst 3, 1) := by decide +kernel
theorem dX0_write_76 : decode cX0_write 76 = .ok (.iload 4, 2) := by decide +kernel
theorem dX0_write_78 : decode cX0_write 78 = .ok (.iconst 5, 1) := by decide +kernel
theorem dX0_write_79 : decode cX0_write 79 = .ok (.imul, 1) := by decide +kernel
theorem dX0_write_80 : decode cX0_write 80 = .ok (.iadd, 1) := by decide +kernel
theorem dX0_write_81 : decode cX0_write 81 = .ok (.iload 5, 2) := by decide +kernel
theorem dX0_write_83 : decode cX0_write 83 = .ok (.iadd, 1) := by decide +kernel
theorem dX0_write_84 : decode cX0_write 84 = .ok (.dup2, 1) := by decide +kernel
theorem dX0_write_85 : decode cX0_write 85 = .ok (.iaload, 1) := by decide +kernel
theorem dX0_write_86 : decode cX0_write 86 = .ok (.aload_n 3, 1) := by decide +kernel
theorem dX0_write_87 : decode cX0_write 87 = .ok (.iconst 2, 1) := by decide +kernel
theorem dX0_write_88 : decode cX0_write 88 = .ok (.iaload, 1) := by decide +kernel
theorem dX0_write_89 : decode cX0_write 89 = .ok (.iadd, 1) := by decide +kernel
theorem dX0_write_90 : decode cX0_write 90 = .ok (.iastore, 1) := by decide +kernel
theorem dX0_write_91 : decode cX0_write 91 = .ok (.aload_n 0, 1) := by decide +kernel
theorem dX0_write_92 : decode cX0_write 92 = .ok (.getfield 15, 3) := by decide +kernel
theorem dX0_write_95 : decode cX0_write 95 = .ok (.iconst 3, 1) := by decide +kernel
theorem dX0_write_96 : decode cX0_write 96 = .ok (.iload 5, 2) := by decide +kernel
theorem dX0_write_98 : decode cX0_write 98 = .ok (.iconst 5, 1) := by decide +kernel
theorem dX0_write_99 : decode cX0_write 99 = .ok (.imul, 1) := by decide +kernel
theorem dX0_write_100 : decode cX0_write 100 = .ok (.iadd, 1) := by decide +kernel
theorem dX0_write_101 : decode cX0_write 101 = .ok (.iload 4, 2) := by decide +kernel
theorem dX0_write_103 : decode cX0_write 103 = .ok (.iadd, 1) := by decide +kernel
theorem dX0_write_104 : decode cX0_write 104 = .ok (.dup2, 1) := by decide +kernel
theorem dX0_write_105 : decode cX0_write 105 = .ok (.iaload, 1) := by decide +kernel
theorem dX0_write_106 : decode cX0_write 106 = .ok (.aload_n 3, 1) := by decide +kernel
theorem dX0_write_107 : decode cX0_write 107 = .ok (.iconst 2, 1) := by decide +kernel
theorem dX0_write_108 : decode cX0_write 108 = .ok (.iaload, 1) := by decide +kernel
theorem dX0_write_109 : decode cX0_write 109 = .ok (.iadd, 1) := by decide +kernel
theorem dX0_write_110 : decode cX0_write 110 = .ok (.iastore, 1) := by decide +kernel
theorem dX0_write_111 : decode cX0_write 111 = .ok (.iinc 2 1, 3) := by decide +kernel
theorem dX0_write_114 : decode cX0_write 114 = .ok (.goto (-74), 3) := by decide +kernel
theorem dX0_write_117 : decode cX0_write 117 = .ok (.iconst 0, 1) := by decide +kernel
theorem dX0_write_118 : decode cX0_write 118 = .ok (.istore_n 2, 1) := by decide +kernel
theorem dX0_write_119 : decode cX0_write 119 = .ok (.iload_n 2, 1) := by decide +kernel
theorem dX0_write_120 : decode cX0_write 120 = .ok (.aload_n 1, 1) := by decide +kernel
theorem dX0_write_121 : decode cX0_write 121 = .ok (.getfield 142, 3) := by decide +kernel
theorem dX0_write_124 : decode cX0_write 124 = .ok (.if_icmp .ge 62, 3) := by decide +kernel
theorem dX0_write_127 : decode cX0_write 127 = .ok (.aload_n 1, 1) := by decide +kernel
theorem dX0_write_128 : decode cX0_write 128 = .ok (.getfield 145, 3) := by decide +kernel
theorem dX0_write_131 : decode cX0_write 131 = .ok (.iload_n 2, 1) := by decide +kernel
theorem dX0_write_132 : decode cX0_write 132 = .ok (.aaload, 1) := by decide +kernel
theorem dX0_write_133 : decode cX0_write 133 = .ok (.iconst 1, 1) := by decide +kernel
theorem dX0_write_134 : decode cX0_write 134 = .ok (.iaload, 1) := by decide +kernel
theorem dX0_write_135 : decode cX0_write 135 = .ok (.ifCond .eq 45, 3) := by decide +kernel
theorem dX0_write_138 : decode cX0_write 138 = .ok (.aload_n 1, 1) := by decide +kernel
theorem dX0_write_139 : decode cX0_write 139 = .ok (.getfield 145, 3) := by decide +kernel
theorem dX0_write_142 : decode cX0_write 142 = .ok (.iload_n 2, 1) := by decide +kernel
theorem dX0_write_143 : decode cX0_write 143 = .ok (.aaload, 1) := by decide +kernel
theorem dX0_write_144 : decode cX0_write 144 = .ok (.iconst 0, 1) := by decide +kernel
theorem dX0_write_145 : decode cX0_write 145 = .ok (.aload_n 0, 1) := by decide +kernel
theorem dX0_write_146 : decode cX0_write 146 = .ok (.getfield 15, 3) := by decide +kernel
theorem dX0_write_149 : decode cX0_write 149 = .ok (.bipush 28, 2) := by decide +kernel
theorem dX0_write_151 : decode cX0_write 151 = .ok (.iload_n 2, 1) := by decide +kernel
theorem dX0_write_152 : decode cX0_write 152 = .ok (.iconst 5, 1) := by decide +kernel
theorem dX0_write_153 : decode cX0_write 153 = .ok (.imul, 1) := by decide +kernel
theorem dX0_write_154 : decode cX0_write 154 = .ok (.iadd, 1) := by decide +kernel
theorem dX0_write_155 : decode cX0_write 155 = .ok (.iconst 5, 1) := by decide +kernel
theorem dX0_write_156 : decode cX0_write 156 = .ok (.invokestatic 55, 3) := by decide +kernel
theorem dX0_write_159 : decode cX0_write 159 = .ok (.aload_n 1, 1) := by decide +kernel
theorem dX0_write_160 : decode cX0_write 160 = .ok (.getfield 145, 3) := by decide +kernel
theorem dX0_write_163 : decode cX0_write 163 = .ok (.iload_n 2, 1) := by decide +kernel
theorem dX0_write_164 : decode cX0_write 164 = .ok (.aaload, 1) := by decide +kernel
theorem dX0_write_165 : decode cX0_write 165 = .ok (.iconst 5, 1) := by decide +kernel
theorem dX0_write_166 : decode cX0_write 166 = .ok (.aload_n 0, 1) := by decide +kernel
theorem dX0_write_167 : decode cX0_write 167 = .ok (.getfield 15, 3) := by decide +kernel
theorem dX0_write_170 : decode cX0_write 170 = .ok (.bipush 43, 2) := by decide +kernel
theorem dX0_write_172 : decode cX0_write 172 = .ok (.iload_n 2, 1) := by decide +kernel
theorem dX0_write_173 : decode cX0_write 173 = .ok (.iconst 2, 1) := by decide +kernel
theorem dX0_write_174 : decode cX0_write 174 = .ok (.imul, 1) := by decide +kernel
theorem dX0_write_175 : decode cX0_write 175 = .ok (.iadd, 1) := by decide +kernel
theorem dX0_write_176 : decode cX0_write 176 = .ok (.iconst 2, 1) := by decide +kernel
theorem dX0_write_177 : decode cX0_write 177 = .ok (.invokestatic 55, 3) := by decide +kernel
theorem dX0_write_180 : decode cX0_write 180 = .ok (.iinc 2 1, 3) := by decide +kernel
theorem dX0_write_183 : decode cX0_write 183 = .ok (.goto (-64), 3) := by decide +kernel
theorem dX0_write_186 : decode cX0_write 186 = .ok (.iconst 0, 1) := by decide +kernel
theorem dX0_write_187 : decode cX0_write 187 = .ok (.istore_n 2, 1) := by decide +kernel
theorem dX0_write_188 : decode cX0_write 188 = .ok (.iload_n 2, 1) := by decide +kernel
theorem dX0_write_189 : decode cX0_write 189 = .ok (.aload_n 1, 1) := by decide +kernel
theorem dX0_write_190 : decode cX0_write 190 = .ok (.getfield 64, 3) := by decide +kernel
theorem dX0_write_193 : decode cX0_write 193 = .ok (.if_icmp .ge 31, 3) := by decide +kernel
theorem dX0_write_196 : decode cX0_write 196 = .ok (.aload_n 0, 1) := by decide +kernel
theorem dX0_write_197 : decode cX0_write 197 = .ok (.getfield 15, 3) := by decide +kernel
theorem dX0_write_200 : decode cX0_write 200 = .ok (.bipush 49, 2) := by decide +kernel
theorem dX0_write_202 : decode cX0_write 202 = .ok (.iload_n 2, 1) := by decide +kernel
theorem dX0_write_203 : decode cX0_write 203 = .ok (.iadd, 1) := by decide +kernel
theorem dX0_write_204 : decode cX0_write 204 = .ok (.iconst 2, 1) := by decide +kernel
theorem dX0_write_205 : decode cX0_write 205 = .ok (.aload_n 1, 1) := by decide +kernel
theorem dX0_write_206 : decode cX0_write 206 = .ok (.iload_n 2, 1) := by decide +kernel
theorem dX0_write_207 : decode cX0_write 207 = .ok (.invokevirtual 148, 3) := by decide +kernel
theorem dX0_write_210 : decode cX0_write 210 = .ok (.imul, 1) := by decide +kernel
theorem dX0_write_211 : decode cX0_write 211 = .ok (.aload_n 1, 1) := by decide +kernel
theorem dX0_write_212 : decode cX0_write 212 = .ok (.iload_n 2, 1) := by decide +kernel
theorem dX0_write_213 : decode cX0_write 213 = .ok (.invokevirtual 151, 3) := by decide +kernel
theorem dX0_write_216 : decode cX0_write 216 = .ok (.iadd, 1) := by decide +kernel
theorem dX0_write_217 : decode cX0_write 217 = .ok (.iastore, 1) := by decide +kernel
theorem dX0_write_218 : decode cX0_write 218 = .ok (.iinc 2 1, 3) := by decide +kernel
theorem dX0_write_221 : decode cX0_write 221 = .ok (.goto (-33), 3) := by decide +kernel
theorem dX0_write_224 : decode cX0_write 224 = .ok (.return_, 1) := by decide +kernel
noncomputable def qX0_write_1 : Bx := (bc clt (il 2) (fgi 1 1 (rl 1)))
noncomputable def wX0_write_1 : Sx := (sseq (scut 3 (sseq (ssr 3 (rald 12 (fgr 1 10 (rl 1)) (il 2))) (sif (bz cne (iald (rl 3) (ik 3))) (scut 4 (sseq (ssi 4 (iald (rl 3) (ik 0))) (sseq (ssi 5 (iald (rl 3) (ik 1))) (sseq (aoi (· + ·) (fgr 0 1 (rl 0)) (i2 (· + ·) (i2 (· + ·) (ik 3) (i2 (· * ·) (il 4) (ik 5))) (il 5)) (iald (rl 3) (ik 2))) (aoi (· + ·) (fgr 0 1 (rl 0)) (i2 (· + ·) (i2 (· + ·) (ik 3) (i2 (· * ·) (il 5) (ik 5))) (il 4)) (iald (rl 3) (ik 2))))))) snop))) (sinc 2 1))
noncomputable def qX0_write_2 : Bx := (bc clt (il 2) (fgi 1 2 (rl 1)))
noncomputable def wX0_write_2 : Sx := (sseq (sif (bz cne (iald (rald 12 (fgr 1 11 (rl 1)) (il 2)) (ik 1))) (sseq (scopy (rald 12 (fgr 1 11 (rl 1)) (il 2)) (ik 0) (fgr 0 1 (rl 0)) (i2 (· + ·) (ik 28) (i2 (· * ·) (il 2) (ik 5))) (ik 5)) (scopy (rald 12 (fgr 1 11 (rl 1)) (il 2)) (ik 5) (fgr 0 1 (rl 0)) (i2 (· + ·) (ik 43) (i2 (· * ·) (il 2) (ik 2))) (ik 2))) snop) (sinc 2 1))
noncomputable def qX0_write_3 : Bx := (bc clt (il 2) (fgi 1 0 (rl 1)))
noncomputable def wX0_write_3 : Sx := (sseq (aii (fgr 0 1 (rl 0)) (i2 (· + ·) (ik 49) (il 2)) (i2 (· + ·) (i2 (· * ·) (ik 2) (cvi 1 DX1_load (rl 1) (ai (il 2) anil))) (cvi 1 DX1_twiceLeak (rl 1) (ai (il 2) anil)))) (sinc 2 1))
noncomputable def EX0_write : Sx := (sseq (sseq (scs DJ7_fill_53178 (ar (fgr 0 1 (rl 0)) (ai (ik 0) anil))) (sseq (aii (fgr 0 1 (rl 0)) (ik 0) (fgi 1 0 (rl 1))) (sseq (aii (fgr 0 1 (rl 0)) (ik 1) (fgi 1 7 (rl 1))) (sseq (aii (fgr 0 1 (rl 0)) (ik 2) (fgi 1 8 (rl 1))) (sseq (scut 2 (sseq (ssi 2 (ik 0)) (swh qX0_write_1 wX0_write_1))) (sseq (scut 2 (sseq (ssi 2 (ik 0)) (swh qX0_write_2 wX0_write_2))) (scut 2 (sseq (ssi 2 (ik 0)) (swh qX0_write_3 wX0_write_3))))))))) sretv)
noncomputable def DX0_write : Fu := mfv 6 EX0_write
set_option maxRecDepth 4000 in
theorem BX0_write : Vs RX0 cX0_write 6 (rmk 2 42) 0 0 EX0_write := (v_seq (v_seq (v_scs IJ7_fill_53178 hJ7_fill_53178 lk556 ⟨by decide, by decide⟩ (v_ar (v_gfr kX0 lk207 (by decide) rfl (v_aload_n (i := 0) dX0_write_0 rfl (rfl : 0 + 1 = 1)) dX0_write_1 (rfl : 1 + 3 = 4)) (v_ai (v_iconst (v := 0) dX0_write_4 (by decide) (rfl : 4 + 1 = 5)) v_anil)) dX0_write_5 (rfl : 5 + 3 = 8)) (v_seq (v_aii (v_gfr kX0 lk207 (by decide) rfl (v_aload_n (i := 0) dX0_write_8 rfl (rfl : 8 + 1 = 9)) dX0_write_9 (rfl : 9 + 3 = 12)) (v_iconst (v := 0) dX0_write_12 (by decide) (rfl : 12 + 1 = 13)) (v_gfi kX1 lk125 (by decide) rfl (v_aload_n (i := 1) dX0_write_13 rfl (rfl : 13 + 1 = 14)) dX0_write_14 (rfl : 14 + 3 = 17)) dX0_write_17 (rfl : 17 + 1 = 18)) (v_seq (v_aii (v_gfr kX0 lk207 (by decide) rfl (v_aload_n (i := 0) dX0_write_18 rfl (rfl : 18 + 1 = 19)) dX0_write_19 (rfl : 19 + 3 = 22)) (v_iconst (v := 1) dX0_write_22 (by decide) (rfl : 22 + 1 = 23)) (v_gfi kX1 lk148 (by decide) rfl (v_aload_n (i := 1) dX0_write_23 rfl (rfl : 23 + 1 = 24)) dX0_write_24 (rfl : 24 + 3 = 27)) dX0_write_27 (rfl : 27 + 1 = 28)) (v_seq (v_aii (v_gfr kX0 lk207 (by decide) rfl (v_aload_n (i := 0) dX0_write_28 rfl (rfl : 28 + 1 = 29)) dX0_write_29 (rfl : 29 + 3 = 32)) (v_iconst (v := 2) dX0_write_32 (by decide) (rfl : 32 + 1 = 33)) (v_gfi kX1 lk150 (by decide) rfl (v_aload_n (i := 1) dX0_write_33 rfl (rfl : 33 + 1 = 34)) dX0_write_34 (rfl : 34 + 3 = 37)) dX0_write_37 (rfl : 37 + 1 = 38)) (v_seq (v_cut (n := 2) (v_seq (v_istore_n (i := 2) (v_iconst (v := 0) dX0_write_38 (by decide) (rfl : 38 + 1 = 39)) dX0_write_39 rfl (by decide) (rfl : 39 + 1 = 40)) (v_wh (v_ilt_f (v_iload_n (i := 2) dX0_write_40 rfl (rfl : 40 + 1 = 41)) (v_gfi kX1 lk132 (by decide) rfl (v_aload_n (i := 1) dX0_write_41 rfl (rfl : 41 + 1 = 42)) dX0_write_42 (rfl : 42 + 3 = 45)) dX0_write_45 (rfl : ((45 : Nat) : Int) + 72 = ((117 : Nat) : Int)) (rfl : 45 + 3 = 48)) (vs_goto (v_seq (v_cut (n := 3) (v_seq (v_astore_n (i := 3) (v_rald (q := 12) (t0 := 4) (ty0 := .array .int) ⟨by decide, by decide⟩ (fun _ => rfl) rfl (v_gfr kX1 lk157 (by decide) rfl (v_aload_n (i := 1) dX0_write_48 rfl (rfl : 48 + 1 = 49)) dX0_write_49 (rfl : 49 + 3 = 52)) (v_iload_n (i := 2) dX0_write_52 rfl (rfl : 52 + 1 = 53)) dX0_write_53 (rfl : 53 + 1 = 54)) dX0_write_54 rfl (by decide) (rfl : 54 + 1 = 55)) (v_if (v_zne_f (v_iald (v_aload_n (i := 3) dX0_write_55 rfl (rfl : 55 + 1 = 56)) (v_iconst (v := 3) dX0_write_56 (by decide) (rfl : 56 + 1 = 57)) dX0_write_57 (rfl : 57 + 1 = 58)) dX0_write_58 (rfl : ((58 : Nat) : Int) + 53 = ((111 : Nat) : Int)) (rfl : 58 + 3 = 61)) (v_cut (n := 4) (v_seq (v_istore (i := 4) (v_iald (v_aload_n (i := 3) dX0_write_61 rfl (rfl : 61 + 1 = 62)) (v_iconst (v := 0) dX0_write_62 (by decide) (rfl : 62 + 1 = 63)) dX0_write_63 (rfl : 63 + 1 = 64)) dX0_write_64 (by decide) (rfl : 64 + 2 = 66)) (v_seq (v_istore (i := 5) (v_iald (v_aload_n (i := 3) dX0_write_66 rfl (rfl : 66 + 1 = 67)) (v_iconst (v := 1) dX0_write_67 (by decide) (rfl : 67 + 1 = 68)) dX0_write_68 (rfl : 68 + 1 = 69)) dX0_write_69 (by decide) (rfl : 69 + 2 = 71)) (v_seq (v_aoi_iadd (v_gfr kX0 lk207 (by decide) rfl (v_aload_n (i := 0) dX0_write_71 rfl (rfl : 71 + 1 = 72)) dX0_write_72 (rfl : 72 + 3 = 75)) (v_iadd (v_iadd (v_iconst (v := 3) dX0_write_75 (by decide) (rfl : 75 + 1 = 76)) (v_imul (v_iload (i := 4) dX0_write_76 (rfl : 76 + 2 = 78)) (v_iconst (v := 5) dX0_write_78 (by decide) (rfl : 78 + 1 = 79)) dX0_write_79 (rfl : 79 + 1 = 80)) dX0_write_80 (rfl : 80 + 1 = 81)) (v_iload (i := 5) dX0_write_81 (rfl : 81 + 2 = 83)) dX0_write_83 (rfl : 83 + 1 = 84)) dX0_write_84 dX0_write_85 (rfl : 84 + 1 + 1 = 86) (v_iald (v_aload_n (i := 3) dX0_write_86 rfl (rfl : 86 + 1 = 87)) (v_iconst (v := 2) dX0_write_87 (by decide) (rfl : 87 + 1 = 88)) dX0_write_88 (rfl : 88 + 1 = 89)) dX0_write_89 dX0_write_90 (rfl : 89 + 1 + 1 = 91)) (v_aoi_iadd (v_gfr kX0 lk207 (by decide) rfl (v_aload_n (i := 0) dX0_write_91 rfl (rfl : 91 + 1 = 92)) dX0_write_92 (rfl : 92 + 3 = 95)) (v_iadd (v_iadd (v_iconst (v := 3) dX0_write_95 (by decide) (rfl : 95 + 1 = 96)) (v_imul (v_iload (i := 5) dX0_write_96 (rfl : 96 + 2 = 98)) (v_iconst (v := 5) dX0_write_98 (by decide) (rfl : 98 + 1 = 99)) dX0_write_99 (rfl : 99 + 1 = 100)) dX0_write_100 (rfl : 100 + 1 = 101)) (v_iload (i := 4) dX0_write_101 (rfl : 101 + 2 = 103)) dX0_write_103 (rfl : 103 + 1 = 104)) dX0_write_104 dX0_write_105 (rfl : 104 + 1 + 1 = 106) (v_iald (v_aload_n (i := 3) dX0_write_106 rfl (rfl : 106 + 1 = 107)) (v_iconst (v := 2) dX0_write_107 (by decide) (rfl : 107 + 1 = 108)) dX0_write_108 (rfl : 108 + 1 = 109)) dX0_write_109 dX0_write_110 (rfl : 109 + 1 + 1 = 111)))))) v_nop))) (v_iinc (v := 1) dX0_write_111 (by decide) (by decide) (rfl : 111 + 3 = 114))) dX0_write_114 (rfl : ((114 : Nat) : Int) + (-74) = ((40 : Nat) : Int)))))) (v_seq (v_cut (n := 2) (v_seq (v_istore_n (i := 2) (v_iconst (v := 0) dX0_write_117 (by decide) (rfl : 117 + 1 = 118)) dX0_write_118 rfl (by decide) (rfl : 118 + 1 = 119)) (v_wh (v_ilt_f (v_iload_n (i := 2) dX0_write_119 rfl (rfl : 119 + 1 = 120)) (v_gfi kX1 lk136 (by decide) rfl (v_aload_n (i := 1) dX0_write_120 rfl (rfl : 120 + 1 = 121)) dX0_write_121 (rfl : 121 + 3 = 124)) dX0_write_124 (rfl : ((124 : Nat) : Int) + 62 = ((186 : Nat) : Int)) (rfl : 124 + 3 = 127)) (vs_goto (v_seq (v_if (v_zne_f (v_iald (v_rald (q := 12) (t0 := 4) (ty0 := .array .int) ⟨by decide, by decide⟩ (fun _ => rfl) rfl (v_gfr kX1 lk161 (by decide) rfl (v_aload_n (i := 1) dX0_write_127 rfl (rfl : 127 + 1 = 128)) dX0_write_128 (rfl : 128 + 3 = 131)) (v_iload_n (i := 2) dX0_write_131 rfl (rfl : 131 + 1 = 132)) dX0_write_132 (rfl : 132 + 1 = 133)) (v_iconst (v := 1) dX0_write_133 (by decide) (rfl : 133 + 1 = 134)) dX0_write_134 (rfl : 134 + 1 = 135)) dX0_write_135 (rfl : ((135 : Nat) : Int) + 45 = ((180 : Nat) : Int)) (rfl : 135 + 3 = 138)) (v_seq (v_scopy lk559 lkNat lkNatS lkSys ⟨by decide, by decide⟩ (v_rald (q := 12) (t0 := 4) (ty0 := .array .int) ⟨by decide, by decide⟩ (fun _ => rfl) rfl (v_gfr kX1 lk161 (by decide) rfl (v_aload_n (i := 1) dX0_write_138 rfl (rfl : 138 + 1 = 139)) dX0_write_139 (rfl : 139 + 3 = 142)) (v_iload_n (i := 2) dX0_write_142 rfl (rfl : 142 + 1 = 143)) dX0_write_143 (rfl : 143 + 1 = 144)) (v_iconst (v := 0) dX0_write_144 (by decide) (rfl : 144 + 1 = 145)) (v_gfr kX0 lk207 (by decide) rfl (v_aload_n (i := 0) dX0_write_145 rfl (rfl : 145 + 1 = 146)) dX0_write_146 (rfl : 146 + 3 = 149)) (v_iadd (v_bipush (v := 28) dX0_write_149 (by decide) (rfl : 149 + 2 = 151)) (v_imul (v_iload_n (i := 2) dX0_write_151 rfl (rfl : 151 + 1 = 152)) (v_iconst (v := 5) dX0_write_152 (by decide) (rfl : 152 + 1 = 153)) dX0_write_153 (rfl : 153 + 1 = 154)) dX0_write_154 (rfl : 154 + 1 = 155)) (v_iconst (v := 5) dX0_write_155 (by decide) (rfl : 155 + 1 = 156)) dX0_write_156 (rfl : 156 + 3 = 159)) (v_scopy lk559 lkNat lkNatS lkSys ⟨by decide, by decide⟩ (v_rald (q := 12) (t0 := 4) (ty0 := .array .int) ⟨by decide, by decide⟩ (fun _ => rfl) rfl (v_gfr kX1 lk161 (by decide) rfl (v_aload_n (i := 1) dX0_write_159 rfl (rfl : 159 + 1 = 160)) dX0_write_160 (rfl : 160 + 3 = 163)) (v_iload_n (i := 2) dX0_write_163 rfl (rfl : 163 + 1 = 164)) dX0_write_164 (rfl : 164 + 1 = 165)) (v_iconst (v := 5) dX0_write_165 (by decide) (rfl : 165 + 1 = 166)) (v_gfr kX0 lk207 (by decide) rfl (v_aload_n (i := 0) dX0_write_166 rfl (rfl : 166 + 1 = 167)) dX0_write_167 (rfl : 167 + 3 = 170)) (v_iadd (v_bipush (v := 43) dX0_write_170 (by decide) (rfl : 170 + 2 = 172)) (v_imul (v_iload_n (i := 2) dX0_write_172 rfl (rfl : 172 + 1 = 173)) (v_iconst (v := 2) dX0_write_173 (by decide) (rfl : 173 + 1 = 174)) dX0_write_174 (rfl : 174 + 1 = 175)) dX0_write_175 (rfl : 175 + 1 = 176)) (v_iconst (v := 2) dX0_write_176 (by decide) (rfl : 176 + 1 = 177)) dX0_write_177 (rfl : 177 + 3 = 180))) v_nop) (v_iinc (v := 1) dX0_write_180 (by decide) (by decide) (rfl : 180 + 3 = 183))) dX0_write_183 (rfl : ((183 : Nat) : Int) + (-64) = ((119 : Nat) : Int)))))) (v_cut (n := 2) (v_seq (v_istore_n (i := 2) (v_iconst (v := 0) dX0_write_186 (by decide) (rfl : 186 + 1 = 187)) dX0_write_187 rfl (by decide) (rfl : 187 + 1 = 188)) (v_wh (v_ilt_f (v_iload_n (i := 2) dX0_write_188 rfl (rfl : 188 + 1 = 189)) (v_gfi kX1 lk125 (by decide) rfl (v_aload_n (i := 1) dX0_write_189 rfl (rfl : 189 + 1 = 190)) dX0_write_190 (rfl : 190 + 3 = 193)) dX0_write_193 (rfl : ((193 : Nat) : Int) + 31 = ((224 : Nat) : Int)) (rfl : 193 + 3 = 196)) (vs_goto (v_seq (v_aii (v_gfr kX0 lk207 (by decide) rfl (v_aload_n (i := 0) dX0_write_196 rfl (rfl : 196 + 1 = 197)) dX0_write_197 (rfl : 197 + 3 = 200)) (v_iadd (v_bipush (v := 49) dX0_write_200 (by decide) (rfl : 200 + 2 = 202)) (v_iload_n (i := 2) dX0_write_202 rfl (rfl : 202 + 1 = 203)) dX0_write_203 (rfl : 203 + 1 = 204)) (v_iadd (v_imul (v_iconst (v := 2) dX0_write_204 (by decide) (rfl : 204 + 1 = 205)) (v_cvi kX1 IX1_load hX1_load lk560 ⟨by decide, by decide⟩ (by decide) (v_aload_n (i := 1) dX0_write_205 rfl (rfl : 205 + 1 = 206)) (v_ai (v_iload_n (i := 2) dX0_write_206 rfl (rfl : 206 + 1 = 207)) v_anil) dX0_write_207 (rfl : 207 + 3 = 210)) dX0_write_210 (rfl : 210 + 1 = 211)) (v_cvi kX1 IX1_twiceLeak hX1_twiceLeak lk568 ⟨by decide, by decide⟩ (by decide) (v_aload_n (i := 1) dX0_write_211 rfl (rfl : 211 + 1 = 212)) (v_ai (v_iload_n (i := 2) dX0_write_212 rfl (rfl : 212 + 1 = 213)) v_anil) dX0_write_213 (rfl : 213 + 3 = 216)) dX0_write_216 (rfl : 216 + 1 = 217)) dX0_write_217 (rfl : 217 + 1 = 218)) (v_iinc (v := 1) dX0_write_218 (by decide) (by decide) (rfl : 218 + 3 = 221))) dX0_write_221 (rfl : ((221 : Nat) : Int) + (-33) = ((188 : Nat) : Int)))))))))))) (v_retv dX0_write_224))
theorem IX0_write : Mv yX0_write cX0_write 6 (rmk 2 42) DX0_write := mk_v (by decide +kernel) BX0_write

theorem dX1_net_0 : decode cX1_net 0 = .ok (.iconst 1, 1) := by decide +kernel
theorem dX1_net_1 : decode cX1_net 1 = .ok (.iload_n 1, 1) := by decide +kernel
theorem dX1_net_2 : decode cX1_net 2 = .ok (.ishl, 1) := by decide +kernel
theorem dX1_net_3 : decode cX1_net 3 = .ok (.istore_n 2, 1) := by decide +kernel
theorem dX1_net_4 : decode cX1_net 4 = .ok (.iconst 1, 1) := by decide +kernel
theorem dX1_net_5 : decode cX1_net 5 = .ok (.istore_n 3, 1) := by decide +kernel
theorem dX1_net_6 : decode cX1_net 6 = .ok (.iload_n 3, 1) := by decide +kernel
theorem dX1_net_7 : decode cX1_net 7 = .ok (.aload_n 0, 1) := by decide +kernel
theorem dX1_net_8 : decode cX1_net 8 = .ok (.getfield 36, 3) := by decide +kernel
theorem dX1_net_11 : decode cX1_net 11 = .ok (.if_icmp .ge 76, 3) := by decide +kernel
theorem dX1_net_14 : decode cX1_net 14 = .ok (.iconst 0, 1) := by decide +kernel
theorem dX1_net_15 : decode cX1_net 15 = .ok (.istore 4, 2) := by decide +kernel
theorem dX1_net_17 : decode cX1_net 17 = .ok (.iload 4, 2) := by decide +kernel
theorem dX1_net_19 : decode cX1_net 19 = .ok (.aload_n 0, 1) := by decide +kernel
theorem dX1_net_20 : decode cX1_net 20 = .ok (.getfield 39, 3) := by decide +kernel
theorem dX1_net_23 : decode cX1_net 23 = .ok (.if_icmp .ge 58, 3) := by decide +kernel
theorem dX1_net_26 : decode cX1_net 26 = .ok (.iconst 1, 1) := by decide +kernel
theorem dX1_net_27 : decode cX1_net 27 = .ok (.aload_n 0, 1) := by decide +kernel
theorem dX1_net_28 : decode cX1_net 28 = .ok (.getfield 23, 3) := by decide +kernel
theorem dX1_net_31 : decode cX1_net 31 = .ok (.iload 4, 2) := by decide +kernel
theorem dX1_net_33 : decode cX1_net 33 = .ok (.aaload, 1) := by decide +kernel
theorem dX1_net_34 : decode cX1_net 34 = .ok (.iconst 0, 1) := by decide +kernel
theorem dX1_net_35 : decode cX1_net 35 = .ok (.iaload, 1) := by decide +kernel
theorem dX1_net_36 : decode cX1_net 36 = .ok (.ishl, 1) := by decide +kernel
theorem dX1_net_37 : decode cX1_net 37 = .ok (.iconst 1, 1) := by decide +kernel
theorem dX1_net_38 : decode cX1_net 38 = .ok (.aload_n 0, 1) := by decide +kernel
theorem dX1_net_39 : decode cX1_net 39 = .ok (.getfield 23, 3) := by decide +kernel
theorem dX1_net_42 : decode cX1_net 42 = .ok (.iload 4, 2) := by decide +kernel
theorem dX1_net_44 : decode cX1_net 44 = .ok (.aaload, 1) := by decide +kernel
theorem dX1_net_45 : decode cX1_net 45 = .ok (.iconst 1, 1) := by decide +kernel
theorem dX1_net_46 : decode cX1_net 46 = .ok (.iaload, 1) := by decide +kernel
theorem dX1_net_47 : decode cX1_net 47 = .ok (.ishl, 1) := by decide +kernel
theorem dX1_net_48 : decode cX1_net 48 = .ok (.ior, 1) := by decide +kernel
theorem dX1_net_49 : decode cX1_net 49 = .ok (.istore 5, 2) := by decide +kernel
theorem dX1_net_51 : decode cX1_net 51 = .ok (.aload_n 0, 1) := by decide +kernel
theorem dX1_net_52 : decode cX1_net 52 = .ok (.getfield 23, 3) := by decide +kernel
theorem dX1_net_55 : decode cX1_net 55 = .ok (.iload 4, 2) := by decide +kernel
theorem dX1_net_57 : decode cX1_net 57 = .ok (.aaload, 1) := by decide +kernel
theorem dX1_net_58 : decode cX1_net 58 = .ok (.iconst 3, 1) := by decide +kernel
theorem dX1_net_59 : decode cX1_net 59 = .ok (.iaload, 1) := by decide +kernel
theorem dX1_net_60 : decode cX1_net 60 = .ok (.ifCond .eq 15, 3) := by decide +kernel
theorem dX1_net_63 : decode cX1_net 63 = .ok (.iload_n 2, 1) := by decide +kernel
theorem dX1_net_64 : decode cX1_net 64 = .ok (.iload 5, 2) := by decide +kernel
theorem dX1_net_66 : decode cX1_net 66 = .ok (.iand, 1) := by decide +kernel
theorem dX1_net_67 : decode cX1_net 67 = .ok (.ifCond .eq 8, 3) := by decide +kernel
theorem dX1_net_70 : decode cX1_net 70 = .ok (.iload_n 2, 1) := by decide +kernel
theorem dX1_net_71 : decode cX1_net 71 = .ok (.iload 5, 2) := by decide +kernel
theorem dX1_net_73 : decode cX1_net 73 = .ok (.ior, 1) := by decide +kernel
theorem dX1_net_74 : decode cX1_net 74 = .ok (.istore_n 2, 1) := by decide +kernel
theorem dX1_net_75 : decode cX1_net 75 = .ok (.iinc 4 1, 3) := by decide +kernel
theorem dX1_net_78 : decode cX1_net 78 = .ok (.goto (-61), 3) := by decide +kernel
theorem dX1_net_81 : decode cX1_net 81 = .ok (.iinc 3 1, 3) := by decide +kernel
theorem dX1_net_84 : decode cX1_net 84 = .ok (.goto (-78), 3) := by decide +kernel
theorem dX1_net_87 : decode cX1_net 87 = .ok (.iload_n 2, 1) := by decide +kernel
theorem dX1_net_88 : decode cX1_net 88 = .ok (.ireturn, 1) := by decide +kernel
noncomputable def qX1_net_1 : Bx := (bc clt (il 4) (fgi 1 1 (rl 0)))
noncomputable def wX1_net_1 : Sx := (sseq (scut 5 (sseq (ssi 5 (i2 (· ||| ·) (i2 oshl (ik 1) (iald (rald 12 (fgr 1 10 (rl 0)) (il 4)) (ik 0))) (i2 oshl (ik 1) (iald (rald 12 (fgr 1 10 (rl 0)) (il 4)) (ik 1))))) (sif (band (bz cne (iald (rald 12 (fgr 1 10 (rl 0)) (il 4)) (ik 3))) (bz cne (i2 (· &&& ·) (il 2) (il 5)))) (ssi 2 (i2 (· ||| ·) (il 2) (il 5))) snop))) (sinc 4 1))
noncomputable def qX1_net_2 : Bx := (bc clt (il 3) (fgi 1 0 (rl 0)))
noncomputable def wX1_net_2 : Sx := (sseq (scut 4 (sseq (ssi 4 (ik 0)) (swh qX1_net_1 wX1_net_1))) (sinc 3 1))
noncomputable def EX1_net : Sx := (sseq (ssi 2 (i2 oshl (ik 1) (il 1))) (sseq (scut 3 (sseq (ssi 3 (ik 1)) (swh qX1_net_2 wX1_net_2))) (sret (il 2))))
noncomputable def DX1_net : Fi := mfi 6 EX1_net
set_option maxRecDepth 4000 in
theorem BX1_net : Vs RX1 cX1_net 6 (rmk 0 0) 0 0 EX1_net := (v_seq (v_istore_n (i := 2) (v_ishl (v_iconst (v := 1) dX1_net_0 (by decide) (rfl : 0 + 1 = 1)) (v_iload_n (i := 1) dX1_net_1 rfl (rfl : 1 + 1 = 2)) dX1_net_2 (rfl : 2 + 1 = 3)) dX1_net_3 rfl (by decide) (rfl : 3 + 1 = 4)) (v_seq (v_cut (n := 3) (v_seq (v_istore_n (i := 3) (v_iconst (v := 1) dX1_net_4 (by decide) (rfl : 4 + 1 = 5)) dX1_net_5 rfl (by decide) (rfl : 5 + 1 = 6)) (v_wh (v_ilt_f (v_iload_n (i := 3) dX1_net_6 rfl (rfl : 6 + 1 = 7)) (v_gfi kX1 lk122 (by decide) rfl (v_aload_n (i := 0) dX1_net_7 rfl (rfl : 7 + 1 = 8)) dX1_net_8 (rfl : 8 + 3 = 11)) dX1_net_11 (rfl : ((11 : Nat) : Int) + 76 = ((87 : Nat) : Int)) (rfl : 11 + 3 = 14)) (vs_goto (v_seq (v_cut (n := 4) (v_seq (v_istore (i := 4) (v_iconst (v := 0) dX1_net_14 (by decide) (rfl : 14 + 1 = 15)) dX1_net_15 (by decide) (rfl : 15 + 2 = 17)) (v_wh (v_ilt_f (v_iload (i := 4) dX1_net_17 (rfl : 17 + 2 = 19)) (v_gfi kX1 lk128 (by decide) rfl (v_aload_n (i := 0) dX1_net_19 rfl (rfl : 19 + 1 = 20)) dX1_net_20 (rfl : 20 + 3 = 23)) dX1_net_23 (rfl : ((23 : Nat) : Int) + 58 = ((81 : Nat) : Int)) (rfl : 23 + 3 = 26)) (vs_goto (v_seq (v_cut (n := 5) (v_seq (v_istore (i := 5) (v_ior (v_ishl (v_iconst (v := 1) dX1_net_26 (by decide) (rfl : 26 + 1 = 27)) (v_iald (v_rald (q := 12) (t0 := 4) (ty0 := .array .int) ⟨by decide, by decide⟩ (fun _ => rfl) rfl (v_gfr kX1 lk154 (by decide) rfl (v_aload_n (i := 0) dX1_net_27 rfl (rfl : 27 + 1 = 28)) dX1_net_28 (rfl : 28 + 3 = 31)) (v_iload (i := 4) dX1_net_31 (rfl : 31 + 2 = 33)) dX1_net_33 (rfl : 33 + 1 = 34)) (v_iconst (v := 0) dX1_net_34 (by decide) (rfl : 34 + 1 = 35)) dX1_net_35 (rfl : 35 + 1 = 36)) dX1_net_36 (rfl : 36 + 1 = 37)) (v_ishl (v_iconst (v := 1) dX1_net_37 (by decide) (rfl : 37 + 1 = 38)) (v_iald (v_rald (q := 12) (t0 := 4) (ty0 := .array .int) ⟨by decide, by decide⟩ (fun _ => rfl) rfl (v_gfr kX1 lk154 (by decide) rfl (v_aload_n (i := 0) dX1_net_38 rfl (rfl : 38 + 1 = 39)) dX1_net_39 (rfl : 39 + 3 = 42)) (v_iload (i := 4) dX1_net_42 (rfl : 42 + 2 = 44)) dX1_net_44 (rfl : 44 + 1 = 45)) (v_iconst (v := 1) dX1_net_45 (by decide) (rfl : 45 + 1 = 46)) dX1_net_46 (rfl : 46 + 1 = 47)) dX1_net_47 (rfl : 47 + 1 = 48)) dX1_net_48 (rfl : 48 + 1 = 49)) dX1_net_49 (by decide) (rfl : 49 + 2 = 51)) (v_if (v_and (v_zne_f (v_iald (v_rald (q := 12) (t0 := 4) (ty0 := .array .int) ⟨by decide, by decide⟩ (fun _ => rfl) rfl (v_gfr kX1 lk154 (by decide) rfl (v_aload_n (i := 0) dX1_net_51 rfl (rfl : 51 + 1 = 52)) dX1_net_52 (rfl : 52 + 3 = 55)) (v_iload (i := 4) dX1_net_55 (rfl : 55 + 2 = 57)) dX1_net_57 (rfl : 57 + 1 = 58)) (v_iconst (v := 3) dX1_net_58 (by decide) (rfl : 58 + 1 = 59)) dX1_net_59 (rfl : 59 + 1 = 60)) dX1_net_60 (rfl : ((60 : Nat) : Int) + 15 = ((75 : Nat) : Int)) (rfl : 60 + 3 = 63)) (v_zne_f (v_iand (v_iload_n (i := 2) dX1_net_63 rfl (rfl : 63 + 1 = 64)) (v_iload (i := 5) dX1_net_64 (rfl : 64 + 2 = 66)) dX1_net_66 (rfl : 66 + 1 = 67)) dX1_net_67 (rfl : ((67 : Nat) : Int) + 8 = ((75 : Nat) : Int)) (rfl : 67 + 3 = 70))) (v_istore_n (i := 2) (v_ior (v_iload_n (i := 2) dX1_net_70 rfl (rfl : 70 + 1 = 71)) (v_iload (i := 5) dX1_net_71 (rfl : 71 + 2 = 73)) dX1_net_73 (rfl : 73 + 1 = 74)) dX1_net_74 rfl (by decide) (rfl : 74 + 1 = 75)) v_nop))) (v_iinc (v := 1) dX1_net_75 (by decide) (by decide) (rfl : 75 + 3 = 78))) dX1_net_78 (rfl : ((78 : Nat) : Int) + (-61) = ((17 : Nat) : Int)))))) (v_iinc (v := 1) dX1_net_81 (by decide) (by decide) (rfl : 81 + 3 = 84))) dX1_net_84 (rfl : ((84 : Nat) : Int) + (-78) = ((6 : Nat) : Int)))))) (v_ret (v_iload_n (i := 2) dX1_net_87 rfl (rfl : 87 + 1 = 88)) dX1_net_88)))
theorem IX1_net : Mi yX1_net cX1_net 6 (rmk 0 0) DX1_net := mk_i (by decide +kernel) BX1_net

theorem dX0_solve_0 : decode cX0_solve 0 = .ok (.aload_n 0, 1) := by decide +kernel
theorem dX0_solve_1 : decode cX0_solve 1 = .ok (.aload_n 1, 1) := by decide +kernel
theorem dX0_solve_2 : decode cX0_solve 2 = .ok (.invokevirtual 47, 3) := by decide +kernel
theorem dX0_solve_5 : decode cX0_solve 5 = .ok (.aload_n 0, 1) := by decide +kernel
theorem dX0_solve_6 : decode cX0_solve 6 = .ok (.iconst 0, 1) := by decide +kernel
theorem dX0_solve_7 : decode cX0_solve 7 = .ok (.bipush 43, 2) := by decide +kernel
theorem dX0_solve_9 : decode cX0_solve 9 = .ok (.invokevirtual 51, 3) := by decide +kernel
theorem dX0_solve_12 : decode cX0_solve 12 = .ok (.istore_n 2, 1) := by decide +kernel
theorem dX0_solve_13 : decode cX0_solve 13 = .ok (.iload_n 2, 1) := by decide +kernel
theorem dX0_solve_14 : decode cX0_solve 14 = .ok (.ifCond .ne 15, 3) := by decide +kernel
theorem dX0_solve_17 : decode cX0_solve 17 = .ok (.aload_n 0, 1) := by decide +kernel
theorem dX0_solve_18 : decode cX0_solve 18 = .ok (.bipush 43, 2) := by decide +kernel
theorem dX0_solve_20 : decode cX0_solve 20 = .ok (.bipush 54, 2) := by decide +kernel
theorem dX0_solve_22 : decode cX0_solve 22 = .ok (.invokevirtual 51, 3) := by decide +kernel
theorem dX0_solve_25 : decode cX0_solve 25 = .ok (.ifCond .ne 4, 3) := by decide +kernel
theorem dX0_solve_28 : decode cX0_solve 28 = .ok (.return_, 1) := by decide +kernel
theorem dX0_solve_29 : decode cX0_solve 29 = .ok (.aload_n 0, 1) := by decide +kernel
theorem dX0_solve_30 : decode cX0_solve 30 = .ok (.getfield 15, 3) := by decide +kernel
theorem dX0_solve_33 : decode cX0_solve 33 = .ok (.iconst 0, 1) := by decide +kernel
theorem dX0_solve_34 : decode cX0_solve 34 = .ok (.aload_n 0, 1) := by decide +kernel
theorem dX0_solve_35 : decode cX0_solve 35 = .ok (.getfield 11, 3) := by decide +kernel
theorem dX0_solve_38 : decode cX0_solve 38 = .ok (.iconst 0, 1) := by decide +kernel
theorem dX0_solve_39 : decode cX0_solve 39 = .ok (.bipush 54, 2) := by decide +kernel
theorem dX0_solve_41 : decode cX0_solve 41 = .ok (.invokestatic 55, 3) := by decide +kernel
theorem dX0_solve_44 : decode cX0_solve 44 = .ok (.iload_n 2, 1) := by decide +kernel
theorem dX0_solve_45 : decode cX0_solve 45 = .ok (.ifCond .eq 35, 3) := by decide +kernel
theorem dX0_solve_48 : decode cX0_solve 48 = .ok (.aload_n 0, 1) := by decide +kernel
theorem dX0_solve_49 : decode cX0_solve 49 = .ok (.iconst 0, 1) := by decide +kernel
theorem dX0_solve_50 : decode cX0_solve 50 = .ok (.putfield 61, 3) := by decide +kernel
theorem dX0_solve_53 : decode cX0_solve 53 = .ok (.iconst 0, 1) := by decide +kernel
theorem dX0_solve_54 : decode cX0_solve 54 = .ok (.istore_n 3, 1) := by decide +kernel
theorem dX0_solve_55 : decode cX0_solve 55 = .ok (.iload_n 3, 1) := by decide +kernel
theorem dX0_solve_56 : decode cX0_solve 56 = .ok (.aload_n 1, 1) := by decide +kernel
theorem dX0_solve_57 : decode cX0_solve 57 = .ok (.getfield 64, 3) := by decide +kernel
theorem dX0_solve_60 : decode cX0_solve 60 = .ok (.if_icmp .ge 20, 3) := by decide +kernel
theorem dX0_solve_63 : decode cX0_solve 63 = .ok (.aload_n 0, 1) := by decide +kernel
theorem dX0_solve_64 : decode cX0_solve 64 = .ok (.getfield 30, 3) := by decide +kernel
theorem dX0_solve_67 : decode cX0_solve 67 = .ok (.iload_n 3, 1) := by decide +kernel
theorem dX0_solve_68 : decode cX0_solve 68 = .ok (.aload_n 1, 1) := by decide +kernel
theorem dX0_solve_69 : decode cX0_solve 69 = .ok (.iload_n 3, 1) := by decide +kernel
theorem dX0_solve_70 : decode cX0_solve 70 = .ok (.invokevirtual 69, 3) := by decide +kernel
theorem dX0_solve_73 : decode cX0_solve 73 = .ok (.iastore, 1) := by decide +kernel
theorem dX0_solve_74 : decode cX0_solve 74 = .ok (.iinc 3 1, 3) := by decide +kernel
theorem dX0_solve_77 : decode cX0_solve 77 = .ok (.goto (-22), 3) := by decide +kernel
theorem dX0_solve_80 : decode cX0_solve 80 = .ok (.aload_n 0, 1) := by decide +kernel
theorem dX0_solve_81 : decode cX0_solve 81 = .ok (.iconst (-1), 1) := by decide +kernel
theorem dX0_solve_82 : decode cX0_solve 82 = .ok (.putfield 43, 3) := by decide +kernel
theorem dX0_solve_85 : decode cX0_solve 85 = .ok (.iconst 0, 1) := by decide +kernel
theorem dX0_solve_86 : decode cX0_solve 86 = .ok (.istore_n 3, 1) := by decide +kernel
theorem dX0_solve_87 : decode cX0_solve 87 = .ok (.iload_n 3, 1) := by decide +kernel
theorem dX0_solve_88 : decode cX0_solve 88 = .ok (.bipush 27, 2) := by decide +kernel
theorem dX0_solve_90 : decode cX0_solve 90 = .ok (.if_icmp .ge 35, 3) := by decide +kernel
theorem dX0_solve_93 : decode cX0_solve 93 = .ok (.aload_n 0, 1) := by decide +kernel
theorem dX0_solve_94 : decode cX0_solve 94 = .ok (.getfield 43, 3) := by decide +kernel
theorem dX0_solve_97 : decode cX0_solve 97 = .ok (.iconst (-1), 1) := by decide +kernel
theorem dX0_solve_98 : decode cX0_solve 98 = .ok (.if_icmp .ne 27, 3) := by decide +kernel
theorem dX0_solve_101 : decode cX0_solve 101 = .ok (.aload_n 0, 1) := by decide +kernel
theorem dX0_solve_102 : decode cX0_solve 102 = .ok (.iload_n 3, 1) := by decide +kernel
theorem dX0_solve_103 : decode cX0_solve 103 = .ok (.invokevirtual 73, 3) := by decide +kernel
theorem dX0_solve_106 : decode cX0_solve 106 = .ok (.aload_n 0, 1) := by decide +kernel
theorem dX0_solve_107 : decode cX0_solve 107 = .ok (.iload_n 3, 1) := by decide +kernel
theorem dX0_solve_108 : decode cX0_solve 108 = .ok (.invokevirtual 77, 3) := by decide +kernel
theorem dX0_solve_111 : decode cX0_solve 111 = .ok (.ifCond .eq 8, 3) := by decide +kernel
theorem dX0_solve_114 : decode cX0_solve 114 = .ok (.aload_n 0, 1) := by decide +kernel
theorem dX0_solve_115 : decode cX0_solve 115 = .ok (.iload_n 3, 1) := by decide +kernel
theorem dX0_solve_116 : decode cX0_solve 116 = .ok (.putfield 43, 3) := by decide +kernel
theorem dX0_solve_119 : decode cX0_solve 119 = .ok (.iinc 3 1, 3) := by decide +kernel
theorem dX0_solve_122 : decode cX0_solve 122 = .ok (.goto (-35), 3) := by decide +kernel
theorem dX0_solve_125 : decode cX0_solve 125 = .ok (.aload_n 0, 1) := by decide +kernel
theorem dX0_solve_126 : decode cX0_solve 126 = .ok (.getfield 43, 3) := by decide +kernel
theorem dX0_solve_129 : decode cX0_solve 129 = .ok (.iconst (-1), 1) := by decide +kernel
theorem dX0_solve_130 : decode cX0_solve 130 = .ok (.if_icmp .eq 7, 3) := by decide +kernel
theorem dX0_solve_133 : decode cX0_solve 133 = .ok (.aload_n 0, 1) := by decide +kernel
theorem dX0_solve_134 : decode cX0_solve 134 = .ok (.invokevirtual 81, 3) := by decide +kernel
theorem dX0_solve_137 : decode cX0_solve 137 = .ok (.return_, 1) := by decide +kernel
noncomputable def qX0_solve_1 : Bx := (bc clt (il 3) (fgi 1 0 (rl 1)))
noncomputable def wX0_solve_1 : Sx := (sseq (aii (fgr 0 6 (rl 0)) (il 3) (cvi 1 DX1_net (rl 1) (ai (il 3) anil))) (sinc 3 1))
noncomputable def qX0_solve_2 : Bx := (band (bc clt (il 3) (ik 27)) (bc ceq (fgi 0 8 (rl 0)) (ik (-1))))
noncomputable def wX0_solve_2 : Sx := (sseq (sseq (scv 0 DX0_prepare (rl 0) (ai (il 3) anil)) (sif (bz cne (cvz 0 DX0_agrees (rl 0) (ai (il 3) anil))) (fpi 0 8 (rl 0) (il 3)) snop)) (sinc 3 1))
noncomputable def EX0_solve : Sx := (sseq (sseq (scv 0 DX0_write (rl 0) (ar (rl 1) anil)) (sseq (ssi 2 (cvz 0 DX0_differs (rl 0) (ai (ik 0) (ai (ik 43) anil)))) (sseq (sif (band (bnot (bz cne (il 2))) (bnot (bz cne (cvz 0 DX0_differs (rl 0) (ai (ik 43) (ai (ik 54) anil)))))) sretv snop) (sseq (scopy (fgr 0 1 (rl 0)) (ik 0) (fgr 0 0 (rl 0)) (ik 0) (ik 54)) (sseq (sif (bz cne (il 2)) (sseq (fpi 0 4 (rl 0) (ik 0)) (scut 3 (sseq (ssi 3 (ik 0)) (swh qX0_solve_1 wX0_solve_1)))) snop) (sseq (fpi 0 8 (rl 0) (ik (-1))) (sseq (scut 3 (sseq (ssi 3 (ik 0)) (swh qX0_solve_2 wX0_solve_2))) (sif (bc cne (fgi 0 8 (rl 0)) (ik (-1))) (scv 0 DX0_tellPressures (rl 0) anil) snop)))))))) sretv)
noncomputable def DX0_solve : Fu := mfv 4 EX0_solve
set_option maxRecDepth 4000 in
theorem BX0_solve : Vs RX0 cX0_solve 4 (rmk 3 83) 0 0 EX0_solve := (v_seq (v_seq (v_scv kX0 IX0_write hX0_write lk552 ⟨by decide, by decide⟩ (v_aload_n (i := 0) dX0_solve_0 rfl (rfl : 0 + 1 = 1)) (v_ar (v_aload_n (i := 1) dX0_solve_1 rfl (rfl : 1 + 1 = 2)) v_anil) dX0_solve_2 (rfl : 2 + 3 = 5)) (v_seq (v_istore_n (i := 2) (v_cvz kX0 IX0_differs hX0_differs lk572 ⟨by decide, by decide⟩ (by decide) (v_aload_n (i := 0) dX0_solve_5 rfl (rfl : 5 + 1 = 6)) (v_ai (v_iconst (v := 0) dX0_solve_6 (by decide) (rfl : 6 + 1 = 7)) (v_ai (v_bipush (v := 43) dX0_solve_7 (by decide) (rfl : 7 + 2 = 9)) v_anil)) dX0_solve_9 (rfl : 9 + 3 = 12)) dX0_solve_12 rfl (by decide) (rfl : 12 + 1 = 13)) (v_seq (v_if (v_and (v_not (v_zne_t (v_iload_n (i := 2) dX0_solve_13 rfl (rfl : 13 + 1 = 14)) dX0_solve_14 (rfl : ((14 : Nat) : Int) + 15 = ((29 : Nat) : Int)) (rfl : 14 + 3 = 17))) (v_not (v_zne_t (v_cvz kX0 IX0_differs hX0_differs lk572 ⟨by decide, by decide⟩ (by decide) (v_aload_n (i := 0) dX0_solve_17 rfl (rfl : 17 + 1 = 18)) (v_ai (v_bipush (v := 43) dX0_solve_18 (by decide) (rfl : 18 + 2 = 20)) (v_ai (v_bipush (v := 54) dX0_solve_20 (by decide) (rfl : 20 + 2 = 22)) v_anil)) dX0_solve_22 (rfl : 22 + 3 = 25)) dX0_solve_25 (rfl : ((25 : Nat) : Int) + 4 = ((29 : Nat) : Int)) (rfl : 25 + 3 = 28)))) (v_retv dX0_solve_28) v_nop) (v_seq (v_scopy lk559 lkNat lkNatS lkSys ⟨by decide, by decide⟩ (v_gfr kX0 lk207 (by decide) rfl (v_aload_n (i := 0) dX0_solve_29 rfl (rfl : 29 + 1 = 30)) dX0_solve_30 (rfl : 30 + 3 = 33)) (v_iconst (v := 0) dX0_solve_33 (by decide) (rfl : 33 + 1 = 34)) (v_gfr kX0 lk206 (by decide) rfl (v_aload_n (i := 0) dX0_solve_34 rfl (rfl : 34 + 1 = 35)) dX0_solve_35 (rfl : 35 + 3 = 38)) (v_iconst (v := 0) dX0_solve_38 (by decide) (rfl : 38 + 1 = 39)) (v_bipush (v := 54) dX0_solve_39 (by decide) (rfl : 39 + 2 = 41)) dX0_solve_41 (rfl : 41 + 3 = 44)) (v_seq (v_if (v_zne_f (v_iload_n (i := 2) dX0_solve_44 rfl (rfl : 44 + 1 = 45)) dX0_solve_45 (rfl : ((45 : Nat) : Int) + 35 = ((80 : Nat) : Int)) (rfl : 45 + 3 = 48)) (v_seq (v_fpi kX0 lk210 (by decide) rfl rfl (by decide +kernel) (v_aload_n (i := 0) dX0_solve_48 rfl (rfl : 48 + 1 = 49)) (v_iconst (v := 0) dX0_solve_49 (by decide) (rfl : 49 + 1 = 50)) dX0_solve_50 (rfl : 50 + 3 = 53)) (v_cut (n := 3) (v_seq (v_istore_n (i := 3) (v_iconst (v := 0) dX0_solve_53 (by decide) (rfl : 53 + 1 = 54)) dX0_solve_54 rfl (by decide) (rfl : 54 + 1 = 55)) (v_wh (v_ilt_f (v_iload_n (i := 3) dX0_solve_55 rfl (rfl : 55 + 1 = 56)) (v_gfi kX1 lk125 (by decide) rfl (v_aload_n (i := 1) dX0_solve_56 rfl (rfl : 56 + 1 = 57)) dX0_solve_57 (rfl : 57 + 3 = 60)) dX0_solve_60 (rfl : ((60 : Nat) : Int) + 20 = ((80 : Nat) : Int)) (rfl : 60 + 3 = 63)) (vs_goto (v_seq (v_aii (v_gfr kX0 lk212 (by decide) rfl (v_aload_n (i := 0) dX0_solve_63 rfl (rfl : 63 + 1 = 64)) dX0_solve_64 (rfl : 64 + 3 = 67)) (v_iload_n (i := 3) dX0_solve_67 rfl (rfl : 67 + 1 = 68)) (v_cvi kX1 IX1_net hX1_net lk576 ⟨by decide, by decide⟩ (by decide) (v_aload_n (i := 1) dX0_solve_68 rfl (rfl : 68 + 1 = 69)) (v_ai (v_iload_n (i := 3) dX0_solve_69 rfl (rfl : 69 + 1 = 70)) v_anil) dX0_solve_70 (rfl : 70 + 3 = 73)) dX0_solve_73 (rfl : 73 + 1 = 74)) (v_iinc (v := 1) dX0_solve_74 (by decide) (by decide) (rfl : 74 + 3 = 77))) dX0_solve_77 (rfl : ((77 : Nat) : Int) + (-22) = ((55 : Nat) : Int))))))) v_nop) (v_seq (v_fpi kX0 lk214 (by decide) rfl rfl (by decide +kernel) (v_aload_n (i := 0) dX0_solve_80 rfl (rfl : 80 + 1 = 81)) (v_iconst (v := (-1)) dX0_solve_81 (by decide) (rfl : 81 + 1 = 82)) dX0_solve_82 (rfl : 82 + 3 = 85)) (v_seq (v_cut (n := 3) (v_seq (v_istore_n (i := 3) (v_iconst (v := 0) dX0_solve_85 (by decide) (rfl : 85 + 1 = 86)) dX0_solve_86 rfl (by decide) (rfl : 86 + 1 = 87)) (v_wh (v_and (v_ilt_f (v_iload_n (i := 3) dX0_solve_87 rfl (rfl : 87 + 1 = 88)) (v_bipush (v := 27) dX0_solve_88 (by decide) (rfl : 88 + 2 = 90)) dX0_solve_90 (rfl : ((90 : Nat) : Int) + 35 = ((125 : Nat) : Int)) (rfl : 90 + 3 = 93)) (v_ieq_f (v_gfi kX0 lk214 (by decide) rfl (v_aload_n (i := 0) dX0_solve_93 rfl (rfl : 93 + 1 = 94)) dX0_solve_94 (rfl : 94 + 3 = 97)) (v_iconst (v := (-1)) dX0_solve_97 (by decide) (rfl : 97 + 1 = 98)) dX0_solve_98 (rfl : ((98 : Nat) : Int) + 27 = ((125 : Nat) : Int)) (rfl : 98 + 3 = 101))) (vs_goto (v_seq (v_seq (v_scv kX0 IX0_prepare hX0_prepare lk580 ⟨by decide, by decide⟩ (v_aload_n (i := 0) dX0_solve_101 rfl (rfl : 101 + 1 = 102)) (v_ai (v_iload_n (i := 3) dX0_solve_102 rfl (rfl : 102 + 1 = 103)) v_anil) dX0_solve_103 (rfl : 103 + 3 = 106)) (v_if (v_zne_f (v_cvz kX0 IX0_agrees hX0_agrees lk621 ⟨by decide, by decide⟩ (by decide) (v_aload_n (i := 0) dX0_solve_106 rfl (rfl : 106 + 1 = 107)) (v_ai (v_iload_n (i := 3) dX0_solve_107 rfl (rfl : 107 + 1 = 108)) v_anil) dX0_solve_108 (rfl : 108 + 3 = 111)) dX0_solve_111 (rfl : ((111 : Nat) : Int) + 8 = ((119 : Nat) : Int)) (rfl : 111 + 3 = 114)) (v_fpi kX0 lk214 (by decide) rfl rfl (by decide +kernel) (v_aload_n (i := 0) dX0_solve_114 rfl (rfl : 114 + 1 = 115)) (v_iload_n (i := 3) dX0_solve_115 rfl (rfl : 115 + 1 = 116)) dX0_solve_116 (rfl : 116 + 3 = 119)) v_nop)) (v_iinc (v := 1) dX0_solve_119 (by decide) (by decide) (rfl : 119 + 3 = 122))) dX0_solve_122 (rfl : ((122 : Nat) : Int) + (-35) = ((87 : Nat) : Int)))))) (v_if (v_ine_f (v_gfi kX0 lk214 (by decide) rfl (v_aload_n (i := 0) dX0_solve_125 rfl (rfl : 125 + 1 = 126)) dX0_solve_126 (rfl : 126 + 3 = 129)) (v_iconst (v := (-1)) dX0_solve_129 (by decide) (rfl : 129 + 1 = 130)) dX0_solve_130 (rfl : ((130 : Nat) : Int) + 7 = ((137 : Nat) : Int)) (rfl : 130 + 3 = 133)) (v_scv kX0 IX0_tellPressures hX0_tellPressures lk638 ⟨by decide, by decide⟩ (v_aload_n (i := 0) dX0_solve_133 rfl (rfl : 133 + 1 = 134)) v_anil dX0_solve_134 (rfl : 134 + 3 = 137)) v_nop)))))))) (v_retv dX0_solve_137))
theorem IX0_solve : Mv yX0_solve cX0_solve 4 (rmk 3 83) DX0_solve := mk_v (by decide +kernel) BX0_solve

theorem dX0_greatest_0 : decode cX0_greatest 0 = .ok (.aload_n 0, 1) := by decide +kernel
theorem dX0_greatest_1 : decode cX0_greatest 1 = .ok (.aload_n 1, 1) := by decide +kernel
theorem dX0_greatest_2 : decode cX0_greatest 2 = .ok (.invokevirtual 110, 3) := by decide +kernel
theorem dX0_greatest_5 : decode cX0_greatest 5 = .ok (.aload_n 0, 1) := by decide +kernel
theorem dX0_greatest_6 : decode cX0_greatest 6 = .ok (.getfield 43, 3) := by decide +kernel
theorem dX0_greatest_9 : decode cX0_greatest 9 = .ok (.iconst (-1), 1) := by decide +kernel
theorem dX0_greatest_10 : decode cX0_greatest 10 = .ok (.if_icmp .ne 6, 3) := by decide +kernel
theorem dX0_greatest_13 : decode cX0_greatest 13 = .ok (.bipush (-3), 2) := by decide +kernel
theorem dX0_greatest_15 : decode cX0_greatest 15 = .ok (.ireturn, 1) := by decide +kernel
theorem dX0_greatest_16 : decode cX0_greatest 16 = .ok (.iconst 0, 1) := by decide +kernel
theorem dX0_greatest_17 : decode cX0_greatest 17 = .ok (.istore_n 2, 1) := by decide +kernel
theorem dX0_greatest_18 : decode cX0_greatest 18 = .ok (.iconst 0, 1) := by decide +kernel
theorem dX0_greatest_19 : decode cX0_greatest 19 = .ok (.istore_n 3, 1) := by decide +kernel
theorem dX0_greatest_20 : decode cX0_greatest 20 = .ok (.iload_n 3, 1) := by decide +kernel
theorem dX0_greatest_21 : decode cX0_greatest 21 = .ok (.aload_n 1, 1) := by decide +kernel
theorem dX0_greatest_22 : decode cX0_greatest 22 = .ok (.getfield 64, 3) := by decide +kernel
theorem dX0_greatest_25 : decode cX0_greatest 25 = .ok (.if_icmp .ge 19, 3) := by decide +kernel
theorem dX0_greatest_28 : decode cX0_greatest 28 = .ok (.iload_n 2, 1) := by decide +kernel
theorem dX0_greatest_29 : decode cX0_greatest 29 = .ok (.aload_n 0, 1) := by decide +kernel
theorem dX0_greatest_30 : decode cX0_greatest 30 = .ok (.iload_n 3, 1) := by decide +kernel
theorem dX0_greatest_31 : decode cX0_greatest 31 = .ok (.invokevirtual 113, 3) := by decide +kernel
theorem dX0_greatest_34 : decode cX0_greatest 34 = .ok (.invokestatic 116, 3) := by decide +kernel
theorem dX0_greatest_37 : decode cX0_greatest 37 = .ok (.istore_n 2, 1) := by decide +kernel
theorem dX0_greatest_38 : decode cX0_greatest 38 = .ok (.iinc 3 1, 3) := by decide +kernel
theorem dX0_greatest_41 : decode cX0_greatest 41 = .ok (.goto (-21), 3) := by decide +kernel
theorem dX0_greatest_44 : decode cX0_greatest 44 = .ok (.iload_n 2, 1) := by decide +kernel
theorem dX0_greatest_45 : decode cX0_greatest 45 = .ok (.ireturn, 1) := by decide +kernel
noncomputable def qX0_greatest_1 : Bx := (bc clt (il 3) (fgi 1 0 (rl 1)))
noncomputable def wX0_greatest_1 : Sx := (sseq (ssi 2 (i2 mxi (il 2) (cvi 0 DX0_gauge (rl 0) (ai (il 3) anil)))) (sinc 3 1))
noncomputable def EX0_greatest : Sx := (sseq (scv 0 DX0_solve (rl 0) (ar (rl 1) anil)) (sseq (sif (bc ceq (fgi 0 8 (rl 0)) (ik (-1))) (sret (ik (-3))) snop) (sseq (ssi 2 (ik 0)) (sseq (scut 3 (sseq (ssi 3 (ik 0)) (swh qX0_greatest_1 wX0_greatest_1))) (sret (il 2))))))
noncomputable def DX0_greatest : Fi := mfi 4 EX0_greatest
set_option maxRecDepth 4000 in
theorem BX0_greatest : Vs RX0 cX0_greatest 4 (rmk 4 106) 0 0 EX0_greatest := (v_seq (v_scv kX0 IX0_solve hX0_solve lk894 ⟨by decide, by decide⟩ (v_aload_n (i := 0) dX0_greatest_0 rfl (rfl : 0 + 1 = 1)) (v_ar (v_aload_n (i := 1) dX0_greatest_1 rfl (rfl : 1 + 1 = 2)) v_anil) dX0_greatest_2 (rfl : 2 + 3 = 5)) (v_seq (v_if (v_ieq_f (v_gfi kX0 lk214 (by decide) rfl (v_aload_n (i := 0) dX0_greatest_5 rfl (rfl : 5 + 1 = 6)) dX0_greatest_6 (rfl : 6 + 3 = 9)) (v_iconst (v := (-1)) dX0_greatest_9 (by decide) (rfl : 9 + 1 = 10)) dX0_greatest_10 (rfl : ((10 : Nat) : Int) + 6 = ((16 : Nat) : Int)) (rfl : 10 + 3 = 13)) (v_ret (v_bipush (v := (-3)) dX0_greatest_13 (by decide) (rfl : 13 + 2 = 15)) dX0_greatest_15) v_nop) (v_seq (v_istore_n (i := 2) (v_iconst (v := 0) dX0_greatest_16 (by decide) (rfl : 16 + 1 = 17)) dX0_greatest_17 rfl (by decide) (rfl : 17 + 1 = 18)) (v_seq (v_cut (n := 3) (v_seq (v_istore_n (i := 3) (v_iconst (v := 0) dX0_greatest_18 (by decide) (rfl : 18 + 1 = 19)) dX0_greatest_19 rfl (by decide) (rfl : 19 + 1 = 20)) (v_wh (v_ilt_f (v_iload_n (i := 3) dX0_greatest_20 rfl (rfl : 20 + 1 = 21)) (v_gfi kX1 lk125 (by decide) rfl (v_aload_n (i := 1) dX0_greatest_21 rfl (rfl : 21 + 1 = 22)) dX0_greatest_22 (rfl : 22 + 3 = 25)) dX0_greatest_25 (rfl : ((25 : Nat) : Int) + 19 = ((44 : Nat) : Int)) (rfl : 25 + 3 = 28)) (vs_goto (v_seq (v_istore_n (i := 2) (v_mxi lk896 ma_mxi_s lkMath ma_mxi_c ⟨by decide, by decide⟩ (v_iload_n (i := 2) dX0_greatest_28 rfl (rfl : 28 + 1 = 29)) (v_cvi kX0 IX0_gauge hX0_gauge lk895 ⟨by decide, by decide⟩ (by decide) (v_aload_n (i := 0) dX0_greatest_29 rfl (rfl : 29 + 1 = 30)) (v_ai (v_iload_n (i := 3) dX0_greatest_30 rfl (rfl : 30 + 1 = 31)) v_anil) dX0_greatest_31 (rfl : 31 + 3 = 34)) dX0_greatest_34 (rfl : 34 + 3 = 37)) dX0_greatest_37 rfl (by decide) (rfl : 37 + 1 = 38)) (v_iinc (v := 1) dX0_greatest_38 (by decide) (by decide) (rfl : 38 + 3 = 41))) dX0_greatest_41 (rfl : ((41 : Nat) : Int) + (-21) = ((20 : Nat) : Int)))))) (v_ret (v_iload_n (i := 2) dX0_greatest_44 rfl (rfl : 44 + 1 = 45)) dX0_greatest_45)))))
theorem IX0_greatest : Mi yX0_greatest cX0_greatest 4 (rmk 4 106) DX0_greatest := mk_i (by decide +kernel) BX0_greatest

theorem dX0_hunts_0 : decode cX0_hunts 0 = .ok (.aload_n 0, 1) := by decide +kernel
theorem dX0_hunts_1 : decode cX0_hunts 1 = .ok (.getfield 43, 3) := by decide +kernel
theorem dX0_hunts_4 : decode cX0_hunts 4 = .ok (.iconst (-1), 1) := by decide +kernel
theorem dX0_hunts_5 : decode cX0_hunts 5 = .ok (.if_icmp .ne 7, 3) := by decide +kernel
theorem dX0_hunts_8 : decode cX0_hunts 8 = .ok (.iconst 1, 1) := by decide +kernel
theorem dX0_hunts_9 : decode cX0_hunts 9 = .ok (.goto 4, 3) := by decide +kernel
theorem dX0_hunts_12 : decode cX0_hunts 12 = .ok (.iconst 0, 1) := by decide +kernel
theorem dX0_hunts_13 : decode cX0_hunts 13 = .ok (.ireturn, 1) := by decide +kernel
noncomputable def EX0_hunts : Sx := (sret (ic (bc ceq (fgi 0 8 (rl 0)) (ik (-1))) (ik 1) (ik 0)))
noncomputable def DX0_hunts : Fz := mfz 1 EX0_hunts
set_option maxRecDepth 4000 in
theorem BX0_hunts : Vs RX0 cX0_hunts 1 (rmk 0 0) 0 0 EX0_hunts := (v_ret (v_ic (v_ieq_f (v_gfi kX0 lk214 (by decide) rfl (v_aload_n (i := 0) dX0_hunts_0 rfl (rfl : 0 + 1 = 1)) dX0_hunts_1 (rfl : 1 + 3 = 4)) (v_iconst (v := (-1)) dX0_hunts_4 (by decide) (rfl : 4 + 1 = 5)) dX0_hunts_5 (rfl : ((5 : Nat) : Int) + 7 = ((12 : Nat) : Int)) (rfl : 5 + 3 = 8)) (vi_goto (v_iconst (v := 1) dX0_hunts_8 (by decide) (rfl : 8 + 1 = 9)) dX0_hunts_9 (rfl : ((9 : Nat) : Int) + 4 = ((13 : Nat) : Int))) (v_iconst (v := 0) dX0_hunts_12 (by decide) (rfl : 12 + 1 = 13))) dX0_hunts_13)
theorem IX0_hunts : Mz yX0_hunts cX0_hunts 1 (rmk 0 0) DX0_hunts := mk_z (by decide +kernel) BX0_hunts

theorem dX0_isUnder_0 : decode cX0_isUnder 0 = .ok (.aload_n 0, 1) := by decide +kernel
theorem dX0_isUnder_1 : decode cX0_isUnder 1 = .ok (.aload_n 1, 1) := by decide +kernel
theorem dX0_isUnder_2 : decode cX0_isUnder 2 = .ok (.invokevirtual 119, 3) := by decide +kernel
theorem dX0_isUnder_5 : decode cX0_isUnder 5 = .ok (.istore_n 3, 1) := by decide +kernel
theorem dX0_isUnder_6 : decode cX0_isUnder 6 = .ok (.iload_n 3, 1) := by decide +kernel
theorem dX0_isUnder_7 : decode cX0_isUnder 7 = .ok (.bipush (-3), 2) := by decide +kernel
theorem dX0_isUnder_9 : decode cX0_isUnder 9 = .ok (.if_icmp .eq 12, 3) := by decide +kernel
theorem dX0_isUnder_12 : decode cX0_isUnder 12 = .ok (.iload_n 3, 1) := by decide +kernel
theorem dX0_isUnder_13 : decode cX0_isUnder 13 = .ok (.iload_n 2, 1) := by decide +kernel
theorem dX0_isUnder_14 : decode cX0_isUnder 14 = .ok (.if_icmp .gt 7, 3) := by decide +kernel
theorem dX0_isUnder_17 : decode cX0_isUnder 17 = .ok (.iconst 1, 1) := by decide +kernel
theorem dX0_isUnder_18 : decode cX0_isUnder 18 = .ok (.goto 4, 3) := by decide +kernel
theorem dX0_isUnder_21 : decode cX0_isUnder 21 = .ok (.iconst 0, 1) := by decide +kernel
theorem dX0_isUnder_22 : decode cX0_isUnder 22 = .ok (.ireturn, 1) := by decide +kernel
noncomputable def EX0_isUnder : Sx := (sseq (ssi 3 (cvi 0 DX0_greatest (rl 0) (ar (rl 1) anil))) (sret (ic (band (bc cne (il 3) (ik (-3))) (bc cle (il 3) (il 2))) (ik 1) (ik 0))))
noncomputable def DX0_isUnder : Fz := mfz 4 EX0_isUnder
set_option maxRecDepth 4000 in
theorem BX0_isUnder : Vs RX0 cX0_isUnder 4 (rmk 5 129) 0 0 EX0_isUnder := (v_seq (v_istore_n (i := 3) (v_cvi kX0 IX0_greatest hX0_greatest lk905 ⟨by decide, by decide⟩ (by decide) (v_aload_n (i := 0) dX0_isUnder_0 rfl (rfl : 0 + 1 = 1)) (v_ar (v_aload_n (i := 1) dX0_isUnder_1 rfl (rfl : 1 + 1 = 2)) v_anil) dX0_isUnder_2 (rfl : 2 + 3 = 5)) dX0_isUnder_5 rfl (by decide) (rfl : 5 + 1 = 6)) (v_ret (v_ic (v_and (v_ine_f (v_iload_n (i := 3) dX0_isUnder_6 rfl (rfl : 6 + 1 = 7)) (v_bipush (v := (-3)) dX0_isUnder_7 (by decide) (rfl : 7 + 2 = 9)) dX0_isUnder_9 (rfl : ((9 : Nat) : Int) + 12 = ((21 : Nat) : Int)) (rfl : 9 + 3 = 12)) (v_ile_f (v_iload_n (i := 3) dX0_isUnder_12 rfl (rfl : 12 + 1 = 13)) (v_iload_n (i := 2) dX0_isUnder_13 rfl (rfl : 13 + 1 = 14)) dX0_isUnder_14 (rfl : ((14 : Nat) : Int) + 7 = ((21 : Nat) : Int)) (rfl : 14 + 3 = 17))) (vi_goto (v_iconst (v := 1) dX0_isUnder_17 (by decide) (rfl : 17 + 1 = 18)) dX0_isUnder_18 (rfl : ((18 : Nat) : Int) + 4 = ((22 : Nat) : Int))) (v_iconst (v := 0) dX0_isUnder_21 (by decide) (rfl : 21 + 1 = 22))) dX0_isUnder_22))
theorem IX0_isUnder : Mz yX0_isUnder cX0_isUnder 4 (rmk 5 129) DX0_isUnder := mk_z (by decide +kernel) BX0_isUnder

theorem dX0_rowsThatAgree_0 : decode cX0_rowsThatAgree 0 = .ok (.iconst 0, 1) := by decide +kernel
theorem dX0_rowsThatAgree_1 : decode cX0_rowsThatAgree 1 = .ok (.istore_n 1, 1) := by decide +kernel
theorem dX0_rowsThatAgree_2 : decode cX0_rowsThatAgree 2 = .ok (.iconst 0, 1) := by decide +kernel
theorem dX0_rowsThatAgree_3 : decode cX0_rowsThatAgree 3 = .ok (.istore_n 2, 1) := by decide +kernel
theorem dX0_rowsThatAgree_4 : decode cX0_rowsThatAgree 4 = .ok (.iload_n 2, 1) := by decide +kernel
theorem dX0_rowsThatAgree_5 : decode cX0_rowsThatAgree 5 = .ok (.bipush 27, 2) := by decide +kernel
theorem dX0_rowsThatAgree_7 : decode cX0_rowsThatAgree 7 = .ok (.if_icmp .ge 25, 3) := by decide +kernel
theorem dX0_rowsThatAgree_10 : decode cX0_rowsThatAgree 10 = .ok (.aload_n 0, 1) := by decide +kernel
theorem dX0_rowsThatAgree_11 : decode cX0_rowsThatAgree 11 = .ok (.iload_n 2, 1) := by decide +kernel
theorem dX0_rowsThatAgree_12 : decode cX0_rowsThatAgree 12 = .ok (.invokevirtual 73, 3) := by decide +kernel
theorem dX0_rowsThatAgree_15 : decode cX0_rowsThatAgree 15 = .ok (.aload_n 0, 1) := by decide +kernel
theorem dX0_rowsThatAgree_16 : decode cX0_rowsThatAgree 16 = .ok (.iload_n 2, 1) := by decide +kernel
theorem dX0_rowsThatAgree_17 : decode cX0_rowsThatAgree 17 = .ok (.invokevirtual 77, 3) := by decide +kernel
theorem dX0_rowsThatAgree_20 : decode cX0_rowsThatAgree 20 = .ok (.ifCond .eq 6, 3) := by decide +kernel
theorem dX0_rowsThatAgree_23 : decode cX0_rowsThatAgree 23 = .ok (.iinc 1 1, 3) := by decide +kernel
theorem dX0_rowsThatAgree_26 : decode cX0_rowsThatAgree 26 = .ok (.iinc 2 1, 3) := by decide +kernel
theorem dX0_rowsThatAgree_29 : decode cX0_rowsThatAgree 29 = .ok (.goto (-25), 3) := by decide +kernel
theorem dX0_rowsThatAgree_32 : decode cX0_rowsThatAgree 32 = .ok (.iload_n 1, 1) := by decide +kernel
theorem dX0_rowsThatAgree_33 : decode cX0_rowsThatAgree 33 = .ok (.ireturn, 1) := by decide +kernel
noncomputable def qX0_rowsThatAgree_1 : Bx := (bc clt (il 2) (ik 27))
noncomputable def wX0_rowsThatAgree_1 : Sx := (sseq (sseq (scv 0 DX0_prepare (rl 0) (ai (il 2) anil)) (sif (bz cne (cvz 0 DX0_agrees (rl 0) (ai (il 2) anil))) (sinc 1 1) snop)) (sinc 2 1))
noncomputable def EX0_rowsThatAgree : Sx := (sseq (ssi 1 (ik 0)) (sseq (scut 2 (sseq (ssi 2 (ik 0)) (swh qX0_rowsThatAgree_1 wX0_rowsThatAgree_1))) (sret (il 1))))
noncomputable def DX0_rowsThatAgree : Fi := mfi 3 EX0_rowsThatAgree
set_option maxRecDepth 4000 in
theorem BX0_rowsThatAgree : Vs RX0 cX0_rowsThatAgree 3 (rmk 3 83) 0 0 EX0_rowsThatAgree := (v_seq (v_istore_n (i := 1) (v_iconst (v := 0) dX0_rowsThatAgree_0 (by decide) (rfl : 0 + 1 = 1)) dX0_rowsThatAgree_1 rfl (by decide) (rfl : 1 + 1 = 2)) (v_seq (v_cut (n := 2) (v_seq (v_istore_n (i := 2) (v_iconst (v := 0) dX0_rowsThatAgree_2 (by decide) (rfl : 2 + 1 = 3)) dX0_rowsThatAgree_3 rfl (by decide) (rfl : 3 + 1 = 4)) (v_wh (v_ilt_f (v_iload_n (i := 2) dX0_rowsThatAgree_4 rfl (rfl : 4 + 1 = 5)) (v_bipush (v := 27) dX0_rowsThatAgree_5 (by decide) (rfl : 5 + 2 = 7)) dX0_rowsThatAgree_7 (rfl : ((7 : Nat) : Int) + 25 = ((32 : Nat) : Int)) (rfl : 7 + 3 = 10)) (vs_goto (v_seq (v_seq (v_scv kX0 IX0_prepare hX0_prepare lk580 ⟨by decide, by decide⟩ (v_aload_n (i := 0) dX0_rowsThatAgree_10 rfl (rfl : 10 + 1 = 11)) (v_ai (v_iload_n (i := 2) dX0_rowsThatAgree_11 rfl (rfl : 11 + 1 = 12)) v_anil) dX0_rowsThatAgree_12 (rfl : 12 + 3 = 15)) (v_if (v_zne_f (v_cvz kX0 IX0_agrees hX0_agrees lk621 ⟨by decide, by decide⟩ (by decide) (v_aload_n (i := 0) dX0_rowsThatAgree_15 rfl (rfl : 15 + 1 = 16)) (v_ai (v_iload_n (i := 2) dX0_rowsThatAgree_16 rfl (rfl : 16 + 1 = 17)) v_anil) dX0_rowsThatAgree_17 (rfl : 17 + 3 = 20)) dX0_rowsThatAgree_20 (rfl : ((20 : Nat) : Int) + 6 = ((26 : Nat) : Int)) (rfl : 20 + 3 = 23)) (v_iinc (v := 1) dX0_rowsThatAgree_23 (by decide) (by decide) (rfl : 23 + 3 = 26)) v_nop)) (v_iinc (v := 1) dX0_rowsThatAgree_26 (by decide) (by decide) (rfl : 26 + 3 = 29))) dX0_rowsThatAgree_29 (rfl : ((29 : Nat) : Int) + (-25) = ((4 : Nat) : Int)))))) (v_ret (v_iload_n (i := 1) dX0_rowsThatAgree_32 rfl (rfl : 32 + 1 = 33)) dX0_rowsThatAgree_33)))
theorem IX0_rowsThatAgree : Mi yX0_rowsThatAgree cX0_rowsThatAgree 3 (rmk 3 83) DX0_rowsThatAgree := mk_i (by decide +kernel) BX0_rowsThatAgree

theorem dX0_stageNow_0 : decode cX0_stageNow 0 = .ok (.aload_n 0, 1) := by decide +kernel
theorem dX0_stageNow_1 : decode cX0_stageNow 1 = .ok (.getfield 43, 3) := by decide +kernel
theorem dX0_stageNow_4 : decode cX0_stageNow 4 = .ok (.iconst (-1), 1) := by decide +kernel
theorem dX0_stageNow_5 : decode cX0_stageNow 5 = .ok (.if_icmp .ne 7, 3) := by decide +kernel
theorem dX0_stageNow_8 : decode cX0_stageNow 8 = .ok (.iconst 0, 1) := by decide +kernel
theorem dX0_stageNow_9 : decode cX0_stageNow 9 = .ok (.goto 11, 3) := by decide +kernel
theorem dX0_stageNow_12 : decode cX0_stageNow 12 = .ok (.aload_n 0, 1) := by decide +kernel
theorem dX0_stageNow_13 : decode cX0_stageNow 13 = .ok (.getfield 43, 3) := by decide +kernel
theorem dX0_stageNow_16 : decode cX0_stageNow 16 = .ok (.iload_n 1, 1) := by decide +kernel
theorem dX0_stageNow_17 : decode cX0_stageNow 17 = .ok (.invokestatic 87, 3) := by decide +kernel
theorem dX0_stageNow_20 : decode cX0_stageNow 20 = .ok (.ireturn, 1) := by decide +kernel
noncomputable def EX0_stageNow : Sx := (sret (ic (bc ceq (fgi 0 8 (rl 0)) (ik (-1))) (ik 0) (csi DX0_stageIn (ai (fgi 0 8 (rl 0)) (ai (il 1) anil)))))
noncomputable def DX0_stageNow : Fi := mfi 2 EX0_stageNow
set_option maxRecDepth 4000 in
theorem BX0_stageNow : Vs RX0 cX0_stageNow 2 (rmk 1 22) 0 0 EX0_stageNow := (v_ret (v_ic (v_ieq_f (v_gfi kX0 lk214 (by decide) rfl (v_aload_n (i := 0) dX0_stageNow_0 rfl (rfl : 0 + 1 = 1)) dX0_stageNow_1 (rfl : 1 + 3 = 4)) (v_iconst (v := (-1)) dX0_stageNow_4 (by decide) (rfl : 4 + 1 = 5)) dX0_stageNow_5 (rfl : ((5 : Nat) : Int) + 7 = ((12 : Nat) : Int)) (rfl : 5 + 3 = 8)) (vi_goto (v_iconst (v := 0) dX0_stageNow_8 (by decide) (rfl : 8 + 1 = 9)) dX0_stageNow_9 (rfl : ((9 : Nat) : Int) + 11 = ((20 : Nat) : Int))) (v_csi IX0_stageIn hX0_stageIn lk596 ⟨by decide, by decide⟩ (by decide) (v_ai (v_gfi kX0 lk214 (by decide) rfl (v_aload_n (i := 0) dX0_stageNow_12 rfl (rfl : 12 + 1 = 13)) dX0_stageNow_13 (rfl : 13 + 3 = 16)) (v_ai (v_iload_n (i := 1) dX0_stageNow_16 rfl (rfl : 16 + 1 = 17)) v_anil)) dX0_stageNow_17 (rfl : 17 + 3 = 20))) dX0_stageNow_20)
theorem IX0_stageNow : Mi yX0_stageNow cX0_stageNow 2 (rmk 1 22) DX0_stageNow := mk_i (by decide +kernel) BX0_stageNow

theorem dX1_put_0 : decode cX1_put 0 = .ok (.aload_n 0, 1) := by decide +kernel
theorem dX1_put_1 : decode cX1_put 1 = .ok (.iload_n 1, 1) := by decide +kernel
theorem dX1_put_2 : decode cX1_put 2 = .ok (.iaload, 1) := by decide +kernel
theorem dX1_put_3 : decode cX1_put 3 = .ok (.iload_n 2, 1) := by decide +kernel
theorem dX1_put_4 : decode cX1_put 4 = .ok (.if_icmp .eq 7, 3) := by decide +kernel
theorem dX1_put_7 : decode cX1_put 7 = .ok (.iconst 1, 1) := by decide +kernel
theorem dX1_put_8 : decode cX1_put 8 = .ok (.goto 4, 3) := by decide +kernel
theorem dX1_put_11 : decode cX1_put 11 = .ok (.iconst 0, 1) := by decide +kernel
theorem dX1_put_12 : decode cX1_put 12 = .ok (.istore_n 3, 1) := by decide +kernel
theorem dX1_put_13 : decode cX1_put 13 = .ok (.aload_n 0, 1) := by decide +kernel
theorem dX1_put_14 : decode cX1_put 14 = .ok (.iload_n 1, 1) := by decide +kernel
theorem dX1_put_15 : decode cX1_put 15 = .ok (.iload_n 2, 1) := by decide +kernel
theorem dX1_put_16 : decode cX1_put 16 = .ok (.iastore, 1) := by decide +kernel
theorem dX1_put_17 : decode cX1_put 17 = .ok (.iload_n 3, 1) := by decide +kernel
theorem dX1_put_18 : decode cX1_put 18 = .ok (.ireturn, 1) := by decide +kernel
noncomputable def EX1_put : Sx := (sseq (ssi 3 (ic (bc cne (iald (rl 0) (il 1)) (il 2)) (ik 1) (ik 0))) (sseq (aii (rl 0) (il 1) (il 2)) (sret (il 3))))
noncomputable def DX1_put : Fz := mfz 4 EX1_put
set_option maxRecDepth 4000 in
theorem BX1_put : Vs RX1 cX1_put 4 (rmk 0 0) 0 0 EX1_put := (v_seq (v_istore_n (i := 3) (v_ic (v_ine_f (v_iald (v_aload_n (i := 0) dX1_put_0 rfl (rfl : 0 + 1 = 1)) (v_iload_n (i := 1) dX1_put_1 rfl (rfl : 1 + 1 = 2)) dX1_put_2 (rfl : 2 + 1 = 3)) (v_iload_n (i := 2) dX1_put_3 rfl (rfl : 3 + 1 = 4)) dX1_put_4 (rfl : ((4 : Nat) : Int) + 7 = ((11 : Nat) : Int)) (rfl : 4 + 3 = 7)) (vi_goto (v_iconst (v := 1) dX1_put_7 (by decide) (rfl : 7 + 1 = 8)) dX1_put_8 (rfl : ((8 : Nat) : Int) + 4 = ((12 : Nat) : Int))) (v_iconst (v := 0) dX1_put_11 (by decide) (rfl : 11 + 1 = 12))) dX1_put_12 rfl (by decide) (rfl : 12 + 1 = 13)) (v_seq (v_aii (v_aload_n (i := 0) dX1_put_13 rfl (rfl : 13 + 1 = 14)) (v_iload_n (i := 1) dX1_put_14 rfl (rfl : 14 + 1 = 15)) (v_iload_n (i := 2) dX1_put_15 rfl (rfl : 15 + 1 = 16)) dX1_put_16 (rfl : 16 + 1 = 17)) (v_ret (v_iload_n (i := 3) dX1_put_17 rfl (rfl : 17 + 1 = 18)) dX1_put_18)))
theorem IX1_put : Mz yX1_put cX1_put 4 (rmk 0 0) DX1_put := mk_z (by decide +kernel) BX1_put

theorem dX1_act_0 : decode cX1_act 0 = .ok (.iload_n 1, 1) := by decide +kernel
theorem dX1_act_1 : decode cX1_act 1 = .ok (.tableswitch 175 0 4 #[35, 63, 91, 119, 147], 35) := by decide +kernel
theorem dX1_act_36 : decode cX1_act 36 = .ok (.iload_n 2, 1) := by decide +kernel
theorem dX1_act_37 : decode cX1_act 37 = .ok (.aload_n 0, 1) := by decide +kernel
theorem dX1_act_38 : decode cX1_act 38 = .ok (.getfield 39, 3) := by decide +kernel
theorem dX1_act_41 : decode cX1_act 41 = .ok (.if_icmp .ge 21, 3) := by decide +kernel
theorem dX1_act_44 : decode cX1_act 44 = .ok (.aload_n 0, 1) := by decide +kernel
theorem dX1_act_45 : decode cX1_act 45 = .ok (.getfield 23, 3) := by decide +kernel
theorem dX1_act_48 : decode cX1_act 48 = .ok (.iload_n 2, 1) := by decide +kernel
theorem dX1_act_49 : decode cX1_act 49 = .ok (.aaload, 1) := by decide +kernel
theorem dX1_act_50 : decode cX1_act 50 = .ok (.iconst 3, 1) := by decide +kernel
theorem dX1_act_51 : decode cX1_act 51 = .ok (.iconst 0, 1) := by decide +kernel
theorem dX1_act_52 : decode cX1_act 52 = .ok (.invokestatic 91, 3) := by decide +kernel
theorem dX1_act_55 : decode cX1_act 55 = .ok (.ifCond .eq 7, 3) := by decide +kernel
theorem dX1_act_58 : decode cX1_act 58 = .ok (.iconst 1, 1) := by decide +kernel
theorem dX1_act_59 : decode cX1_act 59 = .ok (.goto 4, 3) := by decide +kernel
theorem dX1_act_62 : decode cX1_act 62 = .ok (.iconst 0, 1) := by decide +kernel
theorem dX1_act_63 : decode cX1_act 63 = .ok (.ireturn, 1) := by decide +kernel
theorem dX1_act_64 : decode cX1_act 64 = .ok (.iload_n 2, 1) := by decide +kernel
theorem dX1_act_65 : decode cX1_act 65 = .ok (.aload_n 0, 1) := by decide +kernel
theorem dX1_act_66 : decode cX1_act 66 = .ok (.getfield 39, 3) := by decide +kernel
theorem dX1_act_69 : decode cX1_act 69 = .ok (.if_icmp .ge 21, 3) := by decide +kernel
theorem dX1_act_72 : decode cX1_act 72 = .ok (.aload_n 0, 1) := by decide +kernel
theorem dX1_act_73 : decode cX1_act 73 = .ok (.getfield 23, 3) := by decide +kernel
theorem dX1_act_76 : decode cX1_act 76 = .ok (.iload_n 2, 1) := by decide +kernel
theorem dX1_act_77 : decode cX1_act 77 = .ok (.aaload, 1) := by decide +kernel
theorem dX1_act_78 : decode cX1_act 78 = .ok (.iconst 3, 1) := by decide +kernel
theorem dX1_act_79 : decode cX1_act 79 = .ok (.iconst 1, 1) := by decide +kernel
theorem dX1_act_80 : decode cX1_act 80 = .ok (.invokestatic 91, 3) := by decide +kernel
theorem dX1_act_83 : decode cX1_act 83 = .ok (.ifCond .eq 7, 3) := by decide +kernel
theorem dX1_act_86 : decode cX1_act 86 = .ok (.iconst 1, 1) := by decide +kernel
theorem dX1_act_87 : decode cX1_act 87 = .ok (.goto 4, 3) := by decide +kernel
theorem dX1_act_90 : decode cX1_act 90 = .ok (.iconst 0, 1) := by decide +kernel
theorem dX1_act_91 : decode cX1_act 91 = .ok (.ireturn, 1) := by decide +kernel
theorem dX1_act_92 : decode cX1_act 92 = .ok (.iload_n 2, 1) := by decide +kernel
theorem dX1_act_93 : decode cX1_act 93 = .ok (.aload_n 0, 1) := by decide +kernel
theorem dX1_act_94 : decode cX1_act 94 = .ok (.getfield 42, 3) := by decide +kernel
theorem dX1_act_97 : decode cX1_act 97 = .ok (.if_icmp .ge 21, 3) := by decide +kernel
theorem dX1_act_100 : decode cX1_act 100 = .ok (.aload_n 0, 1) := by decide +kernel
theorem dX1_act_101 : decode cX1_act 101 = .ok (.getfield 26, 3) := by decide +kernel
theorem dX1_act_104 : decode cX1_act 104 = .ok (.iload_n 2, 1) := by decide +kernel
theorem dX1_act_105 : decode cX1_act 105 = .ok (.aaload, 1) := by decide +kernel
theorem dX1_act_106 : decode cX1_act 106 = .ok (.iconst 1, 1) := by decide +kernel
theorem dX1_act_107 : decode cX1_act 107 = .ok (.iconst 0, 1) := by decide +kernel
theorem dX1_act_108 : decode cX1_act 108 = .ok (.invokestatic 91, 3) := by decide +kernel
theorem dX1_act_111 : decode cX1_act 111 = .ok (.ifCond .eq 7, 3) := by decide +kernel
theorem dX1_act_114 : decode cX1_act 114 = .ok (.iconst 1, 1) := by decide +kernel
theorem dX1_act_115 : decode cX1_act 115 = .ok (.goto 4, 3) := by decide +kernel
theorem dX1_act_118 : decode cX1_act 118 = .ok (.iconst 0, 1) := by decide +kernel
theorem dX1_act_119 : decode cX1_act 119 = .ok (.ireturn, 1) := by decide +kernel
theorem dX1_act_120 : decode cX1_act 120 = .ok (.iload_n 2, 1) := by decide +kernel
theorem dX1_act_121 : decode cX1_act 121 = .ok (.aload_n 0, 1) := by decide +kernel
theorem dX1_act_122 : decode cX1_act 122 = .ok (.getfield 42, 3) := by decide +kernel
theorem dX1_act_125 : decode cX1_act 125 = .ok (.if_icmp .ge 21, 3) := by decide +kernel
theorem dX1_act_128 : decode cX1_act 128 = .ok (.aload_n 0, 1) := by decide +kernel
theorem dX1_act_129 : decode cX1_act 129 = .ok (.getfield 26, 3) := by decide +kernel
theorem dX1_act_132 : decode cX1_act 132 = .ok (.iload_n 2, 1) := by decide +kernel
theorem dX1_act_133 : decode cX1_act 133 = .ok (.aaload, 1) := by decide +kernel
theorem dX1_act_134 : decode cX1_act 134 = .ok (.iconst 1, 1) := by decide +kernel
theorem dX1_act_135 : decode cX1_act 135 = .ok (.iconst 1, 1) := by decide +kernel
theorem dX1_act_136 : decode cX1_act 136 = .ok (.invokestatic 91, 3) := by decide +kernel
theorem dX1_act_139 : decode cX1_act 139 = .ok (.ifCond .eq 7, 3) := by decide +kernel
theorem dX1_act_142 : decode cX1_act 142 = .ok (.iconst 1, 1) := by decide +kernel
theorem dX1_act_143 : decode cX1_act 143 = .ok (.goto 4, 3) := by decide +kernel
theorem dX1_act_146 : decode cX1_act 146 = .ok (.iconst 0, 1) := by decide +kernel
theorem dX1_act_147 : decode cX1_act 147 = .ok (.ireturn, 1) := by decide +kernel
theorem dX1_act_148 : decode cX1_act 148 = .ok (.iload_n 2, 1) := by decide +kernel
theorem dX1_act_149 : decode cX1_act 149 = .ok (.aload_n 0, 1) := by decide +kernel
theorem dX1_act_150 : decode cX1_act 150 = .ok (.getfield 36, 3) := by decide +kernel
theorem dX1_act_153 : decode cX1_act 153 = .ok (.if_icmp .ge 21, 3) := by decide +kernel
theorem dX1_act_156 : decode cX1_act 156 = .ok (.aload_n 0, 1) := by decide +kernel
theorem dX1_act_157 : decode cX1_act 157 = .ok (.getfield 20, 3) := by decide +kernel
theorem dX1_act_160 : decode cX1_act 160 = .ok (.iload_n 2, 1) := by decide +kernel
theorem dX1_act_161 : decode cX1_act 161 = .ok (.aaload, 1) := by decide +kernel
theorem dX1_act_162 : decode cX1_act 162 = .ok (.iconst 2, 1) := by decide +kernel
theorem dX1_act_163 : decode cX1_act 163 = .ok (.iconst 0, 1) := by decide +kernel
theorem dX1_act_164 : decode cX1_act 164 = .ok (.invokestatic 91, 3) := by decide +kernel
theorem dX1_act_167 : decode cX1_act 167 = .ok (.ifCond .eq 7, 3) := by decide +kernel
theorem dX1_act_170 : decode cX1_act 170 = .ok (.iconst 1, 1) := by decide +kernel
theorem dX1_act_171 : decode cX1_act 171 = .ok (.goto 4, 3) := by decide +kernel
theorem dX1_act_174 : decode cX1_act 174 = .ok (.iconst 0, 1) := by decide +kernel
theorem dX1_act_175 : decode cX1_act 175 = .ok (.ireturn, 1) := by decide +kernel
theorem dX1_act_176 : decode cX1_act 176 = .ok (.iconst 0, 1) := by decide +kernel
theorem dX1_act_177 : decode cX1_act 177 = .ok (.ireturn, 1) := by decide +kernel
noncomputable def EX1_act : Sx := (ssw (il 1) [(0, (sret (ic (band (bc clt (il 2) (fgi 1 1 (rl 0))) (bz cne (csz DX1_put (ar (rald 12 (fgr 1 10 (rl 0)) (il 2)) (ai (ik 3) (ai (ik 0) anil)))))) (ik 1) (ik 0)))), (1, (sret (ic (band (bc clt (il 2) (fgi 1 1 (rl 0))) (bz cne (csz DX1_put (ar (rald 12 (fgr 1 10 (rl 0)) (il 2)) (ai (ik 3) (ai (ik 1) anil)))))) (ik 1) (ik 0)))), (2, (sret (ic (band (bc clt (il 2) (fgi 1 2 (rl 0))) (bz cne (csz DX1_put (ar (rald 12 (fgr 1 11 (rl 0)) (il 2)) (ai (ik 1) (ai (ik 0) anil)))))) (ik 1) (ik 0)))), (3, (sret (ic (band (bc clt (il 2) (fgi 1 2 (rl 0))) (bz cne (csz DX1_put (ar (rald 12 (fgr 1 11 (rl 0)) (il 2)) (ai (ik 1) (ai (ik 1) anil)))))) (ik 1) (ik 0)))), (4, (sret (ic (band (bc clt (il 2) (fgi 1 0 (rl 0))) (bz cne (csz DX1_put (ar (rald 12 (fgr 1 9 (rl 0)) (il 2)) (ai (ik 2) (ai (ik 0) anil)))))) (ik 1) (ik 0))))] (sret (ik 0)))
noncomputable def DX1_act : Fz := mfz 3 EX1_act
set_option maxRecDepth 4000 in
theorem BX1_act : Vs RX1 cX1_act 3 (rmk 1 23) 0 0 EX1_act := (v_sw (v_iload_n (i := 1) dX1_act_0 rfl (rfl : 0 + 1 = 1)) dX1_act_1 (fun j hj => match j, hj with
  | 0, _ => ⟨35, 36, rfl, (rfl : ((1 : Nat) : Int) + 35 = ((36 : Nat) : Int)), (v_ret (v_ic (v_and (v_ilt_f (v_iload_n (i := 2) dX1_act_36 rfl (rfl : 36 + 1 = 37)) (v_gfi kX1 lk128 (by decide) rfl (v_aload_n (i := 0) dX1_act_37 rfl (rfl : 37 + 1 = 38)) dX1_act_38 (rfl : 38 + 3 = 41)) dX1_act_41 (rfl : ((41 : Nat) : Int) + 21 = ((62 : Nat) : Int)) (rfl : 41 + 3 = 44)) (v_zne_f (v_csz IX1_put hX1_put lk669 ⟨by decide, by decide⟩ (by decide) (v_ar (v_rald (q := 12) (t0 := 4) (ty0 := .array .int) ⟨by decide, by decide⟩ (fun _ => rfl) rfl (v_gfr kX1 lk154 (by decide) rfl (v_aload_n (i := 0) dX1_act_44 rfl (rfl : 44 + 1 = 45)) dX1_act_45 (rfl : 45 + 3 = 48)) (v_iload_n (i := 2) dX1_act_48 rfl (rfl : 48 + 1 = 49)) dX1_act_49 (rfl : 49 + 1 = 50)) (v_ai (v_iconst (v := 3) dX1_act_50 (by decide) (rfl : 50 + 1 = 51)) (v_ai (v_iconst (v := 0) dX1_act_51 (by decide) (rfl : 51 + 1 = 52)) v_anil))) dX1_act_52 (rfl : 52 + 3 = 55)) dX1_act_55 (rfl : ((55 : Nat) : Int) + 7 = ((62 : Nat) : Int)) (rfl : 55 + 3 = 58))) (vi_goto (v_iconst (v := 1) dX1_act_58 (by decide) (rfl : 58 + 1 = 59)) dX1_act_59 (rfl : ((59 : Nat) : Int) + 4 = ((63 : Nat) : Int))) (v_iconst (v := 0) dX1_act_62 (by decide) (rfl : 62 + 1 = 63))) dX1_act_63)⟩
  | 1, _ => ⟨63, 64, rfl, (rfl : ((1 : Nat) : Int) + 63 = ((64 : Nat) : Int)), (v_ret (v_ic (v_and (v_ilt_f (v_iload_n (i := 2) dX1_act_64 rfl (rfl : 64 + 1 = 65)) (v_gfi kX1 lk128 (by decide) rfl (v_aload_n (i := 0) dX1_act_65 rfl (rfl : 65 + 1 = 66)) dX1_act_66 (rfl : 66 + 3 = 69)) dX1_act_69 (rfl : ((69 : Nat) : Int) + 21 = ((90 : Nat) : Int)) (rfl : 69 + 3 = 72)) (v_zne_f (v_csz IX1_put hX1_put lk669 ⟨by decide, by decide⟩ (by decide) (v_ar (v_rald (q := 12) (t0 := 4) (ty0 := .array .int) ⟨by decide, by decide⟩ (fun _ => rfl) rfl (v_gfr kX1 lk154 (by decide) rfl (v_aload_n (i := 0) dX1_act_72 rfl (rfl : 72 + 1 = 73)) dX1_act_73 (rfl : 73 + 3 = 76)) (v_iload_n (i := 2) dX1_act_76 rfl (rfl : 76 + 1 = 77)) dX1_act_77 (rfl : 77 + 1 = 78)) (v_ai (v_iconst (v := 3) dX1_act_78 (by decide) (rfl : 78 + 1 = 79)) (v_ai (v_iconst (v := 1) dX1_act_79 (by decide) (rfl : 79 + 1 = 80)) v_anil))) dX1_act_80 (rfl : 80 + 3 = 83)) dX1_act_83 (rfl : ((83 : Nat) : Int) + 7 = ((90 : Nat) : Int)) (rfl : 83 + 3 = 86))) (vi_goto (v_iconst (v := 1) dX1_act_86 (by decide) (rfl : 86 + 1 = 87)) dX1_act_87 (rfl : ((87 : Nat) : Int) + 4 = ((91 : Nat) : Int))) (v_iconst (v := 0) dX1_act_90 (by decide) (rfl : 90 + 1 = 91))) dX1_act_91)⟩
  | 2, _ => ⟨91, 92, rfl, (rfl : ((1 : Nat) : Int) + 91 = ((92 : Nat) : Int)), (v_ret (v_ic (v_and (v_ilt_f (v_iload_n (i := 2) dX1_act_92 rfl (rfl : 92 + 1 = 93)) (v_gfi kX1 lk133 (by decide) rfl (v_aload_n (i := 0) dX1_act_93 rfl (rfl : 93 + 1 = 94)) dX1_act_94 (rfl : 94 + 3 = 97)) dX1_act_97 (rfl : ((97 : Nat) : Int) + 21 = ((118 : Nat) : Int)) (rfl : 97 + 3 = 100)) (v_zne_f (v_csz IX1_put hX1_put lk669 ⟨by decide, by decide⟩ (by decide) (v_ar (v_rald (q := 12) (t0 := 4) (ty0 := .array .int) ⟨by decide, by decide⟩ (fun _ => rfl) rfl (v_gfr kX1 lk158 (by decide) rfl (v_aload_n (i := 0) dX1_act_100 rfl (rfl : 100 + 1 = 101)) dX1_act_101 (rfl : 101 + 3 = 104)) (v_iload_n (i := 2) dX1_act_104 rfl (rfl : 104 + 1 = 105)) dX1_act_105 (rfl : 105 + 1 = 106)) (v_ai (v_iconst (v := 1) dX1_act_106 (by decide) (rfl : 106 + 1 = 107)) (v_ai (v_iconst (v := 0) dX1_act_107 (by decide) (rfl : 107 + 1 = 108)) v_anil))) dX1_act_108 (rfl : 108 + 3 = 111)) dX1_act_111 (rfl : ((111 : Nat) : Int) + 7 = ((118 : Nat) : Int)) (rfl : 111 + 3 = 114))) (vi_goto (v_iconst (v := 1) dX1_act_114 (by decide) (rfl : 114 + 1 = 115)) dX1_act_115 (rfl : ((115 : Nat) : Int) + 4 = ((119 : Nat) : Int))) (v_iconst (v := 0) dX1_act_118 (by decide) (rfl : 118 + 1 = 119))) dX1_act_119)⟩
  | 3, _ => ⟨119, 120, rfl, (rfl : ((1 : Nat) : Int) + 119 = ((120 : Nat) : Int)), (v_ret (v_ic (v_and (v_ilt_f (v_iload_n (i := 2) dX1_act_120 rfl (rfl : 120 + 1 = 121)) (v_gfi kX1 lk133 (by decide) rfl (v_aload_n (i := 0) dX1_act_121 rfl (rfl : 121 + 1 = 122)) dX1_act_122 (rfl : 122 + 3 = 125)) dX1_act_125 (rfl : ((125 : Nat) : Int) + 21 = ((146 : Nat) : Int)) (rfl : 125 + 3 = 128)) (v_zne_f (v_csz IX1_put hX1_put lk669 ⟨by decide, by decide⟩ (by decide) (v_ar (v_rald (q := 12) (t0 := 4) (ty0 := .array .int) ⟨by decide, by decide⟩ (fun _ => rfl) rfl (v_gfr kX1 lk158 (by decide) rfl (v_aload_n (i := 0) dX1_act_128 rfl (rfl : 128 + 1 = 129)) dX1_act_129 (rfl : 129 + 3 = 132)) (v_iload_n (i := 2) dX1_act_132 rfl (rfl : 132 + 1 = 133)) dX1_act_133 (rfl : 133 + 1 = 134)) (v_ai (v_iconst (v := 1) dX1_act_134 (by decide) (rfl : 134 + 1 = 135)) (v_ai (v_iconst (v := 1) dX1_act_135 (by decide) (rfl : 135 + 1 = 136)) v_anil))) dX1_act_136 (rfl : 136 + 3 = 139)) dX1_act_139 (rfl : ((139 : Nat) : Int) + 7 = ((146 : Nat) : Int)) (rfl : 139 + 3 = 142))) (vi_goto (v_iconst (v := 1) dX1_act_142 (by decide) (rfl : 142 + 1 = 143)) dX1_act_143 (rfl : ((143 : Nat) : Int) + 4 = ((147 : Nat) : Int))) (v_iconst (v := 0) dX1_act_146 (by decide) (rfl : 146 + 1 = 147))) dX1_act_147)⟩
  | 4, _ => ⟨147, 148, rfl, (rfl : ((1 : Nat) : Int) + 147 = ((148 : Nat) : Int)), (v_ret (v_ic (v_and (v_ilt_f (v_iload_n (i := 2) dX1_act_148 rfl (rfl : 148 + 1 = 149)) (v_gfi kX1 lk122 (by decide) rfl (v_aload_n (i := 0) dX1_act_149 rfl (rfl : 149 + 1 = 150)) dX1_act_150 (rfl : 150 + 3 = 153)) dX1_act_153 (rfl : ((153 : Nat) : Int) + 21 = ((174 : Nat) : Int)) (rfl : 153 + 3 = 156)) (v_zne_f (v_csz IX1_put hX1_put lk669 ⟨by decide, by decide⟩ (by decide) (v_ar (v_rald (q := 12) (t0 := 4) (ty0 := .array .int) ⟨by decide, by decide⟩ (fun _ => rfl) rfl (v_gfr kX1 lk151 (by decide) rfl (v_aload_n (i := 0) dX1_act_156 rfl (rfl : 156 + 1 = 157)) dX1_act_157 (rfl : 157 + 3 = 160)) (v_iload_n (i := 2) dX1_act_160 rfl (rfl : 160 + 1 = 161)) dX1_act_161 (rfl : 161 + 1 = 162)) (v_ai (v_iconst (v := 2) dX1_act_162 (by decide) (rfl : 162 + 1 = 163)) (v_ai (v_iconst (v := 0) dX1_act_163 (by decide) (rfl : 163 + 1 = 164)) v_anil))) dX1_act_164 (rfl : 164 + 3 = 167)) dX1_act_167 (rfl : ((167 : Nat) : Int) + 7 = ((174 : Nat) : Int)) (rfl : 167 + 3 = 170))) (vi_goto (v_iconst (v := 1) dX1_act_170 (by decide) (rfl : 170 + 1 = 171)) dX1_act_171 (rfl : ((171 : Nat) : Int) + 4 = ((175 : Nat) : Int))) (v_iconst (v := 0) dX1_act_174 (by decide) (rfl : 174 + 1 = 175))) dX1_act_175)⟩
  | j + 5, hj => absurd hj (by omega)) ⟨176, (rfl : ((1 : Nat) : Int) + 175 = ((176 : Nat) : Int)), fun x hx => by
    have e0 : sel [(0, (sret (ic (band (bc clt (il 2) (fgi 1 1 (rl 0))) (bz cne (csz DX1_put (ar (rald 12 (fgr 1 10 (rl 0)) (il 2)) (ai (ik 3) (ai (ik 0) anil)))))) (ik 1) (ik 0)))), (1, (sret (ic (band (bc clt (il 2) (fgi 1 1 (rl 0))) (bz cne (csz DX1_put (ar (rald 12 (fgr 1 10 (rl 0)) (il 2)) (ai (ik 3) (ai (ik 1) anil)))))) (ik 1) (ik 0)))), (2, (sret (ic (band (bc clt (il 2) (fgi 1 2 (rl 0))) (bz cne (csz DX1_put (ar (rald 12 (fgr 1 11 (rl 0)) (il 2)) (ai (ik 1) (ai (ik 0) anil)))))) (ik 1) (ik 0)))), (3, (sret (ic (band (bc clt (il 2) (fgi 1 2 (rl 0))) (bz cne (csz DX1_put (ar (rald 12 (fgr 1 11 (rl 0)) (il 2)) (ai (ik 1) (ai (ik 1) anil)))))) (ik 1) (ik 0)))), (4, (sret (ic (band (bc clt (il 2) (fgi 1 0 (rl 0))) (bz cne (csz DX1_put (ar (rald 12 (fgr 1 9 (rl 0)) (il 2)) (ai (ik 2) (ai (ik 0) anil)))))) (ik 1) (ik 0))))] (sret (ik 0)) x = (sret (ik 0)) := by simp only [sel]; rw [if_neg (by omega)]; rw [if_neg (by omega)]; rw [if_neg (by omega)]; rw [if_neg (by omega)]; rw [if_neg (by omega)]
    rw [e0]; exact (v_ret (v_iconst (v := 0) dX1_act_176 (by decide) (rfl : 176 + 1 = 177)) dX1_act_177)⟩)
theorem IX1_act : Mz yX1_act cX1_act 3 (rmk 1 23) DX1_act := mk_z (by decide +kernel) BX1_act
