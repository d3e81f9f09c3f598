theorem dX1_addChamber_0 : decode cX1_addChamber 0 = .ok (.aload_n 0, 1) := by decide +kernel
theorem dX1_addChamber_1 : decode cX1_addChamber 1 = .ok (.getfield 20, 3) := by decide +kernel
theorem dX1_addChamber_4 : decode cX1_addChamber 4 = .ok (.aload_n 0, 1) := by decide +kernel
theorem dX1_addChamber_5 : decode cX1_addChamber 5 = .ok (.getfield 36, 3) := by decide +kernel
theorem dX1_addChamber_8 : decode cX1_addChamber 8 = .ok (.aaload, 1) := by decide +kernel
theorem dX1_addChamber_9 : decode cX1_addChamber 9 = .ok (.astore_n 3, 1) := by decide +kernel
theorem dX1_addChamber_10 : decode cX1_addChamber 10 = .ok (.aload_n 3, 1) := by decide +kernel
theorem dX1_addChamber_11 : decode cX1_addChamber 11 = .ok (.iconst 0, 1) := by decide +kernel
theorem dX1_addChamber_12 : decode cX1_addChamber 12 = .ok (.iload_n 1, 1) := by decide +kernel
theorem dX1_addChamber_13 : decode cX1_addChamber 13 = .ok (.iastore, 1) := by decide +kernel
theorem dX1_addChamber_14 : decode cX1_addChamber 14 = .ok (.aload_n 3, 1) := by decide +kernel
theorem dX1_addChamber_15 : decode cX1_addChamber 15 = .ok (.iconst 1, 1) := by decide +kernel
theorem dX1_addChamber_16 : decode cX1_addChamber 16 = .ok (.iload_n 2, 1) := by decide +kernel
theorem dX1_addChamber_17 : decode cX1_addChamber 17 = .ok (.iastore, 1) := by decide +kernel
theorem dX1_addChamber_18 : decode cX1_addChamber 18 = .ok (.aload_n 3, 1) := by decide +kernel
theorem dX1_addChamber_19 : decode cX1_addChamber 19 = .ok (.iconst 2, 1) := by decide +kernel
theorem dX1_addChamber_20 : decode cX1_addChamber 20 = .ok (.iconst 0, 1) := by decide +kernel
theorem dX1_addChamber_21 : decode cX1_addChamber 21 = .ok (.iastore, 1) := by decide +kernel
theorem dX1_addChamber_22 : decode cX1_addChamber 22 = .ok (.aload_n 3, 1) := by decide +kernel
theorem dX1_addChamber_23 : decode cX1_addChamber 23 = .ok (.iconst 3, 1) := by decide +kernel
theorem dX1_addChamber_24 : decode cX1_addChamber 24 = .ok (.iconst (-1), 1) := by decide +kernel
theorem dX1_addChamber_25 : decode cX1_addChamber 25 = .ok (.iastore, 1) := by decide +kernel
theorem dX1_addChamber_26 : decode cX1_addChamber 26 = .ok (.aload_n 0, 1) := by decide +kernel
theorem dX1_addChamber_27 : decode cX1_addChamber 27 = .ok (.dup, 1) := by decide +kernel
theorem dX1_addChamber_28 : decode cX1_addChamber 28 = .ok (.getfield 36, 3) := by decide +kernel
theorem dX1_addChamber_31 : decode cX1_addChamber 31 = .ok (.iconst 1, 1) := by decide +kernel
theorem dX1_addChamber_32 : decode cX1_addChamber 32 = .ok (.iadd, 1) := by decide +kernel
theorem dX1_addChamber_33 : decode cX1_addChamber 33 = .ok (.putfield 36, 3) := by decide +kernel
theorem dX1_addChamber_36 : decode cX1_addChamber 36 = .ok (.aload_n 0, 1) := by decide +kernel
theorem dX1_addChamber_37 : decode cX1_addChamber 37 = .ok (.getfield 36, 3) := by decide +kernel
theorem dX1_addChamber_40 : decode cX1_addChamber 40 = .ok (.iconst 1, 1) := by decide +kernel
theorem dX1_addChamber_41 : decode cX1_addChamber 41 = .ok (.isub, 1) := by decide +kernel
theorem dX1_addChamber_42 : decode cX1_addChamber 42 = .ok (.ireturn, 1) := by decide +kernel
noncomputable def EX1_addChamber : Sx := (sseq (ssr 3 (rald 12 (fgr 1 9 (rl 0)) (fgi 1 0 (rl 0)))) (sseq (aii (rl 3) (ik 0) (il 1)) (sseq (aii (rl 3) (ik 1) (il 2)) (sseq (aii (rl 3) (ik 2) (ik 0)) (sseq (aii (rl 3) (ik 3) (ik (-1))) (sseq (foi (· + ·) 1 0 (rl 0) (ik 1)) (sret (i2 (· - ·) (fgi 1 0 (rl 0)) (ik 1)))))))))
noncomputable def DX1_addChamber : Fi := mfi 4 EX1_addChamber
set_option maxRecDepth 4000 in
theorem BX1_addChamber : Vs RX1 cX1_addChamber 4 (rmk 0 0) 0 0 EX1_addChamber := (v_seq (v_astore_n (i := 3) (v_rald (q := 12) (t0 := 4) (ty0 := .array .int) ⟨by decide, by decide⟩ (fun _ => rfl) rfl (v_gfr kX1 lk151 (by decide) rfl (v_aload_n (i := 0) dX1_addChamber_0 rfl (rfl : 0 + 1 = 1)) dX1_addChamber_1 (rfl : 1 + 3 = 4)) (v_gfi kX1 lk122 (by decide) rfl (v_aload_n (i := 0) dX1_addChamber_4 rfl (rfl : 4 + 1 = 5)) dX1_addChamber_5 (rfl : 5 + 3 = 8)) dX1_addChamber_8 (rfl : 8 + 1 = 9)) dX1_addChamber_9 rfl (by decide) (rfl : 9 + 1 = 10)) (v_seq (v_aii (v_aload_n (i := 3) dX1_addChamber_10 rfl (rfl : 10 + 1 = 11)) (v_iconst (v := 0) dX1_addChamber_11 (by decide) (rfl : 11 + 1 = 12)) (v_iload_n (i := 1) dX1_addChamber_12 rfl (rfl : 12 + 1 = 13)) dX1_addChamber_13 (rfl : 13 + 1 = 14)) (v_seq (v_aii (v_aload_n (i := 3) dX1_addChamber_14 rfl (rfl : 14 + 1 = 15)) (v_iconst (v := 1) dX1_addChamber_15 (by decide) (rfl : 15 + 1 = 16)) (v_iload_n (i := 2) dX1_addChamber_16 rfl (rfl : 16 + 1 = 17)) dX1_addChamber_17 (rfl : 17 + 1 = 18)) (v_seq (v_aii (v_aload_n (i := 3) dX1_addChamber_18 rfl (rfl : 18 + 1 = 19)) (v_iconst (v := 2) dX1_addChamber_19 (by decide) (rfl : 19 + 1 = 20)) (v_iconst (v := 0) dX1_addChamber_20 (by decide) (rfl : 20 + 1 = 21)) dX1_addChamber_21 (rfl : 21 + 1 = 22)) (v_seq (v_aii (v_aload_n (i := 3) dX1_addChamber_22 rfl (rfl : 22 + 1 = 23)) (v_iconst (v := 3) dX1_addChamber_23 (by decide) (rfl : 23 + 1 = 24)) (v_iconst (v := (-1)) dX1_addChamber_24 (by decide) (rfl : 24 + 1 = 25)) dX1_addChamber_25 (rfl : 25 + 1 = 26)) (v_seq (v_foi_iadd kX1 lk122 (by decide) rfl rfl (by decide +kernel) (v_aload_n (i := 0) dX1_addChamber_26 rfl (rfl : 26 + 1 = 27)) dX1_addChamber_27 dX1_addChamber_28 (rfl : 27 + 1 + 3 = 31) (v_iconst (v := 1) dX1_addChamber_31 (by decide) (rfl : 31 + 1 = 32)) dX1_addChamber_32 dX1_addChamber_33 (rfl : 32 + 1 + 3 = 36)) (v_ret (v_isub (v_gfi kX1 lk122 (by decide) rfl (v_aload_n (i := 0) dX1_addChamber_36 rfl (rfl : 36 + 1 = 37)) dX1_addChamber_37 (rfl : 37 + 3 = 40)) (v_iconst (v := 1) dX1_addChamber_40 (by decide) (rfl : 40 + 1 = 41)) dX1_addChamber_41 (rfl : 41 + 1 = 42)) dX1_addChamber_42)))))))
theorem IX1_addChamber : Mi yX1_addChamber cX1_addChamber 4 (rmk 0 0) DX1_addChamber := mk_i (by decide +kernel) BX1_addChamber

theorem dX1_addPump_0 : decode cX1_addPump 0 = .ok (.aload_n 0, 1) := by decide +kernel
theorem dX1_addPump_1 : decode cX1_addPump 1 = .ok (.getfield 26, 3) := by decide +kernel
theorem dX1_addPump_4 : decode cX1_addPump 4 = .ok (.aload_n 0, 1) := by decide +kernel
theorem dX1_addPump_5 : decode cX1_addPump 5 = .ok (.getfield 42, 3) := by decide +kernel
theorem dX1_addPump_8 : decode cX1_addPump 8 = .ok (.aaload, 1) := by decide +kernel
theorem dX1_addPump_9 : decode cX1_addPump 9 = .ok (.astore_n 3, 1) := by decide +kernel
theorem dX1_addPump_10 : decode cX1_addPump 10 = .ok (.aload_n 3, 1) := by decide +kernel
theorem dX1_addPump_11 : decode cX1_addPump 11 = .ok (.iconst 0, 1) := by decide +kernel
theorem dX1_addPump_12 : decode cX1_addPump 12 = .ok (.iload_n 1, 1) := by decide +kernel
theorem dX1_addPump_13 : decode cX1_addPump 13 = .ok (.iastore, 1) := by decide +kernel
theorem dX1_addPump_14 : decode cX1_addPump 14 = .ok (.aload_n 3, 1) := by decide +kernel
theorem dX1_addPump_15 : decode cX1_addPump 15 = .ok (.iconst 1, 1) := by decide +kernel
theorem dX1_addPump_16 : decode cX1_addPump 16 = .ok (.iconst 1, 1) := by decide +kernel
theorem dX1_addPump_17 : decode cX1_addPump 17 = .ok (.iastore, 1) := by decide +kernel
theorem dX1_addPump_18 : decode cX1_addPump 18 = .ok (.aload_n 3, 1) := by decide +kernel
theorem dX1_addPump_19 : decode cX1_addPump 19 = .ok (.iconst 2, 1) := by decide +kernel
theorem dX1_addPump_20 : decode cX1_addPump 20 = .ok (.iload_n 2, 1) := by decide +kernel
theorem dX1_addPump_21 : decode cX1_addPump 21 = .ok (.iastore, 1) := by decide +kernel
theorem dX1_addPump_22 : decode cX1_addPump 22 = .ok (.aload_n 3, 1) := by decide +kernel
theorem dX1_addPump_23 : decode cX1_addPump 23 = .ok (.iconst 3, 1) := by decide +kernel
theorem dX1_addPump_24 : decode cX1_addPump 24 = .ok (.iload_n 2, 1) := by decide +kernel
theorem dX1_addPump_25 : decode cX1_addPump 25 = .ok (.iastore, 1) := by decide +kernel
theorem dX1_addPump_26 : decode cX1_addPump 26 = .ok (.aload_n 3, 1) := by decide +kernel
theorem dX1_addPump_27 : decode cX1_addPump 27 = .ok (.iconst 4, 1) := by decide +kernel
theorem dX1_addPump_28 : decode cX1_addPump 28 = .ok (.iload_n 2, 1) := by decide +kernel
theorem dX1_addPump_29 : decode cX1_addPump 29 = .ok (.iastore, 1) := by decide +kernel
theorem dX1_addPump_30 : decode cX1_addPump 30 = .ok (.aload_n 3, 1) := by decide +kernel
theorem dX1_addPump_31 : decode cX1_addPump 31 = .ok (.iconst 5, 1) := by decide +kernel
theorem dX1_addPump_32 : decode cX1_addPump 32 = .ok (.iconst 1, 1) := by decide +kernel
theorem dX1_addPump_33 : decode cX1_addPump 33 = .ok (.iastore, 1) := by decide +kernel
theorem dX1_addPump_34 : decode cX1_addPump 34 = .ok (.aload_n 3, 1) := by decide +kernel
theorem dX1_addPump_35 : decode cX1_addPump 35 = .ok (.bipush 6, 2) := by decide +kernel
theorem dX1_addPump_37 : decode cX1_addPump 37 = .ok (.iconst 2, 1) := by decide +kernel
theorem dX1_addPump_38 : decode cX1_addPump 38 = .ok (.iastore, 1) := by decide +kernel
theorem dX1_addPump_39 : decode cX1_addPump 39 = .ok (.aload_n 3, 1) := by decide +kernel
theorem dX1_addPump_40 : decode cX1_addPump 40 = .ok (.bipush 7, 2) := by decide +kernel
theorem dX1_addPump_42 : decode cX1_addPump 42 = .ok (.iconst 0, 1) := by decide +kernel
theorem dX1_addPump_43 : decode cX1_addPump 43 = .ok (.iastore, 1) := by decide +kernel
theorem dX1_addPump_44 : decode cX1_addPump 44 = .ok (.aload_n 3, 1) := by decide +kernel
theorem dX1_addPump_45 : decode cX1_addPump 45 = .ok (.bipush 8, 2) := by decide +kernel
theorem dX1_addPump_47 : decode cX1_addPump 47 = .ok (.iconst 0, 1) := by decide +kernel
theorem dX1_addPump_48 : decode cX1_addPump 48 = .ok (.iastore, 1) := by decide +kernel
theorem dX1_addPump_49 : decode cX1_addPump 49 = .ok (.aload_n 0, 1) := by decide +kernel
theorem dX1_addPump_50 : decode cX1_addPump 50 = .ok (.dup, 1) := by decide +kernel
theorem dX1_addPump_51 : decode cX1_addPump 51 = .ok (.getfield 42, 3) := by decide +kernel
theorem dX1_addPump_54 : decode cX1_addPump 54 = .ok (.iconst 1, 1) := by decide +kernel
theorem dX1_addPump_55 : decode cX1_addPump 55 = .ok (.iadd, 1) := by decide +kernel
theorem dX1_addPump_56 : decode cX1_addPump 56 = .ok (.putfield 42, 3) := by decide +kernel
theorem dX1_addPump_59 : decode cX1_addPump 59 = .ok (.aload_n 0, 1) := by decide +kernel
theorem dX1_addPump_60 : decode cX1_addPump 60 = .ok (.getfield 42, 3) := by decide +kernel
theorem dX1_addPump_63 : decode cX1_addPump 63 = .ok (.iconst 1, 1) := by decide +kernel
theorem dX1_addPump_64 : decode cX1_addPump 64 = .ok (.isub, 1) := by decide +kernel
theorem dX1_addPump_65 : decode cX1_addPump 65 = .ok (.ireturn, 1) := by decide +kernel
noncomputable def EX1_addPump : Sx := (sseq (ssr 3 (rald 12 (fgr 1 11 (rl 0)) (fgi 1 2 (rl 0)))) (sseq (aii (rl 3) (ik 0) (il 1)) (sseq (aii (rl 3) (ik 1) (ik 1)) (sseq (aii (rl 3) (ik 2) (il 2)) (sseq (aii (rl 3) (ik 3) (il 2)) (sseq (aii (rl 3) (ik 4) (il 2)) (sseq (aii (rl 3) (ik 5) (ik 1)) (sseq (aii (rl 3) (ik 6) (ik 2)) (sseq (aii (rl 3) (ik 7) (ik 0)) (sseq (aii (rl 3) (ik 8) (ik 0)) (sseq (foi (· + ·) 1 2 (rl 0) (ik 1)) (sret (i2 (· - ·) (fgi 1 2 (rl 0)) (ik 1))))))))))))))
noncomputable def DX1_addPump : Fi := mfi 4 EX1_addPump
set_option maxRecDepth 4000 in
theorem BX1_addPump : Vs RX1 cX1_addPump 4 (rmk 0 0) 0 0 EX1_addPump := (v_seq (v_astore_n (i := 3) (v_rald (q := 12) (t0 := 4) (ty0 := .array .int) ⟨by decide, by decide⟩ (fun _ => rfl) rfl (v_gfr kX1 lk158 (by decide) rfl (v_aload_n (i := 0) dX1_addPump_0 rfl (rfl : 0 + 1 = 1)) dX1_addPump_1 (rfl : 1 + 3 = 4)) (v_gfi kX1 lk133 (by decide) rfl (v_aload_n (i := 0) dX1_addPump_4 rfl (rfl : 4 + 1 = 5)) dX1_addPump_5 (rfl : 5 + 3 = 8)) dX1_addPump_8 (rfl : 8 + 1 = 9)) dX1_addPump_9 rfl (by decide) (rfl : 9 + 1 = 10)) (v_seq (v_aii (v_aload_n (i := 3) dX1_addPump_10 rfl (rfl : 10 + 1 = 11)) (v_iconst (v := 0) dX1_addPump_11 (by decide) (rfl : 11 + 1 = 12)) (v_iload_n (i := 1) dX1_addPump_12 rfl (rfl : 12 + 1 = 13)) dX1_addPump_13 (rfl : 13 + 1 = 14)) (v_seq (v_aii (v_aload_n (i := 3) dX1_addPump_14 rfl (rfl : 14 + 1 = 15)) (v_iconst (v := 1) dX1_addPump_15 (by decide) (rfl : 15 + 1 = 16)) (v_iconst (v := 1) dX1_addPump_16 (by decide) (rfl : 16 + 1 = 17)) dX1_addPump_17 (rfl : 17 + 1 = 18)) (v_seq (v_aii (v_aload_n (i := 3) dX1_addPump_18 rfl (rfl : 18 + 1 = 19)) (v_iconst (v := 2) dX1_addPump_19 (by decide) (rfl : 19 + 1 = 20)) (v_iload_n (i := 2) dX1_addPump_20 rfl (rfl : 20 + 1 = 21)) dX1_addPump_21 (rfl : 21 + 1 = 22)) (v_seq (v_aii (v_aload_n (i := 3) dX1_addPump_22 rfl (rfl : 22 + 1 = 23)) (v_iconst (v := 3) dX1_addPump_23 (by decide) (rfl : 23 + 1 = 24)) (v_iload_n (i := 2) dX1_addPump_24 rfl (rfl : 24 + 1 = 25)) dX1_addPump_25 (rfl : 25 + 1 = 26)) (v_seq (v_aii (v_aload_n (i := 3) dX1_addPump_26 rfl (rfl : 26 + 1 = 27)) (v_iconst (v := 4) dX1_addPump_27 (by decide) (rfl : 27 + 1 = 28)) (v_iload_n (i := 2) dX1_addPump_28 rfl (rfl : 28 + 1 = 29)) dX1_addPump_29 (rfl : 29 + 1 = 30)) (v_seq (v_aii (v_aload_n (i := 3) dX1_addPump_30 rfl (rfl : 30 + 1 = 31)) (v_iconst (v := 5) dX1_addPump_31 (by decide) (rfl : 31 + 1 = 32)) (v_iconst (v := 1) dX1_addPump_32 (by decide) (rfl : 32 + 1 = 33)) dX1_addPump_33 (rfl : 33 + 1 = 34)) (v_seq (v_aii (v_aload_n (i := 3) dX1_addPump_34 rfl (rfl : 34 + 1 = 35)) (v_bipush (v := 6) dX1_addPump_35 (by decide) (rfl : 35 + 2 = 37)) (v_iconst (v := 2) dX1_addPump_37 (by decide) (rfl : 37 + 1 = 38)) dX1_addPump_38 (rfl : 38 + 1 = 39)) (v_seq (v_aii (v_aload_n (i := 3) dX1_addPump_39 rfl (rfl : 39 + 1 = 40)) (v_bipush (v := 7) dX1_addPump_40 (by decide) (rfl : 40 + 2 = 42)) (v_iconst (v := 0) dX1_addPump_42 (by decide) (rfl : 42 + 1 = 43)) dX1_addPump_43 (rfl : 43 + 1 = 44)) (v_seq (v_aii (v_aload_n (i := 3) dX1_addPump_44 rfl (rfl : 44 + 1 = 45)) (v_bipush (v := 8) dX1_addPump_45 (by decide) (rfl : 45 + 2 = 47)) (v_iconst (v := 0) dX1_addPump_47 (by decide) (rfl : 47 + 1 = 48)) dX1_addPump_48 (rfl : 48 + 1 = 49)) (v_seq (v_foi_iadd kX1 lk133 (by decide) rfl rfl (by decide +kernel) (v_aload_n (i := 0) dX1_addPump_49 rfl (rfl : 49 + 1 = 50)) dX1_addPump_50 dX1_addPump_51 (rfl : 50 + 1 + 3 = 54) (v_iconst (v := 1) dX1_addPump_54 (by decide) (rfl : 54 + 1 = 55)) dX1_addPump_55 dX1_addPump_56 (rfl : 55 + 1 + 3 = 59)) (v_ret (v_isub (v_gfi kX1 lk133 (by decide) rfl (v_aload_n (i := 0) dX1_addPump_59 rfl (rfl : 59 + 1 = 60)) dX1_addPump_60 (rfl : 60 + 3 = 63)) (v_iconst (v := 1) dX1_addPump_63 (by decide) (rfl : 63 + 1 = 64)) dX1_addPump_64 (rfl : 64 + 1 = 65)) dX1_addPump_65))))))))))))
theorem IX1_addPump : Mi yX1_addPump cX1_addPump 4 (rmk 0 0) DX1_addPump := mk_i (by decide +kernel) BX1_addPump

theorem dX1_addTube_0 : decode cX1_addTube 0 = .ok (.aload_n 0, 1) := by decide +kernel
theorem dX1_addTube_1 : decode cX1_addTube 1 = .ok (.getfield 23, 3) := by decide +kernel
theorem dX1_addTube_4 : decode cX1_addTube 4 = .ok (.aload_n 0, 1) := by decide +kernel
theorem dX1_addTube_5 : decode cX1_addTube 5 = .ok (.getfield 39, 3) := by decide +kernel
theorem dX1_addTube_8 : decode cX1_addTube 8 = .ok (.aaload, 1) := by decide +kernel
theorem dX1_addTube_9 : decode cX1_addTube 9 = .ok (.astore 4, 2) := by decide +kernel
theorem dX1_addTube_11 : decode cX1_addTube 11 = .ok (.aload 4, 2) := by decide +kernel
theorem dX1_addTube_13 : decode cX1_addTube 13 = .ok (.iconst 0, 1) := by decide +kernel
theorem dX1_addTube_14 : decode cX1_addTube 14 = .ok (.iload_n 1, 1) := by decide +kernel
theorem dX1_addTube_15 : decode cX1_addTube 15 = .ok (.iastore, 1) := by decide +kernel
theorem dX1_addTube_16 : decode cX1_addTube 16 = .ok (.aload 4, 2) := by decide +kernel
theorem dX1_addTube_18 : decode cX1_addTube 18 = .ok (.iconst 1, 1) := by decide +kernel
theorem dX1_addTube_19 : decode cX1_addTube 19 = .ok (.iload_n 2, 1) := by decide +kernel
theorem dX1_addTube_20 : decode cX1_addTube 20 = .ok (.iastore, 1) := by decide +kernel
theorem dX1_addTube_21 : decode cX1_addTube 21 = .ok (.aload 4, 2) := by decide +kernel
theorem dX1_addTube_23 : decode cX1_addTube 23 = .ok (.iconst 2, 1) := by decide +kernel
theorem dX1_addTube_24 : decode cX1_addTube 24 = .ok (.iload_n 3, 1) := by decide +kernel
theorem dX1_addTube_25 : decode cX1_addTube 25 = .ok (.iastore, 1) := by decide +kernel
theorem dX1_addTube_26 : decode cX1_addTube 26 = .ok (.aload 4, 2) := by decide +kernel
theorem dX1_addTube_28 : decode cX1_addTube 28 = .ok (.iconst 3, 1) := by decide +kernel
theorem dX1_addTube_29 : decode cX1_addTube 29 = .ok (.iconst 1, 1) := by decide +kernel
theorem dX1_addTube_30 : decode cX1_addTube 30 = .ok (.iastore, 1) := by decide +kernel
theorem dX1_addTube_31 : decode cX1_addTube 31 = .ok (.aload_n 0, 1) := by decide +kernel
theorem dX1_addTube_32 : decode cX1_addTube 32 = .ok (.dup, 1) := by decide +kernel
theorem dX1_addTube_33 : decode cX1_addTube 33 = .ok (.getfield 39, 3) := by decide +kernel
theorem dX1_addTube_36 : decode cX1_addTube 36 = .ok (.iconst 1, 1) := by decide +kernel
theorem dX1_addTube_37 : decode cX1_addTube 37 = .ok (.iadd, 1) := by decide +kernel
theorem dX1_addTube_38 : decode cX1_addTube 38 = .ok (.putfield 39, 3) := by decide +kernel
theorem dX1_addTube_41 : decode cX1_addTube 41 = .ok (.aload_n 0, 1) := by decide +kernel
theorem dX1_addTube_42 : decode cX1_addTube 42 = .ok (.getfield 39, 3) := by decide +kernel
theorem dX1_addTube_45 : decode cX1_addTube 45 = .ok (.iconst 1, 1) := by decide +kernel
theorem dX1_addTube_46 : decode cX1_addTube 46 = .ok (.isub, 1) := by decide +kernel
theorem dX1_addTube_47 : decode cX1_addTube 47 = .ok (.ireturn, 1) := by decide +kernel
noncomputable def EX1_addTube : Sx := (sseq (ssr 4 (rald 12 (fgr 1 10 (rl 0)) (fgi 1 1 (rl 0)))) (sseq (aii (rl 4) (ik 0) (il 1)) (sseq (aii (rl 4) (ik 1) (il 2)) (sseq (aii (rl 4) (ik 2) (il 3)) (sseq (aii (rl 4) (ik 3) (ik 1)) (sseq (foi (· + ·) 1 1 (rl 0) (ik 1)) (sret (i2 (· - ·) (fgi 1 1 (rl 0)) (ik 1)))))))))
noncomputable def DX1_addTube : Fi := mfi 5 EX1_addTube
set_option maxRecDepth 4000 in
theorem BX1_addTube : Vs RX1 cX1_addTube 5 (rmk 0 0) 0 0 EX1_addTube := (v_seq (v_astore (i := 4) (v_rald (q := 12) (t0 := 4) (ty0 := .array .int) ⟨by decide, by decide⟩ (fun _ => rfl) rfl (v_gfr kX1 lk154 (by decide) rfl (v_aload_n (i := 0) dX1_addTube_0 rfl (rfl : 0 + 1 = 1)) dX1_addTube_1 (rfl : 1 + 3 = 4)) (v_gfi kX1 lk128 (by decide) rfl (v_aload_n (i := 0) dX1_addTube_4 rfl (rfl : 4 + 1 = 5)) dX1_addTube_5 (rfl : 5 + 3 = 8)) dX1_addTube_8 (rfl : 8 + 1 = 9)) dX1_addTube_9 (by decide) (rfl : 9 + 2 = 11)) (v_seq (v_aii (v_aload (i := 4) dX1_addTube_11 (rfl : 11 + 2 = 13)) (v_iconst (v := 0) dX1_addTube_13 (by decide) (rfl : 13 + 1 = 14)) (v_iload_n (i := 1) dX1_addTube_14 rfl (rfl : 14 + 1 = 15)) dX1_addTube_15 (rfl : 15 + 1 = 16)) (v_seq (v_aii (v_aload (i := 4) dX1_addTube_16 (rfl : 16 + 2 = 18)) (v_iconst (v := 1) dX1_addTube_18 (by decide) (rfl : 18 + 1 = 19)) (v_iload_n (i := 2) dX1_addTube_19 rfl (rfl : 19 + 1 = 20)) dX1_addTube_20 (rfl : 20 + 1 = 21)) (v_seq (v_aii (v_aload (i := 4) dX1_addTube_21 (rfl : 21 + 2 = 23)) (v_iconst (v := 2) dX1_addTube_23 (by decide) (rfl : 23 + 1 = 24)) (v_iload_n (i := 3) dX1_addTube_24 rfl (rfl : 24 + 1 = 25)) dX1_addTube_25 (rfl : 25 + 1 = 26)) (v_seq (v_aii (v_aload (i := 4) dX1_addTube_26 (rfl : 26 + 2 = 28)) (v_iconst (v := 3) dX1_addTube_28 (by decide) (rfl : 28 + 1 = 29)) (v_iconst (v := 1) dX1_addTube_29 (by decide) (rfl : 29 + 1 = 30)) dX1_addTube_30 (rfl : 30 + 1 = 31)) (v_seq (v_foi_iadd kX1 lk128 (by decide) rfl rfl (by decide +kernel) (v_aload_n (i := 0) dX1_addTube_31 rfl (rfl : 31 + 1 = 32)) dX1_addTube_32 dX1_addTube_33 (rfl : 32 + 1 + 3 = 36) (v_iconst (v := 1) dX1_addTube_36 (by decide) (rfl : 36 + 1 = 37)) dX1_addTube_37 dX1_addTube_38 (rfl : 37 + 1 + 3 = 41)) (v_ret (v_isub (v_gfi kX1 lk128 (by decide) rfl (v_aload_n (i := 0) dX1_addTube_41 rfl (rfl : 41 + 1 = 42)) dX1_addTube_42 (rfl : 42 + 3 = 45)) (v_iconst (v := 1) dX1_addTube_45 (by decide) (rfl : 45 + 1 = 46)) dX1_addTube_46 (rfl : 46 + 1 = 47)) dX1_addTube_47)))))))
theorem IX1_addTube : Mi yX1_addTube cX1_addTube 5 (rmk 0 0) DX1_addTube := mk_i (by decide +kernel) BX1_addTube

theorem dX1_addWatch_0 : decode cX1_addWatch 0 = .ok (.aload_n 0, 1) := by decide +kernel
theorem dX1_addWatch_1 : decode cX1_addWatch 1 = .ok (.getfield 29, 3) := by decide +kernel
theorem dX1_addWatch_4 : decode cX1_addWatch 4 = .ok (.aload_n 0, 1) := by decide +kernel
theorem dX1_addWatch_5 : decode cX1_addWatch 5 = .ok (.getfield 45, 3) := by decide +kernel
theorem dX1_addWatch_8 : decode cX1_addWatch 8 = .ok (.aaload, 1) := by decide +kernel
theorem dX1_addWatch_9 : decode cX1_addWatch 9 = .ok (.astore 6, 2) := by decide +kernel
theorem dX1_addWatch_11 : decode cX1_addWatch 11 = .ok (.aload 6, 2) := by decide +kernel
theorem dX1_addWatch_13 : decode cX1_addWatch 13 = .ok (.iconst 0, 1) := by decide +kernel
theorem dX1_addWatch_14 : decode cX1_addWatch 14 = .ok (.iload_n 1, 1) := by decide +kernel
theorem dX1_addWatch_15 : decode cX1_addWatch 15 = .ok (.iastore, 1) := by decide +kernel
theorem dX1_addWatch_16 : decode cX1_addWatch 16 = .ok (.aload 6, 2) := by decide +kernel
theorem dX1_addWatch_18 : decode cX1_addWatch 18 = .ok (.iconst 1, 1) := by decide +kernel
theorem dX1_addWatch_19 : decode cX1_addWatch 19 = .ok (.iload_n 2, 1) := by decide +kernel
theorem dX1_addWatch_20 : decode cX1_addWatch 20 = .ok (.iastore, 1) := by decide +kernel
theorem dX1_addWatch_21 : decode cX1_addWatch 21 = .ok (.aload 6, 2) := by decide +kernel
theorem dX1_addWatch_23 : decode cX1_addWatch 23 = .ok (.iconst 2, 1) := by decide +kernel
theorem dX1_addWatch_24 : decode cX1_addWatch 24 = .ok (.iload_n 3, 1) := by decide +kernel
theorem dX1_addWatch_25 : decode cX1_addWatch 25 = .ok (.iastore, 1) := by decide +kernel
theorem dX1_addWatch_26 : decode cX1_addWatch 26 = .ok (.aload 6, 2) := by decide +kernel
theorem dX1_addWatch_28 : decode cX1_addWatch 28 = .ok (.iconst 3, 1) := by decide +kernel
theorem dX1_addWatch_29 : decode cX1_addWatch 29 = .ok (.iload 4, 2) := by decide +kernel
theorem dX1_addWatch_31 : decode cX1_addWatch 31 = .ok (.iastore, 1) := by decide +kernel
theorem dX1_addWatch_32 : decode cX1_addWatch 32 = .ok (.aload 6, 2) := by decide +kernel
theorem dX1_addWatch_34 : decode cX1_addWatch 34 = .ok (.iconst 4, 1) := by decide +kernel
theorem dX1_addWatch_35 : decode cX1_addWatch 35 = .ok (.iload 5, 2) := by decide +kernel
theorem dX1_addWatch_37 : decode cX1_addWatch 37 = .ok (.iastore, 1) := by decide +kernel
theorem dX1_addWatch_38 : decode cX1_addWatch 38 = .ok (.aload 6, 2) := by decide +kernel
theorem dX1_addWatch_40 : decode cX1_addWatch 40 = .ok (.iconst 5, 1) := by decide +kernel
theorem dX1_addWatch_41 : decode cX1_addWatch 41 = .ok (.iconst 0, 1) := by decide +kernel
theorem dX1_addWatch_42 : decode cX1_addWatch 42 = .ok (.iastore, 1) := by decide +kernel
theorem dX1_addWatch_43 : decode cX1_addWatch 43 = .ok (.aload_n 0, 1) := by decide +kernel
theorem dX1_addWatch_44 : decode cX1_addWatch 44 = .ok (.dup, 1) := by decide +kernel
theorem dX1_addWatch_45 : decode cX1_addWatch 45 = .ok (.getfield 45, 3) := by decide +kernel
theorem dX1_addWatch_48 : decode cX1_addWatch 48 = .ok (.iconst 1, 1) := by decide +kernel
theorem dX1_addWatch_49 : decode cX1_addWatch 49 = .ok (.iadd, 1) := by decide +kernel
theorem dX1_addWatch_50 : decode cX1_addWatch 50 = .ok (.putfield 45, 3) := by decide +kernel
theorem dX1_addWatch_53 : decode cX1_addWatch 53 = .ok (.aload_n 0, 1) := by decide +kernel
theorem dX1_addWatch_54 : decode cX1_addWatch 54 = .ok (.getfield 45, 3) := by decide +kernel
theorem dX1_addWatch_57 : decode cX1_addWatch 57 = .ok (.iconst 1, 1) := by decide +kernel
theorem dX1_addWatch_58 : decode cX1_addWatch 58 = .ok (.isub, 1) := by decide +kernel
theorem dX1_addWatch_59 : decode cX1_addWatch 59 = .ok (.ireturn, 1) := by decide +kernel
noncomputable def EX1_addWatch : Sx := (sseq (ssr 6 (rald 12 (fgr 1 12 (rl 0)) (fgi 1 3 (rl 0)))) (sseq (aii (rl 6) (ik 0) (il 1)) (sseq (aii (rl 6) (ik 1) (il 2)) (sseq (aii (rl 6) (ik 2) (il 3)) (sseq (aii (rl 6) (ik 3) (il 4)) (sseq (aii (rl 6) (ik 4) (il 5)) (sseq (aii (rl 6) (ik 5) (ik 0)) (sseq (foi (· + ·) 1 3 (rl 0) (ik 1)) (sret (i2 (· - ·) (fgi 1 3 (rl 0)) (ik 1)))))))))))
noncomputable def DX1_addWatch : Fi := mfi 7 EX1_addWatch
set_option maxRecDepth 4000 in
theorem BX1_addWatch : Vs RX1 cX1_addWatch 7 (rmk 0 0) 0 0 EX1_addWatch := (v_seq (v_astore (i := 6) (v_rald (q := 12) (t0 := 4) (ty0 := .array .int) ⟨by decide, by decide⟩ (fun _ => rfl) rfl (v_gfr kX1 lk162 (by decide) rfl (v_aload_n (i := 0) dX1_addWatch_0 rfl (rfl : 0 + 1 = 1)) dX1_addWatch_1 (rfl : 1 + 3 = 4)) (v_gfi kX1 lk137 (by decide) rfl (v_aload_n (i := 0) dX1_addWatch_4 rfl (rfl : 4 + 1 = 5)) dX1_addWatch_5 (rfl : 5 + 3 = 8)) dX1_addWatch_8 (rfl : 8 + 1 = 9)) dX1_addWatch_9 (by decide) (rfl : 9 + 2 = 11)) (v_seq (v_aii (v_aload (i := 6) dX1_addWatch_11 (rfl : 11 + 2 = 13)) (v_iconst (v := 0) dX1_addWatch_13 (by decide) (rfl : 13 + 1 = 14)) (v_iload_n (i := 1) dX1_addWatch_14 rfl (rfl : 14 + 1 = 15)) dX1_addWatch_15 (rfl : 15 + 1 = 16)) (v_seq (v_aii (v_aload (i := 6) dX1_addWatch_16 (rfl : 16 + 2 = 18)) (v_iconst (v := 1) dX1_addWatch_18 (by decide) (rfl : 18 + 1 = 19)) (v_iload_n (i := 2) dX1_addWatch_19 rfl (rfl : 19 + 1 = 20)) dX1_addWatch_20 (rfl : 20 + 1 = 21)) (v_seq (v_aii (v_aload (i := 6) dX1_addWatch_21 (rfl : 21 + 2 = 23)) (v_iconst (v := 2) dX1_addWatch_23 (by decide) (rfl : 23 + 1 = 24)) (v_iload_n (i := 3) dX1_addWatch_24 rfl (rfl : 24 + 1 = 25)) dX1_addWatch_25 (rfl : 25 + 1 = 26)) (v_seq (v_aii (v_aload (i := 6) dX1_addWatch_26 (rfl : 26 + 2 = 28)) (v_iconst (v := 3) dX1_addWatch_28 (by decide) (rfl : 28 + 1 = 29)) (v_iload (i := 4) dX1_addWatch_29 (rfl : 29 + 2 = 31)) dX1_addWatch_31 (rfl : 31 + 1 = 32)) (v_seq (v_aii (v_aload (i := 6) dX1_addWatch_32 (rfl : 32 + 2 = 34)) (v_iconst (v := 4) dX1_addWatch_34 (by decide) (rfl : 34 + 1 = 35)) (v_iload (i := 5) dX1_addWatch_35 (rfl : 35 + 2 = 37)) dX1_addWatch_37 (rfl : 37 + 1 = 38)) (v_seq (v_aii (v_aload (i := 6) dX1_addWatch_38 (rfl : 38 + 2 = 40)) (v_iconst (v := 5) dX1_addWatch_40 (by decide) (rfl : 40 + 1 = 41)) (v_iconst (v := 0) dX1_addWatch_41 (by decide) (rfl : 41 + 1 = 42)) dX1_addWatch_42 (rfl : 42 + 1 = 43)) (v_seq (v_foi_iadd kX1 lk137 (by decide) rfl rfl (by decide +kernel) (v_aload_n (i := 0) dX1_addWatch_43 rfl (rfl : 43 + 1 = 44)) dX1_addWatch_44 dX1_addWatch_45 (rfl : 44 + 1 + 3 = 48) (v_iconst (v := 1) dX1_addWatch_48 (by decide) (rfl : 48 + 1 = 49)) dX1_addWatch_49 dX1_addWatch_50 (rfl : 49 + 1 + 3 = 53)) (v_ret (v_isub (v_gfi kX1 lk137 (by decide) rfl (v_aload_n (i := 0) dX1_addWatch_53 rfl (rfl : 53 + 1 = 54)) dX1_addWatch_54 (rfl : 54 + 3 = 57)) (v_iconst (v := 1) dX1_addWatch_57 (by decide) (rfl : 57 + 1 = 58)) dX1_addWatch_58 (rfl : 58 + 1 = 59)) dX1_addWatch_59)))))))))
theorem IX1_addWatch : Mi yX1_addWatch cX1_addWatch 7 (rmk 0 0) DX1_addWatch := mk_i (by decide +kernel) BX1_addWatch

theorem dX1_bake_0 : decode cX1_bake 0 = .ok (.iconst 0, 1) := by decide +kernel
theorem dX1_bake_1 : decode cX1_bake 1 = .ok (.istore_n 1, 1) := by decide +kernel
theorem dX1_bake_2 : decode cX1_bake 2 = .ok (.iload_n 1, 1) := by decide +kernel
theorem dX1_bake_3 : decode cX1_bake 3 = .ok (.aload_n 0, 1) := by decide +kernel
theorem dX1_bake_4 : decode cX1_bake 4 = .ok (.getfield 36, 3) := by decide +kernel
theorem dX1_bake_7 : decode cX1_bake 7 = .ok (.if_icmp .ge 25, 3) := by decide +kernel
theorem dX1_bake_10 : decode cX1_bake 10 = .ok (.aload_n 0, 1) := by decide +kernel
theorem dX1_bake_11 : decode cX1_bake 11 = .ok (.getfield 20, 3) := by decide +kernel
theorem dX1_bake_14 : decode cX1_bake 14 = .ok (.iload_n 1, 1) := by decide +kernel
theorem dX1_bake_15 : decode cX1_bake 15 = .ok (.aaload, 1) := by decide +kernel
theorem dX1_bake_16 : decode cX1_bake 16 = .ok (.iconst 1, 1) := by decide +kernel
theorem dX1_bake_17 : decode cX1_bake 17 = .ok (.dup2, 1) := by decide +kernel
theorem dX1_bake_18 : decode cX1_bake 18 = .ok (.iaload, 1) := by decide +kernel
theorem dX1_bake_19 : decode cX1_bake 19 = .ok (.aload_n 0, 1) := by decide +kernel
theorem dX1_bake_20 : decode cX1_bake 20 = .ok (.iload_n 1, 1) := by decide +kernel
theorem dX1_bake_21 : decode cX1_bake 21 = .ok (.invokevirtual 67, 3) := by decide +kernel
theorem dX1_bake_24 : decode cX1_bake 24 = .ok (.isub, 1) := by decide +kernel
theorem dX1_bake_25 : decode cX1_bake 25 = .ok (.iastore, 1) := by decide +kernel
theorem dX1_bake_26 : decode cX1_bake 26 = .ok (.iinc 1 1, 3) := by decide +kernel
theorem dX1_bake_29 : decode cX1_bake 29 = .ok (.goto (-27), 3) := by decide +kernel
theorem dX1_bake_32 : decode cX1_bake 32 = .ok (.aload_n 0, 1) := by decide +kernel
theorem dX1_bake_33 : decode cX1_bake 33 = .ok (.dup, 1) := by decide +kernel
theorem dX1_bake_34 : decode cX1_bake 34 = .ok (.getfield 48, 3) := by decide +kernel
theorem dX1_bake_37 : decode cX1_bake 37 = .ok (.iconst 1, 1) := by decide +kernel
theorem dX1_bake_38 : decode cX1_bake 38 = .ok (.iadd, 1) := by decide +kernel
theorem dX1_bake_39 : decode cX1_bake 39 = .ok (.putfield 48, 3) := by decide +kernel
theorem dX1_bake_42 : decode cX1_bake 42 = .ok (.return_, 1) := by decide +kernel
noncomputable def qX1_bake_1 : Bx := (bc clt (il 1) (fgi 1 0 (rl 0)))
noncomputable def wX1_bake_1 : Sx := (sseq (aoi (· - ·) (rald 12 (fgr 1 9 (rl 0)) (il 1)) (ik 1) (cvi 1 DX1_fromWalls (rl 0) (ai (il 1) anil))) (sinc 1 1))
noncomputable def EX1_bake : Sx := (sseq (sseq (scut 1 (sseq (ssi 1 (ik 0)) (swh qX1_bake_1 wX1_bake_1))) (foi (· + ·) 1 4 (rl 0) (ik 1))) sretv)
noncomputable def DX1_bake : Fu := mfv 2 EX1_bake
set_option maxRecDepth 4000 in
theorem BX1_bake : Vs RX1 cX1_bake 2 (rmk 1 21) 0 0 EX1_bake := (v_seq (v_seq (v_cut (n := 1) (v_seq (v_istore_n (i := 1) (v_iconst (v := 0) dX1_bake_0 (by decide) (rfl : 0 + 1 = 1)) dX1_bake_1 rfl (by decide) (rfl : 1 + 1 = 2)) (v_wh (v_ilt_f (v_iload_n (i := 1) dX1_bake_2 rfl (rfl : 2 + 1 = 3)) (v_gfi kX1 lk122 (by decide) rfl (v_aload_n (i := 0) dX1_bake_3 rfl (rfl : 3 + 1 = 4)) dX1_bake_4 (rfl : 4 + 3 = 7)) dX1_bake_7 (rfl : ((7 : Nat) : Int) + 25 = ((32 : Nat) : Int)) (rfl : 7 + 3 = 10)) (vs_goto (v_seq (v_aoi_isub (v_rald (q := 12) (t0 := 4) (ty0 := .array .int) ⟨by decide, by decide⟩ (fun _ => rfl) rfl (v_gfr kX1 lk151 (by decide) rfl (v_aload_n (i := 0) dX1_bake_10 rfl (rfl : 10 + 1 = 11)) dX1_bake_11 (rfl : 11 + 3 = 14)) (v_iload_n (i := 1) dX1_bake_14 rfl (rfl : 14 + 1 = 15)) dX1_bake_15 (rfl : 15 + 1 = 16)) (v_iconst (v := 1) dX1_bake_16 (by decide) (rfl : 16 + 1 = 17)) dX1_bake_17 dX1_bake_18 (rfl : 17 + 1 + 1 = 19) (v_cvi kX1 IX1_fromWalls hX1_fromWalls lk564 ⟨by decide, by decide⟩ (by decide) (v_aload_n (i := 0) dX1_bake_19 rfl (rfl : 19 + 1 = 20)) (v_ai (v_iload_n (i := 1) dX1_bake_20 rfl (rfl : 20 + 1 = 21)) v_anil) dX1_bake_21 (rfl : 21 + 3 = 24)) dX1_bake_24 dX1_bake_25 (rfl : 24 + 1 + 1 = 26)) (v_iinc (v := 1) dX1_bake_26 (by decide) (by decide) (rfl : 26 + 3 = 29))) dX1_bake_29 (rfl : ((29 : Nat) : Int) + (-27) = ((2 : Nat) : Int)))))) (v_foi_iadd kX1 lk140 (by decide) rfl rfl (by decide +kernel) (v_aload_n (i := 0) dX1_bake_32 rfl (rfl : 32 + 1 = 33)) dX1_bake_33 dX1_bake_34 (rfl : 33 + 1 + 3 = 37) (v_iconst (v := 1) dX1_bake_37 (by decide) (rfl : 37 + 1 = 38)) dX1_bake_38 dX1_bake_39 (rfl : 38 + 1 + 3 = 42))) (v_retv dX1_bake_42))
theorem IX1_bake : Mv yX1_bake cX1_bake 2 (rmk 1 21) DX1_bake := mk_v (by decide +kernel) BX1_bake

theorem dX1_copyRows_0 : decode cX1_copyRows 0 = .ok (.iconst 0, 1) := by decide +kernel
theorem dX1_copyRows_1 : decode cX1_copyRows 1 = .ok (.istore_n 3, 1) := by decide +kernel
theorem dX1_copyRows_2 : decode cX1_copyRows 2 = .ok (.iload_n 3, 1) := by decide +kernel
theorem dX1_copyRows_3 : decode cX1_copyRows 3 = .ok (.aload_n 0, 1) := by decide +kernel
theorem dX1_copyRows_4 : decode cX1_copyRows 4 = .ok (.arraylength, 1) := by decide +kernel
theorem dX1_copyRows_5 : decode cX1_copyRows 5 = .ok (.if_icmp .ge 27, 3) := by decide +kernel
theorem dX1_copyRows_8 : decode cX1_copyRows 8 = .ok (.iload_n 3, 1) := by decide +kernel
theorem dX1_copyRows_9 : decode cX1_copyRows 9 = .ok (.aload_n 1, 1) := by decide +kernel
theorem dX1_copyRows_10 : decode cX1_copyRows 10 = .ok (.arraylength, 1) := by decide +kernel
theorem dX1_copyRows_11 : decode cX1_copyRows 11 = .ok (.if_icmp .ge 21, 3) := by decide +kernel
theorem dX1_copyRows_14 : decode cX1_copyRows 14 = .ok (.aload_n 0, 1) := by decide +kernel
theorem dX1_copyRows_15 : decode cX1_copyRows 15 = .ok (.iload_n 3, 1) := by decide +kernel
theorem dX1_copyRows_16 : decode cX1_copyRows 16 = .ok (.aaload, 1) := by decide +kernel
theorem dX1_copyRows_17 : decode cX1_copyRows 17 = .ok (.iconst 0, 1) := by decide +kernel
theorem dX1_copyRows_18 : decode cX1_copyRows 18 = .ok (.aload_n 1, 1) := by decide +kernel
theorem dX1_copyRows_19 : decode cX1_copyRows 19 = .ok (.iload_n 3, 1) := by decide +kernel
theorem dX1_copyRows_20 : decode cX1_copyRows 20 = .ok (.aaload, 1) := by decide +kernel
theorem dX1_copyRows_21 : decode cX1_copyRows 21 = .ok (.iconst 0, 1) := by decide +kernel
theorem dX1_copyRows_22 : decode cX1_copyRows 22 = .ok (.iload_n 2, 1) := by decide +kernel
theorem dX1_copyRows_23 : decode cX1_copyRows 23 = .ok (.invokestatic 61, 3) := by decide +kernel
theorem dX1_copyRows_26 : decode cX1_copyRows 26 = .ok (.iinc 3 1, 3) := by decide +kernel
theorem dX1_copyRows_29 : decode cX1_copyRows 29 = .ok (.goto (-27), 3) := by decide +kernel
theorem dX1_copyRows_32 : decode cX1_copyRows 32 = .ok (.return_, 1) := by decide +kernel
noncomputable def qX1_copyRows_1 : Bx := (band (bc clt (il 3) (alen 12 (rl 0))) (bc clt (il 3) (alen 12 (rl 1))))
noncomputable def wX1_copyRows_1 : Sx := (sseq (scopy (rald 12 (rl 0) (il 3)) (ik 0) (rald 12 (rl 1) (il 3)) (ik 0) (il 2)) (sinc 3 1))
noncomputable def EX1_copyRows : Sx := (sseq (scut 3 (sseq (ssi 3 (ik 0)) (swh qX1_copyRows_1 wX1_copyRows_1))) sretv)
noncomputable def DX1_copyRows : Fu := mfv 4 EX1_copyRows
set_option maxRecDepth 4000 in
theorem BX1_copyRows : Vs RX1 cX1_copyRows 4 (rmk 1 40) 0 0 EX1_copyRows := (v_seq (v_cut (n := 3) (v_seq (v_istore_n (i := 3) (v_iconst (v := 0) dX1_copyRows_0 (by decide) (rfl : 0 + 1 = 1)) dX1_copyRows_1 rfl (by decide) (rfl : 1 + 1 = 2)) (v_wh (v_and (v_ilt_f (v_iload_n (i := 3) dX1_copyRows_2 rfl (rfl : 2 + 1 = 3)) (v_alen (q := 12) (t0 := 4) (ty0 := .array .int) ⟨by decide, by decide⟩ (fun _ => rfl) (v_aload_n (i := 0) dX1_copyRows_3 rfl (rfl : 3 + 1 = 4)) dX1_copyRows_4 (rfl : 4 + 1 = 5)) dX1_copyRows_5 (rfl : ((5 : Nat) : Int) + 27 = ((32 : Nat) : Int)) (rfl : 5 + 3 = 8)) (v_ilt_f (v_iload_n (i := 3) dX1_copyRows_8 rfl (rfl : 8 + 1 = 9)) (v_alen (q := 12) (t0 := 4) (ty0 := .array .int) ⟨by decide, by decide⟩ (fun _ => rfl) (v_aload_n (i := 1) dX1_copyRows_9 rfl (rfl : 9 + 1 = 10)) dX1_copyRows_10 (rfl : 10 + 1 = 11)) dX1_copyRows_11 (rfl : ((11 : Nat) : Int) + 21 = ((32 : Nat) : Int)) (rfl : 11 + 3 = 14))) (vs_goto (v_seq (v_scopy lk414 lkNat lkNatS lkSys ⟨by decide, by decide⟩ (v_rald (q := 12) (t0 := 4) (ty0 := .array .int) ⟨by decide, by decide⟩ (fun _ => rfl) rfl (v_aload_n (i := 0) dX1_copyRows_14 rfl (rfl : 14 + 1 = 15)) (v_iload_n (i := 3) dX1_copyRows_15 rfl (rfl : 15 + 1 = 16)) dX1_copyRows_16 (rfl : 16 + 1 = 17)) (v_iconst (v := 0) dX1_copyRows_17 (by decide) (rfl : 17 + 1 = 18)) (v_rald (q := 12) (t0 := 4) (ty0 := .array .int) ⟨by decide, by decide⟩ (fun _ => rfl) rfl (v_aload_n (i := 1) dX1_copyRows_18 rfl (rfl : 18 + 1 = 19)) (v_iload_n (i := 3) dX1_copyRows_19 rfl (rfl : 19 + 1 = 20)) dX1_copyRows_20 (rfl : 20 + 1 = 21)) (v_iconst (v := 0) dX1_copyRows_21 (by decide) (rfl : 21 + 1 = 22)) (v_iload_n (i := 2) dX1_copyRows_22 rfl (rfl : 22 + 1 = 23)) dX1_copyRows_23 (rfl : 23 + 3 = 26)) (v_iinc (v := 1) dX1_copyRows_26 (by decide) (by decide) (rfl : 26 + 3 = 29))) dX1_copyRows_29 (rfl : ((29 : Nat) : Int) + (-27) = ((2 : Nat) : Int)))))) (v_retv dX1_copyRows_32))
theorem IX1_copyRows : Mv yX1_copyRows cX1_copyRows 4 (rmk 1 40) DX1_copyRows := mk_v (by decide +kernel) BX1_copyRows

theorem dX1_copyFrom_0 : decode cX1_copyFrom 0 = .ok (.aload_n 0, 1) := by decide +kernel
theorem dX1_copyFrom_1 : decode cX1_copyFrom 1 = .ok (.aload_n 1, 1) := by decide +kernel
theorem dX1_copyFrom_2 : decode cX1_copyFrom 2 = .ok (.getfield 36, 3) := by decide +kernel
theorem dX1_copyFrom_5 : decode cX1_copyFrom 5 = .ok (.putfield 36, 3) := by decide +kernel
theorem dX1_copyFrom_8 : decode cX1_copyFrom 8 = .ok (.aload_n 0, 1) := by decide +kernel
theorem dX1_copyFrom_9 : decode cX1_copyFrom 9 = .ok (.aload_n 1, 1) := by decide +kernel
theorem dX1_copyFrom_10 : decode cX1_copyFrom 10 = .ok (.getfield 39, 3) := by decide +kernel
theorem dX1_copyFrom_13 : decode cX1_copyFrom 13 = .ok (.putfield 39, 3) := by decide +kernel
theorem dX1_copyFrom_16 : decode cX1_copyFrom 16 = .ok (.aload_n 0, 1) := by decide +kernel
theorem dX1_copyFrom_17 : decode cX1_copyFrom 17 = .ok (.aload_n 1, 1) := by decide +kernel
theorem dX1_copyFrom_18 : decode cX1_copyFrom 18 = .ok (.getfield 42, 3) := by decide +kernel
theorem dX1_copyFrom_21 : decode cX1_copyFrom 21 = .ok (.putfield 42, 3) := by decide +kernel
theorem dX1_copyFrom_24 : decode cX1_copyFrom 24 = .ok (.aload_n 0, 1) := by decide +kernel
theorem dX1_copyFrom_25 : decode cX1_copyFrom 25 = .ok (.aload_n 1, 1) := by decide +kernel
theorem dX1_copyFrom_26 : decode cX1_copyFrom 26 = .ok (.getfield 45, 3) := by decide +kernel
theorem dX1_copyFrom_29 : decode cX1_copyFrom 29 = .ok (.putfield 45, 3) := by decide +kernel
theorem dX1_copyFrom_32 : decode cX1_copyFrom 32 = .ok (.aload_n 0, 1) := by decide +kernel
theorem dX1_copyFrom_33 : decode cX1_copyFrom 33 = .ok (.aload_n 1, 1) := by decide +kernel
theorem dX1_copyFrom_34 : decode cX1_copyFrom 34 = .ok (.getfield 48, 3) := by decide +kernel
theorem dX1_copyFrom_37 : decode cX1_copyFrom 37 = .ok (.putfield 48, 3) := by decide +kernel
theorem dX1_copyFrom_40 : decode cX1_copyFrom 40 = .ok (.aload_n 0, 1) := by decide +kernel
theorem dX1_copyFrom_41 : decode cX1_copyFrom 41 = .ok (.aload_n 1, 1) := by decide +kernel
theorem dX1_copyFrom_42 : decode cX1_copyFrom 42 = .ok (.getfield 9, 3) := by decide +kernel
theorem dX1_copyFrom_45 : decode cX1_copyFrom 45 = .ok (.putfield 9, 3) := by decide +kernel
theorem dX1_copyFrom_48 : decode cX1_copyFrom 48 = .ok (.aload_n 0, 1) := by decide +kernel
theorem dX1_copyFrom_49 : decode cX1_copyFrom 49 = .ok (.aload_n 1, 1) := by decide +kernel
theorem dX1_copyFrom_50 : decode cX1_copyFrom 50 = .ok (.getfield 51, 3) := by decide +kernel
theorem dX1_copyFrom_53 : decode cX1_copyFrom 53 = .ok (.putfield 51, 3) := by decide +kernel
theorem dX1_copyFrom_56 : decode cX1_copyFrom 56 = .ok (.aload_n 0, 1) := by decide +kernel
theorem dX1_copyFrom_57 : decode cX1_copyFrom 57 = .ok (.aload_n 1, 1) := by decide +kernel
theorem dX1_copyFrom_58 : decode cX1_copyFrom 58 = .ok (.getfield 15, 3) := by decide +kernel
theorem dX1_copyFrom_61 : decode cX1_copyFrom 61 = .ok (.putfield 15, 3) := by decide +kernel
theorem dX1_copyFrom_64 : decode cX1_copyFrom 64 = .ok (.aload_n 0, 1) := by decide +kernel
theorem dX1_copyFrom_65 : decode cX1_copyFrom 65 = .ok (.aload_n 1, 1) := by decide +kernel
theorem dX1_copyFrom_66 : decode cX1_copyFrom 66 = .ok (.getfield 54, 3) := by decide +kernel
theorem dX1_copyFrom_69 : decode cX1_copyFrom 69 = .ok (.putfield 54, 3) := by decide +kernel
theorem dX1_copyFrom_72 : decode cX1_copyFrom 72 = .ok (.aload_n 1, 1) := by decide +kernel
theorem dX1_copyFrom_73 : decode cX1_copyFrom 73 = .ok (.getfield 20, 3) := by decide +kernel
theorem dX1_copyFrom_76 : decode cX1_copyFrom 76 = .ok (.aload_n 0, 1) := by decide +kernel
theorem dX1_copyFrom_77 : decode cX1_copyFrom 77 = .ok (.getfield 20, 3) := by decide +kernel
theorem dX1_copyFrom_80 : decode cX1_copyFrom 80 = .ok (.iconst 4, 1) := by decide +kernel
theorem dX1_copyFrom_81 : decode cX1_copyFrom 81 = .ok (.invokestatic 57, 3) := by decide +kernel
theorem dX1_copyFrom_84 : decode cX1_copyFrom 84 = .ok (.aload_n 1, 1) := by decide +kernel
theorem dX1_copyFrom_85 : decode cX1_copyFrom 85 = .ok (.getfield 23, 3) := by decide +kernel
theorem dX1_copyFrom_88 : decode cX1_copyFrom 88 = .ok (.aload_n 0, 1) := by decide +kernel
theorem dX1_copyFrom_89 : decode cX1_copyFrom 89 = .ok (.getfield 23, 3) := by decide +kernel
theorem dX1_copyFrom_92 : decode cX1_copyFrom 92 = .ok (.iconst 4, 1) := by decide +kernel
theorem dX1_copyFrom_93 : decode cX1_copyFrom 93 = .ok (.invokestatic 57, 3) := by decide +kernel
theorem dX1_copyFrom_96 : decode cX1_copyFrom 96 = .ok (.aload_n 1, 1) := by decide +kernel
theorem dX1_copyFrom_97 : decode cX1_copyFrom 97 = .ok (.getfield 26, 3) := by decide +kernel
theorem dX1_copyFrom_100 : decode cX1_copyFrom 100 = .ok (.aload_n 0, 1) := by decide +kernel
theorem dX1_copyFrom_101 : decode cX1_copyFrom 101 = .ok (.getfield 26, 3) := by decide +kernel
theorem dX1_copyFrom_104 : decode cX1_copyFrom 104 = .ok (.bipush 9, 2) := by decide +kernel
theorem dX1_copyFrom_106 : decode cX1_copyFrom 106 = .ok (.invokestatic 57, 3) := by decide +kernel
theorem dX1_copyFrom_109 : decode cX1_copyFrom 109 = .ok (.aload_n 1, 1) := by decide +kernel
theorem dX1_copyFrom_110 : decode cX1_copyFrom 110 = .ok (.getfield 29, 3) := by decide +kernel
theorem dX1_copyFrom_113 : decode cX1_copyFrom 113 = .ok (.aload_n 0, 1) := by decide +kernel
theorem dX1_copyFrom_114 : decode cX1_copyFrom 114 = .ok (.getfield 29, 3) := by decide +kernel
theorem dX1_copyFrom_117 : decode cX1_copyFrom 117 = .ok (.bipush 6, 2) := by decide +kernel
theorem dX1_copyFrom_119 : decode cX1_copyFrom 119 = .ok (.invokestatic 57, 3) := by decide +kernel
theorem dX1_copyFrom_122 : decode cX1_copyFrom 122 = .ok (.aload_n 1, 1) := by decide +kernel
theorem dX1_copyFrom_123 : decode cX1_copyFrom 123 = .ok (.getfield 32, 3) := by decide +kernel
theorem dX1_copyFrom_126 : decode cX1_copyFrom 126 = .ok (.iconst 0, 1) := by decide +kernel
theorem dX1_copyFrom_127 : decode cX1_copyFrom 127 = .ok (.aload_n 0, 1) := by decide +kernel
theorem dX1_copyFrom_128 : decode cX1_copyFrom 128 = .ok (.getfield 32, 3) := by decide +kernel
theorem dX1_copyFrom_131 : decode cX1_copyFrom 131 = .ok (.iconst 0, 1) := by decide +kernel
theorem dX1_copyFrom_132 : decode cX1_copyFrom 132 = .ok (.sipush 200, 3) := by decide +kernel
theorem dX1_copyFrom_135 : decode cX1_copyFrom 135 = .ok (.invokestatic 61, 3) := by decide +kernel
theorem dX1_copyFrom_138 : decode cX1_copyFrom 138 = .ok (.return_, 1) := by decide +kernel
noncomputable def EX1_copyFrom : Sx := (sseq (sseq (fpi 1 0 (rl 0) (fgi 1 0 (rl 1))) (sseq (fpi 1 1 (rl 0) (fgi 1 1 (rl 1))) (sseq (fpi 1 2 (rl 0) (fgi 1 2 (rl 1))) (sseq (fpi 1 3 (rl 0) (fgi 1 3 (rl 1))) (sseq (fpi 1 4 (rl 0) (fgi 1 4 (rl 1))) (sseq (fpi 1 5 (rl 0) (fgi 1 5 (rl 1))) (sseq (fpi 1 6 (rl 0) (fgi 1 6 (rl 1))) (sseq (fpi 1 7 (rl 0) (fgi 1 7 (rl 1))) (sseq (fpi 1 8 (rl 0) (fgi 1 8 (rl 1))) (sseq (scs DX1_copyRows (ar (fgr 1 9 (rl 1)) (ar (fgr 1 9 (rl 0)) (ai (ik 4) anil)))) (sseq (scs DX1_copyRows (ar (fgr 1 10 (rl 1)) (ar (fgr 1 10 (rl 0)) (ai (ik 4) anil)))) (sseq (scs DX1_copyRows (ar (fgr 1 11 (rl 1)) (ar (fgr 1 11 (rl 0)) (ai (ik 9) anil)))) (sseq (scs DX1_copyRows (ar (fgr 1 12 (rl 1)) (ar (fgr 1 12 (rl 0)) (ai (ik 6) anil)))) (scopy (fgr 1 13 (rl 1)) (ik 0) (fgr 1 13 (rl 0)) (ik 0) (ik 200))))))))))))))) sretv)
noncomputable def DX1_copyFrom : Fu := mfv 2 EX1_copyFrom
set_option maxRecDepth 4000 in
theorem BX1_copyFrom : Vs RX1 cX1_copyFrom 2 (rmk 2 63) 0 0 EX1_copyFrom := (v_seq (v_seq (v_fpi kX1 lk122 (by decide) rfl rfl (by decide +kernel) (v_aload_n (i := 0) dX1_copyFrom_0 rfl (rfl : 0 + 1 = 1)) (v_gfi kX1 lk122 (by decide) rfl (v_aload_n (i := 1) dX1_copyFrom_1 rfl (rfl : 1 + 1 = 2)) dX1_copyFrom_2 (rfl : 2 + 3 = 5)) dX1_copyFrom_5 (rfl : 5 + 3 = 8)) (v_seq (v_fpi kX1 lk128 (by decide) rfl rfl (by decide +kernel) (v_aload_n (i := 0) dX1_copyFrom_8 rfl (rfl : 8 + 1 = 9)) (v_gfi kX1 lk128 (by decide) rfl (v_aload_n (i := 1) dX1_copyFrom_9 rfl (rfl : 9 + 1 = 10)) dX1_copyFrom_10 (rfl : 10 + 3 = 13)) dX1_copyFrom_13 (rfl : 13 + 3 = 16)) (v_seq (v_fpi kX1 lk133 (by decide) rfl rfl (by decide +kernel) (v_aload_n (i := 0) dX1_copyFrom_16 rfl (rfl : 16 + 1 = 17)) (v_gfi kX1 lk133 (by decide) rfl (v_aload_n (i := 1) dX1_copyFrom_17 rfl (rfl : 17 + 1 = 18)) dX1_copyFrom_18 (rfl : 18 + 3 = 21)) dX1_copyFrom_21 (rfl : 21 + 3 = 24)) (v_seq (v_fpi kX1 lk137 (by decide) rfl rfl (by decide +kernel) (v_aload_n (i := 0) dX1_copyFrom_24 rfl (rfl : 24 + 1 = 25)) (v_gfi kX1 lk137 (by decide) rfl (v_aload_n (i := 1) dX1_copyFrom_25 rfl (rfl : 25 + 1 = 26)) dX1_copyFrom_26 (rfl : 26 + 3 = 29)) dX1_copyFrom_29 (rfl : 29 + 3 = 32)) (v_seq (v_fpi kX1 lk140 (by decide) rfl rfl (by decide +kernel) (v_aload_n (i := 0) dX1_copyFrom_32 rfl (rfl : 32 + 1 = 33)) (v_gfi kX1 lk140 (by decide) rfl (v_aload_n (i := 1) dX1_copyFrom_33 rfl (rfl : 33 + 1 = 34)) dX1_copyFrom_34 (rfl : 34 + 3 = 37)) dX1_copyFrom_37 (rfl : 37 + 3 = 40)) (v_seq (v_fpi kX1 lk143 (by decide) rfl rfl (by decide +kernel) (v_aload_n (i := 0) dX1_copyFrom_40 rfl (rfl : 40 + 1 = 41)) (v_gfi kX1 lk143 (by decide) rfl (v_aload_n (i := 1) dX1_copyFrom_41 rfl (rfl : 41 + 1 = 42)) dX1_copyFrom_42 (rfl : 42 + 3 = 45)) dX1_copyFrom_45 (rfl : 45 + 3 = 48)) (v_seq (v_fpi kX1 lk145 (by decide) rfl rfl (by decide +kernel) (v_aload_n (i := 0) dX1_copyFrom_48 rfl (rfl : 48 + 1 = 49)) (v_gfi kX1 lk145 (by decide) rfl (v_aload_n (i := 1) dX1_copyFrom_49 rfl (rfl : 49 + 1 = 50)) dX1_copyFrom_50 (rfl : 50 + 3 = 53)) dX1_copyFrom_53 (rfl : 53 + 3 = 56)) (v_seq (v_fpi kX1 lk147 (by decide) rfl rfl (by decide +kernel) (v_aload_n (i := 0) dX1_copyFrom_56 rfl (rfl : 56 + 1 = 57)) (v_gfi kX1 lk147 (by decide) rfl (v_aload_n (i := 1) dX1_copyFrom_57 rfl (rfl : 57 + 1 = 58)) dX1_copyFrom_58 (rfl : 58 + 3 = 61)) dX1_copyFrom_61 (rfl : 61 + 3 = 64)) (v_seq (v_fpi kX1 lk149 (by decide) rfl rfl (by decide +kernel) (v_aload_n (i := 0) dX1_copyFrom_64 rfl (rfl : 64 + 1 = 65)) (v_gfi kX1 lk149 (by decide) rfl (v_aload_n (i := 1) dX1_copyFrom_65 rfl (rfl : 65 + 1 = 66)) dX1_copyFrom_66 (rfl : 66 + 3 = 69)) dX1_copyFrom_69 (rfl : 69 + 3 = 72)) (v_seq (v_scs IX1_copyRows hX1_copyRows lk411 ⟨by decide, by decide⟩ (v_ar (v_gfr kX1 lk151 (by decide) rfl (v_aload_n (i := 1) dX1_copyFrom_72 rfl (rfl : 72 + 1 = 73)) dX1_copyFrom_73 (rfl : 73 + 3 = 76)) (v_ar (v_gfr kX1 lk151 (by decide) rfl (v_aload_n (i := 0) dX1_copyFrom_76 rfl (rfl : 76 + 1 = 77)) dX1_copyFrom_77 (rfl : 77 + 3 = 80)) (v_ai (v_iconst (v := 4) dX1_copyFrom_80 (by decide) (rfl : 80 + 1 = 81)) v_anil))) dX1_copyFrom_81 (rfl : 81 + 3 = 84)) (v_seq (v_scs IX1_copyRows hX1_copyRows lk411 ⟨by decide, by decide⟩ (v_ar (v_gfr kX1 lk154 (by decide) rfl (v_aload_n (i := 1) dX1_copyFrom_84 rfl (rfl : 84 + 1 = 85)) dX1_copyFrom_85 (rfl : 85 + 3 = 88)) (v_ar (v_gfr kX1 lk154 (by decide) rfl (v_aload_n (i := 0) dX1_copyFrom_88 rfl (rfl : 88 + 1 = 89)) dX1_copyFrom_89 (rfl : 89 + 3 = 92)) (v_ai (v_iconst (v := 4) dX1_copyFrom_92 (by decide) (rfl : 92 + 1 = 93)) v_anil))) dX1_copyFrom_93 (rfl : 93 + 3 = 96)) (v_seq (v_scs IX1_copyRows hX1_copyRows lk411 ⟨by decide, by decide⟩ (v_ar (v_gfr kX1 lk158 (by decide) rfl (v_aload_n (i := 1) dX1_copyFrom_96 rfl (rfl : 96 + 1 = 97)) dX1_copyFrom_97 (rfl : 97 + 3 = 100)) (v_ar (v_gfr kX1 lk158 (by decide) rfl (v_aload_n (i := 0) dX1_copyFrom_100 rfl (rfl : 100 + 1 = 101)) dX1_copyFrom_101 (rfl : 101 + 3 = 104)) (v_ai (v_bipush (v := 9) dX1_copyFrom_104 (by decide) (rfl : 104 + 2 = 106)) v_anil))) dX1_copyFrom_106 (rfl : 106 + 3 = 109)) (v_seq (v_scs IX1_copyRows hX1_copyRows lk411 ⟨by decide, by decide⟩ (v_ar (v_gfr kX1 lk162 (by decide) rfl (v_aload_n (i := 1) dX1_copyFrom_109 rfl (rfl : 109 + 1 = 110)) dX1_copyFrom_110 (rfl : 110 + 3 = 113)) (v_ar (v_gfr kX1 lk162 (by decide) rfl (v_aload_n (i := 0) dX1_copyFrom_113 rfl (rfl : 113 + 1 = 114)) dX1_copyFrom_114 (rfl : 114 + 3 = 117)) (v_ai (v_bipush (v := 6) dX1_copyFrom_117 (by decide) (rfl : 117 + 2 = 119)) v_anil))) dX1_copyFrom_119 (rfl : 119 + 3 = 122)) (v_scopy lk414 lkNat lkNatS lkSys ⟨by decide, by decide⟩ (v_gfr kX1 lk165 (by decide) rfl (v_aload_n (i := 1) dX1_copyFrom_122 rfl (rfl : 122 + 1 = 123)) dX1_copyFrom_123 (rfl : 123 + 3 = 126)) (v_iconst (v := 0) dX1_copyFrom_126 (by decide) (rfl : 126 + 1 = 127)) (v_gfr kX1 lk165 (by decide) rfl (v_aload_n (i := 0) dX1_copyFrom_127 rfl (rfl : 127 + 1 = 128)) dX1_copyFrom_128 (rfl : 128 + 3 = 131)) (v_iconst (v := 0) dX1_copyFrom_131 (by decide) (rfl : 131 + 1 = 132)) (v_sipush (v := 200) dX1_copyFrom_132 (by decide) (rfl : 132 + 3 = 135)) dX1_copyFrom_135 (rfl : 135 + 3 = 138))))))))))))))) (v_retv dX1_copyFrom_138))
theorem IX1_copyFrom : Mv yX1_copyFrom cX1_copyFrom 2 (rmk 2 63) DX1_copyFrom := mk_v (by decide +kernel) BX1_copyFrom

theorem dX1_flip_0 : decode cX1_flip 0 = .ok (.aload_n 1, 1) := by decide +kernel
theorem dX1_flip_1 : decode cX1_flip 1 = .ok (.iload_n 2, 1) := by decide +kernel
theorem dX1_flip_2 : decode cX1_flip 2 = .ok (.iconst 1, 1) := by decide +kernel
theorem dX1_flip_3 : decode cX1_flip 3 = .ok (.aload_n 1, 1) := by decide +kernel
theorem dX1_flip_4 : decode cX1_flip 4 = .ok (.iload_n 2, 1) := by decide +kernel
theorem dX1_flip_5 : decode cX1_flip 5 = .ok (.iaload, 1) := by decide +kernel
theorem dX1_flip_6 : decode cX1_flip 6 = .ok (.isub, 1) := by decide +kernel
theorem dX1_flip_7 : decode cX1_flip 7 = .ok (.iastore, 1) := by decide +kernel
theorem dX1_flip_8 : decode cX1_flip 8 = .ok (.aload_n 1, 1) := by decide +kernel
theorem dX1_flip_9 : decode cX1_flip 9 = .ok (.iload_n 2, 1) := by decide +kernel
theorem dX1_flip_10 : decode cX1_flip 10 = .ok (.iaload, 1) := by decide +kernel
theorem dX1_flip_11 : decode cX1_flip 11 = .ok (.ireturn, 1) := by decide +kernel
noncomputable def EX1_flip : Sx := (sseq (aii (rl 1) (il 2) (i2 (· - ·) (ik 1) (iald (rl 1) (il 2)))) (sret (iald (rl 1) (il 2))))
noncomputable def DX1_flip : Fi := mfi 3 EX1_flip
set_option maxRecDepth 4000 in
theorem BX1_flip : Vs RX1 cX1_flip 3 (rmk 0 0) 0 0 EX1_flip := (v_seq (v_aii (v_aload_n (i := 1) dX1_flip_0 rfl (rfl : 0 + 1 = 1)) (v_iload_n (i := 2) dX1_flip_1 rfl (rfl : 1 + 1 = 2)) (v_isub (v_iconst (v := 1) dX1_flip_2 (by decide) (rfl : 2 + 1 = 3)) (v_iald (v_aload_n (i := 1) dX1_flip_3 rfl (rfl : 3 + 1 = 4)) (v_iload_n (i := 2) dX1_flip_4 rfl (rfl : 4 + 1 = 5)) dX1_flip_5 (rfl : 5 + 1 = 6)) dX1_flip_6 (rfl : 6 + 1 = 7)) dX1_flip_7 (rfl : 7 + 1 = 8)) (v_ret (v_iald (v_aload_n (i := 1) dX1_flip_8 rfl (rfl : 8 + 1 = 9)) (v_iload_n (i := 2) dX1_flip_9 rfl (rfl : 9 + 1 = 10)) dX1_flip_10 (rfl : 10 + 1 = 11)) dX1_flip_11))
theorem IX1_flip : Mi yX1_flip cX1_flip 3 (rmk 0 0) DX1_flip := mk_i (by decide +kernel) BX1_flip

theorem dX1_hang_0 : decode cX1_hang 0 = .ok (.aload_n 0, 1) := by decide +kernel
theorem dX1_hang_1 : decode cX1_hang 1 = .ok (.iload_n 1, 1) := by decide +kernel
theorem dX1_hang_2 : decode cX1_hang 2 = .ok (.invokevirtual 80, 3) := by decide +kernel
theorem dX1_hang_5 : decode cX1_hang 5 = .ok (.iload_n 2, 1) := by decide +kernel
theorem dX1_hang_6 : decode cX1_hang 6 = .ok (.ishr, 1) := by decide +kernel
theorem dX1_hang_7 : decode cX1_hang 7 = .ok (.iconst 1, 1) := by decide +kernel
theorem dX1_hang_8 : decode cX1_hang 8 = .ok (.iand, 1) := by decide +kernel
theorem dX1_hang_9 : decode cX1_hang 9 = .ok (.ifCond .eq 7, 3) := by decide +kernel
theorem dX1_hang_12 : decode cX1_hang 12 = .ok (.iconst 1, 1) := by decide +kernel
theorem dX1_hang_13 : decode cX1_hang 13 = .ok (.goto 4, 3) := by decide +kernel
theorem dX1_hang_16 : decode cX1_hang 16 = .ok (.iconst 0, 1) := by decide +kernel
theorem dX1_hang_17 : decode cX1_hang 17 = .ok (.ireturn, 1) := by decide +kernel
noncomputable def EX1_hang : Sx := (sret (ic (bz cne (i2 (· &&& ·) (i2 oshr (cvi 1 DX1_net (rl 0) (ai (il 1) anil)) (il 2)) (ik 1))) (ik 1) (ik 0)))
noncomputable def DX1_hang : Fz := mfz 3 EX1_hang
set_option maxRecDepth 4000 in
theorem BX1_hang : Vs RX1 cX1_hang 3 (rmk 1 25) 0 0 EX1_hang := (v_ret (v_ic (v_zne_f (v_iand (v_ishr (v_cvi kX1 IX1_net hX1_net lk776 ⟨by decide, by decide⟩ (by decide) (v_aload_n (i := 0) dX1_hang_0 rfl (rfl : 0 + 1 = 1)) (v_ai (v_iload_n (i := 1) dX1_hang_1 rfl (rfl : 1 + 1 = 2)) v_anil) dX1_hang_2 (rfl : 2 + 3 = 5)) (v_iload_n (i := 2) dX1_hang_5 rfl (rfl : 5 + 1 = 6)) dX1_hang_6 (rfl : 6 + 1 = 7)) (v_iconst (v := 1) dX1_hang_7 (by decide) (rfl : 7 + 1 = 8)) dX1_hang_8 (rfl : 8 + 1 = 9)) dX1_hang_9 (rfl : ((9 : Nat) : Int) + 7 = ((16 : Nat) : Int)) (rfl : 9 + 3 = 12)) (vi_goto (v_iconst (v := 1) dX1_hang_12 (by decide) (rfl : 12 + 1 = 13)) dX1_hang_13 (rfl : ((13 : Nat) : Int) + 4 = ((17 : Nat) : Int))) (v_iconst (v := 0) dX1_hang_16 (by decide) (rfl : 16 + 1 = 17))) dX1_hang_17)
theorem IX1_hang : Mz yX1_hang cX1_hang 3 (rmk 1 25) DX1_hang := mk_z (by decide +kernel) BX1_hang

theorem dX1_isJoint_0 : decode cX1_isJoint 0 = .ok (.iload_n 1, 1) := by decide +kernel
theorem dX1_isJoint_1 : decode cX1_isJoint 1 = .ok (.ifCond .lt 11, 3) := by decide +kernel
theorem dX1_isJoint_4 : decode cX1_isJoint 4 = .ok (.iload_n 1, 1) := by decide +kernel
theorem dX1_isJoint_5 : decode cX1_isJoint 5 = .ok (.aload_n 0, 1) := by decide +kernel
theorem dX1_isJoint_6 : decode cX1_isJoint 6 = .ok (.getfield 36, 3) := by decide +kernel
theorem dX1_isJoint_9 : decode cX1_isJoint 9 = .ok (.if_icmp .lt 20, 3) := by decide +kernel
theorem dX1_isJoint_12 : decode cX1_isJoint 12 = .ok (.iload_n 1, 1) := by decide +kernel
theorem dX1_isJoint_13 : decode cX1_isJoint 13 = .ok (.bipush 10, 2) := by decide +kernel
theorem dX1_isJoint_15 : decode cX1_isJoint 15 = .ok (.if_icmp .lt 18, 3) := by decide +kernel
theorem dX1_isJoint_18 : decode cX1_isJoint 18 = .ok (.iload_n 1, 1) := by decide +kernel
theorem dX1_isJoint_19 : decode cX1_isJoint 19 = .ok (.bipush 10, 2) := by decide +kernel
theorem dX1_isJoint_21 : decode cX1_isJoint 21 = .ok (.isub, 1) := by decide +kernel
theorem dX1_isJoint_22 : decode cX1_isJoint 22 = .ok (.aload_n 0, 1) := by decide +kernel
theorem dX1_isJoint_23 : decode cX1_isJoint 23 = .ok (.getfield 39, 3) := by decide +kernel
theorem dX1_isJoint_26 : decode cX1_isJoint 26 = .ok (.if_icmp .ge 7, 3) := by decide +kernel
theorem dX1_isJoint_29 : decode cX1_isJoint 29 = .ok (.iconst 1, 1) := by decide +kernel
theorem dX1_isJoint_30 : decode cX1_isJoint 30 = .ok (.goto 4, 3) := by decide +kernel
theorem dX1_isJoint_33 : decode cX1_isJoint 33 = .ok (.iconst 0, 1) := by decide +kernel
theorem dX1_isJoint_34 : decode cX1_isJoint 34 = .ok (.ireturn, 1) := by decide +kernel
noncomputable def EX1_isJoint : Sx := (sret (ic (bor (band (bz cge (il 1)) (bc clt (il 1) (fgi 1 0 (rl 0)))) (band (bc cge (il 1) (ik 10)) (bc clt (i2 (· - ·) (il 1) (ik 10)) (fgi 1 1 (rl 0))))) (ik 1) (ik 0)))
noncomputable def DX1_isJoint : Fz := mfz 2 EX1_isJoint
set_option maxRecDepth 4000 in
theorem BX1_isJoint : Vs RX1 cX1_isJoint 2 (rmk 0 0) 0 0 EX1_isJoint := (v_ret (v_ic (v_or (v_and (v_zge_f (v_iload_n (i := 1) dX1_isJoint_0 rfl (rfl : 0 + 1 = 1)) dX1_isJoint_1 (rfl : ((1 : Nat) : Int) + 11 = ((12 : Nat) : Int)) (rfl : 1 + 3 = 4)) (v_ilt_t (v_iload_n (i := 1) dX1_isJoint_4 rfl (rfl : 4 + 1 = 5)) (v_gfi kX1 lk122 (by decide) rfl (v_aload_n (i := 0) dX1_isJoint_5 rfl (rfl : 5 + 1 = 6)) dX1_isJoint_6 (rfl : 6 + 3 = 9)) dX1_isJoint_9 (rfl : ((9 : Nat) : Int) + 20 = ((29 : Nat) : Int)) (rfl : 9 + 3 = 12))) (v_and (v_ige_f (v_iload_n (i := 1) dX1_isJoint_12 rfl (rfl : 12 + 1 = 13)) (v_bipush (v := 10) dX1_isJoint_13 (by decide) (rfl : 13 + 2 = 15)) dX1_isJoint_15 (rfl : ((15 : Nat) : Int) + 18 = ((33 : Nat) : Int)) (rfl : 15 + 3 = 18)) (v_ilt_f (v_isub (v_iload_n (i := 1) dX1_isJoint_18 rfl (rfl : 18 + 1 = 19)) (v_bipush (v := 10) dX1_isJoint_19 (by decide) (rfl : 19 + 2 = 21)) dX1_isJoint_21 (rfl : 21 + 1 = 22)) (v_gfi kX1 lk128 (by decide) rfl (v_aload_n (i := 0) dX1_isJoint_22 rfl (rfl : 22 + 1 = 23)) dX1_isJoint_23 (rfl : 23 + 3 = 26)) dX1_isJoint_26 (rfl : ((26 : Nat) : Int) + 7 = ((33 : Nat) : Int)) (rfl : 26 + 3 = 29)))) (vi_goto (v_iconst (v := 1) dX1_isJoint_29 (by decide) (rfl : 29 + 1 = 30)) dX1_isJoint_30 (rfl : ((30 : Nat) : Int) + 4 = ((34 : Nat) : Int))) (v_iconst (v := 0) dX1_isJoint_33 (by decide) (rfl : 33 + 1 = 34))) dX1_isJoint_34)
theorem IX1_isJoint : Mz yX1_isJoint cX1_isJoint 2 (rmk 0 0) DX1_isJoint := mk_z (by decide +kernel) BX1_isJoint

theorem dX1_logPlace_0 : decode cX1_logPlace 0 = .ok (.iload_n 0, 1) := by decide +kernel
theorem dX1_logPlace_1 : decode cX1_logPlace 1 = .ok (.bipush 40, 2) := by decide +kernel
theorem dX1_logPlace_3 : decode cX1_logPlace 3 = .ok (.irem, 1) := by decide +kernel
theorem dX1_logPlace_4 : decode cX1_logPlace 4 = .ok (.iconst 5, 1) := by decide +kernel
theorem dX1_logPlace_5 : decode cX1_logPlace 5 = .ok (.imul, 1) := by decide +kernel
theorem dX1_logPlace_6 : decode cX1_logPlace 6 = .ok (.iload_n 1, 1) := by decide +kernel
theorem dX1_logPlace_7 : decode cX1_logPlace 7 = .ok (.iadd, 1) := by decide +kernel
theorem dX1_logPlace_8 : decode cX1_logPlace 8 = .ok (.ireturn, 1) := by decide +kernel
noncomputable def EX1_logPlace : Sx := (sret (i2 (· + ·) (i2 (· * ·) (i2d orem (il 0) (ik 40)) (ik 5)) (il 1)))
noncomputable def DX1_logPlace : Fi := mfi 2 EX1_logPlace
set_option maxRecDepth 4000 in
theorem BX1_logPlace : Vs RX1 cX1_logPlace 2 (rmk 0 0) 0 0 EX1_logPlace := (v_ret (v_iadd (v_imul (v_irem (v_iload_n (i := 0) dX1_logPlace_0 rfl (rfl : 0 + 1 = 1)) (v_bipush (v := 40) dX1_logPlace_1 (by decide) (rfl : 1 + 2 = 3)) dX1_logPlace_3 (rfl : 3 + 1 = 4)) (v_iconst (v := 5) dX1_logPlace_4 (by decide) (rfl : 4 + 1 = 5)) dX1_logPlace_5 (rfl : 5 + 1 = 6)) (v_iload_n (i := 1) dX1_logPlace_6 rfl (rfl : 6 + 1 = 7)) dX1_logPlace_7 (rfl : 7 + 1 = 8)) dX1_logPlace_8)
theorem IX1_logPlace : Mi yX1_logPlace cX1_logPlace 2 (rmk 0 0) DX1_logPlace := mk_i (by decide +kernel) BX1_logPlace

theorem dX1_logged_0 : decode cX1_logged 0 = .ok (.aload_n 0, 1) := by decide +kernel
theorem dX1_logged_1 : decode cX1_logged 1 = .ok (.getfield 48, 3) := by decide +kernel
theorem dX1_logged_4 : decode cX1_logged 4 = .ok (.bipush 40, 2) := by decide +kernel
theorem dX1_logged_6 : decode cX1_logged 6 = .ok (.invokestatic 88, 3) := by decide +kernel
theorem dX1_logged_9 : decode cX1_logged 9 = .ok (.ireturn, 1) := by decide +kernel
noncomputable def EX1_logged : Sx := (sret (i2 mni (fgi 1 4 (rl 0)) (ik 40)))
noncomputable def DX1_logged : Fi := mfi 1 EX1_logged
set_option maxRecDepth 4000 in
theorem BX1_logged : Vs RX1 cX1_logged 1 (rmk 1 40) 0 0 EX1_logged := (v_ret (v_mni lk951 ma_mni_s lkMath ma_mni_c ⟨by decide, by decide⟩ (v_gfi kX1 lk140 (by decide) rfl (v_aload_n (i := 0) dX1_logged_0 rfl (rfl : 0 + 1 = 1)) dX1_logged_1 (rfl : 1 + 3 = 4)) (v_bipush (v := 40) dX1_logged_4 (by decide) (rfl : 4 + 2 = 6)) dX1_logged_6 (rfl : 6 + 3 = 9)) dX1_logged_9)
theorem IX1_logged : Mi yX1_logged cX1_logged 1 (rmk 1 40) DX1_logged := mk_i (by decide +kernel) BX1_logged

theorem dX1_nets_0 : decode cX1_nets 0 = .ok (.iconst 0, 1) := by decide +kernel
theorem dX1_nets_1 : decode cX1_nets 1 = .ok (.istore_n 1, 1) := by decide +kernel
theorem dX1_nets_2 : decode cX1_nets 2 = .ok (.iconst 0, 1) := by decide +kernel
theorem dX1_nets_3 : decode cX1_nets 3 = .ok (.istore_n 2, 1) := by decide +kernel
theorem dX1_nets_4 : decode cX1_nets 4 = .ok (.iload_n 2, 1) := by decide +kernel
theorem dX1_nets_5 : decode cX1_nets 5 = .ok (.aload_n 0, 1) := by decide +kernel
theorem dX1_nets_6 : decode cX1_nets 6 = .ok (.getfield 36, 3) := by decide +kernel
theorem dX1_nets_9 : decode cX1_nets 9 = .ok (.if_icmp .ge 24, 3) := by decide +kernel
theorem dX1_nets_12 : decode cX1_nets 12 = .ok (.aload_n 0, 1) := by decide +kernel
theorem dX1_nets_13 : decode cX1_nets 13 = .ok (.iload_n 2, 1) := by decide +kernel
theorem dX1_nets_14 : decode cX1_nets 14 = .ok (.invokevirtual 80, 3) := by decide +kernel
theorem dX1_nets_17 : decode cX1_nets 17 = .ok (.invokestatic 83, 3) := by decide +kernel
theorem dX1_nets_20 : decode cX1_nets 20 = .ok (.iload_n 2, 1) := by decide +kernel
theorem dX1_nets_21 : decode cX1_nets 21 = .ok (.if_icmp .ne 6, 3) := by decide +kernel
theorem dX1_nets_24 : decode cX1_nets 24 = .ok (.iinc 1 1, 3) := by decide +kernel
theorem dX1_nets_27 : decode cX1_nets 27 = .ok (.iinc 2 1, 3) := by decide +kernel
theorem dX1_nets_30 : decode cX1_nets 30 = .ok (.goto (-26), 3) := by decide +kernel
theorem dX1_nets_33 : decode cX1_nets 33 = .ok (.iload_n 1, 1) := by decide +kernel
theorem dX1_nets_34 : decode cX1_nets 34 = .ok (.ireturn, 1) := by decide +kernel
noncomputable def qX1_nets_1 : Bx := (bc clt (il 2) (fgi 1 0 (rl 0)))
noncomputable def wX1_nets_1 : Sx := (sseq (sif (bc ceq (csi DJ6_numberOfTrailingZeros_0f7a4 (ai (cvi 1 DX1_net (rl 0) (ai (il 2) anil)) anil)) (il 2)) (sinc 1 1) snop) (sinc 2 1))
noncomputable def EX1_nets : Sx := (sseq (ssi 1 (ik 0)) (sseq (scut 2 (sseq (ssi 2 (ik 0)) (swh qX1_nets_1 wX1_nets_1))) (sret (il 1))))
noncomputable def DX1_nets : Fi := mfi 3 EX1_nets
set_option maxRecDepth 4000 in
theorem BX1_nets : Vs RX1 cX1_nets 3 (rmk 1 25) 0 0 EX1_nets := (v_seq (v_istore_n (i := 1) (v_iconst (v := 0) dX1_nets_0 (by decide) (rfl : 0 + 1 = 1)) dX1_nets_1 rfl (by decide) (rfl : 1 + 1 = 2)) (v_seq (v_cut (n := 2) (v_seq (v_istore_n (i := 2) (v_iconst (v := 0) dX1_nets_2 (by decide) (rfl : 2 + 1 = 3)) dX1_nets_3 rfl (by decide) (rfl : 3 + 1 = 4)) (v_wh (v_ilt_f (v_iload_n (i := 2) dX1_nets_4 rfl (rfl : 4 + 1 = 5)) (v_gfi kX1 lk122 (by decide) rfl (v_aload_n (i := 0) dX1_nets_5 rfl (rfl : 5 + 1 = 6)) dX1_nets_6 (rfl : 6 + 3 = 9)) dX1_nets_9 (rfl : ((9 : Nat) : Int) + 24 = ((33 : Nat) : Int)) (rfl : 9 + 3 = 12)) (vs_goto (v_seq (v_if (v_ieq_f (v_csi IJ6_numberOfTrailingZeros_0f7a4 hJ6_numberOfTrailingZeros_0f7a4 lk980 ⟨by decide, by decide⟩ (by decide) (v_ai (v_cvi kX1 IX1_net hX1_net lk776 ⟨by decide, by decide⟩ (by decide) (v_aload_n (i := 0) dX1_nets_12 rfl (rfl : 12 + 1 = 13)) (v_ai (v_iload_n (i := 2) dX1_nets_13 rfl (rfl : 13 + 1 = 14)) v_anil) dX1_nets_14 (rfl : 14 + 3 = 17)) v_anil) dX1_nets_17 (rfl : 17 + 3 = 20)) (v_iload_n (i := 2) dX1_nets_20 rfl (rfl : 20 + 1 = 21)) dX1_nets_21 (rfl : ((21 : Nat) : Int) + 6 = ((27 : Nat) : Int)) (rfl : 21 + 3 = 24)) (v_iinc (v := 1) dX1_nets_24 (by decide) (by decide) (rfl : 24 + 3 = 27)) v_nop) (v_iinc (v := 1) dX1_nets_27 (by decide) (by decide) (rfl : 27 + 3 = 30))) dX1_nets_30 (rfl : ((30 : Nat) : Int) + (-26) = ((4 : Nat) : Int)))))) (v_ret (v_iload_n (i := 1) dX1_nets_33 rfl (rfl : 33 + 1 = 34)) dX1_nets_34)))
theorem IX1_nets : Mi yX1_nets cX1_nets 3 (rmk 1 25) DX1_nets := mk_i (by decide +kernel) BX1_nets

theorem dX1_notes_0 : decode cX1_notes 0 = .ok (.iconst 0, 1) := by decide +kernel
theorem dX1_notes_1 : decode cX1_notes 1 = .ok (.istore_n 1, 1) := by decide +kernel
theorem dX1_notes_2 : decode cX1_notes 2 = .ok (.iconst 0, 1) := by decide +kernel
theorem dX1_notes_3 : decode cX1_notes 3 = .ok (.istore_n 2, 1) := by decide +kernel
theorem dX1_notes_4 : decode cX1_notes 4 = .ok (.iload_n 2, 1) := by decide +kernel
theorem dX1_notes_5 : decode cX1_notes 5 = .ok (.aload_n 0, 1) := by decide +kernel
theorem dX1_notes_6 : decode cX1_notes 6 = .ok (.getfield 36, 3) := by decide +kernel
theorem dX1_notes_9 : decode cX1_notes 9 = .ok (.if_icmp .ge 24, 3) := by decide +kernel
theorem dX1_notes_12 : decode cX1_notes 12 = .ok (.aload_n 0, 1) := by decide +kernel
theorem dX1_notes_13 : decode cX1_notes 13 = .ok (.getfield 20, 3) := by decide +kernel
theorem dX1_notes_16 : decode cX1_notes 16 = .ok (.iload_n 2, 1) := by decide +kernel
theorem dX1_notes_17 : decode cX1_notes 17 = .ok (.aaload, 1) := by decide +kernel
theorem dX1_notes_18 : decode cX1_notes 18 = .ok (.iconst 3, 1) := by decide +kernel
theorem dX1_notes_19 : decode cX1_notes 19 = .ok (.iaload, 1) := by decide +kernel
theorem dX1_notes_20 : decode cX1_notes 20 = .ok (.iconst (-1), 1) := by decide +kernel
theorem dX1_notes_21 : decode cX1_notes 21 = .ok (.if_icmp .eq 6, 3) := by decide +kernel
theorem dX1_notes_24 : decode cX1_notes 24 = .ok (.iinc 1 1, 3) := by decide +kernel
theorem dX1_notes_27 : decode cX1_notes 27 = .ok (.iinc 2 1, 3) := by decide +kernel
theorem dX1_notes_30 : decode cX1_notes 30 = .ok (.goto (-26), 3) := by decide +kernel
theorem dX1_notes_33 : decode cX1_notes 33 = .ok (.iload_n 1, 1) := by decide +kernel
theorem dX1_notes_34 : decode cX1_notes 34 = .ok (.ireturn, 1) := by decide +kernel
noncomputable def qX1_notes_1 : Bx := (bc clt (il 2) (fgi 1 0 (rl 0)))
noncomputable def wX1_notes_1 : Sx := (sseq (sif (bc cne (iald (rald 12 (fgr 1 9 (rl 0)) (il 2)) (ik 3)) (ik (-1))) (sinc 1 1) snop) (sinc 2 1))
noncomputable def EX1_notes : Sx := (sseq (ssi 1 (ik 0)) (sseq (scut 2 (sseq (ssi 2 (ik 0)) (swh qX1_notes_1 wX1_notes_1))) (sret (il 1))))
noncomputable def DX1_notes : Fi := mfi 3 EX1_notes
set_option maxRecDepth 4000 in
theorem BX1_notes : Vs RX1 cX1_notes 3 (rmk 0 0) 0 0 EX1_notes := (v_seq (v_istore_n (i := 1) (v_iconst (v := 0) dX1_notes_0 (by decide) (rfl : 0 + 1 = 1)) dX1_notes_1 rfl (by decide) (rfl : 1 + 1 = 2)) (v_seq (v_cut (n := 2) (v_seq (v_istore_n (i := 2) (v_iconst (v := 0) dX1_notes_2 (by decide) (rfl : 2 + 1 = 3)) dX1_notes_3 rfl (by decide) (rfl : 3 + 1 = 4)) (v_wh (v_ilt_f (v_iload_n (i := 2) dX1_notes_4 rfl (rfl : 4 + 1 = 5)) (v_gfi kX1 lk122 (by decide) rfl (v_aload_n (i := 0) dX1_notes_5 rfl (rfl : 5 + 1 = 6)) dX1_notes_6 (rfl : 6 + 3 = 9)) dX1_notes_9 (rfl : ((9 : Nat) : Int) + 24 = ((33 : Nat) : Int)) (rfl : 9 + 3 = 12)) (vs_goto (v_seq (v_if (v_ine_f (v_iald (v_rald (q := 12) (t0 := 4) (ty0 := .array .int) ⟨by decide, by decide⟩ (fun _ => rfl) rfl (v_gfr kX1 lk151 (by decide) rfl (v_aload_n (i := 0) dX1_notes_12 rfl (rfl : 12 + 1 = 13)) dX1_notes_13 (rfl : 13 + 3 = 16)) (v_iload_n (i := 2) dX1_notes_16 rfl (rfl : 16 + 1 = 17)) dX1_notes_17 (rfl : 17 + 1 = 18)) (v_iconst (v := 3) dX1_notes_18 (by decide) (rfl : 18 + 1 = 19)) dX1_notes_19 (rfl : 19 + 1 = 20)) (v_iconst (v := (-1)) dX1_notes_20 (by decide) (rfl : 20 + 1 = 21)) dX1_notes_21 (rfl : ((21 : Nat) : Int) + 6 = ((27 : Nat) : Int)) (rfl : 21 + 3 = 24)) (v_iinc (v := 1) dX1_notes_24 (by decide) (by decide) (rfl : 24 + 3 = 27)) v_nop) (v_iinc (v := 1) dX1_notes_27 (by decide) (by decide) (rfl : 27 + 3 = 30))) dX1_notes_30 (rfl : ((30 : Nat) : Int) + (-26) = ((4 : Nat) : Int)))))) (v_ret (v_iload_n (i := 1) dX1_notes_33 rfl (rfl : 33 + 1 = 34)) dX1_notes_34)))
theorem IX1_notes : Mi yX1_notes cX1_notes 3 (rmk 0 0) DX1_notes := mk_i (by decide +kernel) BX1_notes

theorem dX1_putHelper_0 : decode cX1_putHelper 0 = .ok (.aload_n 0, 1) := by decide +kernel
theorem dX1_putHelper_1 : decode cX1_putHelper 1 = .ok (.iload_n 1, 1) := by decide +kernel
theorem dX1_putHelper_2 : decode cX1_putHelper 2 = .ok (.putfield 15, 3) := by decide +kernel
theorem dX1_putHelper_5 : decode cX1_putHelper 5 = .ok (.aload_n 0, 1) := by decide +kernel
theorem dX1_putHelper_6 : decode cX1_putHelper 6 = .ok (.iload_n 2, 1) := by decide +kernel
theorem dX1_putHelper_7 : decode cX1_putHelper 7 = .ok (.putfield 54, 3) := by decide +kernel
theorem dX1_putHelper_10 : decode cX1_putHelper 10 = .ok (.return_, 1) := by decide +kernel
noncomputable def EX1_putHelper : Sx := (sseq (sseq (fpi 1 7 (rl 0) (il 1)) (fpi 1 8 (rl 0) (il 2))) sretv)
noncomputable def DX1_putHelper : Fu := mfv 3 EX1_putHelper
set_option maxRecDepth 4000 in
theorem BX1_putHelper : Vs RX1 cX1_putHelper 3 (rmk 0 0) 0 0 EX1_putHelper := (v_seq (v_seq (v_fpi kX1 lk147 (by decide) rfl rfl (by decide +kernel) (v_aload_n (i := 0) dX1_putHelper_0 rfl (rfl : 0 + 1 = 1)) (v_iload_n (i := 1) dX1_putHelper_1 rfl (rfl : 1 + 1 = 2)) dX1_putHelper_2 (rfl : 2 + 3 = 5)) (v_fpi kX1 lk149 (by decide) rfl rfl (by decide +kernel) (v_aload_n (i := 0) dX1_putHelper_5 rfl (rfl : 5 + 1 = 6)) (v_iload_n (i := 2) dX1_putHelper_6 rfl (rfl : 6 + 1 = 7)) dX1_putHelper_7 (rfl : 7 + 3 = 10))) (v_retv dX1_putHelper_10))
theorem IX1_putHelper : Mv yX1_putHelper cX1_putHelper 3 (rmk 0 0) DX1_putHelper := mk_v (by decide +kernel) BX1_putHelper

theorem dX1_putLeak_0 : decode cX1_putLeak 0 = .ok (.aload_n 0, 1) := by decide +kernel
theorem dX1_putLeak_1 : decode cX1_putLeak 1 = .ok (.iload_n 2, 1) := by decide +kernel
theorem dX1_putLeak_2 : decode cX1_putLeak 2 = .ok (.ifCond .ne 7, 3) := by decide +kernel
theorem dX1_putLeak_5 : decode cX1_putLeak 5 = .ok (.iconst (-1), 1) := by decide +kernel
theorem dX1_putLeak_6 : decode cX1_putLeak 6 = .ok (.goto 4, 3) := by decide +kernel
theorem dX1_putLeak_9 : decode cX1_putLeak 9 = .ok (.iload_n 1, 1) := by decide +kernel
theorem dX1_putLeak_10 : decode cX1_putLeak 10 = .ok (.putfield 9, 3) := by decide +kernel
theorem dX1_putLeak_13 : decode cX1_putLeak 13 = .ok (.aload_n 0, 1) := by decide +kernel
theorem dX1_putLeak_14 : decode cX1_putLeak 14 = .ok (.iload_n 2, 1) := by decide +kernel
theorem dX1_putLeak_15 : decode cX1_putLeak 15 = .ok (.putfield 51, 3) := by decide +kernel
theorem dX1_putLeak_18 : decode cX1_putLeak 18 = .ok (.return_, 1) := by decide +kernel
noncomputable def EX1_putLeak : Sx := (sseq (sseq (fpi 1 5 (rl 0) (ic (bz ceq (il 2)) (ik (-1)) (il 1))) (fpi 1 6 (rl 0) (il 2))) sretv)
noncomputable def DX1_putLeak : Fu := mfv 3 EX1_putLeak
set_option maxRecDepth 4000 in
theorem BX1_putLeak : Vs RX1 cX1_putLeak 3 (rmk 0 0) 0 0 EX1_putLeak := (v_seq (v_seq (v_fpi kX1 lk143 (by decide) rfl rfl (by decide +kernel) (v_aload_n (i := 0) dX1_putLeak_0 rfl (rfl : 0 + 1 = 1)) (v_ic (v_zeq_f (v_iload_n (i := 2) dX1_putLeak_1 rfl (rfl : 1 + 1 = 2)) dX1_putLeak_2 (rfl : ((2 : Nat) : Int) + 7 = ((9 : Nat) : Int)) (rfl : 2 + 3 = 5)) (vi_goto (v_iconst (v := (-1)) dX1_putLeak_5 (by decide) (rfl : 5 + 1 = 6)) dX1_putLeak_6 (rfl : ((6 : Nat) : Int) + 4 = ((10 : Nat) : Int))) (v_iload_n (i := 1) dX1_putLeak_9 rfl (rfl : 9 + 1 = 10))) dX1_putLeak_10 (rfl : 10 + 3 = 13)) (v_fpi kX1 lk145 (by decide) rfl rfl (by decide +kernel) (v_aload_n (i := 0) dX1_putLeak_13 rfl (rfl : 13 + 1 = 14)) (v_iload_n (i := 2) dX1_putLeak_14 rfl (rfl : 14 + 1 = 15)) dX1_putLeak_15 (rfl : 15 + 3 = 18))) (v_retv dX1_putLeak_18))
theorem IX1_putLeak : Mv yX1_putLeak cX1_putLeak 3 (rmk 0 0) DX1_putLeak := mk_v (by decide +kernel) BX1_putLeak

theorem dX1_removeWatch_0 : decode cX1_removeWatch 0 = .ok (.iload_n 1, 1) := by decide +kernel
theorem dX1_removeWatch_1 : decode cX1_removeWatch 1 = .ok (.istore_n 2, 1) := by decide +kernel
theorem dX1_removeWatch_2 : decode cX1_removeWatch 2 = .ok (.iload_n 2, 1) := by decide +kernel
theorem dX1_removeWatch_3 : decode cX1_removeWatch 3 = .ok (.iconst 1, 1) := by decide +kernel
theorem dX1_removeWatch_4 : decode cX1_removeWatch 4 = .ok (.iadd, 1) := by decide +kernel
theorem dX1_removeWatch_5 : decode cX1_removeWatch 5 = .ok (.aload_n 0, 1) := by decide +kernel
theorem dX1_removeWatch_6 : decode cX1_removeWatch 6 = .ok (.getfield 45, 3) := by decide +kernel
theorem dX1_removeWatch_9 : decode cX1_removeWatch 9 = .ok (.if_icmp .ge 30, 3) := by decide +kernel
theorem dX1_removeWatch_12 : decode cX1_removeWatch 12 = .ok (.aload_n 0, 1) := by decide +kernel
theorem dX1_removeWatch_13 : decode cX1_removeWatch 13 = .ok (.getfield 29, 3) := by decide +kernel
theorem dX1_removeWatch_16 : decode cX1_removeWatch 16 = .ok (.iload_n 2, 1) := by decide +kernel
theorem dX1_removeWatch_17 : decode cX1_removeWatch 17 = .ok (.iconst 1, 1) := by decide +kernel
theorem dX1_removeWatch_18 : decode cX1_removeWatch 18 = .ok (.iadd, 1) := by decide +kernel
theorem dX1_removeWatch_19 : decode cX1_removeWatch 19 = .ok (.aaload, 1) := by decide +kernel
theorem dX1_removeWatch_20 : decode cX1_removeWatch 20 = .ok (.iconst 0, 1) := by decide +kernel
theorem dX1_removeWatch_21 : decode cX1_removeWatch 21 = .ok (.aload_n 0, 1) := by decide +kernel
theorem dX1_removeWatch_22 : decode cX1_removeWatch 22 = .ok (.getfield 29, 3) := by decide +kernel
theorem dX1_removeWatch_25 : decode cX1_removeWatch 25 = .ok (.iload_n 2, 1) := by decide +kernel
theorem dX1_removeWatch_26 : decode cX1_removeWatch 26 = .ok (.aaload, 1) := by decide +kernel
theorem dX1_removeWatch_27 : decode cX1_removeWatch 27 = .ok (.iconst 0, 1) := by decide +kernel
theorem dX1_removeWatch_28 : decode cX1_removeWatch 28 = .ok (.bipush 6, 2) := by decide +kernel
theorem dX1_removeWatch_30 : decode cX1_removeWatch 30 = .ok (.invokestatic 61, 3) := by decide +kernel
theorem dX1_removeWatch_33 : decode cX1_removeWatch 33 = .ok (.iinc 2 1, 3) := by decide +kernel
theorem dX1_removeWatch_36 : decode cX1_removeWatch 36 = .ok (.goto (-34), 3) := by decide +kernel
theorem dX1_removeWatch_39 : decode cX1_removeWatch 39 = .ok (.aload_n 0, 1) := by decide +kernel
theorem dX1_removeWatch_40 : decode cX1_removeWatch 40 = .ok (.dup, 1) := by decide +kernel
theorem dX1_removeWatch_41 : decode cX1_removeWatch 41 = .ok (.getfield 45, 3) := by decide +kernel
theorem dX1_removeWatch_44 : decode cX1_removeWatch 44 = .ok (.iconst 1, 1) := by decide +kernel
theorem dX1_removeWatch_45 : decode cX1_removeWatch 45 = .ok (.isub, 1) := by decide +kernel
theorem dX1_removeWatch_46 : decode cX1_removeWatch 46 = .ok (.putfield 45, 3) := by decide +kernel
theorem dX1_removeWatch_49 : decode cX1_removeWatch 49 = .ok (.aload_n 0, 1) := by decide +kernel
theorem dX1_removeWatch_50 : decode cX1_removeWatch 50 = .ok (.getfield 45, 3) := by decide +kernel
theorem dX1_removeWatch_53 : decode cX1_removeWatch 53 = .ok (.ireturn, 1) := by decide +kernel
noncomputable def qX1_removeWatch_1 : Bx := (bc clt (i2 (· + ·) (il 2) (ik 1)) (fgi 1 3 (rl 0)))
noncomputable def wX1_removeWatch_1 : Sx := (sseq (scopy (rald 12 (fgr 1 12 (rl 0)) (i2 (· + ·) (il 2) (ik 1))) (ik 0) (rald 12 (fgr 1 12 (rl 0)) (il 2)) (ik 0) (ik 6)) (sinc 2 1))
noncomputable def EX1_removeWatch : Sx := (sseq (scut 2 (sseq (ssi 2 (il 1)) (swh qX1_removeWatch_1 wX1_removeWatch_1))) (sseq (foi (· - ·) 1 3 (rl 0) (ik 1)) (sret (fgi 1 3 (rl 0)))))
noncomputable def DX1_removeWatch : Fi := mfi 3 EX1_removeWatch
set_option maxRecDepth 4000 in
theorem BX1_removeWatch : Vs RX1 cX1_removeWatch 3 (rmk 1 40) 0 0 EX1_removeWatch := (v_seq (v_cut (n := 2) (v_seq (v_istore_n (i := 2) (v_iload_n (i := 1) dX1_removeWatch_0 rfl (rfl : 0 + 1 = 1)) dX1_removeWatch_1 rfl (by decide) (rfl : 1 + 1 = 2)) (v_wh (v_ilt_f (v_iadd (v_iload_n (i := 2) dX1_removeWatch_2 rfl (rfl : 2 + 1 = 3)) (v_iconst (v := 1) dX1_removeWatch_3 (by decide) (rfl : 3 + 1 = 4)) dX1_removeWatch_4 (rfl : 4 + 1 = 5)) (v_gfi kX1 lk137 (by decide) rfl (v_aload_n (i := 0) dX1_removeWatch_5 rfl (rfl : 5 + 1 = 6)) dX1_removeWatch_6 (rfl : 6 + 3 = 9)) dX1_removeWatch_9 (rfl : ((9 : Nat) : Int) + 30 = ((39 : Nat) : Int)) (rfl : 9 + 3 = 12)) (vs_goto (v_seq (v_scopy lk414 lkNat lkNatS lkSys ⟨by decide, by decide⟩ (v_rald (q := 12) (t0 := 4) (ty0 := .array .int) ⟨by decide, by decide⟩ (fun _ => rfl) rfl (v_gfr kX1 lk162 (by decide) rfl (v_aload_n (i := 0) dX1_removeWatch_12 rfl (rfl : 12 + 1 = 13)) dX1_removeWatch_13 (rfl : 13 + 3 = 16)) (v_iadd (v_iload_n (i := 2) dX1_removeWatch_16 rfl (rfl : 16 + 1 = 17)) (v_iconst (v := 1) dX1_removeWatch_17 (by decide) (rfl : 17 + 1 = 18)) dX1_removeWatch_18 (rfl : 18 + 1 = 19)) dX1_removeWatch_19 (rfl : 19 + 1 = 20)) (v_iconst (v := 0) dX1_removeWatch_20 (by decide) (rfl : 20 + 1 = 21)) (v_rald (q := 12) (t0 := 4) (ty0 := .array .int) ⟨by decide, by decide⟩ (fun _ => rfl) rfl (v_gfr kX1 lk162 (by decide) rfl (v_aload_n (i := 0) dX1_removeWatch_21 rfl (rfl : 21 + 1 = 22)) dX1_removeWatch_22 (rfl : 22 + 3 = 25)) (v_iload_n (i := 2) dX1_removeWatch_25 rfl (rfl : 25 + 1 = 26)) dX1_removeWatch_26 (rfl : 26 + 1 = 27)) (v_iconst (v := 0) dX1_removeWatch_27 (by decide) (rfl : 27 + 1 = 28)) (v_bipush (v := 6) dX1_removeWatch_28 (by decide) (rfl : 28 + 2 = 30)) dX1_removeWatch_30 (rfl : 30 + 3 = 33)) (v_iinc (v := 1) dX1_removeWatch_33 (by decide) (by decide) (rfl : 33 + 3 = 36))) dX1_removeWatch_36 (rfl : ((36 : Nat) : Int) + (-34) = ((2 : Nat) : Int)))))) (v_seq (v_foi_isub kX1 lk137 (by decide) rfl rfl (by decide +kernel) (v_aload_n (i := 0) dX1_removeWatch_39 rfl (rfl : 39 + 1 = 40)) dX1_removeWatch_40 dX1_removeWatch_41 (rfl : 40 + 1 + 3 = 44) (v_iconst (v := 1) dX1_removeWatch_44 (by decide) (rfl : 44 + 1 = 45)) dX1_removeWatch_45 dX1_removeWatch_46 (rfl : 45 + 1 + 3 = 49)) (v_ret (v_gfi kX1 lk137 (by decide) rfl (v_aload_n (i := 0) dX1_removeWatch_49 rfl (rfl : 49 + 1 = 50)) dX1_removeWatch_50 (rfl : 50 + 3 = 53)) dX1_removeWatch_53)))
theorem IX1_removeWatch : Mi yX1_removeWatch cX1_removeWatch 3 (rmk 1 40) DX1_removeWatch := mk_i (by decide +kernel) BX1_removeWatch

theorem dX1_topSpeed_0 : decode cX1_topSpeed 0 = .ok (.aload_n 0, 1) := by decide +kernel
theorem dX1_topSpeed_1 : decode cX1_topSpeed 1 = .ok (.getfield 26, 3) := by decide +kernel
theorem dX1_topSpeed_4 : decode cX1_topSpeed 4 = .ok (.iload_n 1, 1) := by decide +kernel
theorem dX1_topSpeed_5 : decode cX1_topSpeed 5 = .ok (.aaload, 1) := by decide +kernel
theorem dX1_topSpeed_6 : decode cX1_topSpeed 6 = .ok (.iconst 2, 1) := by decide +kernel
theorem dX1_topSpeed_7 : decode cX1_topSpeed 7 = .ok (.iaload, 1) := by decide +kernel
theorem dX1_topSpeed_8 : decode cX1_topSpeed 8 = .ok (.aload_n 0, 1) := by decide +kernel
theorem dX1_topSpeed_9 : decode cX1_topSpeed 9 = .ok (.getfield 26, 3) := by decide +kernel
theorem dX1_topSpeed_12 : decode cX1_topSpeed 12 = .ok (.iload_n 1, 1) := by decide +kernel
theorem dX1_topSpeed_13 : decode cX1_topSpeed 13 = .ok (.aaload, 1) := by decide +kernel
theorem dX1_topSpeed_14 : decode cX1_topSpeed 14 = .ok (.iconst 3, 1) := by decide +kernel
theorem dX1_topSpeed_15 : decode cX1_topSpeed 15 = .ok (.iaload, 1) := by decide +kernel
theorem dX1_topSpeed_16 : decode cX1_topSpeed 16 = .ok (.aload_n 0, 1) := by decide +kernel
theorem dX1_topSpeed_17 : decode cX1_topSpeed 17 = .ok (.getfield 26, 3) := by decide +kernel
theorem dX1_topSpeed_20 : decode cX1_topSpeed 20 = .ok (.iload_n 1, 1) := by decide +kernel
theorem dX1_topSpeed_21 : decode cX1_topSpeed 21 = .ok (.aaload, 1) := by decide +kernel
theorem dX1_topSpeed_22 : decode cX1_topSpeed 22 = .ok (.iconst 4, 1) := by decide +kernel
theorem dX1_topSpeed_23 : decode cX1_topSpeed 23 = .ok (.iaload, 1) := by decide +kernel
theorem dX1_topSpeed_24 : decode cX1_topSpeed 24 = .ok (.invokestatic 71, 3) := by decide +kernel
theorem dX1_topSpeed_27 : decode cX1_topSpeed 27 = .ok (.invokestatic 71, 3) := by decide +kernel
theorem dX1_topSpeed_30 : decode cX1_topSpeed 30 = .ok (.ireturn, 1) := by decide +kernel
noncomputable def EX1_topSpeed : Sx := (sret (i2 mxi (iald (rald 12 (fgr 1 11 (rl 0)) (il 1)) (ik 2)) (i2 mxi (iald (rald 12 (fgr 1 11 (rl 0)) (il 1)) (ik 3)) (iald (rald 12 (fgr 1 11 (rl 0)) (il 1)) (ik 4)))))
noncomputable def DX1_topSpeed : Fi := mfi 2 EX1_topSpeed
set_option maxRecDepth 4000 in
theorem BX1_topSpeed : Vs RX1 cX1_topSpeed 2 (rmk 1 40) 0 0 EX1_topSpeed := (v_ret (v_mxi lk449 ma_mxi_s lkMath ma_mxi_c ⟨by decide, by decide⟩ (v_iald (v_rald (q := 12) (t0 := 4) (ty0 := .array .int) ⟨by decide, by decide⟩ (fun _ => rfl) rfl (v_gfr kX1 lk158 (by decide) rfl (v_aload_n (i := 0) dX1_topSpeed_0 rfl (rfl : 0 + 1 = 1)) dX1_topSpeed_1 (rfl : 1 + 3 = 4)) (v_iload_n (i := 1) dX1_topSpeed_4 rfl (rfl : 4 + 1 = 5)) dX1_topSpeed_5 (rfl : 5 + 1 = 6)) (v_iconst (v := 2) dX1_topSpeed_6 (by decide) (rfl : 6 + 1 = 7)) dX1_topSpeed_7 (rfl : 7 + 1 = 8)) (v_mxi lk449 ma_mxi_s lkMath ma_mxi_c ⟨by decide, by decide⟩ (v_iald (v_rald (q := 12) (t0 := 4) (ty0 := .array .int) ⟨by decide, by decide⟩ (fun _ => rfl) rfl (v_gfr kX1 lk158 (by decide) rfl (v_aload_n (i := 0) dX1_topSpeed_8 rfl (rfl : 8 + 1 = 9)) dX1_topSpeed_9 (rfl : 9 + 3 = 12)) (v_iload_n (i := 1) dX1_topSpeed_12 rfl (rfl : 12 + 1 = 13)) dX1_topSpeed_13 (rfl : 13 + 1 = 14)) (v_iconst (v := 3) dX1_topSpeed_14 (by decide) (rfl : 14 + 1 = 15)) dX1_topSpeed_15 (rfl : 15 + 1 = 16)) (v_iald (v_rald (q := 12) (t0 := 4) (ty0 := .array .int) ⟨by decide, by decide⟩ (fun _ => rfl) rfl (v_gfr kX1 lk158 (by decide) rfl (v_aload_n (i := 0) dX1_topSpeed_16 rfl (rfl : 16 + 1 = 17)) dX1_topSpeed_17 (rfl : 17 + 3 = 20)) (v_iload_n (i := 1) dX1_topSpeed_20 rfl (rfl : 20 + 1 = 21)) dX1_topSpeed_21 (rfl : 21 + 1 = 22)) (v_iconst (v := 4) dX1_topSpeed_22 (by decide) (rfl : 22 + 1 = 23)) dX1_topSpeed_23 (rfl : 23 + 1 = 24)) dX1_topSpeed_24 (rfl : 24 + 3 = 27)) dX1_topSpeed_27 (rfl : 27 + 3 = 30)) dX1_topSpeed_30)
theorem IX1_topSpeed : Mi yX1_topSpeed cX1_topSpeed 2 (rmk 1 40) DX1_topSpeed := mk_i (by decide +kernel) BX1_topSpeed

theorem dX1_weight_0 : decode cX1_weight 0 = .ok (.iconst 0, 1) := by decide +kernel
theorem dX1_weight_1 : decode cX1_weight 1 = .ok (.istore_n 2, 1) := by decide +kernel
theorem dX1_weight_2 : decode cX1_weight 2 = .ok (.iconst 0, 1) := by decide +kernel
theorem dX1_weight_3 : decode cX1_weight 3 = .ok (.istore_n 3, 1) := by decide +kernel
theorem dX1_weight_4 : decode cX1_weight 4 = .ok (.iload_n 3, 1) := by decide +kernel
theorem dX1_weight_5 : decode cX1_weight 5 = .ok (.aload_n 0, 1) := by decide +kernel
theorem dX1_weight_6 : decode cX1_weight 6 = .ok (.getfield 39, 3) := by decide +kernel
theorem dX1_weight_9 : decode cX1_weight 9 = .ok (.if_icmp .ge 44, 3) := by decide +kernel
theorem dX1_weight_12 : decode cX1_weight 12 = .ok (.aload_n 0, 1) := by decide +kernel
theorem dX1_weight_13 : decode cX1_weight 13 = .ok (.getfield 23, 3) := by decide +kernel
theorem dX1_weight_16 : decode cX1_weight 16 = .ok (.iload_n 3, 1) := by decide +kernel
theorem dX1_weight_17 : decode cX1_weight 17 = .ok (.aaload, 1) := by decide +kernel
theorem dX1_weight_18 : decode cX1_weight 18 = .ok (.iconst 0, 1) := by decide +kernel
theorem dX1_weight_19 : decode cX1_weight 19 = .ok (.iaload, 1) := by decide +kernel
theorem dX1_weight_20 : decode cX1_weight 20 = .ok (.iload_n 1, 1) := by decide +kernel
theorem dX1_weight_21 : decode cX1_weight 21 = .ok (.if_icmp .eq 15, 3) := by decide +kernel
theorem dX1_weight_24 : decode cX1_weight 24 = .ok (.aload_n 0, 1) := by decide +kernel
theorem dX1_weight_25 : decode cX1_weight 25 = .ok (.getfield 23, 3) := by decide +kernel
theorem dX1_weight_28 : decode cX1_weight 28 = .ok (.iload_n 3, 1) := by decide +kernel
theorem dX1_weight_29 : decode cX1_weight 29 = .ok (.aaload, 1) := by decide +kernel
theorem dX1_weight_30 : decode cX1_weight 30 = .ok (.iconst 1, 1) := by decide +kernel
theorem dX1_weight_31 : decode cX1_weight 31 = .ok (.iaload, 1) := by decide +kernel
theorem dX1_weight_32 : decode cX1_weight 32 = .ok (.iload_n 1, 1) := by decide +kernel
theorem dX1_weight_33 : decode cX1_weight 33 = .ok (.if_icmp .ne 14, 3) := by decide +kernel
theorem dX1_weight_36 : decode cX1_weight 36 = .ok (.iload_n 2, 1) := by decide +kernel
theorem dX1_weight_37 : decode cX1_weight 37 = .ok (.aload_n 0, 1) := by decide +kernel
theorem dX1_weight_38 : decode cX1_weight 38 = .ok (.getfield 23, 3) := by decide +kernel
theorem dX1_weight_41 : decode cX1_weight 41 = .ok (.iload_n 3, 1) := by decide +kernel
theorem dX1_weight_42 : decode cX1_weight 42 = .ok (.aaload, 1) := by decide +kernel
theorem dX1_weight_43 : decode cX1_weight 43 = .ok (.iconst 2, 1) := by decide +kernel
theorem dX1_weight_44 : decode cX1_weight 44 = .ok (.iaload, 1) := by decide +kernel
theorem dX1_weight_45 : decode cX1_weight 45 = .ok (.iadd, 1) := by decide +kernel
theorem dX1_weight_46 : decode cX1_weight 46 = .ok (.istore_n 2, 1) := by decide +kernel
theorem dX1_weight_47 : decode cX1_weight 47 = .ok (.iinc 3 1, 3) := by decide +kernel
theorem dX1_weight_50 : decode cX1_weight 50 = .ok (.goto (-46), 3) := by decide +kernel
theorem dX1_weight_53 : decode cX1_weight 53 = .ok (.iconst 0, 1) := by decide +kernel
theorem dX1_weight_54 : decode cX1_weight 54 = .ok (.istore_n 3, 1) := by decide +kernel
theorem dX1_weight_55 : decode cX1_weight 55 = .ok (.iload_n 3, 1) := by decide +kernel
theorem dX1_weight_56 : decode cX1_weight 56 = .ok (.aload_n 0, 1) := by decide +kernel
theorem dX1_weight_57 : decode cX1_weight 57 = .ok (.getfield 42, 3) := by decide +kernel
theorem dX1_weight_60 : decode cX1_weight 60 = .ok (.if_icmp .ge 29, 3) := by decide +kernel
theorem dX1_weight_63 : decode cX1_weight 63 = .ok (.aload_n 0, 1) := by decide +kernel
theorem dX1_weight_64 : decode cX1_weight 64 = .ok (.getfield 26, 3) := by decide +kernel
theorem dX1_weight_67 : decode cX1_weight 67 = .ok (.iload_n 3, 1) := by decide +kernel
theorem dX1_weight_68 : decode cX1_weight 68 = .ok (.aaload, 1) := by decide +kernel
theorem dX1_weight_69 : decode cX1_weight 69 = .ok (.iconst 0, 1) := by decide +kernel
theorem dX1_weight_70 : decode cX1_weight 70 = .ok (.iaload, 1) := by decide +kernel
theorem dX1_weight_71 : decode cX1_weight 71 = .ok (.iload_n 1, 1) := by decide +kernel
theorem dX1_weight_72 : decode cX1_weight 72 = .ok (.if_icmp .ne 11, 3) := by decide +kernel
theorem dX1_weight_75 : decode cX1_weight 75 = .ok (.iload_n 2, 1) := by decide +kernel
theorem dX1_weight_76 : decode cX1_weight 76 = .ok (.aload_n 0, 1) := by decide +kernel
theorem dX1_weight_77 : decode cX1_weight 77 = .ok (.iload_n 3, 1) := by decide +kernel
theorem dX1_weight_78 : decode cX1_weight 78 = .ok (.invokevirtual 77, 3) := by decide +kernel
theorem dX1_weight_81 : decode cX1_weight 81 = .ok (.iadd, 1) := by decide +kernel
theorem dX1_weight_82 : decode cX1_weight 82 = .ok (.istore_n 2, 1) := by decide +kernel
theorem dX1_weight_83 : decode cX1_weight 83 = .ok (.iinc 3 1, 3) := by decide +kernel
theorem dX1_weight_86 : decode cX1_weight 86 = .ok (.goto (-31), 3) := by decide +kernel
theorem dX1_weight_89 : decode cX1_weight 89 = .ok (.iload_n 2, 1) := by decide +kernel
theorem dX1_weight_90 : decode cX1_weight 90 = .ok (.ireturn, 1) := by decide +kernel
noncomputable def qX1_weight_1 : Bx := (bc clt (il 3) (fgi 1 1 (rl 0)))
noncomputable def wX1_weight_1 : Sx := (sseq (sif (bor (bc ceq (iald (rald 12 (fgr 1 10 (rl 0)) (il 3)) (ik 0)) (il 1)) (bc ceq (iald (rald 12 (fgr 1 10 (rl 0)) (il 3)) (ik 1)) (il 1))) (ssi 2 (i2 (· + ·) (il 2) (iald (rald 12 (fgr 1 10 (rl 0)) (il 3)) (ik 2)))) snop) (sinc 3 1))
noncomputable def qX1_weight_2 : Bx := (bc clt (il 3) (fgi 1 2 (rl 0)))
noncomputable def wX1_weight_2 : Sx := (sseq (sif (bc ceq (iald (rald 12 (fgr 1 11 (rl 0)) (il 3)) (ik 0)) (il 1)) (ssi 2 (i2 (· + ·) (il 2) (cvi 1 DX1_topSpeed (rl 0) (ai (il 3) anil)))) snop) (sinc 3 1))
noncomputable def EX1_weight : Sx := (sseq (ssi 2 (ik 0)) (sseq (scut 3 (sseq (ssi 3 (ik 0)) (swh qX1_weight_1 wX1_weight_1))) (sseq (scut 3 (sseq (ssi 3 (ik 0)) (swh qX1_weight_2 wX1_weight_2))) (sret (il 2)))))
noncomputable def DX1_weight : Fi := mfi 4 EX1_weight
set_option maxRecDepth 4000 in
theorem BX1_weight : Vs RX1 cX1_weight 4 (rmk 2 61) 0 0 EX1_weight := (v_seq (v_istore_n (i := 2) (v_iconst (v := 0) dX1_weight_0 (by decide) (rfl : 0 + 1 = 1)) dX1_weight_1 rfl (by decide) (rfl : 1 + 1 = 2)) (v_seq (v_cut (n := 3) (v_seq (v_istore_n (i := 3) (v_iconst (v := 0) dX1_weight_2 (by decide) (rfl : 2 + 1 = 3)) dX1_weight_3 rfl (by decide) (rfl : 3 + 1 = 4)) (v_wh (v_ilt_f (v_iload_n (i := 3) dX1_weight_4 rfl (rfl : 4 + 1 = 5)) (v_gfi kX1 lk128 (by decide) rfl (v_aload_n (i := 0) dX1_weight_5 rfl (rfl : 5 + 1 = 6)) dX1_weight_6 (rfl : 6 + 3 = 9)) dX1_weight_9 (rfl : ((9 : Nat) : Int) + 44 = ((53 : Nat) : Int)) (rfl : 9 + 3 = 12)) (vs_goto (v_seq (v_if (v_or (v_ieq_t (v_iald (v_rald (q := 12) (t0 := 4) (ty0 := .array .int) ⟨by decide, by decide⟩ (fun _ => rfl) rfl (v_gfr kX1 lk154 (by decide) rfl (v_aload_n (i := 0) dX1_weight_12 rfl (rfl : 12 + 1 = 13)) dX1_weight_13 (rfl : 13 + 3 = 16)) (v_iload_n (i := 3) dX1_weight_16 rfl (rfl : 16 + 1 = 17)) dX1_weight_17 (rfl : 17 + 1 = 18)) (v_iconst (v := 0) dX1_weight_18 (by decide) (rfl : 18 + 1 = 19)) dX1_weight_19 (rfl : 19 + 1 = 20)) (v_iload_n (i := 1) dX1_weight_20 rfl (rfl : 20 + 1 = 21)) dX1_weight_21 (rfl : ((21 : Nat) : Int) + 15 = ((36 : Nat) : Int)) (rfl : 21 + 3 = 24)) (v_ieq_f (v_iald (v_rald (q := 12) (t0 := 4) (ty0 := .array .int) ⟨by decide, by decide⟩ (fun _ => rfl) rfl (v_gfr kX1 lk154 (by decide) rfl (v_aload_n (i := 0) dX1_weight_24 rfl (rfl : 24 + 1 = 25)) dX1_weight_25 (rfl : 25 + 3 = 28)) (v_iload_n (i := 3) dX1_weight_28 rfl (rfl : 28 + 1 = 29)) dX1_weight_29 (rfl : 29 + 1 = 30)) (v_iconst (v := 1) dX1_weight_30 (by decide) (rfl : 30 + 1 = 31)) dX1_weight_31 (rfl : 31 + 1 = 32)) (v_iload_n (i := 1) dX1_weight_32 rfl (rfl : 32 + 1 = 33)) dX1_weight_33 (rfl : ((33 : Nat) : Int) + 14 = ((47 : Nat) : Int)) (rfl : 33 + 3 = 36))) (v_istore_n (i := 2) (v_iadd (v_iload_n (i := 2) dX1_weight_36 rfl (rfl : 36 + 1 = 37)) (v_iald (v_rald (q := 12) (t0 := 4) (ty0 := .array .int) ⟨by decide, by decide⟩ (fun _ => rfl) rfl (v_gfr kX1 lk154 (by decide) rfl (v_aload_n (i := 0) dX1_weight_37 rfl (rfl : 37 + 1 = 38)) dX1_weight_38 (rfl : 38 + 3 = 41)) (v_iload_n (i := 3) dX1_weight_41 rfl (rfl : 41 + 1 = 42)) dX1_weight_42 (rfl : 42 + 1 = 43)) (v_iconst (v := 2) dX1_weight_43 (by decide) (rfl : 43 + 1 = 44)) dX1_weight_44 (rfl : 44 + 1 = 45)) dX1_weight_45 (rfl : 45 + 1 = 46)) dX1_weight_46 rfl (by decide) (rfl : 46 + 1 = 47)) v_nop) (v_iinc (v := 1) dX1_weight_47 (by decide) (by decide) (rfl : 47 + 3 = 50))) dX1_weight_50 (rfl : ((50 : Nat) : Int) + (-46) = ((4 : Nat) : Int)))))) (v_seq (v_cut (n := 3) (v_seq (v_istore_n (i := 3) (v_iconst (v := 0) dX1_weight_53 (by decide) (rfl : 53 + 1 = 54)) dX1_weight_54 rfl (by decide) (rfl : 54 + 1 = 55)) (v_wh (v_ilt_f (v_iload_n (i := 3) dX1_weight_55 rfl (rfl : 55 + 1 = 56)) (v_gfi kX1 lk133 (by decide) rfl (v_aload_n (i := 0) dX1_weight_56 rfl (rfl : 56 + 1 = 57)) dX1_weight_57 (rfl : 57 + 3 = 60)) dX1_weight_60 (rfl : ((60 : Nat) : Int) + 29 = ((89 : Nat) : Int)) (rfl : 60 + 3 = 63)) (vs_goto (v_seq (v_if (v_ieq_f (v_iald (v_rald (q := 12) (t0 := 4) (ty0 := .array .int) ⟨by decide, by decide⟩ (fun _ => rfl) rfl (v_gfr kX1 lk158 (by decide) rfl (v_aload_n (i := 0) dX1_weight_63 rfl (rfl : 63 + 1 = 64)) dX1_weight_64 (rfl : 64 + 3 = 67)) (v_iload_n (i := 3) dX1_weight_67 rfl (rfl : 67 + 1 = 68)) dX1_weight_68 (rfl : 68 + 1 = 69)) (v_iconst (v := 0) dX1_weight_69 (by decide) (rfl : 69 + 1 = 70)) dX1_weight_70 (rfl : 70 + 1 = 71)) (v_iload_n (i := 1) dX1_weight_71 rfl (rfl : 71 + 1 = 72)) dX1_weight_72 (rfl : ((72 : Nat) : Int) + 11 = ((83 : Nat) : Int)) (rfl : 72 + 3 = 75)) (v_istore_n (i := 2) (v_iadd (v_iload_n (i := 2) dX1_weight_75 rfl (rfl : 75 + 1 = 76)) (v_cvi kX1 IX1_topSpeed hX1_topSpeed lk445 ⟨by decide, by decide⟩ (by decide) (v_aload_n (i := 0) dX1_weight_76 rfl (rfl : 76 + 1 = 77)) (v_ai (v_iload_n (i := 3) dX1_weight_77 rfl (rfl : 77 + 1 = 78)) v_anil) dX1_weight_78 (rfl : 78 + 3 = 81)) dX1_weight_81 (rfl : 81 + 1 = 82)) dX1_weight_82 rfl (by decide) (rfl : 82 + 1 = 83)) v_nop) (v_iinc (v := 1) dX1_weight_83 (by decide) (by decide) (rfl : 83 + 3 = 86))) dX1_weight_86 (rfl : ((86 : Nat) : Int) + (-31) = ((55 : Nat) : Int)))))) (v_ret (v_iload_n (i := 2) dX1_weight_89 rfl (rfl : 89 + 1 = 90)) dX1_weight_90))))
theorem IX1_weight : Mi yX1_weight cX1_weight 4 (rmk 2 61) DX1_weight := mk_i (by decide +kernel) BX1_weight

theorem dX2_divisor_0 : decode cX2_divisor 0 = .ok (.lload_n 0, 1) := by decide +kernel
theorem dX2_divisor_1 : decode cX2_divisor 1 = .ok (.invokestatic 9, 3) := by decide +kernel
theorem dX2_divisor_4 : decode cX2_divisor 4 = .ok (.lstore 4, 2) := by decide +kernel
theorem dX2_divisor_6 : decode cX2_divisor 6 = .ok (.lload_n 2, 1) := by decide +kernel
theorem dX2_divisor_7 : decode cX2_divisor 7 = .ok (.invokestatic 9, 3) := by decide +kernel
theorem dX2_divisor_10 : decode cX2_divisor 10 = .ok (.lstore 6, 2) := by decide +kernel
theorem dX2_divisor_12 : decode cX2_divisor 12 = .ok (.iconst 0, 1) := by decide +kernel
theorem dX2_divisor_13 : decode cX2_divisor 13 = .ok (.istore 8, 2) := by decide +kernel
theorem dX2_divisor_15 : decode cX2_divisor 15 = .ok (.iload 8, 2) := by decide +kernel
theorem dX2_divisor_17 : decode cX2_divisor 17 = .ok (.bipush 100, 2) := by decide +kernel
theorem dX2_divisor_19 : decode cX2_divisor 19 = .ok (.if_icmp .ge 31, 3) := by decide +kernel
theorem dX2_divisor_22 : decode cX2_divisor 22 = .ok (.lload 6, 2) := by decide +kernel
theorem dX2_divisor_24 : decode cX2_divisor 24 = .ok (.lconst 0, 1) := by decide +kernel
theorem dX2_divisor_25 : decode cX2_divisor 25 = .ok (.lcmp, 1) := by decide +kernel
theorem dX2_divisor_26 : decode cX2_divisor 26 = .ok (.ifCond .eq 24, 3) := by decide +kernel
theorem dX2_divisor_29 : decode cX2_divisor 29 = .ok (.lload 4, 2) := by decide +kernel
theorem dX2_divisor_31 : decode cX2_divisor 31 = .ok (.lload 6, 2) := by decide +kernel
theorem dX2_divisor_33 : decode cX2_divisor 33 = .ok (.lrem, 1) := by decide +kernel
theorem dX2_divisor_34 : decode cX2_divisor 34 = .ok (.lstore 9, 2) := by decide +kernel
theorem dX2_divisor_36 : decode cX2_divisor 36 = .ok (.lload 6, 2) := by decide +kernel
theorem dX2_divisor_38 : decode cX2_divisor 38 = .ok (.lstore 4, 2) := by decide +kernel
theorem dX2_divisor_40 : decode cX2_divisor 40 = .ok (.lload 9, 2) := by decide +kernel
theorem dX2_divisor_42 : decode cX2_divisor 42 = .ok (.lstore 6, 2) := by decide +kernel
theorem dX2_divisor_44 : decode cX2_divisor 44 = .ok (.iinc 8 1, 3) := by decide +kernel
theorem dX2_divisor_47 : decode cX2_divisor 47 = .ok (.goto (-32), 3) := by decide +kernel
theorem dX2_divisor_50 : decode cX2_divisor 50 = .ok (.lload 4, 2) := by decide +kernel
theorem dX2_divisor_52 : decode cX2_divisor 52 = .ok (.lreturn, 1) := by decide +kernel
noncomputable def qX2_divisor_1 : Bx := (band (bc clt (il 8) (ik 100)) (bj qne (jl 6) (jk 0)))
noncomputable def wX2_divisor_1 : Sx := (sseq (scut 9 (sseq (ssj 9 (j2d ojrem (jl 4) (jl 6))) (sseq (ssj 4 (jl 6)) (ssj 6 (jl 9))))) (sinc 8 1))
noncomputable def EX2_divisor : Sx := (sseq (ssj 4 (j1 abj (jl 0))) (sseq (ssj 6 (j1 abj (jl 2))) (sseq (scut 8 (sseq (ssi 8 (ik 0)) (swh qX2_divisor_1 wX2_divisor_1))) (sretj (jl 4)))))
noncomputable def DX2_divisor : Fj := mfj 11 EX2_divisor
set_option maxRecDepth 4000 in
theorem BX2_divisor : Vs RX2 cX2_divisor 11 (rmk 1 40) 0 0 EX2_divisor := (v_seq (v_lstore (i := 4) (v_abj lk739 ma_abj_s lkMath ma_abj_c ⟨by decide, by decide⟩ (v_lload_n (i := 0) dX2_divisor_0 rfl (rfl : 0 + 1 = 1)) dX2_divisor_1 (rfl : 1 + 3 = 4)) dX2_divisor_4 (by decide) (rfl : 4 + 2 = 6)) (v_seq (v_lstore (i := 6) (v_abj lk739 ma_abj_s lkMath ma_abj_c ⟨by decide, by decide⟩ (v_lload_n (i := 2) dX2_divisor_6 rfl (rfl : 6 + 1 = 7)) dX2_divisor_7 (rfl : 7 + 3 = 10)) dX2_divisor_10 (by decide) (rfl : 10 + 2 = 12)) (v_seq (v_cut (n := 8) (v_seq (v_istore (i := 8) (v_iconst (v := 0) dX2_divisor_12 (by decide) (rfl : 12 + 1 = 13)) dX2_divisor_13 (by decide) (rfl : 13 + 2 = 15)) (v_wh (v_and (v_ilt_f (v_iload (i := 8) dX2_divisor_15 (rfl : 15 + 2 = 17)) (v_bipush (v := 100) dX2_divisor_17 (by decide) (rfl : 17 + 2 = 19)) dX2_divisor_19 (rfl : ((19 : Nat) : Int) + 31 = ((50 : Nat) : Int)) (rfl : 19 + 3 = 22)) (v_jne_f (v_lload (i := 6) dX2_divisor_22 (rfl : 22 + 2 = 24)) (v_lconst (v := 0) dX2_divisor_24 (by decide) (rfl : 24 + 1 = 25)) dX2_divisor_25 dX2_divisor_26 (rfl : ((26 : Nat) : Int) + 24 = ((50 : Nat) : Int)) (rfl : 26 + 3 = 29))) (vs_goto (v_seq (v_cut (n := 9) (v_seq (v_lstore (i := 9) (v_lrem (v_lload (i := 4) dX2_divisor_29 (rfl : 29 + 2 = 31)) (v_lload (i := 6) dX2_divisor_31 (rfl : 31 + 2 = 33)) dX2_divisor_33 (rfl : 33 + 1 = 34)) dX2_divisor_34 (by decide) (rfl : 34 + 2 = 36)) (v_seq (v_lstore (i := 4) (v_lload (i := 6) dX2_divisor_36 (rfl : 36 + 2 = 38)) dX2_divisor_38 (by decide) (rfl : 38 + 2 = 40)) (v_lstore (i := 6) (v_lload (i := 9) dX2_divisor_40 (rfl : 40 + 2 = 42)) dX2_divisor_42 (by decide) (rfl : 42 + 2 = 44))))) (v_iinc (v := 1) dX2_divisor_44 (by decide) (by decide) (rfl : 44 + 3 = 47))) dX2_divisor_47 (rfl : ((47 : Nat) : Int) + (-32) = ((15 : Nat) : Int)))))) (v_retj (v_lload (i := 4) dX2_divisor_50 (rfl : 50 + 2 = 52)) dX2_divisor_52))))
theorem IX2_divisor : Mj yX2_divisor cX2_divisor 11 (rmk 1 40) DX2_divisor := mk_j (by decide +kernel) BX2_divisor

theorem dX2_term_0 : decode cX2_term 0 = .ok (.lload_n 0, 1) := by decide +kernel
theorem dX2_term_1 : decode cX2_term 1 = .ok (.lload_n 2, 1) := by decide +kernel
theorem dX2_term_2 : decode cX2_term 2 = .ok (.invokestatic 15, 3) := by decide +kernel
theorem dX2_term_5 : decode cX2_term 5 = .ok (.lstore 5, 2) := by decide +kernel
theorem dX2_term_7 : decode cX2_term 7 = .ok (.iload 4, 2) := by decide +kernel
theorem dX2_term_9 : decode cX2_term 9 = .ok (.ifCond .ne 7, 3) := by decide +kernel
theorem dX2_term_12 : decode cX2_term 12 = .ok (.lload_n 0, 1) := by decide +kernel
theorem dX2_term_13 : decode cX2_term 13 = .ok (.goto 4, 3) := by decide +kernel
theorem dX2_term_16 : decode cX2_term 16 = .ok (.lload_n 2, 1) := by decide +kernel
theorem dX2_term_17 : decode cX2_term 17 = .ok (.lload 5, 2) := by decide +kernel
theorem dX2_term_19 : decode cX2_term 19 = .ok (.invokestatic 21, 3) := by decide +kernel
theorem dX2_term_22 : decode cX2_term 22 = .ok (.lreturn, 1) := by decide +kernel
noncomputable def EX2_term : Sx := (sseq (ssj 5 (csj DX2_divisor (aj (jl 0) (aj (jl 2) anil)))) (sretj (csj DX2_over (aj (jc (bz ceq (il 4)) (jl 0) (jl 2)) (aj (jl 5) anil)))))
noncomputable def DX2_term : Fj := mfj 7 EX2_term
set_option maxRecDepth 4000 in
theorem BX2_term : Vs RX2 cX2_term 7 (rmk 2 70) 0 0 EX2_term := (v_seq (v_lstore (i := 5) (v_csj IX2_divisor hX2_divisor lk736 ⟨by decide, by decide⟩ (by decide) (v_aj (v_lload_n (i := 0) dX2_term_0 rfl (rfl : 0 + 1 = 1)) (v_aj (v_lload_n (i := 2) dX2_term_1 rfl (rfl : 1 + 1 = 2)) v_anil)) dX2_term_2 (rfl : 2 + 3 = 5)) dX2_term_5 (by decide) (rfl : 5 + 2 = 7)) (v_retj (v_csj IX2_over hX2_over lk742 ⟨by decide, by decide⟩ (by decide) (v_aj (v_jc (v_zeq_f (v_iload (i := 4) dX2_term_7 (rfl : 7 + 2 = 9)) dX2_term_9 (rfl : ((9 : Nat) : Int) + 7 = ((16 : Nat) : Int)) (rfl : 9 + 3 = 12)) (vj_goto (v_lload_n (i := 0) dX2_term_12 rfl (rfl : 12 + 1 = 13)) dX2_term_13 (rfl : ((13 : Nat) : Int) + 4 = ((17 : Nat) : Int))) (v_lload_n (i := 2) dX2_term_16 rfl (rfl : 16 + 1 = 17))) (v_aj (v_lload (i := 5) dX2_term_17 (rfl : 17 + 2 = 19)) v_anil)) dX2_term_19 (rfl : 19 + 3 = 22)) dX2_term_22))
theorem IX2_term : Mj yX2_term cX2_term 7 (rmk 2 70) DX2_term := mk_j (by decide +kernel) BX2_term

theorem dX3_forget_0 : decode cX3_forget 0 = .ok (.aload_n 0, 1) := by decide +kernel
theorem dX3_forget_1 : decode cX3_forget 1 = .ok (.iconst 0, 1) := by decide +kernel
theorem dX3_forget_2 : decode cX3_forget 2 = .ok (.putfield 26, 3) := by decide +kernel
theorem dX3_forget_5 : decode cX3_forget 5 = .ok (.aload_n 0, 1) := by decide +kernel
theorem dX3_forget_6 : decode cX3_forget 6 = .ok (.iconst 0, 1) := by decide +kernel
theorem dX3_forget_7 : decode cX3_forget 7 = .ok (.putfield 22, 3) := by decide +kernel
theorem dX3_forget_10 : decode cX3_forget 10 = .ok (.return_, 1) := by decide +kernel
noncomputable def EX3_forget : Sx := (sseq (sseq (fpi 2 3 (rl 0) (ik 0)) (fpi 2 2 (rl 0) (ik 0))) sretv)
noncomputable def DX3_forget : Fu := mfv 1 EX3_forget
set_option maxRecDepth 4000 in
theorem BX3_forget : Vs RX3 cX3_forget 1 (rmk 0 0) 0 0 EX3_forget := (v_seq (v_seq (v_fpi kX3 lk340 (by decide) rfl rfl (by decide +kernel) (v_aload_n (i := 0) dX3_forget_0 rfl (rfl : 0 + 1 = 1)) (v_iconst (v := 0) dX3_forget_1 (by decide) (rfl : 1 + 1 = 2)) dX3_forget_2 (rfl : 2 + 3 = 5)) (v_fpi kX3 lk339 (by decide) rfl rfl (by decide +kernel) (v_aload_n (i := 0) dX3_forget_5 rfl (rfl : 5 + 1 = 6)) (v_iconst (v := 0) dX3_forget_6 (by decide) (rfl : 6 + 1 = 7)) dX3_forget_7 (rfl : 7 + 3 = 10))) (v_retv dX3_forget_10))
theorem IX3_forget : Mv yX3_forget cX3_forget 1 (rmk 0 0) DX3_forget := mk_v (by decide +kernel) BX3_forget

theorem dX3_keep_0 : decode cX3_keep 0 = .ok (.aload_n 0, 1) := by decide +kernel
theorem dX3_keep_1 : decode cX3_keep 1 = .ok (.getfield 22, 3) := by decide +kernel
theorem dX3_keep_4 : decode cX3_keep 4 = .ok (.aload_n 0, 1) := by decide +kernel
theorem dX3_keep_5 : decode cX3_keep 5 = .ok (.getfield 26, 3) := by decide +kernel
theorem dX3_keep_8 : decode cX3_keep 8 = .ok (.iadd, 1) := by decide +kernel
theorem dX3_keep_9 : decode cX3_keep 9 = .ok (.bipush 10, 2) := by decide +kernel
theorem dX3_keep_11 : decode cX3_keep 11 = .ok (.irem, 1) := by decide +kernel
theorem dX3_keep_12 : decode cX3_keep 12 = .ok (.istore_n 3, 1) := by decide +kernel
theorem dX3_keep_13 : decode cX3_keep 13 = .ok (.aload_n 0, 1) := by decide +kernel
theorem dX3_keep_14 : decode cX3_keep 14 = .ok (.getfield 11, 3) := by decide +kernel
theorem dX3_keep_17 : decode cX3_keep 17 = .ok (.iload_n 3, 1) := by decide +kernel
theorem dX3_keep_18 : decode cX3_keep 18 = .ok (.aaload, 1) := by decide +kernel
theorem dX3_keep_19 : decode cX3_keep 19 = .ok (.aload_n 1, 1) := by decide +kernel
theorem dX3_keep_20 : decode cX3_keep 20 = .ok (.invokevirtual 29, 3) := by decide +kernel
theorem dX3_keep_23 : decode cX3_keep 23 = .ok (.aload_n 0, 1) := by decide +kernel
theorem dX3_keep_24 : decode cX3_keep 24 = .ok (.getfield 18, 3) := by decide +kernel
theorem dX3_keep_27 : decode cX3_keep 27 = .ok (.iload_n 3, 1) := by decide +kernel
theorem dX3_keep_28 : decode cX3_keep 28 = .ok (.iload_n 2, 1) := by decide +kernel
theorem dX3_keep_29 : decode cX3_keep 29 = .ok (.iastore, 1) := by decide +kernel
theorem dX3_keep_30 : decode cX3_keep 30 = .ok (.aload_n 0, 1) := by decide +kernel
theorem dX3_keep_31 : decode cX3_keep 31 = .ok (.getfield 26, 3) := by decide +kernel
theorem dX3_keep_34 : decode cX3_keep 34 = .ok (.bipush 10, 2) := by decide +kernel
theorem dX3_keep_36 : decode cX3_keep 36 = .ok (.if_icmp .ge 16, 3) := by decide +kernel
theorem dX3_keep_39 : decode cX3_keep 39 = .ok (.aload_n 0, 1) := by decide +kernel
theorem dX3_keep_40 : decode cX3_keep 40 = .ok (.dup, 1) := by decide +kernel
theorem dX3_keep_41 : decode cX3_keep 41 = .ok (.getfield 26, 3) := by decide +kernel
theorem dX3_keep_44 : decode cX3_keep 44 = .ok (.iconst 1, 1) := by decide +kernel
theorem dX3_keep_45 : decode cX3_keep 45 = .ok (.iadd, 1) := by decide +kernel
theorem dX3_keep_46 : decode cX3_keep 46 = .ok (.putfield 26, 3) := by decide +kernel
theorem dX3_keep_49 : decode cX3_keep 49 = .ok (.goto 16, 3) := by decide +kernel
theorem dX3_keep_52 : decode cX3_keep 52 = .ok (.aload_n 0, 1) := by decide +kernel
theorem dX3_keep_53 : decode cX3_keep 53 = .ok (.aload_n 0, 1) := by decide +kernel
theorem dX3_keep_54 : decode cX3_keep 54 = .ok (.getfield 22, 3) := by decide +kernel
theorem dX3_keep_57 : decode cX3_keep 57 = .ok (.iconst 1, 1) := by decide +kernel
theorem dX3_keep_58 : decode cX3_keep 58 = .ok (.iadd, 1) := by decide +kernel
theorem dX3_keep_59 : decode cX3_keep 59 = .ok (.bipush 10, 2) := by decide +kernel
theorem dX3_keep_61 : decode cX3_keep 61 = .ok (.irem, 1) := by decide +kernel
theorem dX3_keep_62 : decode cX3_keep 62 = .ok (.putfield 22, 3) := by decide +kernel
theorem dX3_keep_65 : decode cX3_keep 65 = .ok (.return_, 1) := by decide +kernel
noncomputable def EX3_keep : Sx := (sseq (sseq (ssi 3 (i2d orem (i2 (· + ·) (fgi 2 2 (rl 0)) (fgi 2 3 (rl 0))) (ik 10))) (sseq (scv 1 DX1_copyFrom (rald 11 (fgr 2 0 (rl 0)) (il 3)) (ar (rl 1) anil)) (sseq (aii (fgr 2 1 (rl 0)) (il 3) (il 2)) (sif (bc clt (fgi 2 3 (rl 0)) (ik 10)) (foi (· + ·) 2 3 (rl 0) (ik 1)) (fpi 2 2 (rl 0) (i2d orem (i2 (· + ·) (fgi 2 2 (rl 0)) (ik 1)) (ik 10))))))) sretv)
noncomputable def DX3_keep : Fu := mfv 4 EX3_keep
set_option maxRecDepth 4000 in
theorem BX3_keep : Vs RX3 cX3_keep 4 (rmk 3 84) 0 0 EX3_keep := (v_seq (v_seq (v_istore_n (i := 3) (v_irem (v_iadd (v_gfi kX3 lk339 (by decide) rfl (v_aload_n (i := 0) dX3_keep_0 rfl (rfl : 0 + 1 = 1)) dX3_keep_1 (rfl : 1 + 3 = 4)) (v_gfi kX3 lk340 (by decide) rfl (v_aload_n (i := 0) dX3_keep_4 rfl (rfl : 4 + 1 = 5)) dX3_keep_5 (rfl : 5 + 3 = 8)) dX3_keep_8 (rfl : 8 + 1 = 9)) (v_bipush (v := 10) dX3_keep_9 (by decide) (rfl : 9 + 2 = 11)) dX3_keep_11 (rfl : 11 + 1 = 12)) dX3_keep_12 rfl (by decide) (rfl : 12 + 1 = 13)) (v_seq (v_scv kX1 IX1_copyFrom hX1_copyFrom lk407 ⟨by decide, by decide⟩ (v_rald (q := 11) (t0 := 3) (ty0 := .object "VacuumDesk$Line") ⟨by decide, by decide⟩ (fun _ => rfl) rfl (v_gfr kX3 lk337 (by decide) rfl (v_aload_n (i := 0) dX3_keep_13 rfl (rfl : 13 + 1 = 14)) dX3_keep_14 (rfl : 14 + 3 = 17)) (v_iload_n (i := 3) dX3_keep_17 rfl (rfl : 17 + 1 = 18)) dX3_keep_18 (rfl : 18 + 1 = 19)) (v_ar (v_aload_n (i := 1) dX3_keep_19 rfl (rfl : 19 + 1 = 20)) v_anil) dX3_keep_20 (rfl : 20 + 3 = 23)) (v_seq (v_aii (v_gfr kX3 lk338 (by decide) rfl (v_aload_n (i := 0) dX3_keep_23 rfl (rfl : 23 + 1 = 24)) dX3_keep_24 (rfl : 24 + 3 = 27)) (v_iload_n (i := 3) dX3_keep_27 rfl (rfl : 27 + 1 = 28)) (v_iload_n (i := 2) dX3_keep_28 rfl (rfl : 28 + 1 = 29)) dX3_keep_29 (rfl : 29 + 1 = 30)) (v_if (v_ilt_f (v_gfi kX3 lk340 (by decide) rfl (v_aload_n (i := 0) dX3_keep_30 rfl (rfl : 30 + 1 = 31)) dX3_keep_31 (rfl : 31 + 3 = 34)) (v_bipush (v := 10) dX3_keep_34 (by decide) (rfl : 34 + 2 = 36)) dX3_keep_36 (rfl : ((36 : Nat) : Int) + 16 = ((52 : Nat) : Int)) (rfl : 36 + 3 = 39)) (vs_goto (v_foi_iadd kX3 lk340 (by decide) rfl rfl (by decide +kernel) (v_aload_n (i := 0) dX3_keep_39 rfl (rfl : 39 + 1 = 40)) dX3_keep_40 dX3_keep_41 (rfl : 40 + 1 + 3 = 44) (v_iconst (v := 1) dX3_keep_44 (by decide) (rfl : 44 + 1 = 45)) dX3_keep_45 dX3_keep_46 (rfl : 45 + 1 + 3 = 49)) dX3_keep_49 (rfl : ((49 : Nat) : Int) + 16 = ((65 : Nat) : Int))) (v_fpi kX3 lk339 (by decide) rfl rfl (by decide +kernel) (v_aload_n (i := 0) dX3_keep_52 rfl (rfl : 52 + 1 = 53)) (v_irem (v_iadd (v_gfi kX3 lk339 (by decide) rfl (v_aload_n (i := 0) dX3_keep_53 rfl (rfl : 53 + 1 = 54)) dX3_keep_54 (rfl : 54 + 3 = 57)) (v_iconst (v := 1) dX3_keep_57 (by decide) (rfl : 57 + 1 = 58)) dX3_keep_58 (rfl : 58 + 1 = 59)) (v_bipush (v := 10) dX3_keep_59 (by decide) (rfl : 59 + 2 = 61)) dX3_keep_61 (rfl : 61 + 1 = 62)) dX3_keep_62 (rfl : 62 + 3 = 65)))))) (v_retv dX3_keep_65))
theorem IX3_keep : Mv yX3_keep cX3_keep 4 (rmk 3 84) DX3_keep := mk_v (by decide +kernel) BX3_keep

theorem dX3_takeBack_0 : decode cX3_takeBack 0 = .ok (.aload_n 0, 1) := by decide +kernel
theorem dX3_takeBack_1 : decode cX3_takeBack 1 = .ok (.getfield 26, 3) := by decide +kernel
theorem dX3_takeBack_4 : decode cX3_takeBack 4 = .ok (.ifCond .ne 5, 3) := by decide +kernel
theorem dX3_takeBack_7 : decode cX3_takeBack 7 = .ok (.iconst (-1), 1) := by decide +kernel
theorem dX3_takeBack_8 : decode cX3_takeBack 8 = .ok (.ireturn, 1) := by decide +kernel
theorem dX3_takeBack_9 : decode cX3_takeBack 9 = .ok (.aload_n 0, 1) := by decide +kernel
theorem dX3_takeBack_10 : decode cX3_takeBack 10 = .ok (.dup, 1) := by decide +kernel
theorem dX3_takeBack_11 : decode cX3_takeBack 11 = .ok (.getfield 26, 3) := by decide +kernel
theorem dX3_takeBack_14 : decode cX3_takeBack 14 = .ok (.iconst 1, 1) := by decide +kernel
theorem dX3_takeBack_15 : decode cX3_takeBack 15 = .ok (.isub, 1) := by decide +kernel
theorem dX3_takeBack_16 : decode cX3_takeBack 16 = .ok (.putfield 26, 3) := by decide +kernel
theorem dX3_takeBack_19 : decode cX3_takeBack 19 = .ok (.aload_n 0, 1) := by decide +kernel
theorem dX3_takeBack_20 : decode cX3_takeBack 20 = .ok (.getfield 22, 3) := by decide +kernel
theorem dX3_takeBack_23 : decode cX3_takeBack 23 = .ok (.aload_n 0, 1) := by decide +kernel
theorem dX3_takeBack_24 : decode cX3_takeBack 24 = .ok (.getfield 26, 3) := by decide +kernel
theorem dX3_takeBack_27 : decode cX3_takeBack 27 = .ok (.iadd, 1) := by decide +kernel
theorem dX3_takeBack_28 : decode cX3_takeBack 28 = .ok (.bipush 10, 2) := by decide +kernel
theorem dX3_takeBack_30 : decode cX3_takeBack 30 = .ok (.irem, 1) := by decide +kernel
theorem dX3_takeBack_31 : decode cX3_takeBack 31 = .ok (.istore_n 2, 1) := by decide +kernel
theorem dX3_takeBack_32 : decode cX3_takeBack 32 = .ok (.aload_n 1, 1) := by decide +kernel
theorem dX3_takeBack_33 : decode cX3_takeBack 33 = .ok (.aload_n 0, 1) := by decide +kernel
theorem dX3_takeBack_34 : decode cX3_takeBack 34 = .ok (.getfield 11, 3) := by decide +kernel
theorem dX3_takeBack_37 : decode cX3_takeBack 37 = .ok (.iload_n 2, 1) := by decide +kernel
theorem dX3_takeBack_38 : decode cX3_takeBack 38 = .ok (.aaload, 1) := by decide +kernel
theorem dX3_takeBack_39 : decode cX3_takeBack 39 = .ok (.invokevirtual 29, 3) := by decide +kernel
theorem dX3_takeBack_42 : decode cX3_takeBack 42 = .ok (.aload_n 0, 1) := by decide +kernel
theorem dX3_takeBack_43 : decode cX3_takeBack 43 = .ok (.getfield 18, 3) := by decide +kernel
theorem dX3_takeBack_46 : decode cX3_takeBack 46 = .ok (.iload_n 2, 1) := by decide +kernel
theorem dX3_takeBack_47 : decode cX3_takeBack 47 = .ok (.iaload, 1) := by decide +kernel
theorem dX3_takeBack_48 : decode cX3_takeBack 48 = .ok (.ireturn, 1) := by decide +kernel
noncomputable def EX3_takeBack : Sx := (sseq (sif (bz ceq (fgi 2 3 (rl 0))) (sret (ik (-1))) snop) (sseq (foi (· - ·) 2 3 (rl 0) (ik 1)) (sseq (ssi 2 (i2d orem (i2 (· + ·) (fgi 2 2 (rl 0)) (fgi 2 3 (rl 0))) (ik 10))) (sseq (scv 1 DX1_copyFrom (rl 1) (ar (rald 11 (fgr 2 0 (rl 0)) (il 2)) anil)) (sret (iald (fgr 2 1 (rl 0)) (il 2)))))))
noncomputable def DX3_takeBack : Fi := mfi 3 EX3_takeBack
set_option maxRecDepth 4000 in
theorem BX3_takeBack : Vs RX3 cX3_takeBack 3 (rmk 3 84) 0 0 EX3_takeBack := (v_seq (v_if (v_zeq_f (v_gfi kX3 lk340 (by decide) rfl (v_aload_n (i := 0) dX3_takeBack_0 rfl (rfl : 0 + 1 = 1)) dX3_takeBack_1 (rfl : 1 + 3 = 4)) dX3_takeBack_4 (rfl : ((4 : Nat) : Int) + 5 = ((9 : Nat) : Int)) (rfl : 4 + 3 = 7)) (v_ret (v_iconst (v := (-1)) dX3_takeBack_7 (by decide) (rfl : 7 + 1 = 8)) dX3_takeBack_8) v_nop) (v_seq (v_foi_isub kX3 lk340 (by decide) rfl rfl (by decide +kernel) (v_aload_n (i := 0) dX3_takeBack_9 rfl (rfl : 9 + 1 = 10)) dX3_takeBack_10 dX3_takeBack_11 (rfl : 10 + 1 + 3 = 14) (v_iconst (v := 1) dX3_takeBack_14 (by decide) (rfl : 14 + 1 = 15)) dX3_takeBack_15 dX3_takeBack_16 (rfl : 15 + 1 + 3 = 19)) (v_seq (v_istore_n (i := 2) (v_irem (v_iadd (v_gfi kX3 lk339 (by decide) rfl (v_aload_n (i := 0) dX3_takeBack_19 rfl (rfl : 19 + 1 = 20)) dX3_takeBack_20 (rfl : 20 + 3 = 23)) (v_gfi kX3 lk340 (by decide) rfl (v_aload_n (i := 0) dX3_takeBack_23 rfl (rfl : 23 + 1 = 24)) dX3_takeBack_24 (rfl : 24 + 3 = 27)) dX3_takeBack_27 (rfl : 27 + 1 = 28)) (v_bipush (v := 10) dX3_takeBack_28 (by decide) (rfl : 28 + 2 = 30)) dX3_takeBack_30 (rfl : 30 + 1 = 31)) dX3_takeBack_31 rfl (by decide) (rfl : 31 + 1 = 32)) (v_seq (v_scv kX1 IX1_copyFrom hX1_copyFrom lk407 ⟨by decide, by decide⟩ (v_aload_n (i := 1) dX3_takeBack_32 rfl (rfl : 32 + 1 = 33)) (v_ar (v_rald (q := 11) (t0 := 3) (ty0 := .object "VacuumDesk$Line") ⟨by decide, by decide⟩ (fun _ => rfl) rfl (v_gfr kX3 lk337 (by decide) rfl (v_aload_n (i := 0) dX3_takeBack_33 rfl (rfl : 33 + 1 = 34)) dX3_takeBack_34 (rfl : 34 + 3 = 37)) (v_iload_n (i := 2) dX3_takeBack_37 rfl (rfl : 37 + 1 = 38)) dX3_takeBack_38 (rfl : 38 + 1 = 39)) v_anil) dX3_takeBack_39 (rfl : 39 + 3 = 42)) (v_ret (v_iald (v_gfr kX3 lk338 (by decide) rfl (v_aload_n (i := 0) dX3_takeBack_42 rfl (rfl : 42 + 1 = 43)) dX3_takeBack_43 (rfl : 43 + 3 = 46)) (v_iload_n (i := 2) dX3_takeBack_46 rfl (rfl : 46 + 1 = 47)) dX3_takeBack_47 (rfl : 47 + 1 = 48)) dX3_takeBack_48)))))
theorem IX3_takeBack : Mi yX3_takeBack cX3_takeBack 3 (rmk 3 84) DX3_takeBack := mk_i (by decide +kernel) BX3_takeBack

theorem dX4_cell_0 : decode cX4_cell 0 = .ok (.iload_n 0, 1) := by decide +kernel
theorem dX4_cell_1 : decode cX4_cell 1 = .ok (.iconst 5, 1) := by decide +kernel
theorem dX4_cell_2 : decode cX4_cell 2 = .ok (.imul, 1) := by decide +kernel
theorem dX4_cell_3 : decode cX4_cell 3 = .ok (.iload_n 1, 1) := by decide +kernel
theorem dX4_cell_4 : decode cX4_cell 4 = .ok (.iadd, 1) := by decide +kernel
theorem dX4_cell_5 : decode cX4_cell 5 = .ok (.ireturn, 1) := by decide +kernel
noncomputable def EX4_cell : Sx := (sret (i2 (· + ·) (i2 (· * ·) (il 0) (ik 5)) (il 1)))
noncomputable def DX4_cell : Fi := mfi 2 EX4_cell
set_option maxRecDepth 4000 in
theorem BX4_cell : Vs RX4 cX4_cell 2 (rmk 0 0) 0 0 EX4_cell := (v_ret (v_iadd (v_imul (v_iload_n (i := 0) dX4_cell_0 rfl (rfl : 0 + 1 = 1)) (v_iconst (v := 5) dX4_cell_1 (by decide) (rfl : 1 + 1 = 2)) dX4_cell_2 (rfl : 2 + 1 = 3)) (v_iload_n (i := 1) dX4_cell_3 rfl (rfl : 3 + 1 = 4)) dX4_cell_4 (rfl : 4 + 1 = 5)) dX4_cell_5)
theorem IX4_cell : Mi yX4_cell cX4_cell 2 (rmk 0 0) DX4_cell := mk_i (by decide +kernel) BX4_cell

theorem dX4_enter_0 : decode cX4_enter 0 = .ok (.aload_n 1, 1) := by decide +kernel
theorem dX4_enter_1 : decode cX4_enter 1 = .ok (.iconst 0, 1) := by decide +kernel
theorem dX4_enter_2 : decode cX4_enter 2 = .ok (.iaload, 1) := by decide +kernel
theorem dX4_enter_3 : decode cX4_enter 3 = .ok (.istore_n 3, 1) := by decide +kernel
theorem dX4_enter_4 : decode cX4_enter 4 = .ok (.aload_n 1, 1) := by decide +kernel
theorem dX4_enter_5 : decode cX4_enter 5 = .ok (.iconst 1, 1) := by decide +kernel
theorem dX4_enter_6 : decode cX4_enter 6 = .ok (.iaload, 1) := by decide +kernel
theorem dX4_enter_7 : decode cX4_enter 7 = .ok (.istore 4, 2) := by decide +kernel
theorem dX4_enter_9 : decode cX4_enter 9 = .ok (.iload_n 2, 1) := by decide +kernel
theorem dX4_enter_10 : decode cX4_enter 10 = .ok (.iload_n 3, 1) := by decide +kernel
theorem dX4_enter_11 : decode cX4_enter 11 = .ok (.ishr, 1) := by decide +kernel
theorem dX4_enter_12 : decode cX4_enter 12 = .ok (.iconst 1, 1) := by decide +kernel
theorem dX4_enter_13 : decode cX4_enter 13 = .ok (.iand, 1) := by decide +kernel
theorem dX4_enter_14 : decode cX4_enter 14 = .ok (.ifCond .eq 7, 3) := by decide +kernel
theorem dX4_enter_17 : decode cX4_enter 17 = .ok (.iconst 1, 1) := by decide +kernel
theorem dX4_enter_18 : decode cX4_enter 18 = .ok (.goto 4, 3) := by decide +kernel
theorem dX4_enter_21 : decode cX4_enter 21 = .ok (.iconst 0, 1) := by decide +kernel
theorem dX4_enter_22 : decode cX4_enter 22 = .ok (.istore 5, 2) := by decide +kernel
theorem dX4_enter_24 : decode cX4_enter 24 = .ok (.iload_n 2, 1) := by decide +kernel
theorem dX4_enter_25 : decode cX4_enter 25 = .ok (.iload 4, 2) := by decide +kernel
theorem dX4_enter_27 : decode cX4_enter 27 = .ok (.ishr, 1) := by decide +kernel
theorem dX4_enter_28 : decode cX4_enter 28 = .ok (.iconst 1, 1) := by decide +kernel
theorem dX4_enter_29 : decode cX4_enter 29 = .ok (.iand, 1) := by decide +kernel
theorem dX4_enter_30 : decode cX4_enter 30 = .ok (.ifCond .eq 7, 3) := by decide +kernel
theorem dX4_enter_33 : decode cX4_enter 33 = .ok (.iconst 1, 1) := by decide +kernel
theorem dX4_enter_34 : decode cX4_enter 34 = .ok (.goto 4, 3) := by decide +kernel
theorem dX4_enter_37 : decode cX4_enter 37 = .ok (.iconst 0, 1) := by decide +kernel
theorem dX4_enter_38 : decode cX4_enter 38 = .ok (.istore 6, 2) := by decide +kernel
theorem dX4_enter_40 : decode cX4_enter 40 = .ok (.iload 5, 2) := by decide +kernel
theorem dX4_enter_42 : decode cX4_enter 42 = .ok (.ifCond .eq 20, 3) := by decide +kernel
theorem dX4_enter_45 : decode cX4_enter 45 = .ok (.aload_n 0, 1) := by decide +kernel
theorem dX4_enter_46 : decode cX4_enter 46 = .ok (.getfield 9, 3) := by decide +kernel
theorem dX4_enter_49 : decode cX4_enter 49 = .ok (.iload_n 3, 1) := by decide +kernel
theorem dX4_enter_50 : decode cX4_enter 50 = .ok (.iload_n 3, 1) := by decide +kernel
theorem dX4_enter_51 : decode cX4_enter 51 = .ok (.invokestatic 37, 3) := by decide +kernel
theorem dX4_enter_54 : decode cX4_enter 54 = .ok (.dup2, 1) := by decide +kernel
theorem dX4_enter_55 : decode cX4_enter 55 = .ok (.laload, 1) := by decide +kernel
theorem dX4_enter_56 : decode cX4_enter 56 = .ok (.aload_n 1, 1) := by decide +kernel
theorem dX4_enter_57 : decode cX4_enter 57 = .ok (.iconst 2, 1) := by decide +kernel
theorem dX4_enter_58 : decode cX4_enter 58 = .ok (.iaload, 1) := by decide +kernel
theorem dX4_enter_59 : decode cX4_enter 59 = .ok (.i2l, 1) := by decide +kernel
theorem dX4_enter_60 : decode cX4_enter 60 = .ok (.ladd, 1) := by decide +kernel
theorem dX4_enter_61 : decode cX4_enter 61 = .ok (.lastore, 1) := by decide +kernel
theorem dX4_enter_62 : decode cX4_enter 62 = .ok (.iload 6, 2) := by decide +kernel
theorem dX4_enter_64 : decode cX4_enter 64 = .ok (.ifCond .eq 22, 3) := by decide +kernel
theorem dX4_enter_67 : decode cX4_enter 67 = .ok (.aload_n 0, 1) := by decide +kernel
theorem dX4_enter_68 : decode cX4_enter 68 = .ok (.getfield 9, 3) := by decide +kernel
theorem dX4_enter_71 : decode cX4_enter 71 = .ok (.iload 4, 2) := by decide +kernel
theorem dX4_enter_73 : decode cX4_enter 73 = .ok (.iload 4, 2) := by decide +kernel
theorem dX4_enter_75 : decode cX4_enter 75 = .ok (.invokestatic 37, 3) := by decide +kernel
theorem dX4_enter_78 : decode cX4_enter 78 = .ok (.dup2, 1) := by decide +kernel
theorem dX4_enter_79 : decode cX4_enter 79 = .ok (.laload, 1) := by decide +kernel
theorem dX4_enter_80 : decode cX4_enter 80 = .ok (.aload_n 1, 1) := by decide +kernel
theorem dX4_enter_81 : decode cX4_enter 81 = .ok (.iconst 2, 1) := by decide +kernel
theorem dX4_enter_82 : decode cX4_enter 82 = .ok (.iaload, 1) := by decide +kernel
theorem dX4_enter_83 : decode cX4_enter 83 = .ok (.i2l, 1) := by decide +kernel
theorem dX4_enter_84 : decode cX4_enter 84 = .ok (.ladd, 1) := by decide +kernel
theorem dX4_enter_85 : decode cX4_enter 85 = .ok (.lastore, 1) := by decide +kernel
theorem dX4_enter_86 : decode cX4_enter 86 = .ok (.iload 5, 2) := by decide +kernel
theorem dX4_enter_88 : decode cX4_enter 88 = .ok (.ifCond .eq 44, 3) := by decide +kernel
theorem dX4_enter_91 : decode cX4_enter 91 = .ok (.iload 6, 2) := by decide +kernel
theorem dX4_enter_93 : decode cX4_enter 93 = .ok (.ifCond .eq 39, 3) := by decide +kernel
theorem dX4_enter_96 : decode cX4_enter 96 = .ok (.aload_n 0, 1) := by decide +kernel
theorem dX4_enter_97 : decode cX4_enter 97 = .ok (.getfield 9, 3) := by decide +kernel
theorem dX4_enter_100 : decode cX4_enter 100 = .ok (.iload_n 3, 1) := by decide +kernel
theorem dX4_enter_101 : decode cX4_enter 101 = .ok (.iload 4, 2) := by decide +kernel
theorem dX4_enter_103 : decode cX4_enter 103 = .ok (.invokestatic 37, 3) := by decide +kernel
theorem dX4_enter_106 : decode cX4_enter 106 = .ok (.dup2, 1) := by decide +kernel
theorem dX4_enter_107 : decode cX4_enter 107 = .ok (.laload, 1) := by decide +kernel
theorem dX4_enter_108 : decode cX4_enter 108 = .ok (.aload_n 1, 1) := by decide +kernel
theorem dX4_enter_109 : decode cX4_enter 109 = .ok (.iconst 2, 1) := by decide +kernel
theorem dX4_enter_110 : decode cX4_enter 110 = .ok (.iaload, 1) := by decide +kernel
theorem dX4_enter_111 : decode cX4_enter 111 = .ok (.i2l, 1) := by decide +kernel
theorem dX4_enter_112 : decode cX4_enter 112 = .ok (.lsub, 1) := by decide +kernel
theorem dX4_enter_113 : decode cX4_enter 113 = .ok (.lastore, 1) := by decide +kernel
theorem dX4_enter_114 : decode cX4_enter 114 = .ok (.aload_n 0, 1) := by decide +kernel
theorem dX4_enter_115 : decode cX4_enter 115 = .ok (.getfield 9, 3) := by decide +kernel
theorem dX4_enter_118 : decode cX4_enter 118 = .ok (.iload 4, 2) := by decide +kernel
theorem dX4_enter_120 : decode cX4_enter 120 = .ok (.iload_n 3, 1) := by decide +kernel
theorem dX4_enter_121 : decode cX4_enter 121 = .ok (.invokestatic 37, 3) := by decide +kernel
theorem dX4_enter_124 : decode cX4_enter 124 = .ok (.dup2, 1) := by decide +kernel
theorem dX4_enter_125 : decode cX4_enter 125 = .ok (.laload, 1) := by decide +kernel
theorem dX4_enter_126 : decode cX4_enter 126 = .ok (.aload_n 1, 1) := by decide +kernel
theorem dX4_enter_127 : decode cX4_enter 127 = .ok (.iconst 2, 1) := by decide +kernel
theorem dX4_enter_128 : decode cX4_enter 128 = .ok (.iaload, 1) := by decide +kernel
theorem dX4_enter_129 : decode cX4_enter 129 = .ok (.i2l, 1) := by decide +kernel
theorem dX4_enter_130 : decode cX4_enter 130 = .ok (.lsub, 1) := by decide +kernel
theorem dX4_enter_131 : decode cX4_enter 131 = .ok (.lastore, 1) := by decide +kernel
theorem dX4_enter_132 : decode cX4_enter 132 = .ok (.return_, 1) := by decide +kernel
noncomputable def EX4_enter : Sx := (sseq (sseq (ssi 3 (iald (rl 1) (ik 0))) (sseq (ssi 4 (iald (rl 1) (ik 1))) (sseq (ssi 5 (ic (bz cne (i2 (· &&& ·) (i2 oshr (il 2) (il 3)) (ik 1))) (ik 1) (ik 0))) (sseq (ssi 6 (ic (bz cne (i2 (· &&& ·) (i2 oshr (il 2) (il 4)) (ik 1))) (ik 1) (ik 0))) (sseq (sif (bz cne (il 5)) (aoj (· + ·) (fgr 3 0 (rl 0)) (csi DX4_cell (ai (il 3) (ai (il 3) anil))) (i2l (iald (rl 1) (ik 2)))) snop) (sseq (sif (bz cne (il 6)) (aoj (· + ·) (fgr 3 0 (rl 0)) (csi DX4_cell (ai (il 4) (ai (il 4) anil))) (i2l (iald (rl 1) (ik 2)))) snop) (sif (band (bz cne (il 5)) (bz cne (il 6))) (sseq (aoj (· - ·) (fgr 3 0 (rl 0)) (csi DX4_cell (ai (il 3) (ai (il 4) anil))) (i2l (iald (rl 1) (ik 2)))) (aoj (· - ·) (fgr 3 0 (rl 0)) (csi DX4_cell (ai (il 4) (ai (il 3) anil))) (i2l (iald (rl 1) (ik 2))))) snop))))))) sretv)
noncomputable def DX4_enter : Fu := mfv 7 EX4_enter
set_option maxRecDepth 4000 in
theorem BX4_enter : Vs RX4 cX4_enter 7 (rmk 1 21) 0 0 EX4_enter := (v_seq (v_seq (v_istore_n (i := 3) (v_iald (v_aload_n (i := 1) dX4_enter_0 rfl (rfl : 0 + 1 = 1)) (v_iconst (v := 0) dX4_enter_1 (by decide) (rfl : 1 + 1 = 2)) dX4_enter_2 (rfl : 2 + 1 = 3)) dX4_enter_3 rfl (by decide) (rfl : 3 + 1 = 4)) (v_seq (v_istore (i := 4) (v_iald (v_aload_n (i := 1) dX4_enter_4 rfl (rfl : 4 + 1 = 5)) (v_iconst (v := 1) dX4_enter_5 (by decide) (rfl : 5 + 1 = 6)) dX4_enter_6 (rfl : 6 + 1 = 7)) dX4_enter_7 (by decide) (rfl : 7 + 2 = 9)) (v_seq (v_istore (i := 5) (v_ic (v_zne_f (v_iand (v_ishr (v_iload_n (i := 2) dX4_enter_9 rfl (rfl : 9 + 1 = 10)) (v_iload_n (i := 3) dX4_enter_10 rfl (rfl : 10 + 1 = 11)) dX4_enter_11 (rfl : 11 + 1 = 12)) (v_iconst (v := 1) dX4_enter_12 (by decide) (rfl : 12 + 1 = 13)) dX4_enter_13 (rfl : 13 + 1 = 14)) dX4_enter_14 (rfl : ((14 : Nat) : Int) + 7 = ((21 : Nat) : Int)) (rfl : 14 + 3 = 17)) (vi_goto (v_iconst (v := 1) dX4_enter_17 (by decide) (rfl : 17 + 1 = 18)) dX4_enter_18 (rfl : ((18 : Nat) : Int) + 4 = ((22 : Nat) : Int))) (v_iconst (v := 0) dX4_enter_21 (by decide) (rfl : 21 + 1 = 22))) dX4_enter_22 (by decide) (rfl : 22 + 2 = 24)) (v_seq (v_istore (i := 6) (v_ic (v_zne_f (v_iand (v_ishr (v_iload_n (i := 2) dX4_enter_24 rfl (rfl : 24 + 1 = 25)) (v_iload (i := 4) dX4_enter_25 (rfl : 25 + 2 = 27)) dX4_enter_27 (rfl : 27 + 1 = 28)) (v_iconst (v := 1) dX4_enter_28 (by decide) (rfl : 28 + 1 = 29)) dX4_enter_29 (rfl : 29 + 1 = 30)) dX4_enter_30 (rfl : ((30 : Nat) : Int) + 7 = ((37 : Nat) : Int)) (rfl : 30 + 3 = 33)) (vi_goto (v_iconst (v := 1) dX4_enter_33 (by decide) (rfl : 33 + 1 = 34)) dX4_enter_34 (rfl : ((34 : Nat) : Int) + 4 = ((38 : Nat) : Int))) (v_iconst (v := 0) dX4_enter_37 (by decide) (rfl : 37 + 1 = 38))) dX4_enter_38 (by decide) (rfl : 38 + 2 = 40)) (v_seq (v_if (v_zne_f (v_iload (i := 5) dX4_enter_40 (rfl : 40 + 2 = 42)) dX4_enter_42 (rfl : ((42 : Nat) : Int) + 20 = ((62 : Nat) : Int)) (rfl : 42 + 3 = 45)) (v_aoj_ladd (v_gfr kX4 lk306 (by decide) rfl (v_aload_n (i := 0) dX4_enter_45 rfl (rfl : 45 + 1 = 46)) dX4_enter_46 (rfl : 46 + 3 = 49)) (v_csi IX4_cell hX4_cell lk785 ⟨by decide, by decide⟩ (by decide) (v_ai (v_iload_n (i := 3) dX4_enter_49 rfl (rfl : 49 + 1 = 50)) (v_ai (v_iload_n (i := 3) dX4_enter_50 rfl (rfl : 50 + 1 = 51)) v_anil)) dX4_enter_51 (rfl : 51 + 3 = 54)) dX4_enter_54 dX4_enter_55 (rfl : 54 + 1 + 1 = 56) (v_i2l (v_iald (v_aload_n (i := 1) dX4_enter_56 rfl (rfl : 56 + 1 = 57)) (v_iconst (v := 2) dX4_enter_57 (by decide) (rfl : 57 + 1 = 58)) dX4_enter_58 (rfl : 58 + 1 = 59)) dX4_enter_59 (rfl : 59 + 1 = 60)) dX4_enter_60 dX4_enter_61 (rfl : 60 + 1 + 1 = 62)) v_nop) (v_seq (v_if (v_zne_f (v_iload (i := 6) dX4_enter_62 (rfl : 62 + 2 = 64)) dX4_enter_64 (rfl : ((64 : Nat) : Int) + 22 = ((86 : Nat) : Int)) (rfl : 64 + 3 = 67)) (v_aoj_ladd (v_gfr kX4 lk306 (by decide) rfl (v_aload_n (i := 0) dX4_enter_67 rfl (rfl : 67 + 1 = 68)) dX4_enter_68 (rfl : 68 + 3 = 71)) (v_csi IX4_cell hX4_cell lk785 ⟨by decide, by decide⟩ (by decide) (v_ai (v_iload (i := 4) dX4_enter_71 (rfl : 71 + 2 = 73)) (v_ai (v_iload (i := 4) dX4_enter_73 (rfl : 73 + 2 = 75)) v_anil)) dX4_enter_75 (rfl : 75 + 3 = 78)) dX4_enter_78 dX4_enter_79 (rfl : 78 + 1 + 1 = 80) (v_i2l (v_iald (v_aload_n (i := 1) dX4_enter_80 rfl (rfl : 80 + 1 = 81)) (v_iconst (v := 2) dX4_enter_81 (by decide) (rfl : 81 + 1 = 82)) dX4_enter_82 (rfl : 82 + 1 = 83)) dX4_enter_83 (rfl : 83 + 1 = 84)) dX4_enter_84 dX4_enter_85 (rfl : 84 + 1 + 1 = 86)) v_nop) (v_if (v_and (v_zne_f (v_iload (i := 5) dX4_enter_86 (rfl : 86 + 2 = 88)) dX4_enter_88 (rfl : ((88 : Nat) : Int) + 44 = ((132 : Nat) : Int)) (rfl : 88 + 3 = 91)) (v_zne_f (v_iload (i := 6) dX4_enter_91 (rfl : 91 + 2 = 93)) dX4_enter_93 (rfl : ((93 : Nat) : Int) + 39 = ((132 : Nat) : Int)) (rfl : 93 + 3 = 96))) (v_seq (v_aoj_lsub (v_gfr kX4 lk306 (by decide) rfl (v_aload_n (i := 0) dX4_enter_96 rfl (rfl : 96 + 1 = 97)) dX4_enter_97 (rfl : 97 + 3 = 100)) (v_csi IX4_cell hX4_cell lk785 ⟨by decide, by decide⟩ (by decide) (v_ai (v_iload_n (i := 3) dX4_enter_100 rfl (rfl : 100 + 1 = 101)) (v_ai (v_iload (i := 4) dX4_enter_101 (rfl : 101 + 2 = 103)) v_anil)) dX4_enter_103 (rfl : 103 + 3 = 106)) dX4_enter_106 dX4_enter_107 (rfl : 106 + 1 + 1 = 108) (v_i2l (v_iald (v_aload_n (i := 1) dX4_enter_108 rfl (rfl : 108 + 1 = 109)) (v_iconst (v := 2) dX4_enter_109 (by decide) (rfl : 109 + 1 = 110)) dX4_enter_110 (rfl : 110 + 1 = 111)) dX4_enter_111 (rfl : 111 + 1 = 112)) dX4_enter_112 dX4_enter_113 (rfl : 112 + 1 + 1 = 114)) (v_aoj_lsub (v_gfr kX4 lk306 (by decide) rfl (v_aload_n (i := 0) dX4_enter_114 rfl (rfl : 114 + 1 = 115)) dX4_enter_115 (rfl : 115 + 3 = 118)) (v_csi IX4_cell hX4_cell lk785 ⟨by decide, by decide⟩ (by decide) (v_ai (v_iload (i := 4) dX4_enter_118 (rfl : 118 + 2 = 120)) (v_ai (v_iload_n (i := 3) dX4_enter_120 rfl (rfl : 120 + 1 = 121)) v_anil)) dX4_enter_121 (rfl : 121 + 3 = 124)) dX4_enter_124 dX4_enter_125 (rfl : 124 + 1 + 1 = 126) (v_i2l (v_iald (v_aload_n (i := 1) dX4_enter_126 rfl (rfl : 126 + 1 = 127)) (v_iconst (v := 2) dX4_enter_127 (by decide) (rfl : 127 + 1 = 128)) dX4_enter_128 (rfl : 128 + 1 = 129)) dX4_enter_129 (rfl : 129 + 1 = 130)) dX4_enter_130 dX4_enter_131 (rfl : 130 + 1 + 1 = 132))) v_nop))))))) (v_retv dX4_enter_132))
theorem IX4_enter : Mv yX4_enter cX4_enter 7 (rmk 1 21) DX4_enter := mk_v (by decide +kernel) BX4_enter

theorem dX4_across_0 : decode cX4_across 0 = .ok (.aload_n 1, 1) := by decide +kernel
theorem dX4_across_1 : decode cX4_across 1 = .ok (.iload_n 2, 1) := by decide +kernel
theorem dX4_across_2 : decode cX4_across 2 = .ok (.invokevirtual 21, 3) := by decide +kernel
theorem dX4_across_5 : decode cX4_across 5 = .ok (.iconst 1, 1) := by decide +kernel
theorem dX4_across_6 : decode cX4_across 6 = .ok (.iload_n 3, 1) := by decide +kernel
theorem dX4_across_7 : decode cX4_across 7 = .ok (.ishl, 1) := by decide +kernel
theorem dX4_across_8 : decode cX4_across 8 = .ok (.iconst (-1), 1) := by decide +kernel
theorem dX4_across_9 : decode cX4_across 9 = .ok (.ixor, 1) := by decide +kernel
theorem dX4_across_10 : decode cX4_across 10 = .ok (.iand, 1) := by decide +kernel
theorem dX4_across_11 : decode cX4_across 11 = .ok (.istore 4, 2) := by decide +kernel
theorem dX4_across_13 : decode cX4_across 13 = .ok (.aload_n 0, 1) := by decide +kernel
theorem dX4_across_14 : decode cX4_across 14 = .ok (.getfield 9, 3) := by decide +kernel
theorem dX4_across_17 : decode cX4_across 17 = .ok (.lconst 0, 1) := by decide +kernel
theorem dX4_across_18 : decode cX4_across 18 = .ok (.invokestatic 27, 3) := by decide +kernel
theorem dX4_across_21 : decode cX4_across 21 = .ok (.iconst 0, 1) := by decide +kernel
theorem dX4_across_22 : decode cX4_across 22 = .ok (.istore 5, 2) := by decide +kernel
theorem dX4_across_24 : decode cX4_across 24 = .ok (.iload 5, 2) := by decide +kernel
theorem dX4_across_26 : decode cX4_across 26 = .ok (.aload_n 1, 1) := by decide +kernel
theorem dX4_across_27 : decode cX4_across 27 = .ok (.getfield 33, 3) := by decide +kernel
theorem dX4_across_30 : decode cX4_across 30 = .ok (.if_icmp .ge 36, 3) := by decide +kernel
theorem dX4_across_33 : decode cX4_across 33 = .ok (.aload_n 0, 1) := by decide +kernel
theorem dX4_across_34 : decode cX4_across 34 = .ok (.getfield 9, 3) := by decide +kernel
theorem dX4_across_37 : decode cX4_across 37 = .ok (.iload 5, 2) := by decide +kernel
theorem dX4_across_39 : decode cX4_across 39 = .ok (.iload 5, 2) := by decide +kernel
theorem dX4_across_41 : decode cX4_across 41 = .ok (.invokestatic 37, 3) := by decide +kernel
theorem dX4_across_44 : decode cX4_across 44 = .ok (.iload 4, 2) := by decide +kernel
theorem dX4_across_46 : decode cX4_across 46 = .ok (.iload 5, 2) := by decide +kernel
theorem dX4_across_48 : decode cX4_across 48 = .ok (.ishr, 1) := by decide +kernel
theorem dX4_across_49 : decode cX4_across 49 = .ok (.iconst 1, 1) := by decide +kernel
theorem dX4_across_50 : decode cX4_across 50 = .ok (.iand, 1) := by decide +kernel
theorem dX4_across_51 : decode cX4_across 51 = .ok (.ifCond .eq 7, 3) := by decide +kernel
theorem dX4_across_54 : decode cX4_across 54 = .ok (.lconst 0, 1) := by decide +kernel
theorem dX4_across_55 : decode cX4_across 55 = .ok (.goto 4, 3) := by decide +kernel
theorem dX4_across_58 : decode cX4_across 58 = .ok (.lconst 1, 1) := by decide +kernel
theorem dX4_across_59 : decode cX4_across 59 = .ok (.lastore, 1) := by decide +kernel
theorem dX4_across_60 : decode cX4_across 60 = .ok (.iinc 5 1, 3) := by decide +kernel
theorem dX4_across_63 : decode cX4_across 63 = .ok (.goto (-39), 3) := by decide +kernel
theorem dX4_across_66 : decode cX4_across 66 = .ok (.iconst 0, 1) := by decide +kernel
theorem dX4_across_67 : decode cX4_across 67 = .ok (.istore 5, 2) := by decide +kernel
theorem dX4_across_69 : decode cX4_across 69 = .ok (.iload 5, 2) := by decide +kernel
theorem dX4_across_71 : decode cX4_across 71 = .ok (.aload_n 1, 1) := by decide +kernel
theorem dX4_across_72 : decode cX4_across 72 = .ok (.getfield 41, 3) := by decide +kernel
theorem dX4_across_75 : decode cX4_across 75 = .ok (.if_icmp .ge 33, 3) := by decide +kernel
theorem dX4_across_78 : decode cX4_across 78 = .ok (.aload_n 1, 1) := by decide +kernel
theorem dX4_across_79 : decode cX4_across 79 = .ok (.getfield 44, 3) := by decide +kernel
theorem dX4_across_82 : decode cX4_across 82 = .ok (.iload 5, 2) := by decide +kernel
theorem dX4_across_84 : decode cX4_across 84 = .ok (.aaload, 1) := by decide +kernel
theorem dX4_across_85 : decode cX4_across 85 = .ok (.astore 6, 2) := by decide +kernel
theorem dX4_across_87 : decode cX4_across 87 = .ok (.aload 6, 2) := by decide +kernel
theorem dX4_across_89 : decode cX4_across 89 = .ok (.iconst 3, 1) := by decide +kernel
theorem dX4_across_90 : decode cX4_across 90 = .ok (.iaload, 1) := by decide +kernel
theorem dX4_across_91 : decode cX4_across 91 = .ok (.ifCond .eq 11, 3) := by decide +kernel
theorem dX4_across_94 : decode cX4_across 94 = .ok (.aload_n 0, 1) := by decide +kernel
theorem dX4_across_95 : decode cX4_across 95 = .ok (.aload 6, 2) := by decide +kernel
theorem dX4_across_97 : decode cX4_across 97 = .ok (.iload 4, 2) := by decide +kernel
theorem dX4_across_99 : decode cX4_across 99 = .ok (.invokevirtual 48, 3) := by decide +kernel
theorem dX4_across_102 : decode cX4_across 102 = .ok (.iinc 5 1, 3) := by decide +kernel
theorem dX4_across_105 : decode cX4_across 105 = .ok (.goto (-36), 3) := by decide +kernel
theorem dX4_across_108 : decode cX4_across 108 = .ok (.aload_n 0, 1) := by decide +kernel
theorem dX4_across_109 : decode cX4_across 109 = .ok (.aload_n 0, 1) := by decide +kernel
theorem dX4_across_110 : decode cX4_across 110 = .ok (.getfield 9, 3) := by decide +kernel
theorem dX4_across_113 : decode cX4_across 113 = .ok (.aload_n 1, 1) := by decide +kernel
theorem dX4_across_114 : decode cX4_across 114 = .ok (.getfield 33, 3) := by decide +kernel
theorem dX4_across_117 : decode cX4_across 117 = .ok (.invokestatic 52, 3) := by decide +kernel
theorem dX4_across_120 : decode cX4_across 120 = .ok (.putfield 58, 3) := by decide +kernel
theorem dX4_across_123 : decode cX4_across 123 = .ok (.aload_n 0, 1) := by decide +kernel
theorem dX4_across_124 : decode cX4_across 124 = .ok (.aload_n 0, 1) := by decide +kernel
theorem dX4_across_125 : decode cX4_across 125 = .ok (.getfield 9, 3) := by decide +kernel
theorem dX4_across_128 : decode cX4_across 128 = .ok (.iload_n 2, 1) := by decide +kernel
theorem dX4_across_129 : decode cX4_across 129 = .ok (.iload_n 2, 1) := by decide +kernel
theorem dX4_across_130 : decode cX4_across 130 = .ok (.invokestatic 37, 3) := by decide +kernel
theorem dX4_across_133 : decode cX4_across 133 = .ok (.laload, 1) := by decide +kernel
theorem dX4_across_134 : decode cX4_across 134 = .ok (.putfield 62, 3) := by decide +kernel
theorem dX4_across_137 : decode cX4_across 137 = .ok (.return_, 1) := by decide +kernel
noncomputable def qX4_across_1 : Bx := (bc clt (il 5) (fgi 1 0 (rl 1)))
noncomputable def wX4_across_1 : Sx := (sseq (aij (fgr 3 0 (rl 0)) (csi DX4_cell (ai (il 5) (ai (il 5) anil))) (jc (bz cne (i2 (· &&& ·) (i2 oshr (il 4) (il 5)) (ik 1))) (jk 0) (jk 1))) (sinc 5 1))
noncomputable def qX4_across_2 : Bx := (bc clt (il 5) (fgi 1 1 (rl 1)))
noncomputable def wX4_across_2 : Sx := (sseq (scut 6 (sseq (ssr 6 (rald 12 (fgr 1 10 (rl 1)) (il 5))) (sif (bz cne (iald (rl 6) (ik 3))) (scv 3 DX4_enter (rl 0) (ar (rl 6) (ai (il 4) anil))) snop))) (sinc 5 1))
noncomputable def EX4_across : Sx := (sseq (sseq (ssi 4 (i2 (· &&& ·) (cvi 1 DX1_net (rl 1) (ai (il 2) anil)) (i2 (· ^^^ ·) (i2 oshl (ik 1) (il 3)) (ik (-1))))) (sseq (scs DJ7_fill_d0a16 (ar (fgr 3 0 (rl 0)) (aj (jk 0) anil))) (sseq (scut 5 (sseq (ssi 5 (ik 0)) (swh qX4_across_1 wX4_across_1))) (sseq (scut 5 (sseq (ssi 5 (ik 0)) (swh qX4_across_2 wX4_across_2))) (sseq (fpj 3 3 (rl 0) (csj DX2_invert (ar (fgr 3 0 (rl 0)) (ai (fgi 1 0 (rl 1)) anil)))) (fpj 3 4 (rl 0) (jald (fgr 3 0 (rl 0)) (csi DX4_cell (ai (il 2) (ai (il 2) anil)))))))))) sretv)
noncomputable def DX4_across : Fu := mfv 7 EX4_across
set_option maxRecDepth 4000 in
theorem BX4_across : Vs RX4 cX4_across 7 (rmk 2 61) 0 0 EX4_across := (v_seq (v_seq (v_istore (i := 4) (v_iand (v_cvi kX1 IX1_net hX1_net lk781 ⟨by decide, by decide⟩ (by decide) (v_aload_n (i := 1) dX4_across_0 rfl (rfl : 0 + 1 = 1)) (v_ai (v_iload_n (i := 2) dX4_across_1 rfl (rfl : 1 + 1 = 2)) v_anil) dX4_across_2 (rfl : 2 + 3 = 5)) (v_ixor (v_ishl (v_iconst (v := 1) dX4_across_5 (by decide) (rfl : 5 + 1 = 6)) (v_iload_n (i := 3) dX4_across_6 rfl (rfl : 6 + 1 = 7)) dX4_across_7 (rfl : 7 + 1 = 8)) (v_iconst (v := (-1)) dX4_across_8 (by decide) (rfl : 8 + 1 = 9)) dX4_across_9 (rfl : 9 + 1 = 10)) dX4_across_10 (rfl : 10 + 1 = 11)) dX4_across_11 (by decide) (rfl : 11 + 2 = 13)) (v_seq (v_scs IJ7_fill_d0a16 hJ7_fill_d0a16 lk782 ⟨by decide, by decide⟩ (v_ar (v_gfr kX4 lk306 (by decide) rfl (v_aload_n (i := 0) dX4_across_13 rfl (rfl : 13 + 1 = 14)) dX4_across_14 (rfl : 14 + 3 = 17)) (v_aj (v_lconst (v := 0) dX4_across_17 (by decide) (rfl : 17 + 1 = 18)) v_anil)) dX4_across_18 (rfl : 18 + 3 = 21)) (v_seq (v_cut (n := 5) (v_seq (v_istore (i := 5) (v_iconst (v := 0) dX4_across_21 (by decide) (rfl : 21 + 1 = 22)) dX4_across_22 (by decide) (rfl : 22 + 2 = 24)) (v_wh (v_ilt_f (v_iload (i := 5) dX4_across_24 (rfl : 24 + 2 = 26)) (v_gfi kX1 lk123 (by decide) rfl (v_aload_n (i := 1) dX4_across_26 rfl (rfl : 26 + 1 = 27)) dX4_across_27 (rfl : 27 + 3 = 30)) dX4_across_30 (rfl : ((30 : Nat) : Int) + 36 = ((66 : Nat) : Int)) (rfl : 30 + 3 = 33)) (vs_goto (v_seq (v_aij (v_gfr kX4 lk306 (by decide) rfl (v_aload_n (i := 0) dX4_across_33 rfl (rfl : 33 + 1 = 34)) dX4_across_34 (rfl : 34 + 3 = 37)) (v_csi IX4_cell hX4_cell lk785 ⟨by decide, by decide⟩ (by decide) (v_ai (v_iload (i := 5) dX4_across_37 (rfl : 37 + 2 = 39)) (v_ai (v_iload (i := 5) dX4_across_39 (rfl : 39 + 2 = 41)) v_anil)) dX4_across_41 (rfl : 41 + 3 = 44)) (v_jc (v_zne_f (v_iand (v_ishr (v_iload (i := 4) dX4_across_44 (rfl : 44 + 2 = 46)) (v_iload (i := 5) dX4_across_46 (rfl : 46 + 2 = 48)) dX4_across_48 (rfl : 48 + 1 = 49)) (v_iconst (v := 1) dX4_across_49 (by decide) (rfl : 49 + 1 = 50)) dX4_across_50 (rfl : 50 + 1 = 51)) dX4_across_51 (rfl : ((51 : Nat) : Int) + 7 = ((58 : Nat) : Int)) (rfl : 51 + 3 = 54)) (vj_goto (v_lconst (v := 0) dX4_across_54 (by decide) (rfl : 54 + 1 = 55)) dX4_across_55 (rfl : ((55 : Nat) : Int) + 4 = ((59 : Nat) : Int))) (v_lconst (v := 1) dX4_across_58 (by decide) (rfl : 58 + 1 = 59))) dX4_across_59 (rfl : 59 + 1 = 60)) (v_iinc (v := 1) dX4_across_60 (by decide) (by decide) (rfl : 60 + 3 = 63))) dX4_across_63 (rfl : ((63 : Nat) : Int) + (-39) = ((24 : Nat) : Int)))))) (v_seq (v_cut (n := 5) (v_seq (v_istore (i := 5) (v_iconst (v := 0) dX4_across_66 (by decide) (rfl : 66 + 1 = 67)) dX4_across_67 (by decide) (rfl : 67 + 2 = 69)) (v_wh (v_ilt_f (v_iload (i := 5) dX4_across_69 (rfl : 69 + 2 = 71)) (v_gfi kX1 lk130 (by decide) rfl (v_aload_n (i := 1) dX4_across_71 rfl (rfl : 71 + 1 = 72)) dX4_across_72 (rfl : 72 + 3 = 75)) dX4_across_75 (rfl : ((75 : Nat) : Int) + 33 = ((108 : Nat) : Int)) (rfl : 75 + 3 = 78)) (vs_goto (v_seq (v_cut (n := 6) (v_seq (v_astore (i := 6) (v_rald (q := 12) (t0 := 4) (ty0 := .array .int) ⟨by decide, by decide⟩ (fun _ => rfl) rfl (v_gfr kX1 lk155 (by decide) rfl (v_aload_n (i := 1) dX4_across_78 rfl (rfl : 78 + 1 = 79)) dX4_across_79 (rfl : 79 + 3 = 82)) (v_iload (i := 5) dX4_across_82 (rfl : 82 + 2 = 84)) dX4_across_84 (rfl : 84 + 1 = 85)) dX4_across_85 (by decide) (rfl : 85 + 2 = 87)) (v_if (v_zne_f (v_iald (v_aload (i := 6) dX4_across_87 (rfl : 87 + 2 = 89)) (v_iconst (v := 3) dX4_across_89 (by decide) (rfl : 89 + 1 = 90)) dX4_across_90 (rfl : 90 + 1 = 91)) dX4_across_91 (rfl : ((91 : Nat) : Int) + 11 = ((102 : Nat) : Int)) (rfl : 91 + 3 = 94)) (v_scv kX4 IX4_enter hX4_enter lk788 ⟨by decide, by decide⟩ (v_aload_n (i := 0) dX4_across_94 rfl (rfl : 94 + 1 = 95)) (v_ar (v_aload (i := 6) dX4_across_95 (rfl : 95 + 2 = 97)) (v_ai (v_iload (i := 4) dX4_across_97 (rfl : 97 + 2 = 99)) v_anil)) dX4_across_99 (rfl : 99 + 3 = 102)) v_nop))) (v_iinc (v := 1) dX4_across_102 (by decide) (by decide) (rfl : 102 + 3 = 105))) dX4_across_105 (rfl : ((105 : Nat) : Int) + (-36) = ((69 : Nat) : Int)))))) (v_seq (v_fpj kX4 lk309 (by decide) rfl rfl (by decide +kernel) (v_aload_n (i := 0) dX4_across_108 rfl (rfl : 108 + 1 = 109)) (v_csj IX2_invert hX2_invert lk792 ⟨by decide, by decide⟩ (by decide) (v_ar (v_gfr kX4 lk306 (by decide) rfl (v_aload_n (i := 0) dX4_across_109 rfl (rfl : 109 + 1 = 110)) dX4_across_110 (rfl : 110 + 3 = 113)) (v_ai (v_gfi kX1 lk123 (by decide) rfl (v_aload_n (i := 1) dX4_across_113 rfl (rfl : 113 + 1 = 114)) dX4_across_114 (rfl : 114 + 3 = 117)) v_anil)) dX4_across_117 (rfl : 117 + 3 = 120)) dX4_across_120 (rfl : 120 + 3 = 123)) (v_fpj kX4 lk311 (by decide) rfl rfl (by decide +kernel) (v_aload_n (i := 0) dX4_across_123 rfl (rfl : 123 + 1 = 124)) (v_jald (v_gfr kX4 lk306 (by decide) rfl (v_aload_n (i := 0) dX4_across_124 rfl (rfl : 124 + 1 = 125)) dX4_across_125 (rfl : 125 + 3 = 128)) (v_csi IX4_cell hX4_cell lk785 ⟨by decide, by decide⟩ (by decide) (v_ai (v_iload_n (i := 2) dX4_across_128 rfl (rfl : 128 + 1 = 129)) (v_ai (v_iload_n (i := 2) dX4_across_129 rfl (rfl : 129 + 1 = 130)) v_anil)) dX4_across_130 (rfl : 130 + 3 = 133)) dX4_across_133 (rfl : 133 + 1 = 134)) dX4_across_134 (rfl : 134 + 3 = 137))))))) (v_retv dX4_across_137))
theorem IX4_across : Mv yX4_across cX4_across 7 (rmk 2 61) DX4_across := mk_v (by decide +kernel) BX4_across

theorem dX4_write_0 : decode cX4_write 0 = .ok (.aload_n 0, 1) := by decide +kernel
theorem dX4_write_1 : decode cX4_write 1 = .ok (.getfield 15, 3) := by decide +kernel
theorem dX4_write_4 : decode cX4_write 4 = .ok (.iload_n 1, 1) := by decide +kernel
theorem dX4_write_5 : decode cX4_write 5 = .ok (.iload_n 2, 1) := by decide +kernel
theorem dX4_write_6 : decode cX4_write 6 = .ok (.invokestatic 37, 3) := by decide +kernel
theorem dX4_write_9 : decode cX4_write 9 = .ok (.lload_n 3, 1) := by decide +kernel
theorem dX4_write_10 : decode cX4_write 10 = .ok (.lastore, 1) := by decide +kernel
theorem dX4_write_11 : decode cX4_write 11 = .ok (.aload_n 0, 1) := by decide +kernel
theorem dX4_write_12 : decode cX4_write 12 = .ok (.getfield 15, 3) := by decide +kernel
theorem dX4_write_15 : decode cX4_write 15 = .ok (.iload_n 2, 1) := by decide +kernel
theorem dX4_write_16 : decode cX4_write 16 = .ok (.iload_n 1, 1) := by decide +kernel
theorem dX4_write_17 : decode cX4_write 17 = .ok (.invokestatic 37, 3) := by decide +kernel
theorem dX4_write_20 : decode cX4_write 20 = .ok (.lload_n 3, 1) := by decide +kernel
theorem dX4_write_21 : decode cX4_write 21 = .ok (.lastore, 1) := by decide +kernel
theorem dX4_write_22 : decode cX4_write 22 = .ok (.aload_n 0, 1) := by decide +kernel
theorem dX4_write_23 : decode cX4_write 23 = .ok (.getfield 18, 3) := by decide +kernel
theorem dX4_write_26 : decode cX4_write 26 = .ok (.iload_n 1, 1) := by decide +kernel
theorem dX4_write_27 : decode cX4_write 27 = .ok (.iload_n 2, 1) := by decide +kernel
theorem dX4_write_28 : decode cX4_write 28 = .ok (.invokestatic 37, 3) := by decide +kernel
theorem dX4_write_31 : decode cX4_write 31 = .ok (.lload 5, 2) := by decide +kernel
theorem dX4_write_33 : decode cX4_write 33 = .ok (.lastore, 1) := by decide +kernel
theorem dX4_write_34 : decode cX4_write 34 = .ok (.aload_n 0, 1) := by decide +kernel
theorem dX4_write_35 : decode cX4_write 35 = .ok (.getfield 18, 3) := by decide +kernel
theorem dX4_write_38 : decode cX4_write 38 = .ok (.iload_n 2, 1) := by decide +kernel
theorem dX4_write_39 : decode cX4_write 39 = .ok (.iload_n 1, 1) := by decide +kernel
theorem dX4_write_40 : decode cX4_write 40 = .ok (.invokestatic 37, 3) := by decide +kernel
theorem dX4_write_43 : decode cX4_write 43 = .ok (.lload 5, 2) := by decide +kernel
theorem dX4_write_45 : decode cX4_write 45 = .ok (.lastore, 1) := by decide +kernel
theorem dX4_write_46 : decode cX4_write 46 = .ok (.return_, 1) := by decide +kernel
noncomputable def EX4_write : Sx := (sseq (sseq (aij (fgr 3 1 (rl 0)) (csi DX4_cell (ai (il 1) (ai (il 2) anil))) (jl 3)) (sseq (aij (fgr 3 1 (rl 0)) (csi DX4_cell (ai (il 2) (ai (il 1) anil))) (jl 3)) (sseq (aij (fgr 3 2 (rl 0)) (csi DX4_cell (ai (il 1) (ai (il 2) anil))) (jl 5)) (aij (fgr 3 2 (rl 0)) (csi DX4_cell (ai (il 2) (ai (il 1) anil))) (jl 5))))) sretv)
noncomputable def DX4_write : Fu := mfv 7 EX4_write
set_option maxRecDepth 4000 in
theorem BX4_write : Vs RX4 cX4_write 7 (rmk 1 21) 0 0 EX4_write := (v_seq (v_seq (v_aij (v_gfr kX4 lk307 (by decide) rfl (v_aload_n (i := 0) dX4_write_0 rfl (rfl : 0 + 1 = 1)) dX4_write_1 (rfl : 1 + 3 = 4)) (v_csi IX4_cell hX4_cell lk785 ⟨by decide, by decide⟩ (by decide) (v_ai (v_iload_n (i := 1) dX4_write_4 rfl (rfl : 4 + 1 = 5)) (v_ai (v_iload_n (i := 2) dX4_write_5 rfl (rfl : 5 + 1 = 6)) v_anil)) dX4_write_6 (rfl : 6 + 3 = 9)) (v_lload_n (i := 3) dX4_write_9 rfl (rfl : 9 + 1 = 10)) dX4_write_10 (rfl : 10 + 1 = 11)) (v_seq (v_aij (v_gfr kX4 lk307 (by decide) rfl (v_aload_n (i := 0) dX4_write_11 rfl (rfl : 11 + 1 = 12)) dX4_write_12 (rfl : 12 + 3 = 15)) (v_csi IX4_cell hX4_cell lk785 ⟨by decide, by decide⟩ (by decide) (v_ai (v_iload_n (i := 2) dX4_write_15 rfl (rfl : 15 + 1 = 16)) (v_ai (v_iload_n (i := 1) dX4_write_16 rfl (rfl : 16 + 1 = 17)) v_anil)) dX4_write_17 (rfl : 17 + 3 = 20)) (v_lload_n (i := 3) dX4_write_20 rfl (rfl : 20 + 1 = 21)) dX4_write_21 (rfl : 21 + 1 = 22)) (v_seq (v_aij (v_gfr kX4 lk308 (by decide) rfl (v_aload_n (i := 0) dX4_write_22 rfl (rfl : 22 + 1 = 23)) dX4_write_23 (rfl : 23 + 3 = 26)) (v_csi IX4_cell hX4_cell lk785 ⟨by decide, by decide⟩ (by decide) (v_ai (v_iload_n (i := 1) dX4_write_26 rfl (rfl : 26 + 1 = 27)) (v_ai (v_iload_n (i := 2) dX4_write_27 rfl (rfl : 27 + 1 = 28)) v_anil)) dX4_write_28 (rfl : 28 + 3 = 31)) (v_lload (i := 5) dX4_write_31 (rfl : 31 + 2 = 33)) dX4_write_33 (rfl : 33 + 1 = 34)) (v_aij (v_gfr kX4 lk308 (by decide) rfl (v_aload_n (i := 0) dX4_write_34 rfl (rfl : 34 + 1 = 35)) dX4_write_35 (rfl : 35 + 3 = 38)) (v_csi IX4_cell hX4_cell lk785 ⟨by decide, by decide⟩ (by decide) (v_ai (v_iload_n (i := 2) dX4_write_38 rfl (rfl : 38 + 1 = 39)) (v_ai (v_iload_n (i := 1) dX4_write_39 rfl (rfl : 39 + 1 = 40)) v_anil)) dX4_write_40 (rfl : 40 + 3 = 43)) (v_lload (i := 5) dX4_write_43 (rfl : 43 + 2 = 45)) dX4_write_45 (rfl : 45 + 1 = 46))))) (v_retv dX4_write_46))
theorem IX4_write : Mv yX4_write cX4_write 7 (rmk 1 21) DX4_write := mk_v (by decide +kernel) BX4_write

theorem dX4_clear_0 : decode cX4_clear 0 = .ok (.aload_n 0, 1) := by decide +kernel
theorem dX4_clear_1 : decode cX4_clear 1 = .ok (.iload_n 1, 1) := by decide +kernel
theorem dX4_clear_2 : decode cX4_clear 2 = .ok (.iload_n 2, 1) := by decide +kernel
theorem dX4_clear_3 : decode cX4_clear 3 = .ok (.lconst 0, 1) := by decide +kernel
theorem dX4_clear_4 : decode cX4_clear 4 = .ok (.lconst 1, 1) := by decide +kernel
theorem dX4_clear_5 : decode cX4_clear 5 = .ok (.invokevirtual 84, 3) := by decide +kernel
theorem dX4_clear_8 : decode cX4_clear 8 = .ok (.return_, 1) := by decide +kernel
noncomputable def EX4_clear : Sx := (sseq (scv 3 DX4_write (rl 0) (ai (il 1) (ai (il 2) (aj (jk 0) (aj (jk 1) anil))))) sretv)
noncomputable def DX4_clear : Fu := mfv 3 EX4_clear
set_option maxRecDepth 4000 in
theorem BX4_clear : Vs RX4 cX4_clear 3 (rmk 2 47) 0 0 EX4_clear := (v_seq (v_scv kX4 IX4_write hX4_write lk806 ⟨by decide, by decide⟩ (v_aload_n (i := 0) dX4_clear_0 rfl (rfl : 0 + 1 = 1)) (v_ai (v_iload_n (i := 1) dX4_clear_1 rfl (rfl : 1 + 1 = 2)) (v_ai (v_iload_n (i := 2) dX4_clear_2 rfl (rfl : 2 + 1 = 3)) (v_aj (v_lconst (v := 0) dX4_clear_3 (by decide) (rfl : 3 + 1 = 4)) (v_aj (v_lconst (v := 1) dX4_clear_4 (by decide) (rfl : 4 + 1 = 5)) v_anil)))) dX4_clear_5 (rfl : 5 + 3 = 8)) (v_retv dX4_clear_8))
theorem IX4_clear : Mv yX4_clear cX4_clear 3 (rmk 2 47) DX4_clear := mk_v (by decide +kernel) BX4_clear

theorem dX4_goingOut_0 : decode cX4_goingOut 0 = .ok (.iconst 0, 1) := by decide +kernel
theorem dX4_goingOut_1 : decode cX4_goingOut 1 = .ok (.istore_n 2, 1) := by decide +kernel
theorem dX4_goingOut_2 : decode cX4_goingOut 2 = .ok (.iconst 0, 1) := by decide +kernel
theorem dX4_goingOut_3 : decode cX4_goingOut 3 = .ok (.istore_n 3, 1) := by decide +kernel
theorem dX4_goingOut_4 : decode cX4_goingOut 4 = .ok (.iload_n 3, 1) := by decide +kernel
theorem dX4_goingOut_5 : decode cX4_goingOut 5 = .ok (.aload_n 0, 1) := by decide +kernel
theorem dX4_goingOut_6 : decode cX4_goingOut 6 = .ok (.getfield 41, 3) := by decide +kernel
theorem dX4_goingOut_9 : decode cX4_goingOut 9 = .ok (.if_icmp .ge 49, 3) := by decide +kernel
theorem dX4_goingOut_12 : decode cX4_goingOut 12 = .ok (.aload_n 0, 1) := by decide +kernel
theorem dX4_goingOut_13 : decode cX4_goingOut 13 = .ok (.getfield 44, 3) := by decide +kernel
theorem dX4_goingOut_16 : decode cX4_goingOut 16 = .ok (.iload_n 3, 1) := by decide +kernel
theorem dX4_goingOut_17 : decode cX4_goingOut 17 = .ok (.aaload, 1) := by decide +kernel
theorem dX4_goingOut_18 : decode cX4_goingOut 18 = .ok (.astore 4, 2) := by decide +kernel
theorem dX4_goingOut_20 : decode cX4_goingOut 20 = .ok (.aload 4, 2) := by decide +kernel
theorem dX4_goingOut_22 : decode cX4_goingOut 22 = .ok (.iconst 3, 1) := by decide +kernel
theorem dX4_goingOut_23 : decode cX4_goingOut 23 = .ok (.iaload, 1) := by decide +kernel
theorem dX4_goingOut_24 : decode cX4_goingOut 24 = .ok (.ifCond .eq 28, 3) := by decide +kernel
theorem dX4_goingOut_27 : decode cX4_goingOut 27 = .ok (.iload_n 1, 1) := by decide +kernel
theorem dX4_goingOut_28 : decode cX4_goingOut 28 = .ok (.aload 4, 2) := by decide +kernel
theorem dX4_goingOut_30 : decode cX4_goingOut 30 = .ok (.iconst 0, 1) := by decide +kernel
theorem dX4_goingOut_31 : decode cX4_goingOut 31 = .ok (.iaload, 1) := by decide +kernel
theorem dX4_goingOut_32 : decode cX4_goingOut 32 = .ok (.ishr, 1) := by decide +kernel
theorem dX4_goingOut_33 : decode cX4_goingOut 33 = .ok (.iconst 1, 1) := by decide +kernel
theorem dX4_goingOut_34 : decode cX4_goingOut 34 = .ok (.iand, 1) := by decide +kernel
theorem dX4_goingOut_35 : decode cX4_goingOut 35 = .ok (.iload_n 1, 1) := by decide +kernel
theorem dX4_goingOut_36 : decode cX4_goingOut 36 = .ok (.aload 4, 2) := by decide +kernel
theorem dX4_goingOut_38 : decode cX4_goingOut 38 = .ok (.iconst 1, 1) := by decide +kernel
theorem dX4_goingOut_39 : decode cX4_goingOut 39 = .ok (.iaload, 1) := by decide +kernel
theorem dX4_goingOut_40 : decode cX4_goingOut 40 = .ok (.ishr, 1) := by decide +kernel
theorem dX4_goingOut_41 : decode cX4_goingOut 41 = .ok (.iconst 1, 1) := by decide +kernel
theorem dX4_goingOut_42 : decode cX4_goingOut 42 = .ok (.iand, 1) := by decide +kernel
theorem dX4_goingOut_43 : decode cX4_goingOut 43 = .ok (.if_icmp .eq 9, 3) := by decide +kernel
theorem dX4_goingOut_46 : decode cX4_goingOut 46 = .ok (.iload_n 2, 1) := by decide +kernel
theorem dX4_goingOut_47 : decode cX4_goingOut 47 = .ok (.iconst 1, 1) := by decide +kernel
theorem dX4_goingOut_48 : decode cX4_goingOut 48 = .ok (.iload_n 3, 1) := by decide +kernel
theorem dX4_goingOut_49 : decode cX4_goingOut 49 = .ok (.ishl, 1) := by decide +kernel
theorem dX4_goingOut_50 : decode cX4_goingOut 50 = .ok (.ior, 1) := by decide +kernel
theorem dX4_goingOut_51 : decode cX4_goingOut 51 = .ok (.istore_n 2, 1) := by decide +kernel
theorem dX4_goingOut_52 : decode cX4_goingOut 52 = .ok (.iinc 3 1, 3) := by decide +kernel
theorem dX4_goingOut_55 : decode cX4_goingOut 55 = .ok (.goto (-51), 3) := by decide +kernel
theorem dX4_goingOut_58 : decode cX4_goingOut 58 = .ok (.iload_n 2, 1) := by decide +kernel
theorem dX4_goingOut_59 : decode cX4_goingOut 59 = .ok (.ireturn, 1) := by decide +kernel
noncomputable def qX4_goingOut_1 : Bx := (bc clt (il 3) (fgi 1 1 (rl 0)))
noncomputable def wX4_goingOut_1 : Sx := (sseq (scut 4 (sseq (ssr 4 (rald 12 (fgr 1 10 (rl 0)) (il 3))) (sif (band (bz cne (iald (rl 4) (ik 3))) (bc cne (i2 (· &&& ·) (i2 oshr (il 1) (iald (rl 4) (ik 0))) (ik 1)) (i2 (· &&& ·) (i2 oshr (il 1) (iald (rl 4) (ik 1))) (ik 1)))) (ssi 2 (i2 (· ||| ·) (il 2) (i2 oshl (ik 1) (il 3)))) snop))) (sinc 3 1))
noncomputable def EX4_goingOut : Sx := (sseq (ssi 2 (ik 0)) (sseq (scut 3 (sseq (ssi 3 (ik 0)) (swh qX4_goingOut_1 wX4_goingOut_1))) (sret (il 2))))
noncomputable def DX4_goingOut : Fi := mfi 5 EX4_goingOut
set_option maxRecDepth 4000 in
theorem BX4_goingOut : Vs RX4 cX4_goingOut 5 (rmk 0 0) 0 0 EX4_goingOut := (v_seq (v_istore_n (i := 2) (v_iconst (v := 0) dX4_goingOut_0 (by decide) (rfl : 0 + 1 = 1)) dX4_goingOut_1 rfl (by decide) (rfl : 1 + 1 = 2)) (v_seq (v_cut (n := 3) (v_seq (v_istore_n (i := 3) (v_iconst (v := 0) dX4_goingOut_2 (by decide) (rfl : 2 + 1 = 3)) dX4_goingOut_3 rfl (by decide) (rfl : 3 + 1 = 4)) (v_wh (v_ilt_f (v_iload_n (i := 3) dX4_goingOut_4 rfl (rfl : 4 + 1 = 5)) (v_gfi kX1 lk130 (by decide) rfl (v_aload_n (i := 0) dX4_goingOut_5 rfl (rfl : 5 + 1 = 6)) dX4_goingOut_6 (rfl : 6 + 3 = 9)) dX4_goingOut_9 (rfl : ((9 : Nat) : Int) + 49 = ((58 : Nat) : Int)) (rfl : 9 + 3 = 12)) (vs_goto (v_seq (v_cut (n := 4) (v_seq (v_astore (i := 4) (v_rald (q := 12) (t0 := 4) (ty0 := .array .int) ⟨by decide, by decide⟩ (fun _ => rfl) rfl (v_gfr kX1 lk155 (by decide) rfl (v_aload_n (i := 0) dX4_goingOut_12 rfl (rfl : 12 + 1 = 13)) dX4_goingOut_13 (rfl : 13 + 3 = 16)) (v_iload_n (i := 3) dX4_goingOut_16 rfl (rfl : 16 + 1 = 17)) dX4_goingOut_17 (rfl : 17 + 1 = 18)) dX4_goingOut_18 (by decide) (rfl : 18 + 2 = 20)) (v_if (v_and (v_zne_f (v_iald (v_aload (i := 4) dX4_goingOut_20 (rfl : 20 + 2 = 22)) (v_iconst (v := 3) dX4_goingOut_22 (by decide) (rfl : 22 + 1 = 23)) dX4_goingOut_23 (rfl : 23 + 1 = 24)) dX4_goingOut_24 (rfl : ((24 : Nat) : Int) + 28 = ((52 : Nat) : Int)) (rfl : 24 + 3 = 27)) (v_ine_f (v_iand (v_ishr (v_iload_n (i := 1) dX4_goingOut_27 rfl (rfl : 27 + 1 = 28)) (v_iald (v_aload (i := 4) dX4_goingOut_28 (rfl : 28 + 2 = 30)) (v_iconst (v := 0) dX4_goingOut_30 (by decide) (rfl : 30 + 1 = 31)) dX4_goingOut_31 (rfl : 31 + 1 = 32)) dX4_goingOut_32 (rfl : 32 + 1 = 33)) (v_iconst (v := 1) dX4_goingOut_33 (by decide) (rfl : 33 + 1 = 34)) dX4_goingOut_34 (rfl : 34 + 1 = 35)) (v_iand (v_ishr (v_iload_n (i := 1) dX4_goingOut_35 rfl (rfl : 35 + 1 = 36)) (v_iald (v_aload (i := 4) dX4_goingOut_36 (rfl : 36 + 2 = 38)) (v_iconst (v := 1) dX4_goingOut_38 (by decide) (rfl : 38 + 1 = 39)) dX4_goingOut_39 (rfl : 39 + 1 = 40)) dX4_goingOut_40 (rfl : 40 + 1 = 41)) (v_iconst (v := 1) dX4_goingOut_41 (by decide) (rfl : 41 + 1 = 42)) dX4_goingOut_42 (rfl : 42 + 1 = 43)) dX4_goingOut_43 (rfl : ((43 : Nat) : Int) + 9 = ((52 : Nat) : Int)) (rfl : 43 + 3 = 46))) (v_istore_n (i := 2) (v_ior (v_iload_n (i := 2) dX4_goingOut_46 rfl (rfl : 46 + 1 = 47)) (v_ishl (v_iconst (v := 1) dX4_goingOut_47 (by decide) (rfl : 47 + 1 = 48)) (v_iload_n (i := 3) dX4_goingOut_48 rfl (rfl : 48 + 1 = 49)) dX4_goingOut_49 (rfl : 49 + 1 = 50)) dX4_goingOut_50 (rfl : 50 + 1 = 51)) dX4_goingOut_51 rfl (by decide) (rfl : 51 + 1 = 52)) v_nop))) (v_iinc (v := 1) dX4_goingOut_52 (by decide) (by decide) (rfl : 52 + 3 = 55))) dX4_goingOut_55 (rfl : ((55 : Nat) : Int) + (-51) = ((4 : Nat) : Int)))))) (v_ret (v_iload_n (i := 2) dX4_goingOut_58 rfl (rfl : 58 + 1 = 59)) dX4_goingOut_59)))
theorem IX4_goingOut : Mi yX4_goingOut cX4_goingOut 5 (rmk 0 0) DX4_goingOut := mk_i (by decide +kernel) BX4_goingOut

theorem dX4_isLess_0 : decode cX4_isLess 0 = .ok (.iload_n 0, 1) := by decide +kernel
theorem dX4_isLess_1 : decode cX4_isLess 1 = .ok (.invokestatic 95, 3) := by decide +kernel
theorem dX4_isLess_4 : decode cX4_isLess 4 = .ok (.istore_n 2, 1) := by decide +kernel
theorem dX4_isLess_5 : decode cX4_isLess 5 = .ok (.iload_n 1, 1) := by decide +kernel
theorem dX4_isLess_6 : decode cX4_isLess 6 = .ok (.invokestatic 95, 3) := by decide +kernel
theorem dX4_isLess_9 : decode cX4_isLess 9 = .ok (.istore_n 3, 1) := by decide +kernel
theorem dX4_isLess_10 : decode cX4_isLess 10 = .ok (.iload_n 2, 1) := by decide +kernel
theorem dX4_isLess_11 : decode cX4_isLess 11 = .ok (.iload_n 3, 1) := by decide +kernel
theorem dX4_isLess_12 : decode cX4_isLess 12 = .ok (.if_icmp .lt 13, 3) := by decide +kernel
theorem dX4_isLess_15 : decode cX4_isLess 15 = .ok (.iload_n 2, 1) := by decide +kernel
theorem dX4_isLess_16 : decode cX4_isLess 16 = .ok (.iload_n 3, 1) := by decide +kernel
theorem dX4_isLess_17 : decode cX4_isLess 17 = .ok (.if_icmp .ne 12, 3) := by decide +kernel
theorem dX4_isLess_20 : decode cX4_isLess 20 = .ok (.iload_n 0, 1) := by decide +kernel
theorem dX4_isLess_21 : decode cX4_isLess 21 = .ok (.iload_n 1, 1) := by decide +kernel
theorem dX4_isLess_22 : decode cX4_isLess 22 = .ok (.if_icmp .ge 7, 3) := by decide +kernel
theorem dX4_isLess_25 : decode cX4_isLess 25 = .ok (.iconst 1, 1) := by decide +kernel
theorem dX4_isLess_26 : decode cX4_isLess 26 = .ok (.goto 4, 3) := by decide +kernel
theorem dX4_isLess_29 : decode cX4_isLess 29 = .ok (.iconst 0, 1) := by decide +kernel
theorem dX4_isLess_30 : decode cX4_isLess 30 = .ok (.ireturn, 1) := by decide +kernel
noncomputable def EX4_isLess : Sx := (sseq (ssi 2 (csi DJ6_bitCount_0f7a4 (ai (il 0) anil))) (sseq (ssi 3 (csi DJ6_bitCount_0f7a4 (ai (il 1) anil))) (sret (ic (bor (bc clt (il 2) (il 3)) (band (bc ceq (il 2) (il 3)) (bc clt (il 0) (il 1)))) (ik 1) (ik 0)))))
noncomputable def DX4_isLess : Fz := mfz 4 EX4_isLess
set_option maxRecDepth 4000 in
theorem BX4_isLess : Vs RX4 cX4_isLess 4 (rmk 1 20) 0 0 EX4_isLess := (v_seq (v_istore_n (i := 2) (v_csi IJ6_bitCount_0f7a4 hJ6_bitCount_0f7a4 lk832 ⟨by decide, by decide⟩ (by decide) (v_ai (v_iload_n (i := 0) dX4_isLess_0 rfl (rfl : 0 + 1 = 1)) v_anil) dX4_isLess_1 (rfl : 1 + 3 = 4)) dX4_isLess_4 rfl (by decide) (rfl : 4 + 1 = 5)) (v_seq (v_istore_n (i := 3) (v_csi IJ6_bitCount_0f7a4 hJ6_bitCount_0f7a4 lk832 ⟨by decide, by decide⟩ (by decide) (v_ai (v_iload_n (i := 1) dX4_isLess_5 rfl (rfl : 5 + 1 = 6)) v_anil) dX4_isLess_6 (rfl : 6 + 3 = 9)) dX4_isLess_9 rfl (by decide) (rfl : 9 + 1 = 10)) (v_ret (v_ic (v_or (v_ilt_t (v_iload_n (i := 2) dX4_isLess_10 rfl (rfl : 10 + 1 = 11)) (v_iload_n (i := 3) dX4_isLess_11 rfl (rfl : 11 + 1 = 12)) dX4_isLess_12 (rfl : ((12 : Nat) : Int) + 13 = ((25 : Nat) : Int)) (rfl : 12 + 3 = 15)) (v_and (v_ieq_f (v_iload_n (i := 2) dX4_isLess_15 rfl (rfl : 15 + 1 = 16)) (v_iload_n (i := 3) dX4_isLess_16 rfl (rfl : 16 + 1 = 17)) dX4_isLess_17 (rfl : ((17 : Nat) : Int) + 12 = ((29 : Nat) : Int)) (rfl : 17 + 3 = 20)) (v_ilt_f (v_iload_n (i := 0) dX4_isLess_20 rfl (rfl : 20 + 1 = 21)) (v_iload_n (i := 1) dX4_isLess_21 rfl (rfl : 21 + 1 = 22)) dX4_isLess_22 (rfl : ((22 : Nat) : Int) + 7 = ((29 : Nat) : Int)) (rfl : 22 + 3 = 25)))) (vi_goto (v_iconst (v := 1) dX4_isLess_25 (by decide) (rfl : 25 + 1 = 26)) dX4_isLess_26 (rfl : ((26 : Nat) : Int) + 4 = ((30 : Nat) : Int))) (v_iconst (v := 0) dX4_isLess_29 (by decide) (rfl : 29 + 1 = 30))) dX4_isLess_30)))
theorem IX4_isLess : Mz yX4_isLess cX4_isLess 4 (rmk 1 20) DX4_isLess := mk_z (by decide +kernel) BX4_isLess

theorem dX4_fewest_0 : decode cX4_fewest 0 = .ok (.iconst (-1), 1) := by decide +kernel
theorem dX4_fewest_1 : decode cX4_fewest 1 = .ok (.istore 4, 2) := by decide +kernel
theorem dX4_fewest_3 : decode cX4_fewest 3 = .ok (.iconst 0, 1) := by decide +kernel
theorem dX4_fewest_4 : decode cX4_fewest 4 = .ok (.istore 5, 2) := by decide +kernel
theorem dX4_fewest_6 : decode cX4_fewest 6 = .ok (.iload 5, 2) := by decide +kernel
theorem dX4_fewest_8 : decode cX4_fewest 8 = .ok (.iconst 1, 1) := by decide +kernel
theorem dX4_fewest_9 : decode cX4_fewest 9 = .ok (.aload_n 1, 1) := by decide +kernel
theorem dX4_fewest_10 : decode cX4_fewest 10 = .ok (.getfield 33, 3) := by decide +kernel
theorem dX4_fewest_13 : decode cX4_fewest 13 = .ok (.ishl, 1) := by decide +kernel
theorem dX4_fewest_14 : decode cX4_fewest 14 = .ok (.if_icmp .ge 55, 3) := by decide +kernel
theorem dX4_fewest_17 : decode cX4_fewest 17 = .ok (.iload 5, 2) := by decide +kernel
theorem dX4_fewest_19 : decode cX4_fewest 19 = .ok (.iload_n 2, 1) := by decide +kernel
theorem dX4_fewest_20 : decode cX4_fewest 20 = .ok (.ishr, 1) := by decide +kernel
theorem dX4_fewest_21 : decode cX4_fewest 21 = .ok (.iconst 1, 1) := by decide +kernel
theorem dX4_fewest_22 : decode cX4_fewest 22 = .ok (.iand, 1) := by decide +kernel
theorem dX4_fewest_23 : decode cX4_fewest 23 = .ok (.ifCond .eq 40, 3) := by decide +kernel
theorem dX4_fewest_26 : decode cX4_fewest 26 = .ok (.iload 5, 2) := by decide +kernel
theorem dX4_fewest_28 : decode cX4_fewest 28 = .ok (.iload_n 3, 1) := by decide +kernel
theorem dX4_fewest_29 : decode cX4_fewest 29 = .ok (.ishr, 1) := by decide +kernel
theorem dX4_fewest_30 : decode cX4_fewest 30 = .ok (.iconst 1, 1) := by decide +kernel
theorem dX4_fewest_31 : decode cX4_fewest 31 = .ok (.iand, 1) := by decide +kernel
theorem dX4_fewest_32 : decode cX4_fewest 32 = .ok (.ifCond .ne 31, 3) := by decide +kernel
theorem dX4_fewest_35 : decode cX4_fewest 35 = .ok (.aload_n 1, 1) := by decide +kernel
theorem dX4_fewest_36 : decode cX4_fewest 36 = .ok (.iload 5, 2) := by decide +kernel
theorem dX4_fewest_38 : decode cX4_fewest 38 = .ok (.invokestatic 87, 3) := by decide +kernel
theorem dX4_fewest_41 : decode cX4_fewest 41 = .ok (.istore 6, 2) := by decide +kernel
theorem dX4_fewest_43 : decode cX4_fewest 43 = .ok (.iload 4, 2) := by decide +kernel
theorem dX4_fewest_45 : decode cX4_fewest 45 = .ok (.iconst (-1), 1) := by decide +kernel
theorem dX4_fewest_46 : decode cX4_fewest 46 = .ok (.if_icmp .eq 13, 3) := by decide +kernel
theorem dX4_fewest_49 : decode cX4_fewest 49 = .ok (.iload 6, 2) := by decide +kernel
theorem dX4_fewest_51 : decode cX4_fewest 51 = .ok (.iload 4, 2) := by decide +kernel
theorem dX4_fewest_53 : decode cX4_fewest 53 = .ok (.invokestatic 91, 3) := by decide +kernel
theorem dX4_fewest_56 : decode cX4_fewest 56 = .ok (.ifCond .eq 7, 3) := by decide +kernel
theorem dX4_fewest_59 : decode cX4_fewest 59 = .ok (.iload 6, 2) := by decide +kernel
theorem dX4_fewest_61 : decode cX4_fewest 61 = .ok (.istore 4, 2) := by decide +kernel
theorem dX4_fewest_63 : decode cX4_fewest 63 = .ok (.iinc 5 1, 3) := by decide +kernel
theorem dX4_fewest_66 : decode cX4_fewest 66 = .ok (.goto (-60), 3) := by decide +kernel
theorem dX4_fewest_69 : decode cX4_fewest 69 = .ok (.iload 4, 2) := by decide +kernel
theorem dX4_fewest_71 : decode cX4_fewest 71 = .ok (.ireturn, 1) := by decide +kernel
noncomputable def qX4_fewest_1 : Bx := (bc clt (il 5) (i2 oshl (ik 1) (fgi 1 0 (rl 1))))
noncomputable def wX4_fewest_1 : Sx := (sseq (sif (band (bz cne (i2 (· &&& ·) (i2 oshr (il 5) (il 2)) (ik 1))) (bz ceq (i2 (· &&& ·) (i2 oshr (il 5) (il 3)) (ik 1)))) (scut 6 (sseq (ssi 6 (csi DX4_goingOut (ar (rl 1) (ai (il 5) anil)))) (sif (bor (bc ceq (il 4) (ik (-1))) (bz cne (csz DX4_isLess (ai (il 6) (ai (il 4) anil))))) (ssi 4 (il 6)) snop))) snop) (sinc 5 1))
noncomputable def EX4_fewest : Sx := (sseq (ssi 4 (ik (-1))) (sseq (scut 5 (sseq (ssi 5 (ik 0)) (swh qX4_fewest_1 wX4_fewest_1))) (sret (il 4))))
noncomputable def DX4_fewest : Fi := mfi 7 EX4_fewest
set_option maxRecDepth 4000 in
theorem BX4_fewest : Vs RX4 cX4_fewest 7 (rmk 2 43) 0 0 EX4_fewest := (v_seq (v_istore (i := 4) (v_iconst (v := (-1)) dX4_fewest_0 (by decide) (rfl : 0 + 1 = 1)) dX4_fewest_1 (by decide) (rfl : 1 + 2 = 3)) (v_seq (v_cut (n := 5) (v_seq (v_istore (i := 5) (v_iconst (v := 0) dX4_fewest_3 (by decide) (rfl : 3 + 1 = 4)) dX4_fewest_4 (by decide) (rfl : 4 + 2 = 6)) (v_wh (v_ilt_f (v_iload (i := 5) dX4_fewest_6 (rfl : 6 + 2 = 8)) (v_ishl (v_iconst (v := 1) dX4_fewest_8 (by decide) (rfl : 8 + 1 = 9)) (v_gfi kX1 lk123 (by decide) rfl (v_aload_n (i := 1) dX4_fewest_9 rfl (rfl : 9 + 1 = 10)) dX4_fewest_10 (rfl : 10 + 3 = 13)) dX4_fewest_13 (rfl : 13 + 1 = 14)) dX4_fewest_14 (rfl : ((14 : Nat) : Int) + 55 = ((69 : Nat) : Int)) (rfl : 14 + 3 = 17)) (vs_goto (v_seq (v_if (v_and (v_zne_f (v_iand (v_ishr (v_iload (i := 5) dX4_fewest_17 (rfl : 17 + 2 = 19)) (v_iload_n (i := 2) dX4_fewest_19 rfl (rfl : 19 + 1 = 20)) dX4_fewest_20 (rfl : 20 + 1 = 21)) (v_iconst (v := 1) dX4_fewest_21 (by decide) (rfl : 21 + 1 = 22)) dX4_fewest_22 (rfl : 22 + 1 = 23)) dX4_fewest_23 (rfl : ((23 : Nat) : Int) + 40 = ((63 : Nat) : Int)) (rfl : 23 + 3 = 26)) (v_zeq_f (v_iand (v_ishr (v_iload (i := 5) dX4_fewest_26 (rfl : 26 + 2 = 28)) (v_iload_n (i := 3) dX4_fewest_28 rfl (rfl : 28 + 1 = 29)) dX4_fewest_29 (rfl : 29 + 1 = 30)) (v_iconst (v := 1) dX4_fewest_30 (by decide) (rfl : 30 + 1 = 31)) dX4_fewest_31 (rfl : 31 + 1 = 32)) dX4_fewest_32 (rfl : ((32 : Nat) : Int) + 31 = ((63 : Nat) : Int)) (rfl : 32 + 3 = 35))) (v_cut (n := 6) (v_seq (v_istore (i := 6) (v_csi IX4_goingOut hX4_goingOut lk826 ⟨by decide, by decide⟩ (by decide) (v_ar (v_aload_n (i := 1) dX4_fewest_35 rfl (rfl : 35 + 1 = 36)) (v_ai (v_iload (i := 5) dX4_fewest_36 (rfl : 36 + 2 = 38)) v_anil)) dX4_fewest_38 (rfl : 38 + 3 = 41)) dX4_fewest_41 (by decide) (rfl : 41 + 2 = 43)) (v_if (v_or (v_ieq_t (v_iload (i := 4) dX4_fewest_43 (rfl : 43 + 2 = 45)) (v_iconst (v := (-1)) dX4_fewest_45 (by decide) (rfl : 45 + 1 = 46)) dX4_fewest_46 (rfl : ((46 : Nat) : Int) + 13 = ((59 : Nat) : Int)) (rfl : 46 + 3 = 49)) (v_zne_f (v_csz IX4_isLess hX4_isLess lk829 ⟨by decide, by decide⟩ (by decide) (v_ai (v_iload (i := 6) dX4_fewest_49 (rfl : 49 + 2 = 51)) (v_ai (v_iload (i := 4) dX4_fewest_51 (rfl : 51 + 2 = 53)) v_anil)) dX4_fewest_53 (rfl : 53 + 3 = 56)) dX4_fewest_56 (rfl : ((56 : Nat) : Int) + 7 = ((63 : Nat) : Int)) (rfl : 56 + 3 = 59))) (v_istore (i := 4) (v_iload (i := 6) dX4_fewest_59 (rfl : 59 + 2 = 61)) dX4_fewest_61 (by decide) (rfl : 61 + 2 = 63)) v_nop))) v_nop) (v_iinc (v := 1) dX4_fewest_63 (by decide) (by decide) (rfl : 63 + 3 = 66))) dX4_fewest_66 (rfl : ((66 : Nat) : Int) + (-60) = ((6 : Nat) : Int)))))) (v_ret (v_iload (i := 4) dX4_fewest_69 (rfl : 69 + 2 = 71)) dX4_fewest_71)))
theorem IX4_fewest : Mi yX4_fewest cX4_fewest 7 (rmk 2 43) DX4_fewest := mk_i (by decide +kernel) BX4_fewest

theorem dX4_join_0 : decode cX4_join 0 = .ok (.aload_n 0, 1) := by decide +kernel
theorem dX4_join_1 : decode cX4_join 1 = .ok (.getfield 15, 3) := by decide +kernel
theorem dX4_join_4 : decode cX4_join 4 = .ok (.iload_n 1, 1) := by decide +kernel
theorem dX4_join_5 : decode cX4_join 5 = .ok (.iload_n 2, 1) := by decide +kernel
theorem dX4_join_6 : decode cX4_join 6 = .ok (.invokestatic 37, 3) := by decide +kernel
theorem dX4_join_9 : decode cX4_join 9 = .ok (.laload, 1) := by decide +kernel
theorem dX4_join_10 : decode cX4_join 10 = .ok (.lstore 7, 2) := by decide +kernel
theorem dX4_join_12 : decode cX4_join 12 = .ok (.lload 7, 2) := by decide +kernel
theorem dX4_join_14 : decode cX4_join 14 = .ok (.lload 5, 2) := by decide +kernel
theorem dX4_join_16 : decode cX4_join 16 = .ok (.lmul, 1) := by decide +kernel
theorem dX4_join_17 : decode cX4_join 17 = .ok (.lload_n 3, 1) := by decide +kernel
theorem dX4_join_18 : decode cX4_join 18 = .ok (.aload_n 0, 1) := by decide +kernel
theorem dX4_join_19 : decode cX4_join 19 = .ok (.getfield 18, 3) := by decide +kernel
theorem dX4_join_22 : decode cX4_join 22 = .ok (.iload_n 1, 1) := by decide +kernel
theorem dX4_join_23 : decode cX4_join 23 = .ok (.iload_n 2, 1) := by decide +kernel
theorem dX4_join_24 : decode cX4_join 24 = .ok (.invokestatic 37, 3) := by decide +kernel
theorem dX4_join_27 : decode cX4_join 27 = .ok (.laload, 1) := by decide +kernel
theorem dX4_join_28 : decode cX4_join 28 = .ok (.lmul, 1) := by decide +kernel
theorem dX4_join_29 : decode cX4_join 29 = .ok (.ladd, 1) := by decide +kernel
theorem dX4_join_30 : decode cX4_join 30 = .ok (.lstore 9, 2) := by decide +kernel
theorem dX4_join_32 : decode cX4_join 32 = .ok (.lload 5, 2) := by decide +kernel
theorem dX4_join_34 : decode cX4_join 34 = .ok (.aload_n 0, 1) := by decide +kernel
theorem dX4_join_35 : decode cX4_join 35 = .ok (.getfield 18, 3) := by decide +kernel
theorem dX4_join_38 : decode cX4_join 38 = .ok (.iload_n 1, 1) := by decide +kernel
theorem dX4_join_39 : decode cX4_join 39 = .ok (.iload_n 2, 1) := by decide +kernel
theorem dX4_join_40 : decode cX4_join 40 = .ok (.invokestatic 37, 3) := by decide +kernel
theorem dX4_join_43 : decode cX4_join 43 = .ok (.laload, 1) := by decide +kernel
theorem dX4_join_44 : decode cX4_join 44 = .ok (.lmul, 1) := by decide +kernel
theorem dX4_join_45 : decode cX4_join 45 = .ok (.lstore 11, 2) := by decide +kernel
theorem dX4_join_47 : decode cX4_join 47 = .ok (.aload_n 0, 1) := by decide +kernel
theorem dX4_join_48 : decode cX4_join 48 = .ok (.iload_n 1, 1) := by decide +kernel
theorem dX4_join_49 : decode cX4_join 49 = .ok (.iload_n 2, 1) := by decide +kernel
theorem dX4_join_50 : decode cX4_join 50 = .ok (.lload 9, 2) := by decide +kernel
theorem dX4_join_52 : decode cX4_join 52 = .ok (.lload 11, 2) := by decide +kernel
theorem dX4_join_54 : decode cX4_join 54 = .ok (.iconst 0, 1) := by decide +kernel
theorem dX4_join_55 : decode cX4_join 55 = .ok (.invokestatic 80, 3) := by decide +kernel
theorem dX4_join_58 : decode cX4_join 58 = .ok (.lload 9, 2) := by decide +kernel
theorem dX4_join_60 : decode cX4_join 60 = .ok (.lload 11, 2) := by decide +kernel
theorem dX4_join_62 : decode cX4_join 62 = .ok (.iconst 1, 1) := by decide +kernel
theorem dX4_join_63 : decode cX4_join 63 = .ok (.invokestatic 80, 3) := by decide +kernel
theorem dX4_join_66 : decode cX4_join 66 = .ok (.invokevirtual 84, 3) := by decide +kernel
theorem dX4_join_69 : decode cX4_join 69 = .ok (.return_, 1) := by decide +kernel
noncomputable def EX4_join : Sx := (sseq (sseq (ssj 7 (jald (fgr 3 1 (rl 0)) (csi DX4_cell (ai (il 1) (ai (il 2) anil))))) (sseq (ssj 9 (j2 (· + ·) (j2 (· * ·) (jl 7) (jl 5)) (j2 (· * ·) (jl 3) (jald (fgr 3 2 (rl 0)) (csi DX4_cell (ai (il 1) (ai (il 2) anil))))))) (sseq (ssj 11 (j2 (· * ·) (jl 5) (jald (fgr 3 2 (rl 0)) (csi DX4_cell (ai (il 1) (ai (il 2) anil)))))) (scv 3 DX4_write (rl 0) (ai (il 1) (ai (il 2) (aj (csj DX2_term (aj (jl 9) (aj (jl 11) (ai (ik 0) anil)))) (aj (csj DX2_term (aj (jl 9) (aj (jl 11) (ai (ik 1) anil)))) anil)))))))) sretv)
noncomputable def DX4_join : Fu := mfv 13 EX4_join
set_option maxRecDepth 4000 in
theorem BX4_join : Vs RX4 cX4_join 13 (rmk 3 96) 0 0 EX4_join := (v_seq (v_seq (v_lstore (i := 7) (v_jald (v_gfr kX4 lk307 (by decide) rfl (v_aload_n (i := 0) dX4_join_0 rfl (rfl : 0 + 1 = 1)) dX4_join_1 (rfl : 1 + 3 = 4)) (v_csi IX4_cell hX4_cell lk785 ⟨by decide, by decide⟩ (by decide) (v_ai (v_iload_n (i := 1) dX4_join_4 rfl (rfl : 4 + 1 = 5)) (v_ai (v_iload_n (i := 2) dX4_join_5 rfl (rfl : 5 + 1 = 6)) v_anil)) dX4_join_6 (rfl : 6 + 3 = 9)) dX4_join_9 (rfl : 9 + 1 = 10)) dX4_join_10 (by decide) (rfl : 10 + 2 = 12)) (v_seq (v_lstore (i := 9) (v_ladd (v_lmul (v_lload (i := 7) dX4_join_12 (rfl : 12 + 2 = 14)) (v_lload (i := 5) dX4_join_14 (rfl : 14 + 2 = 16)) dX4_join_16 (rfl : 16 + 1 = 17)) (v_lmul (v_lload_n (i := 3) dX4_join_17 rfl (rfl : 17 + 1 = 18)) (v_jald (v_gfr kX4 lk308 (by decide) rfl (v_aload_n (i := 0) dX4_join_18 rfl (rfl : 18 + 1 = 19)) dX4_join_19 (rfl : 19 + 3 = 22)) (v_csi IX4_cell hX4_cell lk785 ⟨by decide, by decide⟩ (by decide) (v_ai (v_iload_n (i := 1) dX4_join_22 rfl (rfl : 22 + 1 = 23)) (v_ai (v_iload_n (i := 2) dX4_join_23 rfl (rfl : 23 + 1 = 24)) v_anil)) dX4_join_24 (rfl : 24 + 3 = 27)) dX4_join_27 (rfl : 27 + 1 = 28)) dX4_join_28 (rfl : 28 + 1 = 29)) dX4_join_29 (rfl : 29 + 1 = 30)) dX4_join_30 (by decide) (rfl : 30 + 2 = 32)) (v_seq (v_lstore (i := 11) (v_lmul (v_lload (i := 5) dX4_join_32 (rfl : 32 + 2 = 34)) (v_jald (v_gfr kX4 lk308 (by decide) rfl (v_aload_n (i := 0) dX4_join_34 rfl (rfl : 34 + 1 = 35)) dX4_join_35 (rfl : 35 + 3 = 38)) (v_csi IX4_cell hX4_cell lk785 ⟨by decide, by decide⟩ (by decide) (v_ai (v_iload_n (i := 1) dX4_join_38 rfl (rfl : 38 + 1 = 39)) (v_ai (v_iload_n (i := 2) dX4_join_39 rfl (rfl : 39 + 1 = 40)) v_anil)) dX4_join_40 (rfl : 40 + 3 = 43)) dX4_join_43 (rfl : 43 + 1 = 44)) dX4_join_44 (rfl : 44 + 1 = 45)) dX4_join_45 (by decide) (rfl : 45 + 2 = 47)) (v_scv kX4 IX4_write hX4_write lk806 ⟨by decide, by decide⟩ (v_aload_n (i := 0) dX4_join_47 rfl (rfl : 47 + 1 = 48)) (v_ai (v_iload_n (i := 1) dX4_join_48 rfl (rfl : 48 + 1 = 49)) (v_ai (v_iload_n (i := 2) dX4_join_49 rfl (rfl : 49 + 1 = 50)) (v_aj (v_csj IX2_term hX2_term lk805 ⟨by decide, by decide⟩ (by decide) (v_aj (v_lload (i := 9) dX4_join_50 (rfl : 50 + 2 = 52)) (v_aj (v_lload (i := 11) dX4_join_52 (rfl : 52 + 2 = 54)) (v_ai (v_iconst (v := 0) dX4_join_54 (by decide) (rfl : 54 + 1 = 55)) v_anil))) dX4_join_55 (rfl : 55 + 3 = 58)) (v_aj (v_csj IX2_term hX2_term lk805 ⟨by decide, by decide⟩ (by decide) (v_aj (v_lload (i := 9) dX4_join_58 (rfl : 58 + 2 = 60)) (v_aj (v_lload (i := 11) dX4_join_60 (rfl : 60 + 2 = 62)) (v_ai (v_iconst (v := 1) dX4_join_62 (by decide) (rfl : 62 + 1 = 63)) v_anil))) dX4_join_63 (rfl : 63 + 3 = 66)) v_anil)))) dX4_join_66 (rfl : 66 + 3 = 69))))) (v_retv dX4_join_69))
theorem IX4_join : Mv yX4_join cX4_join 13 (rmk 3 96) DX4_join := mk_v (by decide +kernel) BX4_join

theorem dX4_takeOut_0 : decode cX4_takeOut 0 = .ok (.iconst (-1), 1) := by decide +kernel
theorem dX4_takeOut_1 : decode cX4_takeOut 1 = .ok (.istore_n 2, 1) := by decide +kernel
theorem dX4_takeOut_2 : decode cX4_takeOut 2 = .ok (.iconst (-1), 1) := by decide +kernel
theorem dX4_takeOut_3 : decode cX4_takeOut 3 = .ok (.istore_n 3, 1) := by decide +kernel
theorem dX4_takeOut_4 : decode cX4_takeOut 4 = .ok (.iconst 0, 1) := by decide +kernel
theorem dX4_takeOut_5 : decode cX4_takeOut 5 = .ok (.istore 4, 2) := by decide +kernel
theorem dX4_takeOut_7 : decode cX4_takeOut 7 = .ok (.iconst 0, 1) := by decide +kernel
theorem dX4_takeOut_8 : decode cX4_takeOut 8 = .ok (.istore 5, 2) := by decide +kernel
theorem dX4_takeOut_10 : decode cX4_takeOut 10 = .ok (.iload 5, 2) := by decide +kernel
theorem dX4_takeOut_12 : decode cX4_takeOut 12 = .ok (.iconst 5, 1) := by decide +kernel
theorem dX4_takeOut_13 : decode cX4_takeOut 13 = .ok (.if_icmp .ge 33, 3) := by decide +kernel
theorem dX4_takeOut_16 : decode cX4_takeOut 16 = .ok (.aload_n 0, 1) := by decide +kernel
theorem dX4_takeOut_17 : decode cX4_takeOut 17 = .ok (.getfield 15, 3) := by decide +kernel
theorem dX4_takeOut_20 : decode cX4_takeOut 20 = .ok (.iload_n 1, 1) := by decide +kernel
theorem dX4_takeOut_21 : decode cX4_takeOut 21 = .ok (.iload 5, 2) := by decide +kernel
theorem dX4_takeOut_23 : decode cX4_takeOut 23 = .ok (.invokestatic 37, 3) := by decide +kernel
theorem dX4_takeOut_26 : decode cX4_takeOut 26 = .ok (.laload, 1) := by decide +kernel
theorem dX4_takeOut_27 : decode cX4_takeOut 27 = .ok (.lconst 0, 1) := by decide +kernel
theorem dX4_takeOut_28 : decode cX4_takeOut 28 = .ok (.lcmp, 1) := by decide +kernel
theorem dX4_takeOut_29 : decode cX4_takeOut 29 = .ok (.ifCond .eq 11, 3) := by decide +kernel
theorem dX4_takeOut_32 : decode cX4_takeOut 32 = .ok (.iload_n 3, 1) := by decide +kernel
theorem dX4_takeOut_33 : decode cX4_takeOut 33 = .ok (.istore_n 2, 1) := by decide +kernel
theorem dX4_takeOut_34 : decode cX4_takeOut 34 = .ok (.iload 5, 2) := by decide +kernel
theorem dX4_takeOut_36 : decode cX4_takeOut 36 = .ok (.istore_n 3, 1) := by decide +kernel
theorem dX4_takeOut_37 : decode cX4_takeOut 37 = .ok (.iinc 4 1, 3) := by decide +kernel
theorem dX4_takeOut_40 : decode cX4_takeOut 40 = .ok (.iinc 5 1, 3) := by decide +kernel
theorem dX4_takeOut_43 : decode cX4_takeOut 43 = .ok (.goto (-33), 3) := by decide +kernel
theorem dX4_takeOut_46 : decode cX4_takeOut 46 = .ok (.iload 4, 2) := by decide +kernel
theorem dX4_takeOut_48 : decode cX4_takeOut 48 = .ok (.iconst 2, 1) := by decide +kernel
theorem dX4_takeOut_49 : decode cX4_takeOut 49 = .ok (.if_icmp .ne 84, 3) := by decide +kernel
theorem dX4_takeOut_52 : decode cX4_takeOut 52 = .ok (.aload_n 0, 1) := by decide +kernel
theorem dX4_takeOut_53 : decode cX4_takeOut 53 = .ok (.getfield 15, 3) := by decide +kernel
theorem dX4_takeOut_56 : decode cX4_takeOut 56 = .ok (.iload_n 1, 1) := by decide +kernel
theorem dX4_takeOut_57 : decode cX4_takeOut 57 = .ok (.iload_n 2, 1) := by decide +kernel
theorem dX4_takeOut_58 : decode cX4_takeOut 58 = .ok (.invokestatic 37, 3) := by decide +kernel
theorem dX4_takeOut_61 : decode cX4_takeOut 61 = .ok (.laload, 1) := by decide +kernel
theorem dX4_takeOut_62 : decode cX4_takeOut 62 = .ok (.lstore 5, 2) := by decide +kernel
theorem dX4_takeOut_64 : decode cX4_takeOut 64 = .ok (.aload_n 0, 1) := by decide +kernel
theorem dX4_takeOut_65 : decode cX4_takeOut 65 = .ok (.getfield 15, 3) := by decide +kernel
theorem dX4_takeOut_68 : decode cX4_takeOut 68 = .ok (.iload_n 1, 1) := by decide +kernel
theorem dX4_takeOut_69 : decode cX4_takeOut 69 = .ok (.iload_n 3, 1) := by decide +kernel
theorem dX4_takeOut_70 : decode cX4_takeOut 70 = .ok (.invokestatic 37, 3) := by decide +kernel
theorem dX4_takeOut_73 : decode cX4_takeOut 73 = .ok (.laload, 1) := by decide +kernel
theorem dX4_takeOut_74 : decode cX4_takeOut 74 = .ok (.lstore 7, 2) := by decide +kernel
theorem dX4_takeOut_76 : decode cX4_takeOut 76 = .ok (.lload 5, 2) := by decide +kernel
theorem dX4_takeOut_78 : decode cX4_takeOut 78 = .ok (.aload_n 0, 1) := by decide +kernel
theorem dX4_takeOut_79 : decode cX4_takeOut 79 = .ok (.getfield 18, 3) := by decide +kernel
theorem dX4_takeOut_82 : decode cX4_takeOut 82 = .ok (.iload_n 1, 1) := by decide +kernel
theorem dX4_takeOut_83 : decode cX4_takeOut 83 = .ok (.iload_n 3, 1) := by decide +kernel
theorem dX4_takeOut_84 : decode cX4_takeOut 84 = .ok (.invokestatic 37, 3) := by decide +kernel
theorem dX4_takeOut_87 : decode cX4_takeOut 87 = .ok (.laload, 1) := by decide +kernel
theorem dX4_takeOut_88 : decode cX4_takeOut 88 = .ok (.lmul, 1) := by decide +kernel
theorem dX4_takeOut_89 : decode cX4_takeOut 89 = .ok (.lload 7, 2) := by decide +kernel
theorem dX4_takeOut_91 : decode cX4_takeOut 91 = .ok (.aload_n 0, 1) := by decide +kernel
theorem dX4_takeOut_92 : decode cX4_takeOut 92 = .ok (.getfield 18, 3) := by decide +kernel
theorem dX4_takeOut_95 : decode cX4_takeOut 95 = .ok (.iload_n 1, 1) := by decide +kernel
theorem dX4_takeOut_96 : decode cX4_takeOut 96 = .ok (.iload_n 2, 1) := by decide +kernel
theorem dX4_takeOut_97 : decode cX4_takeOut 97 = .ok (.invokestatic 37, 3) := by decide +kernel
theorem dX4_takeOut_100 : decode cX4_takeOut 100 = .ok (.laload, 1) := by decide +kernel
theorem dX4_takeOut_101 : decode cX4_takeOut 101 = .ok (.lmul, 1) := by decide +kernel
theorem dX4_takeOut_102 : decode cX4_takeOut 102 = .ok (.ladd, 1) := by decide +kernel
theorem dX4_takeOut_103 : decode cX4_takeOut 103 = .ok (.lstore 9, 2) := by decide +kernel
theorem dX4_takeOut_105 : decode cX4_takeOut 105 = .ok (.aload_n 0, 1) := by decide +kernel
theorem dX4_takeOut_106 : decode cX4_takeOut 106 = .ok (.iload_n 1, 1) := by decide +kernel
theorem dX4_takeOut_107 : decode cX4_takeOut 107 = .ok (.iload_n 2, 1) := by decide +kernel
theorem dX4_takeOut_108 : decode cX4_takeOut 108 = .ok (.invokevirtual 76, 3) := by decide +kernel
theorem dX4_takeOut_111 : decode cX4_takeOut 111 = .ok (.aload_n 0, 1) := by decide +kernel
theorem dX4_takeOut_112 : decode cX4_takeOut 112 = .ok (.iload_n 1, 1) := by decide +kernel
theorem dX4_takeOut_113 : decode cX4_takeOut 113 = .ok (.iload_n 3, 1) := by decide +kernel
theorem dX4_takeOut_114 : decode cX4_takeOut 114 = .ok (.invokevirtual 76, 3) := by decide +kernel
theorem dX4_takeOut_117 : decode cX4_takeOut 117 = .ok (.aload_n 0, 1) := by decide +kernel
theorem dX4_takeOut_118 : decode cX4_takeOut 118 = .ok (.iload_n 2, 1) := by decide +kernel
theorem dX4_takeOut_119 : decode cX4_takeOut 119 = .ok (.iload_n 3, 1) := by decide +kernel
theorem dX4_takeOut_120 : decode cX4_takeOut 120 = .ok (.lload 5, 2) := by decide +kernel
theorem dX4_takeOut_122 : decode cX4_takeOut 122 = .ok (.lload 7, 2) := by decide +kernel
theorem dX4_takeOut_124 : decode cX4_takeOut 124 = .ok (.lmul, 1) := by decide +kernel
theorem dX4_takeOut_125 : decode cX4_takeOut 125 = .ok (.lload 9, 2) := by decide +kernel
theorem dX4_takeOut_127 : decode cX4_takeOut 127 = .ok (.invokevirtual 65, 3) := by decide +kernel
theorem dX4_takeOut_130 : decode cX4_takeOut 130 = .ok (.goto 15, 3) := by decide +kernel
theorem dX4_takeOut_133 : decode cX4_takeOut 133 = .ok (.iload 4, 2) := by decide +kernel
theorem dX4_takeOut_135 : decode cX4_takeOut 135 = .ok (.iconst 1, 1) := by decide +kernel
theorem dX4_takeOut_136 : decode cX4_takeOut 136 = .ok (.if_icmp .ne 9, 3) := by decide +kernel
theorem dX4_takeOut_139 : decode cX4_takeOut 139 = .ok (.aload_n 0, 1) := by decide +kernel
theorem dX4_takeOut_140 : decode cX4_takeOut 140 = .ok (.iload_n 1, 1) := by decide +kernel
theorem dX4_takeOut_141 : decode cX4_takeOut 141 = .ok (.iload_n 3, 1) := by decide +kernel
theorem dX4_takeOut_142 : decode cX4_takeOut 142 = .ok (.invokevirtual 76, 3) := by decide +kernel
theorem dX4_takeOut_145 : decode cX4_takeOut 145 = .ok (.return_, 1) := by decide +kernel
noncomputable def qX4_takeOut_1 : Bx := (bc clt (il 5) (ik 5))
noncomputable def wX4_takeOut_1 : Sx := (sseq (sif (bj qne (jald (fgr 3 1 (rl 0)) (csi DX4_cell (ai (il 1) (ai (il 5) anil)))) (jk 0)) (sseq (ssi 2 (il 3)) (sseq (ssi 3 (il 5)) (sinc 4 1))) snop) (sinc 5 1))
noncomputable def EX4_takeOut : Sx := (sseq (sseq (ssi 2 (ik (-1))) (sseq (ssi 3 (ik (-1))) (sseq (ssi 4 (ik 0)) (sseq (scut 5 (sseq (ssi 5 (ik 0)) (swh qX4_takeOut_1 wX4_takeOut_1))) (sif (bc ceq (il 4) (ik 2)) (scut 5 (sseq (ssj 5 (jald (fgr 3 1 (rl 0)) (csi DX4_cell (ai (il 1) (ai (il 2) anil))))) (sseq (ssj 7 (jald (fgr 3 1 (rl 0)) (csi DX4_cell (ai (il 1) (ai (il 3) anil))))) (sseq (ssj 9 (j2 (· + ·) (j2 (· * ·) (jl 5) (jald (fgr 3 2 (rl 0)) (csi DX4_cell (ai (il 1) (ai (il 3) anil))))) (j2 (· * ·) (jl 7) (jald (fgr 3 2 (rl 0)) (csi DX4_cell (ai (il 1) (ai (il 2) anil))))))) (sseq (scv 3 DX4_clear (rl 0) (ai (il 1) (ai (il 2) anil))) (sseq (scv 3 DX4_clear (rl 0) (ai (il 1) (ai (il 3) anil))) (scv 3 DX4_join (rl 0) (ai (il 2) (ai (il 3) (aj (j2 (· * ·) (jl 5) (jl 7)) (aj (jl 9) anil))))))))))) (sif (bc ceq (il 4) (ik 1)) (scv 3 DX4_clear (rl 0) (ai (il 1) (ai (il 3) anil))) snop)))))) sretv)
noncomputable def DX4_takeOut : Fu := mfv 11 EX4_takeOut
set_option maxRecDepth 4000 in
theorem BX4_takeOut : Vs RX4 cX4_takeOut 11 (rmk 4 128) 0 0 EX4_takeOut := (v_seq (v_seq (v_istore_n (i := 2) (v_iconst (v := (-1)) dX4_takeOut_0 (by decide) (rfl : 0 + 1 = 1)) dX4_takeOut_1 rfl (by decide) (rfl : 1 + 1 = 2)) (v_seq (v_istore_n (i := 3) (v_iconst (v := (-1)) dX4_takeOut_2 (by decide) (rfl : 2 + 1 = 3)) dX4_takeOut_3 rfl (by decide) (rfl : 3 + 1 = 4)) (v_seq (v_istore (i := 4) (v_iconst (v := 0) dX4_takeOut_4 (by decide) (rfl : 4 + 1 = 5)) dX4_takeOut_5 (by decide) (rfl : 5 + 2 = 7)) (v_seq (v_cut (n := 5) (v_seq (v_istore (i := 5) (v_iconst (v := 0) dX4_takeOut_7 (by decide) (rfl : 7 + 1 = 8)) dX4_takeOut_8 (by decide) (rfl : 8 + 2 = 10)) (v_wh (v_ilt_f (v_iload (i := 5) dX4_takeOut_10 (rfl : 10 + 2 = 12)) (v_iconst (v := 5) dX4_takeOut_12 (by decide) (rfl : 12 + 1 = 13)) dX4_takeOut_13 (rfl : ((13 : Nat) : Int) + 33 = ((46 : Nat) : Int)) (rfl : 13 + 3 = 16)) (vs_goto (v_seq (v_if (v_jne_f (v_jald (v_gfr kX4 lk307 (by decide) rfl (v_aload_n (i := 0) dX4_takeOut_16 rfl (rfl : 16 + 1 = 17)) dX4_takeOut_17 (rfl : 17 + 3 = 20)) (v_csi IX4_cell hX4_cell lk785 ⟨by decide, by decide⟩ (by decide) (v_ai (v_iload_n (i := 1) dX4_takeOut_20 rfl (rfl : 20 + 1 = 21)) (v_ai (v_iload (i := 5) dX4_takeOut_21 (rfl : 21 + 2 = 23)) v_anil)) dX4_takeOut_23 (rfl : 23 + 3 = 26)) dX4_takeOut_26 (rfl : 26 + 1 = 27)) (v_lconst (v := 0) dX4_takeOut_27 (by decide) (rfl : 27 + 1 = 28)) dX4_takeOut_28 dX4_takeOut_29 (rfl : ((29 : Nat) : Int) + 11 = ((40 : Nat) : Int)) (rfl : 29 + 3 = 32)) (v_seq (v_istore_n (i := 2) (v_iload_n (i := 3) dX4_takeOut_32 rfl (rfl : 32 + 1 = 33)) dX4_takeOut_33 rfl (by decide) (rfl : 33 + 1 = 34)) (v_seq (v_istore_n (i := 3) (v_iload (i := 5) dX4_takeOut_34 (rfl : 34 + 2 = 36)) dX4_takeOut_36 rfl (by decide) (rfl : 36 + 1 = 37)) (v_iinc (v := 1) dX4_takeOut_37 (by decide) (by decide) (rfl : 37 + 3 = 40)))) v_nop) (v_iinc (v := 1) dX4_takeOut_40 (by decide) (by decide) (rfl : 40 + 3 = 43))) dX4_takeOut_43 (rfl : ((43 : Nat) : Int) + (-33) = ((10 : Nat) : Int)))))) (v_if (v_ieq_f (v_iload (i := 4) dX4_takeOut_46 (rfl : 46 + 2 = 48)) (v_iconst (v := 2) dX4_takeOut_48 (by decide) (rfl : 48 + 1 = 49)) dX4_takeOut_49 (rfl : ((49 : Nat) : Int) + 84 = ((133 : Nat) : Int)) (rfl : 49 + 3 = 52)) (vs_goto (v_cut (n := 5) (v_seq (v_lstore (i := 5) (v_jald (v_gfr kX4 lk307 (by decide) rfl (v_aload_n (i := 0) dX4_takeOut_52 rfl (rfl : 52 + 1 = 53)) dX4_takeOut_53 (rfl : 53 + 3 = 56)) (v_csi IX4_cell hX4_cell lk785 ⟨by decide, by decide⟩ (by decide) (v_ai (v_iload_n (i := 1) dX4_takeOut_56 rfl (rfl : 56 + 1 = 57)) (v_ai (v_iload_n (i := 2) dX4_takeOut_57 rfl (rfl : 57 + 1 = 58)) v_anil)) dX4_takeOut_58 (rfl : 58 + 3 = 61)) dX4_takeOut_61 (rfl : 61 + 1 = 62)) dX4_takeOut_62 (by decide) (rfl : 62 + 2 = 64)) (v_seq (v_lstore (i := 7) (v_jald (v_gfr kX4 lk307 (by decide) rfl (v_aload_n (i := 0) dX4_takeOut_64 rfl (rfl : 64 + 1 = 65)) dX4_takeOut_65 (rfl : 65 + 3 = 68)) (v_csi IX4_cell hX4_cell lk785 ⟨by decide, by decide⟩ (by decide) (v_ai (v_iload_n (i := 1) dX4_takeOut_68 rfl (rfl : 68 + 1 = 69)) (v_ai (v_iload_n (i := 3) dX4_takeOut_69 rfl (rfl : 69 + 1 = 70)) v_anil)) dX4_takeOut_70 (rfl : 70 + 3 = 73)) dX4_takeOut_73 (rfl : 73 + 1 = 74)) dX4_takeOut_74 (by decide) (rfl : 74 + 2 = 76)) (v_seq (v_lstore (i := 9) (v_ladd (v_lmul (v_lload (i := 5) dX4_takeOut_76 (rfl : 76 + 2 = 78)) (v_jald (v_gfr kX4 lk308 (by decide) rfl (v_aload_n (i := 0) dX4_takeOut_78 rfl (rfl : 78 + 1 = 79)) dX4_takeOut_79 (rfl : 79 + 3 = 82)) (v_csi IX4_cell hX4_cell lk785 ⟨by decide, by decide⟩ (by decide) (v_ai (v_iload_n (i := 1) dX4_takeOut_82 rfl (rfl : 82 + 1 = 83)) (v_ai (v_iload_n (i := 3) dX4_takeOut_83 rfl (rfl : 83 + 1 = 84)) v_anil)) dX4_takeOut_84 (rfl : 84 + 3 = 87)) dX4_takeOut_87 (rfl : 87 + 1 = 88)) dX4_takeOut_88 (rfl : 88 + 1 = 89)) (v_lmul (v_lload (i := 7) dX4_takeOut_89 (rfl : 89 + 2 = 91)) (v_jald (v_gfr kX4 lk308 (by decide) rfl (v_aload_n (i := 0) dX4_takeOut_91 rfl (rfl : 91 + 1 = 92)) dX4_takeOut_92 (rfl : 92 + 3 = 95)) (v_csi IX4_cell hX4_cell lk785 ⟨by decide, by decide⟩ (by decide) (v_ai (v_iload_n (i := 1) dX4_takeOut_95 rfl (rfl : 95 + 1 = 96)) (v_ai (v_iload_n (i := 2) dX4_takeOut_96 rfl (rfl : 96 + 1 = 97)) v_anil)) dX4_takeOut_97 (rfl : 97 + 3 = 100)) dX4_takeOut_100 (rfl : 100 + 1 = 101)) dX4_takeOut_101 (rfl : 101 + 1 = 102)) dX4_takeOut_102 (rfl : 102 + 1 = 103)) dX4_takeOut_103 (by decide) (rfl : 103 + 2 = 105)) (v_seq (v_scv kX4 IX4_clear hX4_clear lk814 ⟨by decide, by decide⟩ (v_aload_n (i := 0) dX4_takeOut_105 rfl (rfl : 105 + 1 = 106)) (v_ai (v_iload_n (i := 1) dX4_takeOut_106 rfl (rfl : 106 + 1 = 107)) (v_ai (v_iload_n (i := 2) dX4_takeOut_107 rfl (rfl : 107 + 1 = 108)) v_anil)) dX4_takeOut_108 (rfl : 108 + 3 = 111)) (v_seq (v_scv kX4 IX4_clear hX4_clear lk814 ⟨by decide, by decide⟩ (v_aload_n (i := 0) dX4_takeOut_111 rfl (rfl : 111 + 1 = 112)) (v_ai (v_iload_n (i := 1) dX4_takeOut_112 rfl (rfl : 112 + 1 = 113)) (v_ai (v_iload_n (i := 3) dX4_takeOut_113 rfl (rfl : 113 + 1 = 114)) v_anil)) dX4_takeOut_114 (rfl : 114 + 3 = 117)) (v_scv kX4 IX4_join hX4_join lk801 ⟨by decide, by decide⟩ (v_aload_n (i := 0) dX4_takeOut_117 rfl (rfl : 117 + 1 = 118)) (v_ai (v_iload_n (i := 2) dX4_takeOut_118 rfl (rfl : 118 + 1 = 119)) (v_ai (v_iload_n (i := 3) dX4_takeOut_119 rfl (rfl : 119 + 1 = 120)) (v_aj (v_lmul (v_lload (i := 5) dX4_takeOut_120 (rfl : 120 + 2 = 122)) (v_lload (i := 7) dX4_takeOut_122 (rfl : 122 + 2 = 124)) dX4_takeOut_124 (rfl : 124 + 1 = 125)) (v_aj (v_lload (i := 9) dX4_takeOut_125 (rfl : 125 + 2 = 127)) v_anil)))) dX4_takeOut_127 (rfl : 127 + 3 = 130)))))))) dX4_takeOut_130 (rfl : ((130 : Nat) : Int) + 15 = ((145 : Nat) : Int))) (v_if (v_ieq_f (v_iload (i := 4) dX4_takeOut_133 (rfl : 133 + 2 = 135)) (v_iconst (v := 1) dX4_takeOut_135 (by decide) (rfl : 135 + 1 = 136)) dX4_takeOut_136 (rfl : ((136 : Nat) : Int) + 9 = ((145 : Nat) : Int)) (rfl : 136 + 3 = 139)) (v_scv kX4 IX4_clear hX4_clear lk814 ⟨by decide, by decide⟩ (v_aload_n (i := 0) dX4_takeOut_139 rfl (rfl : 139 + 1 = 140)) (v_ai (v_iload_n (i := 1) dX4_takeOut_140 rfl (rfl : 140 + 1 = 141)) (v_ai (v_iload_n (i := 3) dX4_takeOut_141 rfl (rfl : 141 + 1 = 142)) v_anil)) dX4_takeOut_142 (rfl : 142 + 3 = 145)) v_nop)))))) (v_retv dX4_takeOut_145))
theorem IX4_takeOut : Mv yX4_takeOut cX4_takeOut 11 (rmk 4 128) DX4_takeOut := mk_v (by decide +kernel) BX4_takeOut

theorem dX4_reduce_0 : decode cX4_reduce 0 = .ok (.aload_n 0, 1) := by decide +kernel
theorem dX4_reduce_1 : decode cX4_reduce 1 = .ok (.getfield 15, 3) := by decide +kernel
theorem dX4_reduce_4 : decode cX4_reduce 4 = .ok (.lconst 0, 1) := by decide +kernel
theorem dX4_reduce_5 : decode cX4_reduce 5 = .ok (.invokestatic 27, 3) := by decide +kernel
theorem dX4_reduce_8 : decode cX4_reduce 8 = .ok (.aload_n 0, 1) := by decide +kernel
theorem dX4_reduce_9 : decode cX4_reduce 9 = .ok (.getfield 18, 3) := by decide +kernel
theorem dX4_reduce_12 : decode cX4_reduce 12 = .ok (.lconst 1, 1) := by decide +kernel
theorem dX4_reduce_13 : decode cX4_reduce 13 = .ok (.invokestatic 27, 3) := by decide +kernel
theorem dX4_reduce_16 : decode cX4_reduce 16 = .ok (.iconst 0, 1) := by decide +kernel
theorem dX4_reduce_17 : decode cX4_reduce 17 = .ok (.istore 4, 2) := by decide +kernel
theorem dX4_reduce_19 : decode cX4_reduce 19 = .ok (.iload 4, 2) := by decide +kernel
theorem dX4_reduce_21 : decode cX4_reduce 21 = .ok (.aload_n 1, 1) := by decide +kernel
theorem dX4_reduce_22 : decode cX4_reduce 22 = .ok (.getfield 41, 3) := by decide +kernel
theorem dX4_reduce_25 : decode cX4_reduce 25 = .ok (.if_icmp .ge 43, 3) := by decide +kernel
theorem dX4_reduce_28 : decode cX4_reduce 28 = .ok (.aload_n 1, 1) := by decide +kernel
theorem dX4_reduce_29 : decode cX4_reduce 29 = .ok (.getfield 44, 3) := by decide +kernel
theorem dX4_reduce_32 : decode cX4_reduce 32 = .ok (.iload 4, 2) := by decide +kernel
theorem dX4_reduce_34 : decode cX4_reduce 34 = .ok (.aaload, 1) := by decide +kernel
theorem dX4_reduce_35 : decode cX4_reduce 35 = .ok (.astore 5, 2) := by decide +kernel
theorem dX4_reduce_37 : decode cX4_reduce 37 = .ok (.aload 5, 2) := by decide +kernel
theorem dX4_reduce_39 : decode cX4_reduce 39 = .ok (.iconst 3, 1) := by decide +kernel
theorem dX4_reduce_40 : decode cX4_reduce 40 = .ok (.iaload, 1) := by decide +kernel
theorem dX4_reduce_41 : decode cX4_reduce 41 = .ok (.ifCond .eq 21, 3) := by decide +kernel
theorem dX4_reduce_44 : decode cX4_reduce 44 = .ok (.aload_n 0, 1) := by decide +kernel
theorem dX4_reduce_45 : decode cX4_reduce 45 = .ok (.aload 5, 2) := by decide +kernel
theorem dX4_reduce_47 : decode cX4_reduce 47 = .ok (.iconst 0, 1) := by decide +kernel
theorem dX4_reduce_48 : decode cX4_reduce 48 = .ok (.iaload, 1) := by decide +kernel
theorem dX4_reduce_49 : decode cX4_reduce 49 = .ok (.aload 5, 2) := by decide +kernel
theorem dX4_reduce_51 : decode cX4_reduce 51 = .ok (.iconst 1, 1) := by decide +kernel
theorem dX4_reduce_52 : decode cX4_reduce 52 = .ok (.iaload, 1) := by decide +kernel
theorem dX4_reduce_53 : decode cX4_reduce 53 = .ok (.aload 5, 2) := by decide +kernel
theorem dX4_reduce_55 : decode cX4_reduce 55 = .ok (.iconst 2, 1) := by decide +kernel
theorem dX4_reduce_56 : decode cX4_reduce 56 = .ok (.iaload, 1) := by decide +kernel
theorem dX4_reduce_57 : decode cX4_reduce 57 = .ok (.i2l, 1) := by decide +kernel
theorem dX4_reduce_58 : decode cX4_reduce 58 = .ok (.lconst 1, 1) := by decide +kernel
theorem dX4_reduce_59 : decode cX4_reduce 59 = .ok (.invokevirtual 65, 3) := by decide +kernel
theorem dX4_reduce_62 : decode cX4_reduce 62 = .ok (.iinc 4 1, 3) := by decide +kernel
theorem dX4_reduce_65 : decode cX4_reduce 65 = .ok (.goto (-46), 3) := by decide +kernel
theorem dX4_reduce_68 : decode cX4_reduce 68 = .ok (.iconst 0, 1) := by decide +kernel
theorem dX4_reduce_69 : decode cX4_reduce 69 = .ok (.istore 4, 2) := by decide +kernel
theorem dX4_reduce_71 : decode cX4_reduce 71 = .ok (.iload 4, 2) := by decide +kernel
theorem dX4_reduce_73 : decode cX4_reduce 73 = .ok (.aload_n 1, 1) := by decide +kernel
theorem dX4_reduce_74 : decode cX4_reduce 74 = .ok (.getfield 33, 3) := by decide +kernel
theorem dX4_reduce_77 : decode cX4_reduce 77 = .ok (.if_icmp .ge 45, 3) := by decide +kernel
theorem dX4_reduce_80 : decode cX4_reduce 80 = .ok (.iconst 0, 1) := by decide +kernel
theorem dX4_reduce_81 : decode cX4_reduce 81 = .ok (.istore 5, 2) := by decide +kernel
theorem dX4_reduce_83 : decode cX4_reduce 83 = .ok (.iload 5, 2) := by decide +kernel
theorem dX4_reduce_85 : decode cX4_reduce 85 = .ok (.aload_n 1, 1) := by decide +kernel
theorem dX4_reduce_86 : decode cX4_reduce 86 = .ok (.getfield 33, 3) := by decide +kernel
theorem dX4_reduce_89 : decode cX4_reduce 89 = .ok (.if_icmp .ge 27, 3) := by decide +kernel
theorem dX4_reduce_92 : decode cX4_reduce 92 = .ok (.iload 5, 2) := by decide +kernel
theorem dX4_reduce_94 : decode cX4_reduce 94 = .ok (.iload_n 2, 1) := by decide +kernel
theorem dX4_reduce_95 : decode cX4_reduce 95 = .ok (.if_icmp .eq 15, 3) := by decide +kernel
theorem dX4_reduce_98 : decode cX4_reduce 98 = .ok (.iload 5, 2) := by decide +kernel
theorem dX4_reduce_100 : decode cX4_reduce 100 = .ok (.iload_n 3, 1) := by decide +kernel
theorem dX4_reduce_101 : decode cX4_reduce 101 = .ok (.if_icmp .eq 9, 3) := by decide +kernel
theorem dX4_reduce_104 : decode cX4_reduce 104 = .ok (.aload_n 0, 1) := by decide +kernel
theorem dX4_reduce_105 : decode cX4_reduce 105 = .ok (.iload 5, 2) := by decide +kernel
theorem dX4_reduce_107 : decode cX4_reduce 107 = .ok (.invokevirtual 69, 3) := by decide +kernel
theorem dX4_reduce_110 : decode cX4_reduce 110 = .ok (.iinc 5 1, 3) := by decide +kernel
theorem dX4_reduce_113 : decode cX4_reduce 113 = .ok (.goto (-30), 3) := by decide +kernel
theorem dX4_reduce_116 : decode cX4_reduce 116 = .ok (.iinc 4 1, 3) := by decide +kernel
theorem dX4_reduce_119 : decode cX4_reduce 119 = .ok (.goto (-48), 3) := by decide +kernel
theorem dX4_reduce_122 : decode cX4_reduce 122 = .ok (.aload_n 0, 1) := by decide +kernel
theorem dX4_reduce_123 : decode cX4_reduce 123 = .ok (.iconst 0, 1) := by decide +kernel
theorem dX4_reduce_124 : decode cX4_reduce 124 = .ok (.putfield 73, 3) := by decide +kernel
theorem dX4_reduce_127 : decode cX4_reduce 127 = .ok (.iconst 0, 1) := by decide +kernel
theorem dX4_reduce_128 : decode cX4_reduce 128 = .ok (.istore 4, 2) := by decide +kernel
theorem dX4_reduce_130 : decode cX4_reduce 130 = .ok (.iload 4, 2) := by decide +kernel
theorem dX4_reduce_132 : decode cX4_reduce 132 = .ok (.iconst 5, 1) := by decide +kernel
theorem dX4_reduce_133 : decode cX4_reduce 133 = .ok (.if_icmp .ge 58, 3) := by decide +kernel
theorem dX4_reduce_136 : decode cX4_reduce 136 = .ok (.iload 4, 2) := by decide +kernel
theorem dX4_reduce_138 : decode cX4_reduce 138 = .ok (.iconst 1, 1) := by decide +kernel
theorem dX4_reduce_139 : decode cX4_reduce 139 = .ok (.iadd, 1) := by decide +kernel
theorem dX4_reduce_140 : decode cX4_reduce 140 = .ok (.istore 5, 2) := by decide +kernel
theorem dX4_reduce_142 : decode cX4_reduce 142 = .ok (.iload 5, 2) := by decide +kernel
theorem dX4_reduce_144 : decode cX4_reduce 144 = .ok (.iconst 5, 1) := by decide +kernel
theorem dX4_reduce_145 : decode cX4_reduce 145 = .ok (.if_icmp .ge 40, 3) := by decide +kernel
theorem dX4_reduce_148 : decode cX4_reduce 148 = .ok (.aload_n 0, 1) := by decide +kernel
theorem dX4_reduce_149 : decode cX4_reduce 149 = .ok (.dup, 1) := by decide +kernel
theorem dX4_reduce_150 : decode cX4_reduce 150 = .ok (.getfield 73, 3) := by decide +kernel
theorem dX4_reduce_153 : decode cX4_reduce 153 = .ok (.aload_n 0, 1) := by decide +kernel
theorem dX4_reduce_154 : decode cX4_reduce 154 = .ok (.getfield 15, 3) := by decide +kernel
theorem dX4_reduce_157 : decode cX4_reduce 157 = .ok (.iload 4, 2) := by decide +kernel
theorem dX4_reduce_159 : decode cX4_reduce 159 = .ok (.iload 5, 2) := by decide +kernel
theorem dX4_reduce_161 : decode cX4_reduce 161 = .ok (.invokestatic 37, 3) := by decide +kernel
theorem dX4_reduce_164 : decode cX4_reduce 164 = .ok (.laload, 1) := by decide +kernel
theorem dX4_reduce_165 : decode cX4_reduce 165 = .ok (.lconst 0, 1) := by decide +kernel
theorem dX4_reduce_166 : decode cX4_reduce 166 = .ok (.lcmp, 1) := by decide +kernel
theorem dX4_reduce_167 : decode cX4_reduce 167 = .ok (.ifCond .eq 7, 3) := by decide +kernel
theorem dX4_reduce_170 : decode cX4_reduce 170 = .ok (.iconst 1, 1) := by decide +kernel
theorem dX4_reduce_171 : decode cX4_reduce 171 = .ok (.goto 4, 3) := by decide +kernel
theorem dX4_reduce_174 : decode cX4_reduce 174 = .ok (.iconst 0, 1) := by decide +kernel
theorem dX4_reduce_175 : decode cX4_reduce 175 = .ok (.iadd, 1) := by decide +kernel
theorem dX4_reduce_176 : decode cX4_reduce 176 = .ok (.putfield 73, 3) := by decide +kernel
theorem dX4_reduce_179 : decode cX4_reduce 179 = .ok (.iinc 5 1, 3) := by decide +kernel
theorem dX4_reduce_182 : decode cX4_reduce 182 = .ok (.goto (-40), 3) := by decide +kernel
theorem dX4_reduce_185 : decode cX4_reduce 185 = .ok (.iinc 4 1, 3) := by decide +kernel
theorem dX4_reduce_188 : decode cX4_reduce 188 = .ok (.goto (-58), 3) := by decide +kernel
theorem dX4_reduce_191 : decode cX4_reduce 191 = .ok (.aload_n 0, 1) := by decide +kernel
theorem dX4_reduce_192 : decode cX4_reduce 192 = .ok (.getfield 73, 3) := by decide +kernel
theorem dX4_reduce_195 : decode cX4_reduce 195 = .ok (.iconst 1, 1) := by decide +kernel
theorem dX4_reduce_196 : decode cX4_reduce 196 = .ok (.if_icmp .ne 22, 3) := by decide +kernel
theorem dX4_reduce_199 : decode cX4_reduce 199 = .ok (.aload_n 0, 1) := by decide +kernel
theorem dX4_reduce_200 : decode cX4_reduce 200 = .ok (.getfield 15, 3) := by decide +kernel
theorem dX4_reduce_203 : decode cX4_reduce 203 = .ok (.iload_n 2, 1) := by decide +kernel
theorem dX4_reduce_204 : decode cX4_reduce 204 = .ok (.iload_n 3, 1) := by decide +kernel
theorem dX4_reduce_205 : decode cX4_reduce 205 = .ok (.invokestatic 37, 3) := by decide +kernel
theorem dX4_reduce_208 : decode cX4_reduce 208 = .ok (.laload, 1) := by decide +kernel
theorem dX4_reduce_209 : decode cX4_reduce 209 = .ok (.lconst 0, 1) := by decide +kernel
theorem dX4_reduce_210 : decode cX4_reduce 210 = .ok (.lcmp, 1) := by decide +kernel
theorem dX4_reduce_211 : decode cX4_reduce 211 = .ok (.ifCond .eq 7, 3) := by decide +kernel
theorem dX4_reduce_214 : decode cX4_reduce 214 = .ok (.iconst 1, 1) := by decide +kernel
theorem dX4_reduce_215 : decode cX4_reduce 215 = .ok (.goto 4, 3) := by decide +kernel
theorem dX4_reduce_218 : decode cX4_reduce 218 = .ok (.iconst 0, 1) := by decide +kernel
theorem dX4_reduce_219 : decode cX4_reduce 219 = .ok (.istore 4, 2) := by decide +kernel
theorem dX4_reduce_221 : decode cX4_reduce 221 = .ok (.aload_n 0, 1) := by decide +kernel
theorem dX4_reduce_222 : decode cX4_reduce 222 = .ok (.iload 4, 2) := by decide +kernel
theorem dX4_reduce_224 : decode cX4_reduce 224 = .ok (.ifCond .eq 16, 3) := by decide +kernel
theorem dX4_reduce_227 : decode cX4_reduce 227 = .ok (.aload_n 0, 1) := by decide +kernel
theorem dX4_reduce_228 : decode cX4_reduce 228 = .ok (.getfield 15, 3) := by decide +kernel
theorem dX4_reduce_231 : decode cX4_reduce 231 = .ok (.iload_n 2, 1) := by decide +kernel
theorem dX4_reduce_232 : decode cX4_reduce 232 = .ok (.iload_n 3, 1) := by decide +kernel
theorem dX4_reduce_233 : decode cX4_reduce 233 = .ok (.invokestatic 37, 3) := by decide +kernel
theorem dX4_reduce_236 : decode cX4_reduce 236 = .ok (.laload, 1) := by decide +kernel
theorem dX4_reduce_237 : decode cX4_reduce 237 = .ok (.goto 4, 3) := by decide +kernel
theorem dX4_reduce_240 : decode cX4_reduce 240 = .ok (.lconst 0, 1) := by decide +kernel
theorem dX4_reduce_241 : decode cX4_reduce 241 = .ok (.putfield 58, 3) := by decide +kernel
theorem dX4_reduce_244 : decode cX4_reduce 244 = .ok (.aload_n 0, 1) := by decide +kernel
theorem dX4_reduce_245 : decode cX4_reduce 245 = .ok (.iload 4, 2) := by decide +kernel
theorem dX4_reduce_247 : decode cX4_reduce 247 = .ok (.ifCond .eq 16, 3) := by decide +kernel
theorem dX4_reduce_250 : decode cX4_reduce 250 = .ok (.aload_n 0, 1) := by decide +kernel
theorem dX4_reduce_251 : decode cX4_reduce 251 = .ok (.getfield 18, 3) := by decide +kernel
theorem dX4_reduce_254 : decode cX4_reduce 254 = .ok (.iload_n 2, 1) := by decide +kernel
theorem dX4_reduce_255 : decode cX4_reduce 255 = .ok (.iload_n 3, 1) := by decide +kernel
theorem dX4_reduce_256 : decode cX4_reduce 256 = .ok (.invokestatic 37, 3) := by decide +kernel
theorem dX4_reduce_259 : decode cX4_reduce 259 = .ok (.laload, 1) := by decide +kernel
theorem dX4_reduce_260 : decode cX4_reduce 260 = .ok (.goto 4, 3) := by decide +kernel
theorem dX4_reduce_263 : decode cX4_reduce 263 = .ok (.lconst 0, 1) := by decide +kernel
theorem dX4_reduce_264 : decode cX4_reduce 264 = .ok (.putfield 62, 3) := by decide +kernel
theorem dX4_reduce_267 : decode cX4_reduce 267 = .ok (.return_, 1) := by decide +kernel
noncomputable def qX4_reduce_1 : Bx := (bc clt (il 4) (fgi 1 1 (rl 1)))
noncomputable def wX4_reduce_1 : Sx := (sseq (scut 5 (sseq (ssr 5 (rald 12 (fgr 1 10 (rl 1)) (il 4))) (sif (bz cne (iald (rl 5) (ik 3))) (scv 3 DX4_join (rl 0) (ai (iald (rl 5) (ik 0)) (ai (iald (rl 5) (ik 1)) (aj (i2l (iald (rl 5) (ik 2))) (aj (jk 1) anil))))) snop))) (sinc 4 1))
noncomputable def qX4_reduce_2 : Bx := (bc clt (il 5) (fgi 1 0 (rl 1)))
noncomputable def wX4_reduce_2 : Sx := (sseq (sif (band (bc cne (il 5) (il 2)) (bc cne (il 5) (il 3))) (scv 3 DX4_takeOut (rl 0) (ai (il 5) anil)) snop) (sinc 5 1))
noncomputable def qX4_reduce_3 : Bx := (bc clt (il 4) (fgi 1 0 (rl 1)))
noncomputable def wX4_reduce_3 : Sx := (sseq (scut 5 (sseq (ssi 5 (ik 0)) (swh qX4_reduce_2 wX4_reduce_2))) (sinc 4 1))
noncomputable def qX4_reduce_4 : Bx := (bc clt (il 5) (ik 5))
noncomputable def wX4_reduce_4 : Sx := (sseq (foi (· + ·) 3 5 (rl 0) (ic (bj qne (jald (fgr 3 1 (rl 0)) (csi DX4_cell (ai (il 4) (ai (il 5) anil)))) (jk 0)) (ik 1) (ik 0))) (sinc 5 1))
noncomputable def qX4_reduce_5 : Bx := (bc clt (il 4) (ik 5))
noncomputable def wX4_reduce_5 : Sx := (sseq (scut 5 (sseq (ssi 5 (i2 (· + ·) (il 4) (ik 1))) (swh qX4_reduce_4 wX4_reduce_4))) (sinc 4 1))
noncomputable def EX4_reduce : Sx := (sseq (sseq (scs DJ7_fill_d0a16 (ar (fgr 3 1 (rl 0)) (aj (jk 0) anil))) (sseq (scs DJ7_fill_d0a16 (ar (fgr 3 2 (rl 0)) (aj (jk 1) anil))) (sseq (scut 4 (sseq (ssi 4 (ik 0)) (swh qX4_reduce_1 wX4_reduce_1))) (sseq (scut 4 (sseq (ssi 4 (ik 0)) (swh qX4_reduce_3 wX4_reduce_3))) (sseq (fpi 3 5 (rl 0) (ik 0)) (sseq (scut 4 (sseq (ssi 4 (ik 0)) (swh qX4_reduce_5 wX4_reduce_5))) (sseq (ssi 4 (ic (band (bc ceq (fgi 3 5 (rl 0)) (ik 1)) (bj qne (jald (fgr 3 1 (rl 0)) (csi DX4_cell (ai (il 2) (ai (il 3) anil)))) (jk 0))) (ik 1) (ik 0))) (sseq (fpj 3 3 (rl 0) (jc (bz cne (il 4)) (jald (fgr 3 1 (rl 0)) (csi DX4_cell (ai (il 2) (ai (il 3) anil)))) (jk 0))) (fpj 3 4 (rl 0) (jc (bz cne (il 4)) (jald (fgr 3 2 (rl 0)) (csi DX4_cell (ai (il 2) (ai (il 3) anil)))) (jk 0))))))))))) sretv)
noncomputable def DX4_reduce : Fu := mfv 6 EX4_reduce
set_option maxRecDepth 4000 in
theorem BX4_reduce : Vs RX4 cX4_reduce 6 (rmk 5 158) 0 0 EX4_reduce := (v_seq (v_seq (v_scs IJ7_fill_d0a16 hJ7_fill_d0a16 lk782 ⟨by decide, by decide⟩ (v_ar (v_gfr kX4 lk307 (by decide) rfl (v_aload_n (i := 0) dX4_reduce_0 rfl (rfl : 0 + 1 = 1)) dX4_reduce_1 (rfl : 1 + 3 = 4)) (v_aj (v_lconst (v := 0) dX4_reduce_4 (by decide) (rfl : 4 + 1 = 5)) v_anil)) dX4_reduce_5 (rfl : 5 + 3 = 8)) (v_seq (v_scs IJ7_fill_d0a16 hJ7_fill_d0a16 lk782 ⟨by decide, by decide⟩ (v_ar (v_gfr kX4 lk308 (by decide) rfl (v_aload_n (i := 0) dX4_reduce_8 rfl (rfl : 8 + 1 = 9)) dX4_reduce_9 (rfl : 9 + 3 = 12)) (v_aj (v_lconst (v := 1) dX4_reduce_12 (by decide) (rfl : 12 + 1 = 13)) v_anil)) dX4_reduce_13 (rfl : 13 + 3 = 16)) (v_seq (v_cut (n := 4) (v_seq (v_istore (i := 4) (v_iconst (v := 0) dX4_reduce_16 (by decide) (rfl : 16 + 1 = 17)) dX4_reduce_17 (by decide) (rfl : 17 + 2 = 19)) (v_wh (v_ilt_f (v_iload (i := 4) dX4_reduce_19 (rfl : 19 + 2 = 21)) (v_gfi kX1 lk130 (by decide) rfl (v_aload_n (i := 1) dX4_reduce_21 rfl (rfl : 21 + 1 = 22)) dX4_reduce_22 (rfl : 22 + 3 = 25)) dX4_reduce_25 (rfl : ((25 : Nat) : Int) + 43 = ((68 : Nat) : Int)) (rfl : 25 + 3 = 28)) (vs_goto (v_seq (v_cut (n := 5) (v_seq (v_astore (i := 5) (v_rald (q := 12) (t0 := 4) (ty0 := .array .int) ⟨by decide, by decide⟩ (fun _ => rfl) rfl (v_gfr kX1 lk155 (by decide) rfl (v_aload_n (i := 1) dX4_reduce_28 rfl (rfl : 28 + 1 = 29)) dX4_reduce_29 (rfl : 29 + 3 = 32)) (v_iload (i := 4) dX4_reduce_32 (rfl : 32 + 2 = 34)) dX4_reduce_34 (rfl : 34 + 1 = 35)) dX4_reduce_35 (by decide) (rfl : 35 + 2 = 37)) (v_if (v_zne_f (v_iald (v_aload (i := 5) dX4_reduce_37 (rfl : 37 + 2 = 39)) (v_iconst (v := 3) dX4_reduce_39 (by decide) (rfl : 39 + 1 = 40)) dX4_reduce_40 (rfl : 40 + 1 = 41)) dX4_reduce_41 (rfl : ((41 : Nat) : Int) + 21 = ((62 : Nat) : Int)) (rfl : 41 + 3 = 44)) (v_scv kX4 IX4_join hX4_join lk801 ⟨by decide, by decide⟩ (v_aload_n (i := 0) dX4_reduce_44 rfl (rfl : 44 + 1 = 45)) (v_ai (v_iald (v_aload (i := 5) dX4_reduce_45 (rfl : 45 + 2 = 47)) (v_iconst (v := 0) dX4_reduce_47 (by decide) (rfl : 47 + 1 = 48)) dX4_reduce_48 (rfl : 48 + 1 = 49)) (v_ai (v_iald (v_aload (i := 5) dX4_reduce_49 (rfl : 49 + 2 = 51)) (v_iconst (v := 1) dX4_reduce_51 (by decide) (rfl : 51 + 1 = 52)) dX4_reduce_52 (rfl : 52 + 1 = 53)) (v_aj (v_i2l (v_iald (v_aload (i := 5) dX4_reduce_53 (rfl : 53 + 2 = 55)) (v_iconst (v := 2) dX4_reduce_55 (by decide) (rfl : 55 + 1 = 56)) dX4_reduce_56 (rfl : 56 + 1 = 57)) dX4_reduce_57 (rfl : 57 + 1 = 58)) (v_aj (v_lconst (v := 1) dX4_reduce_58 (by decide) (rfl : 58 + 1 = 59)) v_anil)))) dX4_reduce_59 (rfl : 59 + 3 = 62)) v_nop))) (v_iinc (v := 1) dX4_reduce_62 (by decide) (by decide) (rfl : 62 + 3 = 65))) dX4_reduce_65 (rfl : ((65 : Nat) : Int) + (-46) = ((19 : Nat) : Int)))))) (v_seq (v_cut (n := 4) (v_seq (v_istore (i := 4) (v_iconst (v := 0) dX4_reduce_68 (by decide) (rfl : 68 + 1 = 69)) dX4_reduce_69 (by decide) (rfl : 69 + 2 = 71)) (v_wh (v_ilt_f (v_iload (i := 4) dX4_reduce_71 (rfl : 71 + 2 = 73)) (v_gfi kX1 lk123 (by decide) rfl (v_aload_n (i := 1) dX4_reduce_73 rfl (rfl : 73 + 1 = 74)) dX4_reduce_74 (rfl : 74 + 3 = 77)) dX4_reduce_77 (rfl : ((77 : Nat) : Int) + 45 = ((122 : Nat) : Int)) (rfl : 77 + 3 = 80)) (vs_goto (v_seq (v_cut (n := 5) (v_seq (v_istore (i := 5) (v_iconst (v := 0) dX4_reduce_80 (by decide) (rfl : 80 + 1 = 81)) dX4_reduce_81 (by decide) (rfl : 81 + 2 = 83)) (v_wh (v_ilt_f (v_iload (i := 5) dX4_reduce_83 (rfl : 83 + 2 = 85)) (v_gfi kX1 lk123 (by decide) rfl (v_aload_n (i := 1) dX4_reduce_85 rfl (rfl : 85 + 1 = 86)) dX4_reduce_86 (rfl : 86 + 3 = 89)) dX4_reduce_89 (rfl : ((89 : Nat) : Int) + 27 = ((116 : Nat) : Int)) (rfl : 89 + 3 = 92)) (vs_goto (v_seq (v_if (v_and (v_ine_f (v_iload (i := 5) dX4_reduce_92 (rfl : 92 + 2 = 94)) (v_iload_n (i := 2) dX4_reduce_94 rfl (rfl : 94 + 1 = 95)) dX4_reduce_95 (rfl : ((95 : Nat) : Int) + 15 = ((110 : Nat) : Int)) (rfl : 95 + 3 = 98)) (v_ine_f (v_iload (i := 5) dX4_reduce_98 (rfl : 98 + 2 = 100)) (v_iload_n (i := 3) dX4_reduce_100 rfl (rfl : 100 + 1 = 101)) dX4_reduce_101 (rfl : ((101 : Nat) : Int) + 9 = ((110 : Nat) : Int)) (rfl : 101 + 3 = 104))) (v_scv kX4 IX4_takeOut hX4_takeOut lk810 ⟨by decide, by decide⟩ (v_aload_n (i := 0) dX4_reduce_104 rfl (rfl : 104 + 1 = 105)) (v_ai (v_iload (i := 5) dX4_reduce_105 (rfl : 105 + 2 = 107)) v_anil) dX4_reduce_107 (rfl : 107 + 3 = 110)) v_nop) (v_iinc (v := 1) dX4_reduce_110 (by decide) (by decide) (rfl : 110 + 3 = 113))) dX4_reduce_113 (rfl : ((113 : Nat) : Int) + (-30) = ((83 : Nat) : Int)))))) (v_iinc (v := 1) dX4_reduce_116 (by decide) (by decide) (rfl : 116 + 3 = 119))) dX4_reduce_119 (rfl : ((119 : Nat) : Int) + (-48) = ((71 : Nat) : Int)))))) (v_seq (v_fpi kX4 lk313 (by decide) rfl rfl (by decide +kernel) (v_aload_n (i := 0) dX4_reduce_122 rfl (rfl : 122 + 1 = 123)) (v_iconst (v := 0) dX4_reduce_123 (by decide) (rfl : 123 + 1 = 124)) dX4_reduce_124 (rfl : 124 + 3 = 127)) (v_seq (v_cut (n := 4) (v_seq (v_istore (i := 4) (v_iconst (v := 0) dX4_reduce_127 (by decide) (rfl : 127 + 1 = 128)) dX4_reduce_128 (by decide) (rfl : 128 + 2 = 130)) (v_wh (v_ilt_f (v_iload (i := 4) dX4_reduce_130 (rfl : 130 + 2 = 132)) (v_iconst (v := 5) dX4_reduce_132 (by decide) (rfl : 132 + 1 = 133)) dX4_reduce_133 (rfl : ((133 : Nat) : Int) + 58 = ((191 : Nat) : Int)) (rfl : 133 + 3 = 136)) (vs_goto (v_seq (v_cut (n := 5) (v_seq (v_istore (i := 5) (v_iadd (v_iload (i := 4) dX4_reduce_136 (rfl : 136 + 2 = 138)) (v_iconst (v := 1) dX4_reduce_138 (by decide) (rfl : 138 + 1 = 139)) dX4_reduce_139 (rfl : 139 + 1 = 140)) dX4_reduce_140 (by decide) (rfl : 140 + 2 = 142)) (v_wh (v_ilt_f (v_iload (i := 5) dX4_reduce_142 (rfl : 142 + 2 = 144)) (v_iconst (v := 5) dX4_reduce_144 (by decide) (rfl : 144 + 1 = 145)) dX4_reduce_145 (rfl : ((145 : Nat) : Int) + 40 = ((185 : Nat) : Int)) (rfl : 145 + 3 = 148)) (vs_goto (v_seq (v_foi_iadd kX4 lk313 (by decide) rfl rfl (by decide +kernel) (v_aload_n (i := 0) dX4_reduce_148 rfl (rfl : 148 + 1 = 149)) dX4_reduce_149 dX4_reduce_150 (rfl : 149 + 1 + 3 = 153) (v_ic (v_jne_f (v_jald (v_gfr kX4 lk307 (by decide) rfl (v_aload_n (i := 0) dX4_reduce_153 rfl (rfl : 153 + 1 = 154)) dX4_reduce_154 (rfl : 154 + 3 = 157)) (v_csi IX4_cell hX4_cell lk785 ⟨by decide, by decide⟩ (by decide) (v_ai (v_iload (i := 4) dX4_reduce_157 (rfl : 157 + 2 = 159)) (v_ai (v_iload (i := 5) dX4_reduce_159 (rfl : 159 + 2 = 161)) v_anil)) dX4_reduce_161 (rfl : 161 + 3 = 164)) dX4_reduce_164 (rfl : 164 + 1 = 165)) (v_lconst (v := 0) dX4_reduce_165 (by decide) (rfl : 165 + 1 = 166)) dX4_reduce_166 dX4_reduce_167 (rfl : ((167 : Nat) : Int) + 7 = ((174 : Nat) : Int)) (rfl : 167 + 3 = 170)) (vi_goto (v_iconst (v := 1) dX4_reduce_170 (by decide) (rfl : 170 + 1 = 171)) dX4_reduce_171 (rfl : ((171 : Nat) : Int) + 4 = ((175 : Nat) : Int))) (v_iconst (v := 0) dX4_reduce_174 (by decide) (rfl : 174 + 1 = 175))) dX4_reduce_175 dX4_reduce_176 (rfl : 175 + 1 + 3 = 179)) (v_iinc (v := 1) dX4_reduce_179 (by decide) (by decide) (rfl : 179 + 3 = 182))) dX4_reduce_182 (rfl : ((182 : Nat) : Int) + (-40) = ((142 : Nat) : Int)))))) (v_iinc (v := 1) dX4_reduce_185 (by decide) (by decide) (rfl : 185 + 3 = 188))) dX4_reduce_188 (rfl : ((188 : Nat) : Int) + (-58) = ((130 : Nat) : Int)))))) (v_seq (v_istore (i := 4) (v_ic (v_and (v_ieq_f (v_gfi kX4 lk313 (by decide) rfl (v_aload_n (i := 0) dX4_reduce_191 rfl (rfl : 191 + 1 = 192)) dX4_reduce_192 (rfl : 192 + 3 = 195)) (v_iconst (v := 1) dX4_reduce_195 (by decide) (rfl : 195 + 1 = 196)) dX4_reduce_196 (rfl : ((196 : Nat) : Int) + 22 = ((218 : Nat) : Int)) (rfl : 196 + 3 = 199)) (v_jne_f (v_jald (v_gfr kX4 lk307 (by decide) rfl (v_aload_n (i := 0) dX4_reduce_199 rfl (rfl : 199 + 1 = 200)) dX4_reduce_200 (rfl : 200 + 3 = 203)) (v_csi IX4_cell hX4_cell lk785 ⟨by decide, by decide⟩ (by decide) (v_ai (v_iload_n (i := 2) dX4_reduce_203 rfl (rfl : 203 + 1 = 204)) (v_ai (v_iload_n (i := 3) dX4_reduce_204 rfl (rfl : 204 + 1 = 205)) v_anil)) dX4_reduce_205 (rfl : 205 + 3 = 208)) dX4_reduce_208 (rfl : 208 + 1 = 209)) (v_lconst (v := 0) dX4_reduce_209 (by decide) (rfl : 209 + 1 = 210)) dX4_reduce_210 dX4_reduce_211 (rfl : ((211 : Nat) : Int) + 7 = ((218 : Nat) : Int)) (rfl : 211 + 3 = 214))) (vi_goto (v_iconst (v := 1) dX4_reduce_214 (by decide) (rfl : 214 + 1 = 215)) dX4_reduce_215 (rfl : ((215 : Nat) : Int) + 4 = ((219 : Nat) : Int))) (v_iconst (v := 0) dX4_reduce_218 (by decide) (rfl : 218 + 1 = 219))) dX4_reduce_219 (by decide) (rfl : 219 + 2 = 221)) (v_seq (v_fpj kX4 lk309 (by decide) rfl rfl (by decide +kernel) (v_aload_n (i := 0) dX4_reduce_221 rfl (rfl : 221 + 1 = 222)) (v_jc (v_zne_f (v_iload (i := 4) dX4_reduce_222 (rfl : 222 + 2 = 224)) dX4_reduce_224 (rfl : ((224 : Nat) : Int) + 16 = ((240 : Nat) : Int)) (rfl : 224 + 3 = 227)) (vj_goto (v_jald (v_gfr kX4 lk307 (by decide) rfl (v_aload_n (i := 0) dX4_reduce_227 rfl (rfl : 227 + 1 = 228)) dX4_reduce_228 (rfl : 228 + 3 = 231)) (v_csi IX4_cell hX4_cell lk785 ⟨by decide, by decide⟩ (by decide) (v_ai (v_iload_n (i := 2) dX4_reduce_231 rfl (rfl : 231 + 1 = 232)) (v_ai (v_iload_n (i := 3) dX4_reduce_232 rfl (rfl : 232 + 1 = 233)) v_anil)) dX4_reduce_233 (rfl : 233 + 3 = 236)) dX4_reduce_236 (rfl : 236 + 1 = 237)) dX4_reduce_237 (rfl : ((237 : Nat) : Int) + 4 = ((241 : Nat) : Int))) (v_lconst (v := 0) dX4_reduce_240 (by decide) (rfl : 240 + 1 = 241))) dX4_reduce_241 (rfl : 241 + 3 = 244)) (v_fpj kX4 lk311 (by decide) rfl rfl (by decide +kernel) (v_aload_n (i := 0) dX4_reduce_244 rfl (rfl : 244 + 1 = 245)) (v_jc (v_zne_f (v_iload (i := 4) dX4_reduce_245 (rfl : 245 + 2 = 247)) dX4_reduce_247 (rfl : ((247 : Nat) : Int) + 16 = ((263 : Nat) : Int)) (rfl : 247 + 3 = 250)) (vj_goto (v_jald (v_gfr kX4 lk308 (by decide) rfl (v_aload_n (i := 0) dX4_reduce_250 rfl (rfl : 250 + 1 = 251)) dX4_reduce_251 (rfl : 251 + 3 = 254)) (v_csi IX4_cell hX4_cell lk785 ⟨by decide, by decide⟩ (by decide) (v_ai (v_iload_n (i := 2) dX4_reduce_254 rfl (rfl : 254 + 1 = 255)) (v_ai (v_iload_n (i := 3) dX4_reduce_255 rfl (rfl : 255 + 1 = 256)) v_anil)) dX4_reduce_256 (rfl : 256 + 3 = 259)) dX4_reduce_259 (rfl : 259 + 1 = 260)) dX4_reduce_260 (rfl : ((260 : Nat) : Int) + 4 = ((264 : Nat) : Int))) (v_lconst (v := 0) dX4_reduce_263 (by decide) (rfl : 263 + 1 = 264))) dX4_reduce_264 (rfl : 264 + 3 = 267)))))))))) (v_retv dX4_reduce_267))
theorem IX4_reduce : Mv yX4_reduce cX4_reduce 6 (rmk 5 158) DX4_reduce := mk_v (by decide +kernel) BX4_reduce
